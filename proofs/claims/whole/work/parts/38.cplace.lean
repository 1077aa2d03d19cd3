/-! the class: one sign of a text -/
def ipa (p c : Int) : Int := if p = -1 then (if dig c then -2 else -3) else if p = -2 then (if c = 58 then 0 else -3) else if (0 ≤ p ∧ p < 16) ∧ (dig c ∨ c = 46) then p + 1 else if 0 < p ∧ c = 47 then -1 else -3
/-- the place as the class tells it -/
def plc (t : Bool × Int × Int) : Int := if t.1 = true then (if t.2.1 = 0 then -1 else if t.2.1 = 1 then -2 else t.2.2) else -3
theorem ipa_itk {s h c : Int} (hs : 0 ≤ s ∧ s ≤ 2) (hh : 0 ≤ h ∧ h ≤ 16) : ipa (plc (true, s, h)) c = plc (itk s h c) := by
  rcases (show s = 0 ∨ s = 1 ∨ s = 2 by omega) with rfl | rfl | rfl
  · show ipa (-1) c = _
    by_cases hd : dig c
    · rw [show itk 0 h c = (true, 0 + 1, 0) by unfold itk; rw [if_pos (by omega), if_pos (by omega)]]
      show ipa (-1) c = -2
      unfold ipa
      omega
    · rw [show itk 0 h c = (false, 0, 0) by unfold itk; rw [if_pos (by omega), if_neg (by omega)]]
      show ipa (-1) c = -3
      unfold ipa
      omega
  · show ipa (-2) c = _
    by_cases hd : c = 58
    · rw [show itk 1 h c = (true, 1 + 1, 0) by unfold itk; rw [if_pos (by omega), if_pos (by omega)]]
      show ipa (-2) c = 0
      unfold ipa
      omega
    · rw [show itk 1 h c = (false, 1, 0) by unfold itk; rw [if_pos (by omega), if_neg (by omega)]]
      show ipa (-2) c = -3
      unfold ipa
      omega
  · show ipa h c = _
    by_cases hd : c = 47 ∧ 0 < h
    · rw [show itk 2 h c = (true, 0, h) by unfold itk; rw [if_neg (by omega), if_pos hd]]
      show ipa h c = -1
      unfold ipa
      omega
    · by_cases hg : (dig c ∨ c = 46) ∧ h < 16
      · rw [show itk 2 h c = (true, 2, h + 1) by unfold itk; rw [if_neg (by omega), if_neg hd, if_pos hg]]
        show ipa h c = h + 1
        unfold ipa
        omega
      · rw [show itk 2 h c = (false, 2, h) by unfold itk; rw [if_neg (by omega), if_neg hd, if_neg hg]]
        show ipa h c = -3
        unfold ipa
        omega
set_option maxRecDepth 100000 in
set_option maxHeartbeats 4000000 in
theorem c_placeAfter {w : WD} {sz : Nat} {p c : Int} (hp : -3 ≤ p ∧ p ≤ 16) (hc : 33 ≤ c ∧ c ≤ 126) : CT iX4_placeAfter 0 0 [xI p, xI c] w sz (pR (some (xI (ipa p c))) w sz) := by
  refine CT.ofZ (by decide) rfl (Nat.le_of_ble_eq_true rfl) (fun Z hE => ?_)
  refine V_iload_n dX4_placeAfter_0 0 rfl rfl ?_
  refine V_iconst dX4_placeAfter_1 ?_
  refine V_icmp_ne 20 dX4_placeAfter_2 (by decide) (by omega) (fun h2 => ?_) (fun h2 => ?_)
  · refine V_iload_n dX4_placeAfter_20 0 rfl rfl ?_
    refine V_bipush dX4_placeAfter_21 (by decide) ?_
    refine V_icmp_ne 39 dX4_placeAfter_23 (by decide) (by omega) (fun h23 => ?_) (fun h23 => ?_)
    · refine V_iload_n dX4_placeAfter_39 0 rfl rfl ?_
      refine V_if_lt 66 dX4_placeAfter_40 (by decide) (by omega) (fun h40 => ?_) (fun h40 => ?_)
      · refine V_iload_n dX4_placeAfter_66 0 rfl rfl ?_
        refine V_if_le 80 dX4_placeAfter_67 (by decide) (by omega) (fun h67 => ?_) (fun h67 => ?_)
        · refine V_bipush dX4_placeAfter_80 (by decide) ?_
          exact V_iret hE rfl dX4_placeAfter_82 ⟨bE (by unfold ipa; omega), rfl, rfl⟩
        · refine V_iload_n dX4_placeAfter_70 1 rfl rfl ?_
          refine V_bipush dX4_placeAfter_71 (by decide) ?_
          refine V_icmp_ne 80 dX4_placeAfter_73 (by decide) (by omega) (fun h73 => ?_) (fun h73 => ?_)
          · refine V_bipush dX4_placeAfter_80 (by decide) ?_
            exact V_iret hE rfl dX4_placeAfter_82 ⟨bE (by unfold ipa; omega), rfl, rfl⟩
          · refine V_iconst dX4_placeAfter_76 ?_
            refine V_goto 82 dX4_placeAfter_77 (by decide) ?_
            exact V_iret hE rfl dX4_placeAfter_82 ⟨bE (by unfold ipa; omega), rfl, rfl⟩
      · refine V_iload_n dX4_placeAfter_43 0 rfl rfl ?_
        refine V_bipush dX4_placeAfter_44 (by decide) ?_
        refine V_icmp_ge 66 dX4_placeAfter_46 (by decide) (by omega) (fun h46 => ?_) (fun h46 => ?_)
        · refine V_iload_n dX4_placeAfter_66 0 rfl rfl ?_
          refine V_if_le 80 dX4_placeAfter_67 (by decide) (by omega) (fun h67 => ?_) (fun h67 => ?_)
          · refine V_bipush dX4_placeAfter_80 (by decide) ?_
            exact V_iret hE rfl dX4_placeAfter_82 ⟨bE (by unfold ipa; omega), rfl, rfl⟩
          · refine V_iload_n dX4_placeAfter_70 1 rfl rfl ?_
            refine V_bipush dX4_placeAfter_71 (by decide) ?_
            refine V_icmp_ne 80 dX4_placeAfter_73 (by decide) (by omega) (fun h73 => ?_) (fun h73 => ?_)
            · refine V_bipush dX4_placeAfter_80 (by decide) ?_
              exact V_iret hE rfl dX4_placeAfter_82 ⟨bE (by unfold ipa; omega), rfl, rfl⟩
            · refine V_iconst dX4_placeAfter_76 ?_
              refine V_goto 82 dX4_placeAfter_77 (by decide) ?_
              exact V_iret hE rfl dX4_placeAfter_82 ⟨bE (by unfold ipa; omega), rfl, rfl⟩
        · refine V_iload_n dX4_placeAfter_49 1 rfl rfl ?_
          refine V_c_X4_19 rfl (by decide) (c_isDigit (by omega)) dX4_placeAfter_50 rfl rfl (Nat.le_of_ble_eq_true rfl) (Nat.le_of_eq (Nat.zero_add _)) (Nat.le_of_eq (Nat.zero_add _)) (fun v w sz q => ?_)
          obtain ⟨rfl, rfl, rfl⟩ := q
          refine V_ifneB 62 dX4_placeAfter_53 (by decide) (fun h53 => ?_) (fun h53 => ?_)
          · try simp only [decide_eq_true_eq, decide_eq_false_iff_not, Bool.not_eq_true] at h53
            refine V_iload_n dX4_placeAfter_62 0 rfl rfl ?_
            refine V_iconst dX4_placeAfter_63 ?_
            refine V_iadd dX4_placeAfter_64 ?_
            exact V_iret hE rfl dX4_placeAfter_65 ⟨bE (by unfold ipa; omega), rfl, rfl⟩
          · try simp only [decide_eq_true_eq, decide_eq_false_iff_not, Bool.not_eq_true] at h53
            refine V_iload_n dX4_placeAfter_56 1 rfl rfl ?_
            refine V_bipush dX4_placeAfter_57 (by decide) ?_
            refine V_icmp_ne 66 dX4_placeAfter_59 (by decide) (by omega) (fun h59 => ?_) (fun h59 => ?_)
            · refine V_iload_n dX4_placeAfter_66 0 rfl rfl ?_
              refine V_if_le 80 dX4_placeAfter_67 (by decide) (by omega) (fun h67 => ?_) (fun h67 => ?_)
              · refine V_bipush dX4_placeAfter_80 (by decide) ?_
                exact V_iret hE rfl dX4_placeAfter_82 ⟨bE (by unfold ipa; omega), rfl, rfl⟩
              · refine V_iload_n dX4_placeAfter_70 1 rfl rfl ?_
                refine V_bipush dX4_placeAfter_71 (by decide) ?_
                refine V_icmp_ne 80 dX4_placeAfter_73 (by decide) (by omega) (fun h73 => ?_) (fun h73 => ?_)
                · refine V_bipush dX4_placeAfter_80 (by decide) ?_
                  exact V_iret hE rfl dX4_placeAfter_82 ⟨bE (by unfold ipa; omega), rfl, rfl⟩
                · refine V_iconst dX4_placeAfter_76 ?_
                  refine V_goto 82 dX4_placeAfter_77 (by decide) ?_
                  exact V_iret hE rfl dX4_placeAfter_82 ⟨bE (by unfold ipa; omega), rfl, rfl⟩
            · refine V_iload_n dX4_placeAfter_62 0 rfl rfl ?_
              refine V_iconst dX4_placeAfter_63 ?_
              refine V_iadd dX4_placeAfter_64 ?_
              exact V_iret hE rfl dX4_placeAfter_65 ⟨bE (by unfold ipa; omega), rfl, rfl⟩
    · refine V_iload_n dX4_placeAfter_26 1 rfl rfl ?_
      refine V_bipush dX4_placeAfter_27 (by decide) ?_
      refine V_icmp_ne 36 dX4_placeAfter_29 (by decide) (by omega) (fun h29 => ?_) (fun h29 => ?_)
      · refine V_bipush dX4_placeAfter_36 (by decide) ?_
        exact V_iret hE rfl dX4_placeAfter_38 ⟨bE (by unfold ipa; omega), rfl, rfl⟩
      · refine V_iconst dX4_placeAfter_32 ?_
        refine V_goto 38 dX4_placeAfter_33 (by decide) ?_
        exact V_iret hE rfl dX4_placeAfter_38 ⟨bE (by unfold ipa; omega), rfl, rfl⟩
  · refine V_iload_n dX4_placeAfter_5 1 rfl rfl ?_
    refine V_c_X4_19 rfl (by decide) (c_isDigit (by omega)) dX4_placeAfter_6 rfl rfl (Nat.le_of_ble_eq_true rfl) (Nat.le_of_eq (Nat.zero_add _)) (Nat.le_of_eq (Nat.zero_add _)) (fun v w sz q => ?_)
    obtain ⟨rfl, rfl, rfl⟩ := q
    refine V_ifeqB 17 dX4_placeAfter_9 (by decide) (fun h9 => ?_) (fun h9 => ?_)
    · try simp only [decide_eq_true_eq, decide_eq_false_iff_not, Bool.not_eq_true] at h9
      refine V_bipush dX4_placeAfter_17 (by decide) ?_
      exact V_iret hE rfl dX4_placeAfter_19 ⟨bE (by unfold ipa; omega), rfl, rfl⟩
    · try simp only [decide_eq_true_eq, decide_eq_false_iff_not, Bool.not_eq_true] at h9
      refine V_bipush dX4_placeAfter_12 (by decide) ?_
      refine V_goto 19 dX4_placeAfter_14 (by decide) ?_
      exact V_iret hE rfl dX4_placeAfter_19 ⟨bE (by unfold ipa; omega), rfl, rfl⟩
