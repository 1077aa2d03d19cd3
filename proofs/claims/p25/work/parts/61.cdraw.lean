/-! the class: draw, fill, load -/
theorem idiff_put {f z : Int → Int} {c s : Int} (hc : 0 ≤ c ∧ c < 160) (h : f c = z c) : idiff (iu f c s) z = idiff f z + if f c ≠ s then 1 else 0 := by
  have e : (fun k => if iu f c s k ≠ z k then (1 : Int) else 0) = iu (fun k => if f k ≠ z k then 1 else 0) c (if f c ≠ s then 1 else 0) := by
    funext k
    by_cases q : k = c
    · rw [q, iu_s, iu_s, h]
      by_cases e2 : s = z c
      · rw [if_neg (fun g => g e2), if_neg (fun g => g e2.symm)]
      · rw [if_pos e2, if_pos (fun g => e2 g.symm)]
    · rw [iu_n q, iu_n q]
  show isum (fun k => if iu f c s k ≠ z k then (1 : Int) else 0) 160 = _
  rw [e, isum_iu hc.1 hc.2, if_neg (fun g => g h)]
  show idiff f z - 0 + _ = _
  rw [Int.sub_zero]
theorem idiff_0 {z : Int → Int} : idiff z z = 0 := by
  have := isum_b (f := fun k => if z k ≠ z k then (1 : Int) else 0) (lo := 0) (hi := 0) (k := 160) (by omega) (fun j j0 j1 => by rw [if_neg (fun q => q rfl)]; omega)
  show isum (fun k => if z k ≠ z k then (1 : Int) else 0) 160 = 0
  omega
theorem idiff_b {f z : Int → Int} : 0 ≤ idiff f z ∧ idiff f z ≤ 160 := by
  have := isum_b (f := fun k => if f k ≠ z k then (1 : Int) else 0) (lo := 0) (hi := 1) (k := 160) (by omega) (fun j j0 j1 => by split <;> omega)
  show 0 ≤ isum (fun k => if f k ≠ z k then (1 : Int) else 0) 160 ∧ isum (fun k => if f k ≠ z k then (1 : Int) else 0) 160 ≤ 160
  omega
theorem idiff_c {f f' z z' : Int → Int} (h : ∀ k, 0 ≤ k → k < 160 → f k = f' k) (h' : ∀ k, 0 ≤ k → k < 160 → z k = z' k) : idiff f z = idiff f' z' := isum_c (fun k k0 k1 => by rw [h k k0 k1, h' k k0 k1])
/-- lo and hi are the lesser and the greater one of a and b -/
def Bx (a b lo hi : Int) : Prop := (if b < a then b else a) = lo ∧ (if a < b then b else a) = hi
theorem Bx.b {a b lo hi n : Int} (h : Bx a b lo hi) (ha : 0 ≤ a ∧ a ≤ n) (hb : 0 ≤ b ∧ b ≤ n) : 0 ≤ lo ∧ lo ≤ hi ∧ hi ≤ n := by
  obtain ⟨h1, h2⟩ := h
  omega
theorem Bx.i {a b lo hi k : Int} (h : Bx a b lo hi) : ((a ≤ k ∧ k ≤ b) ∨ (b ≤ k ∧ k ≤ a)) ↔ (lo ≤ k ∧ k ≤ hi) := by
  obtain ⟨h1, h2⟩ := h
  omega
/-- the cells that a rectangle's rows before i have; those before the column k of the row i too -/
def PtO (c0 c1 r0 i j : Int) : Prop := (c0 ≤ j % 16 ∧ j % 16 ≤ c1) ∧ (r0 ≤ j / 16 ∧ j / 16 < i)
def PtI (c0 c1 r0 i k j : Int) : Prop := PtO c0 c1 r0 i j ∨ (j / 16 = i ∧ c0 ≤ j % 16 ∧ j % 16 < k)
theorem PtO.no {c0 c1 r0 j : Int} : ¬ PtO c0 c1 r0 r0 j := by
  rintro ⟨-, h1, h2⟩
  omega
theorem PtI.lo {c0 c1 r0 i j : Int} : PtI c0 c1 r0 i c0 j ↔ PtO c0 c1 r0 i j := ⟨fun h => h.elim id (fun h => by omega), Or.inl⟩
theorem PtI.hi {c0 c1 r0 i k j : Int} (h0 : r0 ≤ i) (hk : k = c1 + 1) : PtI c0 c1 r0 i k j ↔ PtO c0 c1 r0 (i + 1) j := by
  constructor
  · rintro (⟨h1, h2⟩ | h)
    · exact ⟨h1, by omega⟩
    · exact ⟨by omega, by omega⟩
  · rintro ⟨h1, h2⟩
    by_cases q : j / 16 = i
    · exact Or.inr (by omega)
    · exact Or.inl ⟨h1, by omega⟩
theorem PtI.nx {c0 c1 r0 i k j : Int} (hk : 0 ≤ k ∧ k < 16) (hj : j ≠ 16 * i + k) : PtI c0 c1 r0 i (k + 1) j ↔ PtI c0 c1 r0 i k j := by
  constructor
  · rintro (h | h)
    · exact Or.inl h
    · exact Or.inr (by omega)
  · rintro (h | h)
    · exact Or.inl h
    · exact Or.inr (by omega)
theorem PtI.at {c0 c1 r0 i k : Int} (hk : c0 ≤ k) (hk2 : 0 ≤ k ∧ k < 16) : PtI c0 c1 r0 i (k + 1) (16 * i + k) := Or.inr (by omega)
theorem PtI.na {c0 c1 r0 i k : Int} (hk2 : 0 ≤ k ∧ k < 16) : ¬ PtI c0 c1 r0 i k (16 * i + k) := by
  rintro (⟨-, h⟩ | h) <;> omega
/-- painted where c says so -/
def Ptd (c : Int → Prop) (s : Int) (f z : Int → Int) : Prop := ∀ j, 0 ≤ j → j < 160 → (c j → f j = s) ∧ (¬ c j → f j = z j)
theorem Ptd.c {c c' : Int → Prop} {s : Int} {f z : Int → Int} (h : Ptd c s f z) (e : ∀ j, c' j ↔ c j) : Ptd c' s f z := fun j j0 j1 => ⟨fun q => (h j j0 j1).1 ((e j).mp q), fun q => (h j j0 j1).2 (fun q2 => q ((e j).mpr q2))⟩
theorem Ptd.b {c : Int → Prop} {s : Int} {f z : Int → Int} (h : Ptd c s f z) (hs : 0 ≤ s ∧ s ≤ 99) (hz : ∀ k, 0 ≤ k → k < 160 → 0 ≤ z k ∧ z k ≤ 99) : ∀ k, 0 ≤ k → k < 160 → 0 ≤ f k ∧ f k ≤ 99 := fun k k0 k1 => by
  rcases Classical.em (c k) with q | q
  · rw [(h k k0 k1).1 q]; exact hs
  · rw [(h k k0 k1).2 q]; exact hz k k0 k1
theorem Ptd.put {c c' : Int → Prop} {s d : Int} {f z : Int → Int} (h : Ptd c s f z) (hd : c' d) (e : ∀ j, j ≠ d → (c' j ↔ c j)) : Ptd c' s (iu f d s) z := fun j j0 j1 => by
  by_cases q : j = d
  · rw [q, iu_s]; exact ⟨fun _ => rfl, fun g => absurd hd g⟩
  · rw [iu_n q]; exact ⟨fun g => (h j j0 j1).1 ((e j q).mp g), fun g => (h j j0 j1).2 (fun g2 => g ((e j q).mpr g2))⟩
theorem prod_b {a b : Int} (ha : -99 ≤ a ∧ a ≤ 99) (hb : 0 ≤ b ∧ b ≤ 100) : -10000 ≤ a * b ∧ a * b ≤ 10000 := by
  have h1 := Int.mul_nonneg (show 0 ≤ 99 - a by omega) hb.1
  have h2 := Int.mul_nonneg (show 0 ≤ 99 + a by omega) hb.1
  rw [Int.sub_mul] at h1
  rw [Int.add_mul] at h2
  omega
set_option maxRecDepth 100000 in
set_option maxHeartbeats 4000000 in
theorem c_draw {w : WD} {sz χ : Nat} {P : MP} (hC : CP w χ P) (hI : MInv P) (hN : WN w sz) (hs : χ + 44 ≤ sz) {x y u v s : Int} (r : -2147483648 ≤ x ∧ x < 2147483648 ∧ -2147483648 ≤ y ∧ y < 2147483648 ∧ -2147483648 ≤ u ∧ u < 2147483648 ∧ -2147483648 ≤ v ∧ v < 2147483648 ∧ -2147483648 ≤ s ∧ s < 2147483648) : CX iX6_draw 3 18 [.ref χ, xI x, xI y, xI u, xI v, xI s] w sz (OKQ w χ (fun t r P' => drawR P x y u v s t r P')) (EX2 w χ (fun t r P' => drawR P x y u v s t r P') "java/lang/IndexOutOfBoundsException" "java/lang/IllegalArgumentException") := by
  refine CX.ofZ (by decide) rfl (Nat.le_of_ble_eq_true rfl) (fun Z hZ hE => ?_)
  have hC0 := hC
  obtain ⟨hA, ⟨T, hS, hR⟩, ⟨hh, hH, hH2, hH3⟩, ⟨TX, hX, hX2, hX3⟩, ⟨TFi, hF⟩, ⟨mk1, hm1⟩, ⟨mk2, hm2⟩⟩ := hC0
  have hv := hI.1
  have hsh : ∀ k, 0 ≤ k → k < 160 → 0 ≤ T.1 k ∧ T.1 k ≤ 99 := fun k k0 k1 => by rw [hR.1 k k0 k1]; exact hv.1 k k0 k1
  have hz160 := hv.2.1
  have hs6 := hI.2.1
  have hVT := hI.2.2.2
  have hln := hVT.1
  obtain ⟨r0, r1, hbr⟩ : ∃ r0 r1, Bx y v r0 r1 := ⟨_, _, rfl, rfl⟩
  obtain ⟨c0, c1, hbc⟩ : ∃ c0 c1, Bx x u c0 c1 := ⟨_, _, rfl, rfl⟩
  refine V_iload_n dX6_draw_0 1 rfl rfl ?_
  refine V_iload_n dX6_draw_1 2 rfl rfl ?_
  refine V_x_X6_56 rfl (kc' := 2) (ks' := 12) (by decide) (c_needCell (by omega)) dX6_draw_2 rfl rfl (Nat.le_of_ble_eq_true rfl) (Nat.le_of_ble_eq_true rfl) (Nat.le_of_ble_eq_true rfl) (fun E w1 sz1 q => by obtain ⟨rfl, rfl, h9, hq⟩ := q; subst hZ; exact VX_out rfl (Or.inl (EXQ.th hC hN h9 (fun t r P1 hR1 => hR1.elim (fun g => g.2) (fun g => g.elim (fun g => absurd g.1 (fun g => hq g.1)) (fun g => absurd g.1 (fun g => hq g.1))))))) (fun v w sz q => ?_)
  obtain ⟨rfl, rfl, rfl, hq2⟩ := q
  refine V_iload_n dX6_draw_5 3 rfl rfl ?_
  refine V_iload dX6_draw_6 rfl ?_
  refine V_x_X6_56 rfl (kc' := 1) (ks' := 6) (by decide) (c_needCell (by omega)) dX6_draw_8 rfl rfl (Nat.le_of_ble_eq_true rfl) (Nat.le_of_ble_eq_true rfl) (Nat.le_of_ble_eq_true rfl) (fun E w1 sz1 q => by obtain ⟨rfl, rfl, h9, hq⟩ := q; subst hZ; exact VX_out rfl (Or.inl (EXQ.th hC hN h9 (fun t r P1 hR1 => hR1.elim (fun g => g.2) (fun g => g.elim (fun g => absurd g.1 (fun g => hq g.2)) (fun g => absurd g.1 (fun g => hq g.2))))))) (fun v w sz q => ?_)
  obtain ⟨rfl, rfl, rfl, hq8⟩ := q
  refine V_iload dX6_draw_11 rfl ?_
  refine V_iconst dX6_draw_13 ?_
  refine V_bipush dX6_draw_14 (by decide) ?_
  refine V_x_X6_60 rfl (kc' := 0) (ks' := 0) (by decide) (c_needRange (by omega)) dX6_draw_16 rfl rfl (Nat.le_of_ble_eq_true rfl) (Nat.le_of_ble_eq_true rfl) (Nat.le_of_ble_eq_true rfl) (fun E w1 sz1 q => by obtain ⟨rfl, rfl, h9, hq⟩ := q; subst hZ; exact VX_out rfl (Or.inr (EXQ.th hC hN h9 (fun t r P1 hR1 => hR1.elim (fun g => absurd ⟨hq2, hq8⟩ g.1) (fun g => g.elim (fun g => g.2.2) (fun g => absurd g.2.1 hq)))))) (fun v w sz q => ?_)
  obtain ⟨rfl, rfl, rfl, hq16⟩ := q
  refine V_aload_n dX6_draw_19 0 rfl rfl ?_
  refine V_g_X6_31 rfl dX6_draw_20 hA rfl ?_
  refine V_aload_n dX6_draw_23 0 rfl rfl ?_
  refine V_g_X6_24 rfl dX6_draw_24 hA rfl ?_
  refine V_c_X6_64 rfl (by decide) (c_keep hC.2.2.1 hs6 hS hR) dX6_draw_27 hH.1 rfl rfl (Nat.le_of_ble_eq_true rfl) (Nat.le_of_eq (Nat.zero_add _)) (Nat.le_of_eq (Nat.zero_add _)) (fun v w sz q => ?_)
  obtain ⟨rfl, rfl, hQ1, hfr1⟩ := q
  have hC1 : CS _ χ P.1 (isv P.2.1 + 1) (ZKP P) P.2.2.2.1 P.2.2.2.2 := CS.hist hC hQ1 (fun j hj _ => hfr1 j hj)
  have hT1 := TF.in_ (a := χ + 7) (n := 20) hN hs (by omega) (fun j hj => hfr1 j (by omega))
  have hC1b := hC1
  obtain ⟨hA, ⟨T, hS, hR⟩, -, ⟨TX, hX, hX2, hX3⟩, ⟨TFi, hF⟩, ⟨mk1, hm1⟩, ⟨mk2, hm2⟩⟩ := hC1b
  have hsh : ∀ k, 0 ≤ k → k < 160 → 0 ≤ T.1 k ∧ T.1 k ≤ 99 := fun k k0 k1 => by rw [hR.1 k k0 k1]; exact hv.1 k k0 k1
  refine V_iload_n dX6_draw_30 2 rfl rfl ?_
  refine V_iload dX6_draw_31 rfl ?_
  refine V_c_X6_68 rfl (by decide) (Nat.le_of_ble_eq_true rfl) dX6_draw_33 (by omega) ?_
  refine V_istore dX6_draw_36 (by decide) ?_
  rw [hbr.2]
  have hbr9 := hbr.b (n := 9) (by omega) (by omega)
  have hbc9 := hbc.b (n := 15) (by omega) (by omega)
  refine V_iload_n dX6_draw_38 1 rfl rfl ?_
  refine V_iload_n dX6_draw_39 3 rfl rfl ?_
  refine V_c_X6_68 rfl (by decide) (Nat.le_of_ble_eq_true rfl) dX6_draw_40 (by omega) ?_
  refine V_istore dX6_draw_43 (by decide) ?_
  rw [hbc.2]
  refine V_iconst dX6_draw_45 ?_
  refine V_istore dX6_draw_46 (by decide) ?_
  refine V_iload_n dX6_draw_48 2 rfl rfl ?_
  refine V_iload dX6_draw_49 rfl ?_
  refine V_c_X6_74 rfl (by decide) (Nat.le_of_ble_eq_true rfl) dX6_draw_51 (by omega) ?_
  refine V_istore dX6_draw_54 (by decide) ?_
  rw [hbr.1]
  have L56 : ∀ i : Int, r0 ≤ i → i ≤ r1 + 1 → ∀ (w' : WD) (f : Int → Int) (c : Int), SW w w' (χ + 4) (f, T.2.1, T.2.2) → Ptd (PtO c0 c1 r0 i) s f T.1 → c = idiff f T.1 → V iX6_draw Z 0 0 w' sz 56 [some (.ref χ), some (xI x), some (xI y), some (xI u), some (xI v), some (xI s), some (xI r1), some (xI c1), some (xI c), some (xI i), none] [] := by
    refine up_ind ?_
    intro i hi0 hi1 ihi w' f c hM hf hc
    have hfb := hf.b hq16 hsh
    have hcb := idiff_b (f := f) (z := T.1)
    refine V_iload dX6_draw_56 rfl ?_
    refine V_iload dX6_draw_58 rfl ?_
    refine V_icmp_gt 110 dX6_draw_60 (by decide) (by omega) (fun h60 => ?_) (fun h60 => ?_)
    · refine V_iload dX6_draw_110 rfl ?_
      exact V_iret hE rfl dX6_draw_112 ⟨⟨_, rfl⟩, hT1.tr (TF.in_ (a := χ + 4) (n := 3) hT1.1 hs (by omega) (fun j hj => SW.fr hM j (by omega))), fun t r P1 hR1 => by
        rcases hR1 with g | g | ⟨g1, g2, g3, g4, g5, g6, g7⟩
        · exact absurd ⟨hq2, hq8⟩ g.1
        · exact absurd hq16 g.2.1
        · have hfz : ∀ k, 0 ≤ k → k < 160 → f k = P1.1 k := fun j j0 j1 => by
            rw [g5 j j0 j1]
            have e : irect x y u v j ↔ PtO c0 c1 r0 i j := by
              unfold irect PtO
              rw [hbc.i, hbr.i]
              constructor
              · rintro ⟨a1, a2⟩; exact ⟨a1, by omega⟩
              · rintro ⟨a1, a2⟩; exact ⟨a1, by omega⟩
            by_cases q : irect x y u v j
            · rw [if_pos q]; exact (hf j j0 j1).1 (e.mp q)
            · rw [if_neg q, (hf j j0 j1).2 (fun q2 => q (e.mpr q2))]; exact hR.1 j j0 j1
          refine ⟨g3, by rw [g7, hc]; exact bE (idiff_c hfz hR.1), CP.sav (CS.now hC1 ⟨_, SW.rb hM, (hR.mv (fun j hj _ => SW.fr hM j (by omega))).sh hfz g6⟩ (fun j hj _ => SW.fr hM j (by omega))) hs6 g4⟩⟩
    · refine V_iload_n dX6_draw_63 1 rfl rfl ?_
      refine V_iload_n dX6_draw_64 3 rfl rfl ?_
      refine V_c_X6_74 rfl (by decide) (Nat.le_of_ble_eq_true rfl) dX6_draw_65 (by omega) ?_
      refine V_istore dX6_draw_68 (by decide) ?_
      rw [hbc.1]
      have L70 : ∀ k : Int, c0 ≤ k → k ≤ c1 + 1 → ∀ (w' : WD) (f : Int → Int) (c : Int), SW w w' (χ + 4) (f, T.2.1, T.2.2) → Ptd (PtI c0 c1 r0 i k) s f T.1 → c = idiff f T.1 → V iX6_draw Z 0 0 w' sz 70 [some (.ref χ), some (xI x), some (xI y), some (xI u), some (xI v), some (xI s), some (xI r1), some (xI c1), some (xI c), some (xI i), some (xI k)] [] := by
        refine up_ind ?_
        intro k hk0 hk1 ih w' f c hM hf hc
        have hfb := hf.b hq16 hsh
        have hcb := idiff_b (f := f) (z := T.1)
        refine V_iload dX6_draw_70 rfl ?_
        refine V_iload dX6_draw_72 rfl ?_
        refine V_icmp_gt 104 dX6_draw_74 (by decide) (by omega) (fun h74 => ?_) (fun h74 => ?_)
        · refine V_iinc dX6_draw_104 rfl (by decide) ?_
          refine V_goto 56 dX6_draw_107 (by decide) ?_
          refine V_fg [true, true, true, true, true, true, true, true, true, true, false] ?_
          exact ihi (by omega) _ _ _ hM (hf.c (fun j => (PtI.hi hi0 (by omega)).symm)) hc
        · refine V_iload dX6_draw_77 rfl ?_
          refine V_aload_n dX6_draw_79 0 rfl rfl ?_
          refine V_g_X6_24 rfl dX6_draw_80 ((SW.fr hM _ (by omega)).trans hA) rfl ?_
          refine V_iload dX6_draw_83 rfl ?_
          refine V_iload dX6_draw_85 rfl ?_
          refine V_c_X6_77 rfl (by decide) (c_cellAt) dX6_draw_87 rfl rfl (Nat.le_of_ble_eq_true rfl) (Nat.le_of_eq (Nat.zero_add _)) (Nat.le_of_eq (Nat.zero_add _)) (fun v w sz q => ?_)
          obtain ⟨rfl, rfl, rfl⟩ := q
          refine V_iload dX6_draw_90 rfl ?_
          refine V_c_X6_80 rfl (by decide) (c_paint hM hfb (by omega) (by omega)) dX6_draw_92 hM.1 rfl rfl (Nat.le_of_ble_eq_true rfl) (Nat.le_of_eq (Nat.zero_add _)) (Nat.le_of_eq (Nat.zero_add _)) (fun v w9 sz q => ?_)
          obtain ⟨rfl, rfl, hM⟩ := q
          refine V_iadd dX6_draw_95 ?_
          refine V_istore dX6_draw_96 (by decide) ?_
          refine V_iinc dX6_draw_98 rfl (by decide) ?_
          refine V_goto 70 dX6_draw_101 (by decide) ?_
          refine ih (by omega) _ _ _ hM (hf.put (PtI.at hk0 (by omega)) (fun j g => PtI.nx (by omega) g)) ?_
          rw [idiff_put (by omega) ((hf _ (by omega) (by omega)).2 (PtI.na (by omega))), hc]
      exact L70 (c0) (by omega) (by omega) _ f c hM (hf.c (fun j => PtI.lo)) hc
  refine V_fg [true, true, true, true, true, true, true, true, true, true, false] ?_
  exact L56 (r0) (by omega) (by omega) _ T.1 0 (SW.rb hS) (fun j g1 g2 => ⟨fun g => absurd g PtO.no, fun _ => rfl⟩) idiff_0.symm
set_option maxRecDepth 100000 in
set_option maxHeartbeats 4000000 in
theorem c_fill {w : WD} {sz χ : Nat} {P : MP} (hC : CP w χ P) (hI : MInv P) (hN : WN w sz) (hs : χ + 44 ≤ sz) {s : Int} (r : -2147483648 ≤ s ∧ s < 2147483648) : CX iX6_fill 1 6 [.ref χ, xI s] w sz (OKQ w χ (fun t r P' => fillR P s t r P')) (EXQ w χ (fun t r P' => fillR P s t r P') "java/lang/IllegalArgumentException" 1) := by
  refine CX.ofZ (by decide) rfl (Nat.le_of_ble_eq_true rfl) (fun Z hZ hE => ?_)
  have hC0 := hC
  obtain ⟨hA, ⟨T, hS, hR⟩, ⟨hh, hH, hH2, hH3⟩, ⟨TX, hX, hX2, hX3⟩, ⟨TFi, hF⟩, ⟨mk1, hm1⟩, ⟨mk2, hm2⟩⟩ := hC0
  have hv := hI.1
  have hsh : ∀ k, 0 ≤ k → k < 160 → 0 ≤ T.1 k ∧ T.1 k ≤ 99 := fun k k0 k1 => by rw [hR.1 k k0 k1]; exact hv.1 k k0 k1
  have hz160 := hv.2.1
  have hs6 := hI.2.1
  have hVT := hI.2.2.2
  have hln := hVT.1
  refine V_iload_n dX6_fill_0 1 rfl rfl ?_
  refine V_iconst dX6_fill_1 ?_
  refine V_bipush dX6_fill_2 (by decide) ?_
  refine V_x_X6_60 rfl (kc' := 0) (ks' := 0) (by decide) (c_needRange (by omega)) dX6_fill_4 rfl rfl (Nat.le_of_ble_eq_true rfl) (Nat.le_of_ble_eq_true rfl) (Nat.le_of_ble_eq_true rfl) (fun E w1 sz1 q => by obtain ⟨rfl, rfl, h9, hq⟩ := q; subst hZ; exact VX_out rfl ((EXQ.th hC hN h9 (fun t r P1 hR1 => hR1.elim (fun g => g.2) (fun g => absurd g.1 hq))))) (fun v w sz q => ?_)
  obtain ⟨rfl, rfl, rfl, hq4⟩ := q
  refine V_aload_n dX6_fill_7 0 rfl rfl ?_
  refine V_g_X6_31 rfl dX6_fill_8 hA rfl ?_
  refine V_aload_n dX6_fill_11 0 rfl rfl ?_
  refine V_g_X6_24 rfl dX6_fill_12 hA rfl ?_
  refine V_c_X6_64 rfl (by decide) (c_keep hC.2.2.1 hs6 hS hR) dX6_fill_15 hH.1 rfl rfl (Nat.le_of_ble_eq_true rfl) (Nat.le_of_eq (Nat.zero_add _)) (Nat.le_of_eq (Nat.zero_add _)) (fun v w sz q => ?_)
  obtain ⟨rfl, rfl, hQ1, hfr1⟩ := q
  have hC1 : CS _ χ P.1 (isv P.2.1 + 1) (ZKP P) P.2.2.2.1 P.2.2.2.2 := CS.hist hC hQ1 (fun j hj _ => hfr1 j hj)
  have hT1 := TF.in_ (a := χ + 7) (n := 20) hN hs (by omega) (fun j hj => hfr1 j (by omega))
  have hC1b := hC1
  obtain ⟨hA, ⟨T, hS, hR⟩, -, ⟨TX, hX, hX2, hX3⟩, ⟨TFi, hF⟩, ⟨mk1, hm1⟩, ⟨mk2, hm2⟩⟩ := hC1b
  have hsh : ∀ k, 0 ≤ k → k < 160 → 0 ≤ T.1 k ∧ T.1 k ≤ 99 := fun k k0 k1 => by rw [hR.1 k k0 k1]; exact hv.1 k k0 k1
  refine V_aload_n dX6_fill_18 0 rfl rfl ?_
  refine V_g_X6_24 rfl dX6_fill_19 hA rfl ?_
  refine V_aload_n dX6_fill_22 0 rfl rfl ?_
  refine V_g_X6_49 rfl dX6_fill_23 hA rfl ?_
  refine V_c_X6_83 rfl (by decide) (c_makeMask hS hR hv hm1 (by omega)) dX6_fill_26 hS.1 rfl rfl (Nat.le_of_ble_eq_true rfl) (Nat.le_of_eq (Nat.zero_add _)) (Nat.le_of_eq (Nat.zero_add _)) (fun v w sz q => ?_)
  obtain ⟨rfl, rfl, m9, hu1, hm9⟩ := q
  have hC2 : CS _ χ P.1 (isv P.2.1 + 1) (ZKP P) P.2.2.2.1 P.2.2.2.2 := CS.mask hC1 (Or.inl rfl) hu1
  have hT2 := hT1.tr (TF.in_ (a := χ + 35) (n := 1) hT1.1 hs (by omega) (fun j hj => hu1.2 j (by omega)))
  replace hA := (hu1.2 _ (by omega)).trans hA
  replace hS := SW.mv hS (fun j j0 j1 => hu1.2 j (by omega))
  replace hR := hR.mv (fun j hj _ => hu1.2 j (by omega))
  replace hm1 := hu1.1
  have hmb : ∀ k, 0 ≤ k → k < 160 → 0 ≤ m9 k ∧ m9 k ≤ 100 := fun k k0 k1 => by rw [hm9 k k0 k1]; exact imsk_b hv ⟨k0, k1⟩ _ hv.2.1.1 (Int.le_refl _)
  refine V_iconst dX6_fill_29 ?_
  refine V_istore_n dX6_fill_30 2 rfl (by decide) ?_
  refine V_iconst dX6_fill_31 ?_
  refine V_istore_n dX6_fill_32 3 rfl (by decide) ?_
  have L33 : ∀ k : Int, 0 ≤ k → k ≤ 160 → ∀ (w' : WD) (f : Int → Int) (c : Int), SW w w' (χ + 4) (f, T.2.1, T.2.2) → (∀ j, 0 ≤ j → j < 160 → f j = if j < k then ifil (P.1 j) s (imS P.1 j) else T.1 j) → c = idiff f T.1 → V iX6_fill Z 0 0 w' sz 33 [some (.ref χ), some (xI s), some (xI c), some (xI k), none] [] := by
    refine up_ind ?_
    intro k hk0 hk1 ih w' f c hM hf hc
    have hib : ∀ j, 0 ≤ j → j < 160 → 0 ≤ ifil (P.1 j) s (imS P.1 j) ∧ ifil (P.1 j) s (imS P.1 j) ≤ 99 := fun j j0 j1 => ifil_b (hv.1 j j0 j1) (by omega) (imsk_b hv ⟨j0, j1⟩ _ hv.2.1.1 (Int.le_refl _))
    have hfb : ∀ k, 0 ≤ k → k < 160 → 0 ≤ f k ∧ f k ≤ 99 := fun j j0 j1 => by
      rw [hf j j0 j1]
      have := hsh j j0 j1
      have := hib j j0 j1
      split <;> omega
    have hcb := idiff_b (f := f) (z := T.1)
    refine V_iload_n dX6_fill_33 3 rfl rfl ?_
    refine V_sipush dX6_fill_34 (by decide) ?_
    refine V_icmp_ge 85 dX6_fill_37 (by decide) (by omega) (fun h37 => ?_) (fun h37 => ?_)
    · refine V_iload_n dX6_fill_85 2 rfl rfl ?_
      exact V_iret hE rfl dX6_fill_86 ⟨⟨_, rfl⟩, hT2.tr (TF.in_ (a := χ + 4) (n := 3) hT2.1 hs (by omega) (fun j hj => SW.fr hM j (by omega))), fun t r P1 hR1 => by
        rcases hR1 with g | ⟨g1, g3, g4, g5, g6, g7⟩
        · exact absurd hq4 g.1
        · have hfz : ∀ k, 0 ≤ k → k < 160 → f k = P1.1 k := fun j j0 j1 => by rw [hf j j0 j1, g5 j j0 j1, if_pos (by omega)]
          refine ⟨g3, by rw [g7, hc]; exact bE (idiff_c hfz hR.1), CP.sav (CS.now hC2 ⟨_, SW.rb hM, (hR.mv (fun j hj _ => SW.fr hM j (by omega))).sh hfz g6⟩ (fun j hj _ => SW.fr hM j (by omega))) hs6 g4⟩⟩
    · refine V_aload_n dX6_fill_40 0 rfl rfl ?_
      refine V_g_X6_24 rfl dX6_fill_41 ((SW.fr hM _ (by omega)).trans hA) rfl ?_
      refine V_g_X6_87 rfl dX6_fill_44 hM.1 rfl ?_
      refine V_iload_n dX6_fill_47 3 rfl rfl ?_
      have hfk := hfb k hk0 (by omega)
      have hmk := hmb k hk0 (by omega)
      have hpr := prod_b (a := s - f k) (b := m9 k) (by omega) hmk
      refine V_iald dX6_fill_48 hM.2.1 ⟨hk0, by omega⟩ ?_
      dsimp only
      refine V_istore dX6_fill_49 (by decide) ?_
      refine V_iload_n dX6_fill_51 2 rfl rfl ?_
      refine V_aload_n dX6_fill_52 0 rfl rfl ?_
      refine V_g_X6_24 rfl dX6_fill_53 ((SW.fr hM _ (by omega)).trans hA) rfl ?_
      refine V_iload_n dX6_fill_56 3 rfl rfl ?_
      refine V_iload dX6_fill_57 rfl ?_
      refine V_iload_n dX6_fill_59 1 rfl rfl ?_
      refine V_iload dX6_fill_60 rfl ?_
      refine V_isub dX6_fill_62 ?_
      refine V_aload_n dX6_fill_63 0 rfl rfl ?_
      refine V_g_X6_49 rfl dX6_fill_64 ((SW.fr hM _ (by omega)).trans hA) rfl ?_
      refine V_iload_n dX6_fill_67 3 rfl rfl ?_
      refine V_iald dX6_fill_68 ((SW.fr hM _ (by omega)).trans hm1) ⟨hk0, by omega⟩ ?_
      refine V_imul dX6_fill_69 ?_
      refine V_bipush dX6_fill_70 (by decide) ?_
      refine V_idiv dX6_fill_72 (by omega) (by omega) ?_
      refine V_iadd dX6_fill_73 ?_
      have e74 : f k + ((s - f k) * m9 k).tdiv 100 = ifil (P.1 k) s (imS P.1 k) := by
        rw [(hf k hk0 (by omega)).trans (if_neg (by omega)), hR.1 k hk0 (by omega), hm9 k hk0 (by omega)]
      rw [e74]
      refine V_c_X6_80 rfl (by decide) (c_paint hM hfb ⟨hk0, by omega⟩ (hib k hk0 (by omega))) dX6_fill_74 hM.1 rfl rfl (Nat.le_of_ble_eq_true rfl) (Nat.le_of_eq (Nat.zero_add _)) (Nat.le_of_eq (Nat.zero_add _)) (fun v w9 sz q => ?_)
      obtain ⟨rfl, rfl, hM⟩ := q
      refine V_iadd dX6_fill_77 ?_
      refine V_istore_n dX6_fill_78 2 rfl (by decide) ?_
      refine V_iinc dX6_fill_79 rfl (by decide) ?_
      refine V_goto 33 dX6_fill_82 (by decide) ?_
      refine V_fg [true, true, true, true, false] ?_
      refine ih (by omega) _ _ _ hM (fun j g1 g2 => ?_) ?_
      · by_cases e : j = k
        · rw [e, iu_s, if_pos (by omega)]
        · rw [iu_n e]
          show f j = _
          rw [hf j g1 g2]
          split <;> split <;> first | rfl | omega
      · rw [idiff_put ⟨hk0, by omega⟩ ((hf _ hk0 (by omega)).trans (if_neg (by omega))), hc]
  refine V_fg [true, true, true, true, false] ?_
  exact L33 (0) (by omega) (by omega) _ T.1 0 (SW.rb hS) (fun j g1 g2 => by rw [if_neg (by omega)]) idiff_0.symm
