section
-- ===== PART A: goes FIRST, ahead of the names: the tables' words, and 'selects' of the private methods out of them =====
/-- a private method of a class that the tables say can be made, by its rows of tables_1 -/
def lw_okq (q : MethodName × Nat) : Prop := (q.1.cls ≠ "java/lang/invoke/MethodHandle" ∧ q.1.cls ≠ "java/lang/invoke/VarHandle") ∧ Cond.instantiable q.1.cls q.2 ∈ tables_1 ∧ Cond.privateMethod q.1 ∈ tables_1 ∧ Cond.instanceMethod q.1 ∈ tables_1
theorem lw_p0 : lw_okq (⟨"AreaPicker$History", "dropOldest", "()V"⟩, 2) := ⟨⟨by decide +kernel, by decide +kernel⟩, List.mem_of_getElem? (i := 108) (by decide +kernel), List.mem_of_getElem? (i := 197) (by decide +kernel), List.mem_of_getElem? (i := 198) (by decide +kernel)⟩
theorem lw_p1 : lw_okq (⟨"AreaPicker", "number", "(I)I"⟩, 6) := ⟨⟨by decide +kernel, by decide +kernel⟩, List.mem_of_getElem? (i := 20) (by decide +kernel), List.mem_of_getElem? (i := 234) (by decide +kernel), List.mem_of_getElem? (i := 235) (by decide +kernel)⟩
theorem lw_p2 : lw_okq (⟨"AreaPicker$State", "maskLevel", "(I)I"⟩, 3) := ⟨⟨by decide +kernel, by decide +kernel⟩, List.mem_of_getElem? (i := 87) (by decide +kernel), List.mem_of_getElem? (i := 258) (by decide +kernel), List.mem_of_getElem? (i := 259) (by decide +kernel)⟩
theorem lw_p3 : lw_okq (⟨"AreaPicker", "maskNumber", "(I)I"⟩, 6) := ⟨⟨by decide +kernel, by decide +kernel⟩, List.mem_of_getElem? (i := 20) (by decide +kernel), List.mem_of_getElem? (i := 272) (by decide +kernel), List.mem_of_getElem? (i := 273) (by decide +kernel)⟩
theorem lw_p4 : lw_okq (⟨"AreaPicker", "mixCells", "(J)J"⟩, 6) := ⟨⟨by decide +kernel, by decide +kernel⟩, List.mem_of_getElem? (i := 20) (by decide +kernel), List.mem_of_getElem? (i := 304) (by decide +kernel), List.mem_of_getElem? (i := 305) (by decide +kernel)⟩
theorem lw_p5 : lw_okq (⟨"AreaPicker$State", "picksOver", "(I)I"⟩, 3) := ⟨⟨by decide +kernel, by decide +kernel⟩, List.mem_of_getElem? (i := 87) (by decide +kernel), List.mem_of_getElem? (i := 312) (by decide +kernel), List.mem_of_getElem? (i := 313) (by decide +kernel)⟩
theorem lw_p6 : lw_okq (⟨"AreaPicker", "mixPicks", "(J)J"⟩, 6) := ⟨⟨by decide +kernel, by decide +kernel⟩, List.mem_of_getElem? (i := 20) (by decide +kernel), List.mem_of_getElem? (i := 316) (by decide +kernel), List.mem_of_getElem? (i := 317) (by decide +kernel)⟩
theorem lw_p7 : lw_okq (⟨"AreaPicker$AreaFinder", "flood", "([III)I"⟩, 7) := ⟨⟨by decide +kernel, by decide +kernel⟩, List.mem_of_getElem? (i := 140) (by decide +kernel), List.mem_of_getElem? (i := 333) (by decide +kernel), List.mem_of_getElem? (i := 334) (by decide +kernel)⟩
theorem lw_p8 : lw_okq (⟨"AreaPicker$AreaFinder", "enter", "([ZI)V"⟩, 7) := ⟨⟨by decide +kernel, by decide +kernel⟩, List.mem_of_getElem? (i := 140) (by decide +kernel), List.mem_of_getElem? (i := 337) (by decide +kernel), List.mem_of_getElem? (i := 338) (by decide +kernel)⟩
theorem lw_p9 : lw_okq (⟨"AreaPicker$AreaFinder", "findAlike", "([IIII)I"⟩, 7) := ⟨⟨by decide +kernel, by decide +kernel⟩, List.mem_of_getElem? (i := 140) (by decide +kernel), List.mem_of_getElem? (i := 349) (by decide +kernel), List.mem_of_getElem? (i := 350) (by decide +kernel)⟩
theorem lw_p10 : lw_okq (⟨"AreaPicker$AreaFinder", "spread", "(II)I"⟩, 7) := ⟨⟨by decide +kernel, by decide +kernel⟩, List.mem_of_getElem? (i := 140) (by decide +kernel), List.mem_of_getElem? (i := 353) (by decide +kernel), List.mem_of_getElem? (i := 354) (by decide +kernel)⟩
theorem lw_p11 : lw_okq (⟨"AreaPicker$AreaFinder", "measureSquares", "()V"⟩, 7) := ⟨⟨by decide +kernel, by decide +kernel⟩, List.mem_of_getElem? (i := 140) (by decide +kernel), List.mem_of_getElem? (i := 357) (by decide +kernel), List.mem_of_getElem? (i := 358) (by decide +kernel)⟩
theorem lw_p12 : lw_okq (⟨"AreaPicker$AreaFinder", "sideAt", "(II)I"⟩, 7) := ⟨⟨by decide +kernel, by decide +kernel⟩, List.mem_of_getElem? (i := 140) (by decide +kernel), List.mem_of_getElem? (i := 361) (by decide +kernel), List.mem_of_getElem? (i := 362) (by decide +kernel)⟩
theorem lw_p13 : lw_okq (⟨"AreaPicker$AreaFinder", "liesInSquare", "(I)Z"⟩, 7) := ⟨⟨by decide +kernel, by decide +kernel⟩, List.mem_of_getElem? (i := 140) (by decide +kernel), List.mem_of_getElem? (i := 368) (by decide +kernel), List.mem_of_getElem? (i := 369) (by decide +kernel)⟩
theorem lw_p14 : lw_okq (⟨"AreaPicker$AreaFinder", "joinSquaresOver", "(I)V"⟩, 7) := ⟨⟨by decide +kernel, by decide +kernel⟩, List.mem_of_getElem? (i := 140) (by decide +kernel), List.mem_of_getElem? (i := 372) (by decide +kernel), List.mem_of_getElem? (i := 373) (by decide +kernel)⟩
theorem lw_p15 : lw_okq (⟨"AreaPicker$AreaFinder", "join", "(II)V"⟩, 7) := ⟨⟨by decide +kernel, by decide +kernel⟩, List.mem_of_getElem? (i := 140) (by decide +kernel), List.mem_of_getElem? (i := 376) (by decide +kernel), List.mem_of_getElem? (i := 377) (by decide +kernel)⟩
def lw_privs_1 : List (MethodName × Nat) := [(⟨"AreaPicker$History", "dropOldest", "()V"⟩, 2), (⟨"AreaPicker", "number", "(I)I"⟩, 6), (⟨"AreaPicker$State", "maskLevel", "(I)I"⟩, 3), (⟨"AreaPicker", "maskNumber", "(I)I"⟩, 6), (⟨"AreaPicker", "mixCells", "(J)J"⟩, 6), (⟨"AreaPicker$State", "picksOver", "(I)I"⟩, 3), (⟨"AreaPicker", "mixPicks", "(J)J"⟩, 6), (⟨"AreaPicker$AreaFinder", "flood", "([III)I"⟩, 7), (⟨"AreaPicker$AreaFinder", "enter", "([ZI)V"⟩, 7), (⟨"AreaPicker$AreaFinder", "findAlike", "([IIII)I"⟩, 7), (⟨"AreaPicker$AreaFinder", "spread", "(II)I"⟩, 7), (⟨"AreaPicker$AreaFinder", "measureSquares", "()V"⟩, 7), (⟨"AreaPicker$AreaFinder", "sideAt", "(II)I"⟩, 7), (⟨"AreaPicker$AreaFinder", "liesInSquare", "(I)Z"⟩, 7), (⟨"AreaPicker$AreaFinder", "joinSquaresOver", "(I)V"⟩, 7), (⟨"AreaPicker$AreaFinder", "join", "(II)V"⟩, 7)]
theorem lw_r1 : ∀ q ∈ lw_privs_1, lw_okq q := List.forall_mem_cons.mpr ⟨lw_p0, List.forall_mem_cons.mpr ⟨lw_p1, List.forall_mem_cons.mpr ⟨lw_p2, List.forall_mem_cons.mpr ⟨lw_p3, List.forall_mem_cons.mpr ⟨lw_p4, List.forall_mem_cons.mpr ⟨lw_p5, List.forall_mem_cons.mpr ⟨lw_p6, List.forall_mem_cons.mpr ⟨lw_p7, List.forall_mem_cons.mpr ⟨lw_p8, List.forall_mem_cons.mpr ⟨lw_p9, List.forall_mem_cons.mpr ⟨lw_p10, List.forall_mem_cons.mpr ⟨lw_p11, List.forall_mem_cons.mpr ⟨lw_p12, List.forall_mem_cons.mpr ⟨lw_p13, List.forall_mem_cons.mpr ⟨lw_p14, List.forall_mem_cons.mpr ⟨lw_p15, fun _ h => absurd h List.not_mem_nil⟩⟩⟩⟩⟩⟩⟩⟩⟩⟩⟩⟩⟩⟩⟩⟩
theorem lw_p16 : lw_okq (⟨"AreaPicker$AreaFinder", "joinAround", "(I)V"⟩, 7) := ⟨⟨by decide +kernel, by decide +kernel⟩, List.mem_of_getElem? (i := 140) (by decide +kernel), List.mem_of_getElem? (i := 380) (by decide +kernel), List.mem_of_getElem? (i := 381) (by decide +kernel)⟩
theorem lw_p17 : lw_okq (⟨"AreaPicker$AreaFinder", "coverSquares", "()I"⟩, 7) := ⟨⟨by decide +kernel, by decide +kernel⟩, List.mem_of_getElem? (i := 140) (by decide +kernel), List.mem_of_getElem? (i := 385) (by decide +kernel), List.mem_of_getElem? (i := 386) (by decide +kernel)⟩
theorem lw_p18 : lw_okq (⟨"AreaPicker$AreaFinder", "coverSquare", "(I)V"⟩, 7) := ⟨⟨by decide +kernel, by decide +kernel⟩, List.mem_of_getElem? (i := 140) (by decide +kernel), List.mem_of_getElem? (i := 389) (by decide +kernel), List.mem_of_getElem? (i := 390) (by decide +kernel)⟩
theorem lw_p19 : lw_okq (⟨"java/lang/Throwable", "fillInStackTrace", "(I)Ljava/lang/Throwable;"⟩, 6) := ⟨⟨by decide +kernel, by decide +kernel⟩, List.mem_of_getElem? (i := 450) (by decide +kernel), List.mem_of_getElem? (i := 448) (by decide +kernel), List.mem_of_getElem? (i := 449) (by decide +kernel)⟩
theorem lw_p20 : lw_okq (⟨"AreaPicker", "needPick", "(I)V"⟩, 6) := ⟨⟨by decide +kernel, by decide +kernel⟩, List.mem_of_getElem? (i := 20) (by decide +kernel), List.mem_of_getElem? (i := 560) (by decide +kernel), List.mem_of_getElem? (i := 561) (by decide +kernel)⟩
theorem lw_p21 : lw_okq (⟨"AreaPickerModel", "save", "()V"⟩, 16) := ⟨⟨by decide +kernel, by decide +kernel⟩, List.mem_of_getElem? (i := 692) (by decide +kernel), List.mem_of_getElem? (i := 768) (by decide +kernel), List.mem_of_getElem? (i := 769) (by decide +kernel)⟩
theorem lw_p22 : lw_okq (⟨"AreaPickerModel", "altered", "()I"⟩, 16) := ⟨⟨by decide +kernel, by decide +kernel⟩, List.mem_of_getElem? (i := 692) (by decide +kernel), List.mem_of_getElem? (i := 772) (by decide +kernel), List.mem_of_getElem? (i := 773) (by decide +kernel)⟩
theorem lw_p23 : lw_okq (⟨"AreaPickerModel", "layMask", "()V"⟩, 16) := ⟨⟨by decide +kernel, by decide +kernel⟩, List.mem_of_getElem? (i := 692) (by decide +kernel), List.mem_of_getElem? (i := 780) (by decide +kernel), List.mem_of_getElem? (i := 781) (by decide +kernel)⟩
theorem lw_p24 : lw_okq (⟨"AreaPickerModel", "of", "(II)I"⟩, 16) := ⟨⟨by decide +kernel, by decide +kernel⟩, List.mem_of_getElem? (i := 692) (by decide +kernel), List.mem_of_getElem? (i := 784) (by decide +kernel), List.mem_of_getElem? (i := 785) (by decide +kernel)⟩
theorem lw_p25 : lw_okq (⟨"AreaPickerModel", "levelOf", "(II)I"⟩, 16) := ⟨⟨by decide +kernel, by decide +kernel⟩, List.mem_of_getElem? (i := 692) (by decide +kernel), List.mem_of_getElem? (i := 788) (by decide +kernel), List.mem_of_getElem? (i := 789) (by decide +kernel)⟩
theorem lw_p26 : lw_okq (⟨"AreaPickerModel", "layArea", "(IIII)V"⟩, 16) := ⟨⟨by decide +kernel, by decide +kernel⟩, List.mem_of_getElem? (i := 692) (by decide +kernel), List.mem_of_getElem? (i := 799) (by decide +kernel), List.mem_of_getElem? (i := 800) (by decide +kernel)⟩
theorem lw_p27 : lw_okq (⟨"AreaPickerModel", "layAlike", "(III)V"⟩, 16) := ⟨⟨by decide +kernel, by decide +kernel⟩, List.mem_of_getElem? (i := 692) (by decide +kernel), List.mem_of_getElem? (i := 803) (by decide +kernel), List.mem_of_getElem? (i := 804) (by decide +kernel)⟩
theorem lw_p28 : lw_okq (⟨"AreaPickerModel", "reach", "(II)V"⟩, 16) := ⟨⟨by decide +kernel, by decide +kernel⟩, List.mem_of_getElem? (i := 692) (by decide +kernel), List.mem_of_getElem? (i := 810) (by decide +kernel), List.mem_of_getElem? (i := 811) (by decide +kernel)⟩
theorem lw_p29 : lw_okq (⟨"AreaPickerModel", "laySquares", "(I)V"⟩, 16) := ⟨⟨by decide +kernel, by decide +kernel⟩, List.mem_of_getElem? (i := 692) (by decide +kernel), List.mem_of_getElem? (i := 817) (by decide +kernel), List.mem_of_getElem? (i := 818) (by decide +kernel)⟩
theorem lw_p30 : lw_okq (⟨"AreaPickerModel", "hasSquare", "(II)Z"⟩, 16) := ⟨⟨by decide +kernel, by decide +kernel⟩, List.mem_of_getElem? (i := 692) (by decide +kernel), List.mem_of_getElem? (i := 821) (by decide +kernel), List.mem_of_getElem? (i := 822) (by decide +kernel)⟩
theorem lw_p31 : lw_okq (⟨"AreaPickerModel", "liesInAny", "(II)Z"⟩, 16) := ⟨⟨by decide +kernel, by decide +kernel⟩, List.mem_of_getElem? (i := 692) (by decide +kernel), List.mem_of_getElem? (i := 825) (by decide +kernel), List.mem_of_getElem? (i := 826) (by decide +kernel)⟩
def lw_privs_2 : List (MethodName × Nat) := [(⟨"AreaPicker$AreaFinder", "joinAround", "(I)V"⟩, 7), (⟨"AreaPicker$AreaFinder", "coverSquares", "()I"⟩, 7), (⟨"AreaPicker$AreaFinder", "coverSquare", "(I)V"⟩, 7), (⟨"java/lang/Throwable", "fillInStackTrace", "(I)Ljava/lang/Throwable;"⟩, 6), (⟨"AreaPicker", "needPick", "(I)V"⟩, 6), (⟨"AreaPickerModel", "save", "()V"⟩, 16), (⟨"AreaPickerModel", "altered", "()I"⟩, 16), (⟨"AreaPickerModel", "layMask", "()V"⟩, 16), (⟨"AreaPickerModel", "of", "(II)I"⟩, 16), (⟨"AreaPickerModel", "levelOf", "(II)I"⟩, 16), (⟨"AreaPickerModel", "layArea", "(IIII)V"⟩, 16), (⟨"AreaPickerModel", "layAlike", "(III)V"⟩, 16), (⟨"AreaPickerModel", "reach", "(II)V"⟩, 16), (⟨"AreaPickerModel", "laySquares", "(I)V"⟩, 16), (⟨"AreaPickerModel", "hasSquare", "(II)Z"⟩, 16), (⟨"AreaPickerModel", "liesInAny", "(II)Z"⟩, 16)]
theorem lw_r2 : ∀ q ∈ lw_privs_2, lw_okq q := List.forall_mem_cons.mpr ⟨lw_p16, List.forall_mem_cons.mpr ⟨lw_p17, List.forall_mem_cons.mpr ⟨lw_p18, List.forall_mem_cons.mpr ⟨lw_p19, List.forall_mem_cons.mpr ⟨lw_p20, List.forall_mem_cons.mpr ⟨lw_p21, List.forall_mem_cons.mpr ⟨lw_p22, List.forall_mem_cons.mpr ⟨lw_p23, List.forall_mem_cons.mpr ⟨lw_p24, List.forall_mem_cons.mpr ⟨lw_p25, List.forall_mem_cons.mpr ⟨lw_p26, List.forall_mem_cons.mpr ⟨lw_p27, List.forall_mem_cons.mpr ⟨lw_p28, List.forall_mem_cons.mpr ⟨lw_p29, List.forall_mem_cons.mpr ⟨lw_p30, List.forall_mem_cons.mpr ⟨lw_p31, fun _ h => absurd h List.not_mem_nil⟩⟩⟩⟩⟩⟩⟩⟩⟩⟩⟩⟩⟩⟩⟩⟩
theorem lw_p32 : lw_okq (⟨"AreaPickerModel", "softLevel", "(II)I"⟩, 16) := ⟨⟨by decide +kernel, by decide +kernel⟩, List.mem_of_getElem? (i := 692) (by decide +kernel), List.mem_of_getElem? (i := 835) (by decide +kernel), List.mem_of_getElem? (i := 836) (by decide +kernel)⟩
theorem lw_p33 : lw_okq (⟨"AreaPickerModel", "areaSize", "()I"⟩, 16) := ⟨⟨by decide +kernel, by decide +kernel⟩, List.mem_of_getElem? (i := 692) (by decide +kernel), List.mem_of_getElem? (i := 839) (by decide +kernel), List.mem_of_getElem? (i := 840) (by decide +kernel)⟩
theorem lw_p34 : lw_okq (⟨"AreaPickerModel", "isPick", "(I)Z"⟩, 16) := ⟨⟨by decide +kernel, by decide +kernel⟩, List.mem_of_getElem? (i := 692) (by decide +kernel), List.mem_of_getElem? (i := 847) (by decide +kernel), List.mem_of_getElem? (i := 848) (by decide +kernel)⟩
theorem lw_p35 : lw_okq (⟨"AreaPickerModel", "exchange", "(I)V"⟩, 16) := ⟨⟨by decide +kernel, by decide +kernel⟩, List.mem_of_getElem? (i := 692) (by decide +kernel), List.mem_of_getElem? (i := 859) (by decide +kernel), List.mem_of_getElem? (i := 860) (by decide +kernel)⟩
theorem lw_p36 : lw_okq (⟨"AreaPickerModel", "readText", "()I"⟩, 16) := ⟨⟨by decide +kernel, by decide +kernel⟩, List.mem_of_getElem? (i := 692) (by decide +kernel), List.mem_of_getElem? (i := 879) (by decide +kernel), List.mem_of_getElem? (i := 880) (by decide +kernel)⟩
theorem lw_p37 : lw_okq (⟨"AreaPickerModel", "takes", "(I)Z"⟩, 16) := ⟨⟨by decide +kernel, by decide +kernel⟩, List.mem_of_getElem? (i := 692) (by decide +kernel), List.mem_of_getElem? (i := 883) (by decide +kernel), List.mem_of_getElem? (i := 884) (by decide +kernel)⟩
theorem lw_p38 : lw_okq (⟨"AreaPickerModel", "cellNow", "(II)I"⟩, 16) := ⟨⟨by decide +kernel, by decide +kernel⟩, List.mem_of_getElem? (i := 692) (by decide +kernel), List.mem_of_getElem? (i := 895) (by decide +kernel), List.mem_of_getElem? (i := 896) (by decide +kernel)⟩
theorem lw_p39 : lw_okq (⟨"AreaPickerModel", "picksAt", "(I)I"⟩, 16) := ⟨⟨by decide +kernel, by decide +kernel⟩, List.mem_of_getElem? (i := 692) (by decide +kernel), List.mem_of_getElem? (i := 899) (by decide +kernel), List.mem_of_getElem? (i := 900) (by decide +kernel)⟩
theorem lw_p40 : lw_okq (⟨"AreaPickerModel", "pickedNow", "(II)I"⟩, 16) := ⟨⟨by decide +kernel, by decide +kernel⟩, List.mem_of_getElem? (i := 692) (by decide +kernel), List.mem_of_getElem? (i := 907) (by decide +kernel), List.mem_of_getElem? (i := 908) (by decide +kernel)⟩
theorem lw_p41 : lw_okq (⟨"AreaPickerModel", "counted", "(I)I"⟩, 16) := ⟨⟨by decide +kernel, by decide +kernel⟩, List.mem_of_getElem? (i := 692) (by decide +kernel), List.mem_of_getElem? (i := 919) (by decide +kernel), List.mem_of_getElem? (i := 920) (by decide +kernel)⟩
theorem lw_p42 : lw_okq (⟨"AreaPickerModel", "picksIn", "()I"⟩, 16) := ⟨⟨by decide +kernel, by decide +kernel⟩, List.mem_of_getElem? (i := 692) (by decide +kernel), List.mem_of_getElem? (i := 923) (by decide +kernel), List.mem_of_getElem? (i := 924) (by decide +kernel)⟩
theorem lw_p43 : lw_okq (⟨"AreaPickerModel", "maskFrom", "(I)I"⟩, 16) := ⟨⟨by decide +kernel, by decide +kernel⟩, List.mem_of_getElem? (i := 692) (by decide +kernel), List.mem_of_getElem? (i := 927) (by decide +kernel), List.mem_of_getElem? (i := 928) (by decide +kernel)⟩
theorem lw_p44 : lw_okq (⟨"AreaPickerModel", "maskSum", "()I"⟩, 16) := ⟨⟨by decide +kernel, by decide +kernel⟩, List.mem_of_getElem? (i := 692) (by decide +kernel), List.mem_of_getElem? (i := 931) (by decide +kernel), List.mem_of_getElem? (i := 932) (by decide +kernel)⟩
theorem lw_p45 : lw_okq (⟨"AreaPickerModel", "edge", "()I"⟩, 16) := ⟨⟨by decide +kernel, by decide +kernel⟩, List.mem_of_getElem? (i := 692) (by decide +kernel), List.mem_of_getElem? (i := 935) (by decide +kernel), List.mem_of_getElem? (i := 936) (by decide +kernel)⟩
theorem lw_p46 : lw_okq (⟨"AreaPickerModel", "isMasked", "(II)Z"⟩, 16) := ⟨⟨by decide +kernel, by decide +kernel⟩, List.mem_of_getElem? (i := 692) (by decide +kernel), List.mem_of_getElem? (i := 939) (by decide +kernel), List.mem_of_getElem? (i := 940) (by decide +kernel)⟩
theorem lw_p47 : lw_okq (⟨"AreaPickerModel", "shadeSum", "()I"⟩, 16) := ⟨⟨by decide +kernel, by decide +kernel⟩, List.mem_of_getElem? (i := 692) (by decide +kernel), List.mem_of_getElem? (i := 943) (by decide +kernel), List.mem_of_getElem? (i := 944) (by decide +kernel)⟩
def lw_privs_3 : List (MethodName × Nat) := [(⟨"AreaPickerModel", "softLevel", "(II)I"⟩, 16), (⟨"AreaPickerModel", "areaSize", "()I"⟩, 16), (⟨"AreaPickerModel", "isPick", "(I)Z"⟩, 16), (⟨"AreaPickerModel", "exchange", "(I)V"⟩, 16), (⟨"AreaPickerModel", "readText", "()I"⟩, 16), (⟨"AreaPickerModel", "takes", "(I)Z"⟩, 16), (⟨"AreaPickerModel", "cellNow", "(II)I"⟩, 16), (⟨"AreaPickerModel", "picksAt", "(I)I"⟩, 16), (⟨"AreaPickerModel", "pickedNow", "(II)I"⟩, 16), (⟨"AreaPickerModel", "counted", "(I)I"⟩, 16), (⟨"AreaPickerModel", "picksIn", "()I"⟩, 16), (⟨"AreaPickerModel", "maskFrom", "(I)I"⟩, 16), (⟨"AreaPickerModel", "maskSum", "()I"⟩, 16), (⟨"AreaPickerModel", "edge", "()I"⟩, 16), (⟨"AreaPickerModel", "isMasked", "(II)Z"⟩, 16), (⟨"AreaPickerModel", "shadeSum", "()I"⟩, 16)]
theorem lw_r3 : ∀ q ∈ lw_privs_3, lw_okq q := List.forall_mem_cons.mpr ⟨lw_p32, List.forall_mem_cons.mpr ⟨lw_p33, List.forall_mem_cons.mpr ⟨lw_p34, List.forall_mem_cons.mpr ⟨lw_p35, List.forall_mem_cons.mpr ⟨lw_p36, List.forall_mem_cons.mpr ⟨lw_p37, List.forall_mem_cons.mpr ⟨lw_p38, List.forall_mem_cons.mpr ⟨lw_p39, List.forall_mem_cons.mpr ⟨lw_p40, List.forall_mem_cons.mpr ⟨lw_p41, List.forall_mem_cons.mpr ⟨lw_p42, List.forall_mem_cons.mpr ⟨lw_p43, List.forall_mem_cons.mpr ⟨lw_p44, List.forall_mem_cons.mpr ⟨lw_p45, List.forall_mem_cons.mpr ⟨lw_p46, List.forall_mem_cons.mpr ⟨lw_p47, fun _ h => absurd h List.not_mem_nil⟩⟩⟩⟩⟩⟩⟩⟩⟩⟩⟩⟩⟩⟩⟩⟩
theorem lw_p48 : lw_okq (⟨"AreaPickerModel", "different", "()I"⟩, 16) := ⟨⟨by decide +kernel, by decide +kernel⟩, List.mem_of_getElem? (i := 692) (by decide +kernel), List.mem_of_getElem? (i := 947) (by decide +kernel), List.mem_of_getElem? (i := 948) (by decide +kernel)⟩
theorem lw_p49 : lw_okq (⟨"AreaPickerModel", "areaAnswer", "(IIII)I"⟩, 16) := ⟨⟨by decide +kernel, by decide +kernel⟩, List.mem_of_getElem? (i := 692) (by decide +kernel), List.mem_of_getElem? (i := 955) (by decide +kernel), List.mem_of_getElem? (i := 956) (by decide +kernel)⟩
theorem lw_p50 : lw_okq (⟨"AreaPickerModel", "likenessAnswer", "(IIII)I"⟩, 16) := ⟨⟨by decide +kernel, by decide +kernel⟩, List.mem_of_getElem? (i := 692) (by decide +kernel), List.mem_of_getElem? (i := 963) (by decide +kernel), List.mem_of_getElem? (i := 964) (by decide +kernel)⟩
theorem lw_p51 : lw_okq (⟨"AreaPickerModel", "gapAnswer", "(III)I"⟩, 16) := ⟨⟨by decide +kernel, by decide +kernel⟩, List.mem_of_getElem? (i := 692) (by decide +kernel), List.mem_of_getElem? (i := 971) (by decide +kernel), List.mem_of_getElem? (i := 972) (by decide +kernel)⟩
theorem lw_p52 : lw_okq (⟨"AreaPickerModel", "areasAnswer", "(I)I"⟩, 16) := ⟨⟨by decide +kernel, by decide +kernel⟩, List.mem_of_getElem? (i := 692) (by decide +kernel), List.mem_of_getElem? (i := 979) (by decide +kernel), List.mem_of_getElem? (i := 980) (by decide +kernel)⟩
theorem lw_p53 : lw_okq (⟨"AreaPickerModel", "mix", "(J)V"⟩, 16) := ⟨⟨by decide +kernel, by decide +kernel⟩, List.mem_of_getElem? (i := 692) (by decide +kernel), List.mem_of_getElem? (i := 993) (by decide +kernel), List.mem_of_getElem? (i := 994) (by decide +kernel)⟩
def lw_privs_4 : List (MethodName × Nat) := [(⟨"AreaPickerModel", "different", "()I"⟩, 16), (⟨"AreaPickerModel", "areaAnswer", "(IIII)I"⟩, 16), (⟨"AreaPickerModel", "likenessAnswer", "(IIII)I"⟩, 16), (⟨"AreaPickerModel", "gapAnswer", "(III)I"⟩, 16), (⟨"AreaPickerModel", "areasAnswer", "(I)I"⟩, 16), (⟨"AreaPickerModel", "mix", "(J)V"⟩, 16)]
theorem lw_r4 : ∀ q ∈ lw_privs_4, lw_okq q := List.forall_mem_cons.mpr ⟨lw_p48, List.forall_mem_cons.mpr ⟨lw_p49, List.forall_mem_cons.mpr ⟨lw_p50, List.forall_mem_cons.mpr ⟨lw_p51, List.forall_mem_cons.mpr ⟨lw_p52, List.forall_mem_cons.mpr ⟨lw_p53, fun _ h => absurd h List.not_mem_nil⟩⟩⟩⟩⟩⟩
def lw_privs : List (MethodName × Nat) := lw_privs_1 ++ (lw_privs_2 ++ (lw_privs_3 ++ (lw_privs_4)))
def lw_tbl : List Cond := k2_sels lw_privs ++ tables_1
theorem lw_privs_ok : ∀ q ∈ lw_privs, lw_okq q := by
  show ∀ q ∈ lw_privs_1 ++ (lw_privs_2 ++ (lw_privs_3 ++ (lw_privs_4))), lw_okq q
  exact List.forall_mem_append.mpr ⟨lw_r1, List.forall_mem_append.mpr ⟨lw_r2, List.forall_mem_append.mpr ⟨lw_r3, lw_r4⟩⟩⟩
/-- the streams that the claim lets the run draw from -/
abbrev lw_cs : List Choice := [Jvm.Choice.named "NaN.bits"]
theorem lw_bits : nanBits ∈ lw_cs := by first | decide | exact List.mem_cons_self | simp [lw_cs, nanBits]

/-! ===== BEGIN words of one list among another's, by their places ===== -/
theorem goodIn_r {big : List Cond} (ws : List Cond) (ps : List Nat) (hp : ws = ps.filterMap (fun i => big[i]?)) (h : ws.all goodWord = true) : GoodIn big ws := by
  intro w hw
  have h1 := List.all_eq_true.mp h w hw
  rw [hp] at hw
  obtain ⟨i, -, hi⟩ := List.mem_filterMap.mp hw
  have hm : w ∈ big := by first | exact List.mem_of_getElem? hi | exact List.getElem?_mem hi
  exact ⟨hm, good_of_word h1⟩
theorem goodIn_app {big a b : List Cond} (ha : GoodIn big a) (hb : GoodIn big b) : GoodIn big (a ++ b) := fun w h => (List.mem_append.mp h).elim (ha w) (hb w)
theorem goodIn_ca {big a b : List Cond} {c : Cond} (ha : GoodIn big (c :: a)) (hb : GoodIn big b) : GoodIn big (c :: (a ++ b)) := fun w h => (List.mem_cons.mp h).elim (fun e => ha w (List.mem_cons.mpr (Or.inl e))) (fun h => (List.mem_append.mp h).elim (fun h => ha w (List.mem_cons.mpr (Or.inr h))) (hb w))
theorem goodIn_sub {big ws : List Cond} (hm : ∀ w ∈ ws, w ∈ big) (h : ws.all goodWord = true) : GoodIn big ws := fun w hw => ⟨hm w hw, good_of_word (List.all_eq_true.mp h w hw)⟩
/-! ===== END ===== -/

/-! ===== BEGIN exceptions that leave a method, and their catching by the caller (launches without stack traces) ===== -/
section VXA
/-! The laws vx_back, vx_callV, vx_callS, vx_callSW, vx_throw0, vx_throwS follow proofs of the library, with one case more: JvmDerived/Free/Laws.lean (Back.of_free), Shelf42/LK1.lean (callV, callS), Shelf/KitTraced.lean (throwNew0V, throwNewS). -/
/-- where a method has thrown q: the class by its name, the cell, what was written, the world -/
def vx_T (XC : String → State → State → Prop) (st : State) (q : Addr) (t : State) (mc ms : Nat) (free : Addr → Prop) : Prop :=
  ∃ (E : String) (ce : Cell) (L : List Loc), XC E st t ∧ t.heap[q]? = some ce ∧ ce.vm = .none ∧ st.vm.findClass E = some ce.cls ∧ st.WarmedH t.vm ∧ st.sameButNew ({ t with vm := st.vm } : State) L mc ms ∧ ∀ z ∈ L, free z.base
def vx_Q (Qc : Array Value → State → Outcome → State → Prop) (XC : String → State → State → Prop) (mc ms : Nat) (free : Addr → Prop) : Array Value → State → Outcome → State → Prop := fun a st o t =>
  (Qc a st o t ∧ ∃ L, FrameEnd st o t L mc ms ∧ ∀ q ∈ L, free q.base) ∨ ∃ q, o = .threw q ∧ vx_T XC st q t mc ms free
/-- a callee that returns or throws -/
def vx_Met (l : Launch) (y : MethodName) (ws : List Cond) (rm : Room) (Pc : Array Value → State → Prop) (Qc : Array Value → State → Outcome → State → Prop) (XC : String → State → State → Prop) (mc ms : Nat) (free : Addr → Prop) : Prop :=
  MetFree l y (headSpec ws rm) Pc (fun _ _ _ _ _ => True) (vx_Q Qc XC mc ms free)
def vx_Post (XC : String → State → State → Prop) (mc ms : Nat) (free : Addr → Prop) : Pt → Array Value → Addr → Pt → Prop := fun A a q B =>
  ∃ (g : JFrame) (mk : MethodId) (t : State) (L : List Loc) (E : String) (ce : Cell), B.U.heap = t.heap ∧ B.U.vm = t.vm ∧ XC E (A.U.calling g mk a) t ∧ t.heap[q]? = some ce ∧ ce.vm = .none ∧ A.U.vm.findClass E = some ce.cls ∧ B.locs = A.locs ++ L ∧ (∀ z ∈ L, free z.base) ∧ B.cells = A.cells + mc ∧ B.slots = A.slots + ms
def vx_Back (l : Launch) (R : Room) (p : Program) (e : Env) (below : List Frame) (s : State) (sargs : Array Value) (y : MethodName) (len W9 : Nat)
    (Pre : Pt → Array Value → Prop) (Post : Pt → Array Value → Option Value → Pt → Prop) (PostX : Pt → Array Value → Addr → Pt → Prop) : Prop :=
  ∀ (m : MethodId) (meth : Method) (c : Code) (A : Pt) (g : JFrame) (ig : Instr) (mk : MethodId) (a : Array Value),
    Stand p l e R s m sargs below meth c A.U A.locs A.cells A.slots → g.method = m → g.locals.size = c.maxLocals → decode c.code g.pc = .ok (ig, len) →
    2 * g.monitorRoom + (g.stack.map fun v => v.category).sum ≤ W9 → A.U.methodNamed? y = some mk → Pre A a →
    (∃ (v : Option Value) (B : Pt), Stand p l e R s m sargs below meth c B.U B.locs B.cells B.slots ∧ Post A a v B ∧
      Steps p.tables e below (doInvoke e (A.U.setTop g) [] mk a).1 (B.U.setTop { g with pc := g.pc + len, stack := v.toList ++ g.stack })) ∨
    (∃ (q : Addr) (B : Pt), Stand p l e R s m sargs below meth c B.U B.locs B.cells B.slots ∧ PostX A a q B ∧
      Steps p.tables e below (doInvoke e (A.U.setTop g) [] mk a).1 ((B.U.setTop g).pushFrame (.throwing q)))
section Payer
variable {l : Launch} {R : Room} {p : Program} {e : Env} {below : List Frame} {s : State} {sargs : Array Value} {y : MethodName} {len W9 : Nat}
theorem vx_back {ws : List Cond} {rm : Room} {Pc : Array Value → State → Prop} {Qc : Array Value → State → Outcome → State → Prop} {XC : String → State → State → Prop} {mc ms : Nat} {free : Addr → Prop} {bytes : ByteArray} {maxL : Nat} {ret : Option FieldType}
    (hM : vx_Met l y ws rm Pc Qc XC mc ms free) (hblind : FrameBlind Pc) (hrc : rm.cells = mc) (hrs : rm.slots = ms)
    (hframes : rm.frames + 1 ≤ R.frames) (hlocals : W9 + (maxL + 11) + rm.locals ≤ R.locals)
    (hws : ∀ w ∈ ws, ∀ a' U, s.WarmedH U.vm → w.before a' U = true) (hcode : Cond.code y bytes maxL ret ∈ ws) (hinit : ∀ a' U, s.WarmedH U.vm → (Cond.initialized y.cls).before a' U = true) :
    vx_Back l R p e below s sargs y len W9 (PreOf R mc ms Pc) (PostOf Qc mc ms free) (vx_Post XC mc ms free) := by
  intro m meth c A g ig mk a X hg hsize hdg hW hn hp
  have h1 : (headSpec ws rm).pre.before a A.U = true := atoms_intro fun w hw => hws w hw _ _ X.warmed
  have h2 : (Cond.code y bytes maxL ret).before a A.U = true := hws _ hcode _ _ X.warmed
  have h3 : (Cond.initialized y.cls).before a A.U = true := hinit _ _ X.warmed
  have h4 : A.cells + (headSpec ws rm).room.cells ≤ R.cells := by rw [show (headSpec ws rm).room.cells = mc from hrc]; exact hp.1
  have h5 : A.slots + (headSpec ws rm).room.slots ≤ R.slots := by rw [show (headSpec ws rm).room.slots = ms from hrs]; exact hp.2.1
  have hPc : Pc a (A.U.calling g mk a) := hblind _ _ _ _ hp.2.2
  obtain ⟨U, Ls, c0, s0⟩ := A
  dsimp only [Pt.U, Pt.locs, Pt.cells, Pt.slots] at h1 h2 h3 h4 h5 X hn hPc ⊢
  obtain ⟨methY, cY, hmY, hcY, -, hlY, -, -, -, -⟩ := Cond.code_spec hn h2
  obtain ⟨kY, hkY, -⟩ := className_of_methodNamed hn
  have hinitY : kY.init = .initialized := Cond.initialized_spec (findClass_of_methodNamed hn) hkY h3
  have h : At U g.method c below := by rw [hg]; exact X.here
  have hlocals9 : W9 + (maxL + 11) + (headSpec ws rm).room.locals ≤ R.locals := hlocals
  have happ : (headSpec ws rm).appliesLoose y e.platform (U.calling g mk a) = true :=
    Spec.appliesLoose_calling (g := g) h hdg hn hkY hinitY
      (X.room_calling (g := g) (R' := (headSpec ws rm).room) hsize hmY hcY hframes (by rw [hlY]; omega) h4 h5) h1
  obtain ⟨mid, hmid⟩ := h.above
  have hfr : (U.setTop g).frames = (.java g :: mid) ++ below := by rw [State.frames_setTop' g h.top, hmid]; rfl
  obtain ⟨o, s₂, hsteps, -, hend, hq⟩ := Steps.callFree hM p X.admits X.cas X.clock (acts := []) hfr happ hPc trivial
  have hq' : vx_Q Qc XC mc ms free a (U.calling g mk a) o s₂ := hq
  rw [State.frames_setTop' g h.top] at hend
  obtain ⟨g₀, hg0⟩ := Option.isSome_iff_exists.mp h.top
  obtain ⟨r, hr⟩ := State.topJava?_eq_some.mp hg0
  have hr' : (({ U with heap := s₂.heap, slotsUsed := s₂.slotsUsed } : State).setVm s₂.vm).frames = .java g₀ :: r := hr
  rcases hq' with ⟨hqc, L, hfe, hL⟩ | ⟨q, rfl, E, ce, L, hx, hce, hcv, hcl, hW₂, hsm, hL⟩
  · obtain ⟨⟨v, rfl⟩, hW₂, e2, q2, q3, q4, q5, q6⟩ := id hfe
    have e3 : s₂ = ({ (U.calling g mk a).setFrames s₂.frames with heap := s₂.heap, slotsUsed := s₂.slotsUsed } : State).setVm s₂.vm := by
      have : s₂ = ({ s₂ with vm := (U.calling g mk a).vm } : State).setVm s₂.vm := rfl
      rw [e2] at this
      exact this
    obtain ⟨c₂, i₂, len₂, hc₂, hd₂, hf₂⟩ := hend
    have hW' : U.WarmedH s₂.vm := hW₂
    have hcc : c₂ = c := by
      have h1 : s₂.code? g.method = U.code? g.method := by
        rw [State.code?_eq, State.code?_eq, hW'.alike.method?]
      exact Option.some.inj (hc₂.symm.trans (h1.trans h.code))
    subst hcc
    have hlen : len₂ = len := by rw [hdg] at hd₂; cases hd₂; rfl
    subst hlen
    have hs₂ : s₂ = (({ U with heap := s₂.heap, slotsUsed := s₂.slotsUsed } : State).setVm s₂.vm).setTop { g with pc := g.pc + len₂, stack := v.toList ++ g.stack } := by
      refine e3.trans ?_
      rw [hf₂, State.calling_eq h.top, State.setFrames_setFrames, State.setTop_of_frames _ hr', hr]
      rfl
    have hsame : U.sameButNew ({ U with heap := s₂.heap, slotsUsed := s₂.slotsUsed } : State) L mc ms := by
      refine ⟨?_, q2, q3, q4, q5, q6⟩
      obtain ⟨t, ht, -⟩ := State.frames_cons hr
      show ({ U with heap := s₂.heap, slotsUsed := s₂.slotsUsed } : State) = { U.setFrames U.frames with heap := s₂.heap, slotsUsed := s₂.slotsUsed }
      rw [State.setFrames_self ht]
    subst hg
    refine Or.inl ⟨v, ⟨(({ U with heap := s₂.heap, slotsUsed := s₂.slotsUsed } : State).setVm s₂.vm), Ls ++ L, c0 + mc, s0 + ms⟩,
      ⟨X.admits, X.cas, X.clock, X.frames, X.room, X.hears, X.method, X.code, (X.here.setHeapUsed s₂.heap s₂.slotsUsed).setVm hW'.alike, X.tail, State.WarmedH.trans X.warmed hW', X.limits, X.bytes, X.same.trans (hsame.setVm s.vm)⟩,
      ⟨g, mk, s₂, L, rfl, rfl, hqc, rfl, hL, rfl, rfl⟩, ?_⟩
    show Steps p.tables e below _ ((({ U with heap := s₂.heap, slotsUsed := s₂.slotsUsed } : State).setVm s₂.vm).setTop { g with pc := g.pc + len₂, stack := v.toList ++ g.stack })
    rw [← hs₂]
    exact hsteps
  · obtain ⟨e2, q2, q3, q4, q5, q6⟩ := id hsm
    have e3 : s₂ = ({ (U.calling g mk a).setFrames s₂.frames with heap := s₂.heap, slotsUsed := s₂.slotsUsed } : State).setVm s₂.vm := by
      have : s₂ = ({ s₂ with vm := (U.calling g mk a).vm } : State).setVm s₂.vm := rfl
      rw [e2] at this
      exact this
    have hf₂ : s₂.frames = .throwing q :: .java g :: U.frames.tail := hend
    have hW' : U.WarmedH s₂.vm := hW₂
    have hs₂ : s₂ = ((({ U with heap := s₂.heap, slotsUsed := s₂.slotsUsed } : State).setVm s₂.vm).setTop g).pushFrame (.throwing q) := by
      refine e3.trans ?_
      rw [hf₂, State.calling_eq h.top, State.setFrames_setFrames, State.pushFrame, State.frames_setTop _ hr', State.setTop_of_frames _ hr', State.setFrames_setFrames, hr]
      rfl
    have hsame : U.sameButNew ({ U with heap := s₂.heap, slotsUsed := s₂.slotsUsed } : State) L mc ms := by
      refine ⟨?_, q2, q3, q4, q5, q6⟩
      obtain ⟨t, ht, -⟩ := State.frames_cons hr
      show ({ U with heap := s₂.heap, slotsUsed := s₂.slotsUsed } : State) = { U.setFrames U.frames with heap := s₂.heap, slotsUsed := s₂.slotsUsed }
      rw [State.setFrames_self ht]
    subst hg
    refine Or.inr ⟨q, ⟨(({ U with heap := s₂.heap, slotsUsed := s₂.slotsUsed } : State).setVm s₂.vm), Ls ++ L, c0 + mc, s0 + ms⟩,
      ⟨X.admits, X.cas, X.clock, X.frames, X.room, X.hears, X.method, X.code, (X.here.setHeapUsed s₂.heap s₂.slotsUsed).setVm hW'.alike, X.tail, State.WarmedH.trans X.warmed hW', X.limits, X.bytes, X.same.trans (hsame.setVm s.vm)⟩,
      ⟨g, mk, s₂, L, E, ce, rfl, rfl, hx, hce, hcv, hcl, rfl, hL, rfl, rfl⟩, ?_⟩
    show Steps p.tables e below _ (((({ U with heap := s₂.heap, slotsUsed := s₂.slotsUsed } : State).setVm s₂.vm).setTop g).pushFrame (.throwing q))
    rw [← hs₂]
    exact hsteps
end Payer
section Calls
variable {p : Program} {l : Launch} {e : Env} {R : Room} {s : State} {m : MethodId} {args : Array Value} {below : List Frame} {meth : Method} {c : Code} {T : State} {locs : List Loc} {cells slots : Nat}
theorem vx_callV (X : Stand p l e R s m args below meth c T locs cells slots) (hexec : p.tables.exec = Jvm.exec) {own C : String} {index : Nat} {y : MethodName} {bytes : ByteArray} {maxL : Nat} {ret : Option FieldType}
    (hown : s.vm.findClass own = some m.cls) (hlink : (Cond.methodLink own index y).before args s = true) (hinst : (Cond.instanceMethod y).before args s = true) (hsel : (Cond.selects C y y).before args s = true)
    (hcode : (Cond.code y bytes maxL ret).before args s = true) (hy : y.cls ≠ "java/lang/invoke/MethodHandle" ∧ y.cls ≠ "java/lang/invoke/VarHandle")
    {W9 : Nat} {Pre : Pt → Array Value → Prop} {Post : Pt → Array Value → Option Value → Pt → Prop} {PostX : Pt → Array Value → Addr → Pt → Prop} (hK : vx_Back l R p e below s args y 3 W9 Pre Post PostX)
    {b : Addr} {cellB : Cell} (hcell : T.heap[b]? = some cellB) (hobj : cellB.vm.isStatics = false) (hcls : s.vm.findClass C = some cellB.cls)
    {g : JFrame} (hg : g.method = m) (hsize : g.locals.size = c.maxLocals) {argsL rest : List Value} (hlen : ∀ sig, parseMethodDescriptor y.desc = some sig → argsL.length = sig.parameters.length)
    (hstack : g.stack = argsL.reverse ++ .ref b :: rest) (hW : 2 * g.monitorRoom + (rest.map fun v => v.category).sum ≤ W9) (hdg : decode c.code g.pc = .ok (.invokevirtual index, 3))
    (hpre : ∀ vm₁, s.WarmedH vm₁ → Pre ⟨T.setVm vm₁, locs, cells, slots⟩ (Value.ref b :: argsL).toArray) :
    (∃ (v : Option Value) (vm₁ : Vm) (B : Pt), s.WarmedH vm₁ ∧ Stand p l e R s m args below meth c B.U B.locs B.cells B.slots ∧ Post ⟨T.setVm vm₁, locs, cells, slots⟩ (Value.ref b :: argsL).toArray v B ∧
      ∀ target, Steps p.tables e below (B.U.setTop { g with pc := g.pc + 3, stack := v.toList ++ rest }) target → Steps p.tables e below (T.setTop g) target) ∨
    (∃ (q : Addr) (vm₁ : Vm) (B : Pt), s.WarmedH vm₁ ∧ Stand p l e R s m args below meth c B.U B.locs B.cells B.slots ∧ PostX ⟨T.setVm vm₁, locs, cells, slots⟩ (Value.ref b :: argsL).toArray q B ∧
      Steps p.tables e below (T.setTop g) ((B.U.setTop { g with stack := rest }).pushFrame (.throwing q))) := by
  obtain ⟨mk, methM, hnamed, hmethM, hstM, habM⟩ := Cond.instanceMethod_spec hinst
  obtain ⟨methM', cM, hmethM', -, -, -, -, -, -, hsigM⟩ := Cond.code_spec hnamed hcode
  cases hmethM.symm.trans hmethM'
  obtain ⟨c2, r2, m2, q1, q2, q3, q4, kP, hkP, hkPi⟩ := Cond.selects_spec hsel
  cases hcls.symm.trans q1
  cases (State.methodFound?_of_named hnamed hy).symm.trans q2
  cases hnamed.symm.trans q3
  have hselP : selectMethod e.platform s.vm cellB.cls mk = .method mk := by rw [Launch.admits_selectMethod X.admits]; exact q4
  obtain ⟨vm₁, X₁, hstep₁⟩ := X.invokevirtual hexec hown hlink hnamed hmethM hstM hkP hkPi hy (a := b) (cell := cellB) hcell
    (fun z h => by rw [h] at hobj; cases hobj) hselP hmethM habM hkP hkPi (g := g) hg (argsL := argsL) (rest := rest) (hlen _ hsigM) hstack hdg
  rcases hK m meth c ⟨T.setVm vm₁, locs, cells, slots⟩ { g with stack := rest } (.invokevirtual index) mk (Value.ref b :: argsL).toArray X₁ hg hsize hdg hW (X₁.named hnamed) (hpre vm₁ X₁.warmed) with ⟨v, B, X', hpost, hsteps⟩ | ⟨q, B, X', hpost, hsteps⟩
  · exact Or.inl ⟨v, vm₁, B, X₁.warmed, X', hpost, fun target h => hstep₁ _ fun acts => by rw [doInvoke_state]; exact hsteps.trans h⟩
  · exact Or.inr ⟨q, vm₁, B, X₁.warmed, X', hpost, hstep₁ _ fun acts => by rw [doInvoke_state]; exact hsteps⟩
theorem vx_callS (X : Stand p l e R s m args below meth c T locs cells slots) (hexec : p.tables.exec = Jvm.exec) {own : String} {index : Nat} {y : MethodName} {bytes : ByteArray} {maxL : Nat} {ret : Option FieldType}
    (hown : s.vm.findClass own = some m.cls) (hlink : (Cond.methodLink own index y).before args s = true) (hstat : (Cond.static y).before args s = true) (hinit : (Cond.initialized y.cls).before args s = true)
    (hcode : (Cond.code y bytes maxL ret).before args s = true) (hy : y.cls ≠ "java/lang/invoke/MethodHandle" ∧ y.cls ≠ "java/lang/invoke/VarHandle")
    {W9 : Nat} {Pre : Pt → Array Value → Prop} {Post : Pt → Array Value → Option Value → Pt → Prop} {PostX : Pt → Array Value → Addr → Pt → Prop} (hK : vx_Back l R p e below s args y 3 W9 Pre Post PostX)
    {g : JFrame} (hg : g.method = m) (hsize : g.locals.size = c.maxLocals) {argsL rest : List Value} (hlen : ∀ sig, parseMethodDescriptor y.desc = some sig → argsL.length = sig.parameters.length)
    (hstack : g.stack = argsL.reverse ++ rest) (hW : 2 * g.monitorRoom + (rest.map fun v => v.category).sum ≤ W9) (hdg : decode c.code g.pc = .ok (.invokestatic index, 3))
    (hpre : ∀ vm₁, s.WarmedH vm₁ → Pre ⟨T.setVm vm₁, locs, cells, slots⟩ argsL.toArray) :
    (∃ (v : Option Value) (vm₁ : Vm) (B : Pt), s.WarmedH vm₁ ∧ Stand p l e R s m args below meth c B.U B.locs B.cells B.slots ∧ Post ⟨T.setVm vm₁, locs, cells, slots⟩ argsL.toArray v B ∧
      ∀ target, Steps p.tables e below (B.U.setTop { g with pc := g.pc + 3, stack := v.toList ++ rest }) target → Steps p.tables e below (T.setTop g) target) ∨
    (∃ (q : Addr) (vm₁ : Vm) (B : Pt), s.WarmedH vm₁ ∧ Stand p l e R s m args below meth c B.U B.locs B.cells B.slots ∧ PostX ⟨T.setVm vm₁, locs, cells, slots⟩ argsL.toArray q B ∧
      Steps p.tables e below (T.setTop g) ((B.U.setTop { g with stack := rest }).pushFrame (.throwing q))) := by
  obtain ⟨mk, hnamed⟩ := Cond.code_named hcode
  obtain ⟨methM, cM, hmethM, -, -, -, -, -, -, hsigM⟩ := Cond.code_spec hnamed hcode
  have hstatic : methM.isStatic = true := Cond.static_spec hnamed hmethM hstat
  obtain ⟨kP, hkP, -⟩ := className_of_methodNamed hnamed
  have hinitP : kP.init = .initialized := Cond.initialized_spec (findClass_of_methodNamed hnamed) hkP hinit
  obtain ⟨vm₁, X₁, hstep₁⟩ := X.invokestatic hexec hown hlink hnamed hmethM hstatic hkP hinitP hy (g := g) hg (argsL := argsL) (rest := rest) (hlen _ hsigM) hstack hdg
  rcases hK m meth c ⟨T.setVm vm₁, locs, cells, slots⟩ { g with stack := rest } (.invokestatic index) mk argsL.toArray X₁ hg hsize hdg hW (X₁.named hnamed) (hpre vm₁ X₁.warmed) with ⟨v, B, X', hpost, hsteps⟩ | ⟨q, B, X', hpost, hsteps⟩
  · exact Or.inl ⟨v, vm₁, B, X₁.warmed, X', hpost, fun target h => hstep₁ _ fun acts => by rw [doInvoke_state]; exact hsteps.trans h⟩
  · exact Or.inr ⟨q, vm₁, B, X₁.warmed, X', hpost, hstep₁ _ fun acts => by rw [doInvoke_state]; exact hsteps⟩
end Calls
theorem vx_cls {s : State} {T : State} {vm₁ : Vm} {E : String} {k : ClassId} (hW : s.WarmedH vm₁) (h : (T.setVm vm₁).vm.findClass E = some k) : s.vm.findClass E = some k := by
  have h1 : vm₁.findClass E = some k := h
  rw [hW.alike.findClass] at h1
  exact h1
/-- the method's frame g, with q thrown over it -/
def vx_W (p : Program) (l : Launch) (e : Env) (R : Room) (s : State) (m : MethodId) (args : Array Value) (below : List Frame) (meth : Method) (c : Code) (H : Heap) (locs : List Loc) (cells slots : Nat) (Q : State → Prop) (g : JFrame) (q : Addr) : Prop :=
  ∀ T : State, T.heap = H → Stand p l e R s m args below meth c T locs cells slots → ∃ t, Steps p.tables e below ((T.setTop g).pushFrame (.throwing q)) t ∧ Q t
def vx_Run (p : Program) (l : Launch) (e : Env) (R : Room) (s : State) (m : MethodId) (args : Array Value) (below : List Frame) (meth : Method) (c : Code) (H : Heap) (locs : List Loc) (cells slots mc ms : Nat) (g : JFrame) (rest : List Value) (Qa : State → Outcome → State → Prop) (XC : String → State → State → Prop) (free : Addr → Prop) : Prop :=
  ∀ T : State, T.heap = H → Stand p l e R s m args below meth c T locs cells slots →
    (∃ (v : Option Value) (st₀ t T' : State) (L : List Loc), st₀.heap = H ∧ Stand p l e R s m args below meth c T' (locs ++ L) (cells + mc) (slots + ms) ∧ (∀ q ∈ L, free q.base) ∧ T'.heap = t.heap ∧ T'.vm = t.vm ∧ Qa st₀ (.returned v) t ∧
      Goes p e below T g T' { g with pc := g.pc + 3, stack := v.toList ++ rest }) ∨
    (∃ (q : Addr) (st₀ t T' : State) (L : List Loc) (E : String) (ce : Cell), st₀.heap = H ∧ Stand p l e R s m args below meth c T' (locs ++ L) (cells + mc) (slots + ms) ∧ (∀ z ∈ L, free z.base) ∧ T'.heap = t.heap ∧ T'.vm = t.vm ∧ XC E st₀ t ∧ t.heap[q]? = some ce ∧ ce.vm = .none ∧ s.vm.findClass E = some ce.cls ∧
      Steps p.tables e below (T.setTop g) ((T'.setTop { g with stack := rest }).pushFrame (.throwing q)))
def vx_X {S : Type} (px : S → Prop) (B : String → S → State → Prop) (A : Nat → Prop) : String → State → State → Prop := fun E st t => ∃ u : S, px u ∧ B E u t ∧ va_F A st t
section Runs
variable {p : Program} {l : Launch} {e : Env} {R : Room} {s : State} {m : MethodId} {args : Array Value} {below : List Frame} {meth : Method} {c : Code} {H : Heap} {locs : List Loc} {cells slots : Nat}
variable {y : MethodName} {bytes cc : ByteArray} {maxL nL mc ms n index : Nat} {ret : Option FieldType} {ws : List Cond} {rm : Room} {Pc : Array Value → State → Prop} {Qc : Array Value → State → Outcome → State → Prop} {XC : String → State → State → Prop} {free : Addr → Prop} {Ts : List Cond} {own C : String} {b : Addr} {As rest : List Value} {g : JFrame}
theorem vx_callBack (cb : CallB R s args own index y bytes maxL ret ws rm mc ms n) (hM : vx_Met l y ws rm Pc Qc XC mc ms free) (hbl : FrameBlind Pc) : vx_Back l R p e below s args y 3 8 (PreOf R mc ms Pc) (PostOf Qc mc ms free) (vx_Post XC mc ms free) := by
  obtain ⟨hrc, hrs, hfr, hlo, hws, hcw, -, hini, -⟩ := cb
  exact vx_back (bytes := bytes) (maxL := maxL) (ret := ret) hM hbl hrc hrs hfr hlo hws hcw (fun a' U hW => word_at hW (Or.inl (by first | rfl | simp [Cond.onTables, Cond.keeps, Cond.steady])) hini)
theorem vx_runV (S : CallFix p m c cc nL s args Ts own) (hM : vx_Met l y ws rm Pc Qc XC mc ms free) (cw : CallW R s args own C index y bytes maxL ret ws rm mc ms n) (hp : PreV s H C b Pc As)
    (hg : g.method = m) (hn : As.length = n) (hsize : g.locals.size = nL) (hstack : g.stack = As.reverse ++ .ref b :: rest) (hW : 2 * g.monitorRoom + (rest.map fun v => v.category).sum ≤ 8) (hdg : decode cc g.pc = .ok (.invokevirtual index, 3)) (hf : cells + mc ≤ R.cells ∧ slots + ms ≤ R.slots) :
    vx_Run p l e R s m args below meth c H locs cells slots mc ms g rest (Qc (Value.ref b :: As).toArray) XC free := by
  have hK : vx_Back l R p e below s args y 3 8 (PreOf R mc ms Pc) (PostOf Qc mc ms free) (vx_Post XC mc ms free) := vx_callBack cw.1 hM hp.1
  obtain ⟨⟨-, -, -, -, -, -, hcode, -, hy, hlen, hl⟩, hin, hse⟩ := cw
  obtain ⟨hx, hb, hml, ho, -⟩ := S
  obtain ⟨-, ⟨cellB, hcB, hoB, hclB⟩, hPc⟩ := hp
  intro T hT X
  rcases vx_callV X hx (C := C) (bytes := bytes) (maxL := maxL) (ret := ret) ho hl hin hse hcode hy hK (by rw [hT]; exact hcB) hoB hclB hg (hsize.trans hml.symm) (argsL := As) (rest := rest) (fun sig h => hn.trans (hlen sig h)) hstack hW (by rw [hb]; exact hdg)
    (fun vm₁ hW₁ => ⟨hf.1, hf.2, hPc (T.setVm vm₁) hT hW₁⟩) with ⟨v, vm₁, ⟨U', l2, c2, s2⟩, hW₁, X', ⟨g', mk, t, L, e1, e2, hq, h1, hL, h2, h3⟩, st⟩ | ⟨q, vm₁, ⟨U', l2, c2, s2⟩, hW₁, X', ⟨g', mk, t, L, E, ce, e1, e2, hq, hce, hcv, hcl, h1, hL, h2, h3⟩, st⟩
  · dsimp only [Pt.U, Pt.locs, Pt.cells, Pt.slots] at X' e1 e2 h1 h2 h3 st
    subst h1; subst h2; subst h3
    exact Or.inl ⟨v, (T.setVm vm₁).calling g' mk (Value.ref b :: As).toArray, t, U', L, hT, X', hL, e1, e2, hq, st⟩
  · dsimp only [Pt.U, Pt.locs, Pt.cells, Pt.slots] at X' e1 e2 h1 h2 h3 st hcl
    subst h1; subst h2; subst h3
    exact Or.inr ⟨q, (T.setVm vm₁).calling g' mk (Value.ref b :: As).toArray, t, U', L, E, ce, hT, X', hL, e1, e2, hq, hce, hcv, vx_cls hW₁ hcl, st⟩
theorem vx_runS (S : CallFix p m c cc nL s args Ts own) (hM : vx_Met l y ws rm Pc Qc XC mc ms free) (cw : CallB R s args own index y bytes maxL ret ws rm mc ms n ∧ (Cond.static y).before args s = true) (hp : PreS s H Pc As)
    (hg : g.method = m) (hn : As.length = n) (hsize : g.locals.size = nL) (hstack : g.stack = As.reverse ++ rest) (hW : 2 * g.monitorRoom + (rest.map fun v => v.category).sum ≤ 8) (hdg : decode cc g.pc = .ok (.invokestatic index, 3)) (hf : cells + mc ≤ R.cells ∧ slots + ms ≤ R.slots) :
    vx_Run p l e R s m args below meth c H locs cells slots mc ms g rest (Qc As.toArray) XC free := by
  have hK : vx_Back l R p e below s args y 3 8 (PreOf R mc ms Pc) (PostOf Qc mc ms free) (vx_Post XC mc ms free) := vx_callBack cw.1 hM hp.1
  obtain ⟨⟨-, -, -, -, -, -, hcode, hini, hy, hlen, hl⟩, hstt⟩ := cw
  obtain ⟨hx, hb, hml, ho, -⟩ := S
  intro T hT X
  rcases vx_callS X hx (bytes := bytes) (maxL := maxL) (ret := ret) ho hl hstt hini hcode hy hK hg (hsize.trans hml.symm) (argsL := As) (rest := rest) (fun sig h => hn.trans (hlen sig h)) hstack hW (by rw [hb]; exact hdg)
    (fun vm₁ hW₁ => ⟨hf.1, hf.2, hp.2 (T.setVm vm₁) hT hW₁⟩) with ⟨v, vm₁, ⟨U', l2, c2, s2⟩, hW₁, X', ⟨g', mk, t, L, e1, e2, hq, h1, hL, h2, h3⟩, st⟩ | ⟨q, vm₁, ⟨U', l2, c2, s2⟩, hW₁, X', ⟨g', mk, t, L, E, ce, e1, e2, hq, hce, hcv, hcl, h1, hL, h2, h3⟩, st⟩
  · dsimp only [Pt.U, Pt.locs, Pt.cells, Pt.slots] at X' e1 e2 h1 h2 h3 st
    subst h1; subst h2; subst h3
    exact Or.inl ⟨v, (T.setVm vm₁).calling g' mk As.toArray, t, U', L, hT, X', hL, e1, e2, hq, st⟩
  · dsimp only [Pt.U, Pt.locs, Pt.cells, Pt.slots] at X' e1 e2 h1 h2 h3 st hcl
    subst h1; subst h2; subst h3
    exact Or.inr ⟨q, (T.setVm vm₁).calling g' mk As.toArray, t, U', L, E, ce, hT, X', hL, e1, e2, hq, hce, hcv, vx_cls hW₁ hcl, st⟩
end Runs
section Rows
variable {p : Program} {l : Launch} {e : Env} {R : Room} {s : State} {m : MethodId} {args : Array Value} {below : List Frame} {meth : Method} {c : Code} {H : Heap} {locs : List Loc} {cells slots : Nat} {Q : State → Prop}
variable {mc ms : Nat} {free : Addr → Prop} {A0 A1 : Nat → Prop} {H0 : Heap} {a : Array Value} {pc : Nat} {ls : Array Slot} {st0 rest : List Value}
theorem vx_keep {st₀ t T' : State} {L : List Loc} (h0 : st₀.heap = H) (e1 : T'.heap = t.heap) (hS : va_S A0 H0 H locs) (hA : ∀ q, q < H.size → A1 q → A0 q) (hf : ∀ q, free q → A0 q) (hL : ∀ q ∈ L, free q.base) (hF : va_F A1 st₀ t) :
    H.size ≤ T'.heap.size ∧ (∀ q : Nat, q < H.size → ¬ A1 q → T'.heap[q]? = H[q]?) ∧ va_S A0 H0 T'.heap (locs ++ L) := by
  obtain ⟨hz, hk⟩ := hF
  rw [h0] at hz hk
  exact ⟨by rw [e1]; exact hz, fun q h1 h2 => by rw [e1]; exact hk q h1 h2,
    ⟨Nat.le_trans hS.1 (by rw [e1]; exact hz), fun q h1 h2 => by rw [e1, hk q (Nat.lt_of_lt_of_le h1 hS.1) (fun z => h2 (hA q (Nat.lt_of_lt_of_le h1 hS.1) z))]; exact hS.2.1 q h1 h2, fun q hq => by
      rcases List.mem_append.mp hq with h | h
      · exact hS.2.2 q h
      · exact hf _ (hL q h)⟩⟩
theorem vx_calli {S SX : Type} {post : Int32 → S → Prop} {px : SX → Prop} {B : S → State → Prop} {BX : String → SX → State → Prop} {AX : Nat → Prop} (hr : vx_Run p l e R s m args below meth c H locs cells slots mc ms (F0 m pc ls st0) rest (va_Qi post B A1 a) (vx_X px BX AX) free) (hS : va_S A0 H0 H locs) (hA : ∀ q, q < H.size → A1 q → A0 q) (hf : ∀ q, free q → A0 q) (hAX : ∀ q, q < H.size → AX q → A0 q)
    (kx : ∀ (E : String) (ce : Cell) (q9 : Addr) (u : SX) (t : State) (H1 : Heap) (locs1 : List Loc), t.heap = H1 → s.vm.Alike t.vm → px u → BX E u t → H.size ≤ H1.size → (∀ q : Nat, q < H.size → ¬ AX q → H1[q]? = H[q]?) → va_S A0 H0 H1 locs1 → H1[q9]? = some ce → ce.vm = .none → s.vm.findClass E = some ce.cls → vx_W p l e R s m args below meth c H1 locs1 (cells + mc) (slots + ms) Q (F0 m pc ls rest) q9)
    (kk : ∀ (r : Int32) (u : S) (t : State) (H1 : Heap) (locs1 : List Loc), t.heap = H1 → s.vm.Alike t.vm → post r u → B u t → H.size ≤ H1.size → (∀ q : Nat, q < H.size → ¬ A1 q → H1[q]? = H[q]?) → va_S A0 H0 H1 locs1 → W p l e R s m args below meth c H1 locs1 (cells + mc) (slots + ms) Q (F0 m (pc + 3) ls (.int r :: rest))) : W p l e R s m args below meth c H locs cells slots Q (F0 m pc ls st0) := by
  intro T hT X
  rcases hr T hT X with ⟨v, st₀, t, T', L, h0, X', hL, e1, e2, ⟨⟨r, u, hv, hp, hb⟩, hF⟩, st⟩ | ⟨q, st₀, t, T', L, E, ce, h0, X', hL, e1, e2, ⟨u, hp, hb, hF⟩, hce, hcv, hcl, st⟩
  · cases hv
    obtain ⟨k1, k2, k3⟩ := vx_keep h0 e1 hS hA hf hL hF
    obtain ⟨t2, a1, b1⟩ := kk r u t T'.heap (locs ++ L) e1.symm (by rw [← e2]; exact X'.warmed.alike) hp hb k1 k2 k3 T' rfl X'
    exact ⟨t2, st t2 a1, b1⟩
  · obtain ⟨k1, k2, k3⟩ := vx_keep h0 e1 hS hAX hf hL hF
    obtain ⟨t2, a1, b1⟩ := kx E ce q u t T'.heap (locs ++ L) e1.symm (by rw [← e2]; exact X'.warmed.alike) hp hb k1 k2 k3 (by rw [e1]; exact hce) hcv hcl T' rfl X'
    exact ⟨t2, st.trans a1, b1⟩
theorem vx_calll {S SX : Type} {post : Int64 → S → Prop} {px : SX → Prop} {B : S → State → Prop} {BX : String → SX → State → Prop} {AX : Nat → Prop} (hr : vx_Run p l e R s m args below meth c H locs cells slots mc ms (F0 m pc ls st0) rest (va_Ql post B A1 a) (vx_X px BX AX) free) (hS : va_S A0 H0 H locs) (hA : ∀ q, q < H.size → A1 q → A0 q) (hf : ∀ q, free q → A0 q) (hAX : ∀ q, q < H.size → AX q → A0 q)
    (kx : ∀ (E : String) (ce : Cell) (q9 : Addr) (u : SX) (t : State) (H1 : Heap) (locs1 : List Loc), t.heap = H1 → s.vm.Alike t.vm → px u → BX E u t → H.size ≤ H1.size → (∀ q : Nat, q < H.size → ¬ AX q → H1[q]? = H[q]?) → va_S A0 H0 H1 locs1 → H1[q9]? = some ce → ce.vm = .none → s.vm.findClass E = some ce.cls → vx_W p l e R s m args below meth c H1 locs1 (cells + mc) (slots + ms) Q (F0 m pc ls rest) q9)
    (kk : ∀ (r : Int64) (u : S) (t : State) (H1 : Heap) (locs1 : List Loc), t.heap = H1 → s.vm.Alike t.vm → post r u → B u t → H.size ≤ H1.size → (∀ q : Nat, q < H.size → ¬ A1 q → H1[q]? = H[q]?) → va_S A0 H0 H1 locs1 → W p l e R s m args below meth c H1 locs1 (cells + mc) (slots + ms) Q (F0 m (pc + 3) ls (.long r :: rest))) : W p l e R s m args below meth c H locs cells slots Q (F0 m pc ls st0) := by
  intro T hT X
  rcases hr T hT X with ⟨v, st₀, t, T', L, h0, X', hL, e1, e2, ⟨⟨r, u, hv, hp, hb⟩, hF⟩, st⟩ | ⟨q, st₀, t, T', L, E, ce, h0, X', hL, e1, e2, ⟨u, hp, hb, hF⟩, hce, hcv, hcl, st⟩
  · cases hv
    obtain ⟨k1, k2, k3⟩ := vx_keep h0 e1 hS hA hf hL hF
    obtain ⟨t2, a1, b1⟩ := kk r u t T'.heap (locs ++ L) e1.symm (by rw [← e2]; exact X'.warmed.alike) hp hb k1 k2 k3 T' rfl X'
    exact ⟨t2, st t2 a1, b1⟩
  · obtain ⟨k1, k2, k3⟩ := vx_keep h0 e1 hS hAX hf hL hF
    obtain ⟨t2, a1, b1⟩ := kx E ce q u t T'.heap (locs ++ L) e1.symm (by rw [← e2]; exact X'.warmed.alike) hp hb k1 k2 k3 (by rw [e1]; exact hce) hcv hcl T' rfl X'
    exact ⟨t2, st.trans a1, b1⟩
theorem vx_callf {S SX : Type} {post : UInt32 → S → Prop} {px : SX → Prop} {B : S → State → Prop} {BX : String → SX → State → Prop} {AX : Nat → Prop} (hr : vx_Run p l e R s m args below meth c H locs cells slots mc ms (F0 m pc ls st0) rest (va_Qf post B A1 a) (vx_X px BX AX) free) (hS : va_S A0 H0 H locs) (hA : ∀ q, q < H.size → A1 q → A0 q) (hf : ∀ q, free q → A0 q) (hAX : ∀ q, q < H.size → AX q → A0 q)
    (kx : ∀ (E : String) (ce : Cell) (q9 : Addr) (u : SX) (t : State) (H1 : Heap) (locs1 : List Loc), t.heap = H1 → s.vm.Alike t.vm → px u → BX E u t → H.size ≤ H1.size → (∀ q : Nat, q < H.size → ¬ AX q → H1[q]? = H[q]?) → va_S A0 H0 H1 locs1 → H1[q9]? = some ce → ce.vm = .none → s.vm.findClass E = some ce.cls → vx_W p l e R s m args below meth c H1 locs1 (cells + mc) (slots + ms) Q (F0 m pc ls rest) q9)
    (kk : ∀ (r : UInt32) (u : S) (t : State) (H1 : Heap) (locs1 : List Loc), t.heap = H1 → s.vm.Alike t.vm → post r u → B u t → H.size ≤ H1.size → (∀ q : Nat, q < H.size → ¬ A1 q → H1[q]? = H[q]?) → va_S A0 H0 H1 locs1 → W p l e R s m args below meth c H1 locs1 (cells + mc) (slots + ms) Q (F0 m (pc + 3) ls (.float r :: rest))) : W p l e R s m args below meth c H locs cells slots Q (F0 m pc ls st0) := by
  intro T hT X
  rcases hr T hT X with ⟨v, st₀, t, T', L, h0, X', hL, e1, e2, ⟨⟨r, u, hv, hp, hb⟩, hF⟩, st⟩ | ⟨q, st₀, t, T', L, E, ce, h0, X', hL, e1, e2, ⟨u, hp, hb, hF⟩, hce, hcv, hcl, st⟩
  · cases hv
    obtain ⟨k1, k2, k3⟩ := vx_keep h0 e1 hS hA hf hL hF
    obtain ⟨t2, a1, b1⟩ := kk r u t T'.heap (locs ++ L) e1.symm (by rw [← e2]; exact X'.warmed.alike) hp hb k1 k2 k3 T' rfl X'
    exact ⟨t2, st t2 a1, b1⟩
  · obtain ⟨k1, k2, k3⟩ := vx_keep h0 e1 hS hAX hf hL hF
    obtain ⟨t2, a1, b1⟩ := kx E ce q u t T'.heap (locs ++ L) e1.symm (by rw [← e2]; exact X'.warmed.alike) hp hb k1 k2 k3 (by rw [e1]; exact hce) hcv hcl T' rfl X'
    exact ⟨t2, st.trans a1, b1⟩
theorem vx_calld {S SX : Type} {post : UInt64 → S → Prop} {px : SX → Prop} {B : S → State → Prop} {BX : String → SX → State → Prop} {AX : Nat → Prop} (hr : vx_Run p l e R s m args below meth c H locs cells slots mc ms (F0 m pc ls st0) rest (va_Qd post B A1 a) (vx_X px BX AX) free) (hS : va_S A0 H0 H locs) (hA : ∀ q, q < H.size → A1 q → A0 q) (hf : ∀ q, free q → A0 q) (hAX : ∀ q, q < H.size → AX q → A0 q)
    (kx : ∀ (E : String) (ce : Cell) (q9 : Addr) (u : SX) (t : State) (H1 : Heap) (locs1 : List Loc), t.heap = H1 → s.vm.Alike t.vm → px u → BX E u t → H.size ≤ H1.size → (∀ q : Nat, q < H.size → ¬ AX q → H1[q]? = H[q]?) → va_S A0 H0 H1 locs1 → H1[q9]? = some ce → ce.vm = .none → s.vm.findClass E = some ce.cls → vx_W p l e R s m args below meth c H1 locs1 (cells + mc) (slots + ms) Q (F0 m pc ls rest) q9)
    (kk : ∀ (r : UInt64) (u : S) (t : State) (H1 : Heap) (locs1 : List Loc), t.heap = H1 → s.vm.Alike t.vm → post r u → B u t → H.size ≤ H1.size → (∀ q : Nat, q < H.size → ¬ A1 q → H1[q]? = H[q]?) → va_S A0 H0 H1 locs1 → W p l e R s m args below meth c H1 locs1 (cells + mc) (slots + ms) Q (F0 m (pc + 3) ls (.double r :: rest))) : W p l e R s m args below meth c H locs cells slots Q (F0 m pc ls st0) := by
  intro T hT X
  rcases hr T hT X with ⟨v, st₀, t, T', L, h0, X', hL, e1, e2, ⟨⟨r, u, hv, hp, hb⟩, hF⟩, st⟩ | ⟨q, st₀, t, T', L, E, ce, h0, X', hL, e1, e2, ⟨u, hp, hb, hF⟩, hce, hcv, hcl, st⟩
  · cases hv
    obtain ⟨k1, k2, k3⟩ := vx_keep h0 e1 hS hA hf hL hF
    obtain ⟨t2, a1, b1⟩ := kk r u t T'.heap (locs ++ L) e1.symm (by rw [← e2]; exact X'.warmed.alike) hp hb k1 k2 k3 T' rfl X'
    exact ⟨t2, st t2 a1, b1⟩
  · obtain ⟨k1, k2, k3⟩ := vx_keep h0 e1 hS hAX hf hL hF
    obtain ⟨t2, a1, b1⟩ := kx E ce q u t T'.heap (locs ++ L) e1.symm (by rw [← e2]; exact X'.warmed.alike) hp hb k1 k2 k3 (by rw [e1]; exact hce) hcv hcl T' rfl X'
    exact ⟨t2, st.trans a1, b1⟩
theorem vx_callv {S SX : Type} {post : S → Prop} {px : SX → Prop} {B : S → State → Prop} {BX : String → SX → State → Prop} {AX : Nat → Prop} (hr : vx_Run p l e R s m args below meth c H locs cells slots mc ms (F0 m pc ls st0) rest (va_Qv post B A1 a) (vx_X px BX AX) free) (hS : va_S A0 H0 H locs) (hA : ∀ q, q < H.size → A1 q → A0 q) (hf : ∀ q, free q → A0 q) (hAX : ∀ q, q < H.size → AX q → A0 q)
    (kx : ∀ (E : String) (ce : Cell) (q9 : Addr) (u : SX) (t : State) (H1 : Heap) (locs1 : List Loc), t.heap = H1 → s.vm.Alike t.vm → px u → BX E u t → H.size ≤ H1.size → (∀ q : Nat, q < H.size → ¬ AX q → H1[q]? = H[q]?) → va_S A0 H0 H1 locs1 → H1[q9]? = some ce → ce.vm = .none → s.vm.findClass E = some ce.cls → vx_W p l e R s m args below meth c H1 locs1 (cells + mc) (slots + ms) Q (F0 m pc ls rest) q9)
    (kk : ∀ (u : S) (t : State) (H1 : Heap) (locs1 : List Loc), t.heap = H1 → s.vm.Alike t.vm → post u → B u t → H.size ≤ H1.size → (∀ q : Nat, q < H.size → ¬ A1 q → H1[q]? = H[q]?) → va_S A0 H0 H1 locs1 → W p l e R s m args below meth c H1 locs1 (cells + mc) (slots + ms) Q (F0 m (pc + 3) ls (rest))) : W p l e R s m args below meth c H locs cells slots Q (F0 m pc ls st0) := by
  intro T hT X
  rcases hr T hT X with ⟨v, st₀, t, T', L, h0, X', hL, e1, e2, ⟨⟨u, hv, hp, hb⟩, hF⟩, st⟩ | ⟨q, st₀, t, T', L, E, ce, h0, X', hL, e1, e2, ⟨u, hp, hb, hF⟩, hce, hcv, hcl, st⟩
  · cases hv
    obtain ⟨k1, k2, k3⟩ := vx_keep h0 e1 hS hA hf hL hF
    obtain ⟨t2, a1, b1⟩ := kk u t T'.heap (locs ++ L) e1.symm (by rw [← e2]; exact X'.warmed.alike) hp hb k1 k2 k3 T' rfl X'
    exact ⟨t2, st t2 a1, b1⟩
  · obtain ⟨k1, k2, k3⟩ := vx_keep h0 e1 hS hAX hf hL hF
    obtain ⟨t2, a1, b1⟩ := kx E ce q u t T'.heap (locs ++ L) e1.symm (by rw [← e2]; exact X'.warmed.alike) hp hb k1 k2 k3 (by rw [e1]; exact hce) hcv hcl T' rfl X'
    exact ⟨t2, st.trans a1, b1⟩
/-- caught by the row x of this method's table; the rows ahead don't take it -/
theorem vx_catch {own name : String} {E : String} {ce : Cell} {q : Addr} (hown : s.vm.findClass own = some m.cls) (pre : List ExceptionTableEntry) (x : ExceptionTableEntry) (suf : List ExceptionTableEntry) (hsplit : c.exceptionTable.toList = pre ++ x :: suf)
    (hpass : ∀ z ∈ pre, covers z pc = false ∨ (z.catchType ≠ 0 ∧ ∃ nm : String, (Cond.classLink own z.catchType nm).before args s = true ∧ va_Nc E nm s)) (hx : covers x pc = true) (h0 : x.catchType ≠ 0)
    (hlink : (Cond.classLink own x.catchType name).before args s = true) (hcast : (Cond.castable E name).before args s = true) (hcell : H[q]? = some ce) (hv : ce.vm = .none) (hcl : s.vm.findClass E = some ce.cls)
    (kk : W p l e R s m args below meth c H locs cells slots Q (F0 m x.handlerPc ls [.ref q])) : vx_W p l e R s m args below meth c H locs cells slots Q (F0 m pc ls rest) q := by
  intro T hT X
  have hpl : e.platform.magicAccessors = ({} : Platform).magicAccessors := by rw [X.admits.platform]
  obtain ⟨c3, c4, hc3, hc4, hasg⟩ := Cond.castable_spec hcast
  cases Option.some.inj (hc3.symm.trans hcl)
  obtain ⟨c5, hc5, hcl5⟩ := Cond.classLink_spec hown hlink e.platform hpl
  cases Option.some.inj (hc4.symm.trans hc5)
  obtain ⟨vm', X', st⟩ := X.thenCaughtThrough q (g := F0 m pc ls rest) rfl (Steps.refl _) (by rw [hT]; exact hcell) (by rw [hv]; rfl) (by obtain ⟨k9, h9, -⟩ := Vm.findClass_spec hcl; exact ⟨k9, h9⟩) pre x suf hsplit
    (fun z hz => by
      rcases hpass z hz with h | ⟨hz0, nm, hl1, hn1⟩
      · exact Or.inl h
      · obtain ⟨c6, hc6, hcl6⟩ := Cond.classLink_spec hown hl1 e.platform hpl
        obtain ⟨a8, b8, h1, h2, h3⟩ := hn1
        cases Option.some.inj (h1.symm.trans hcl)
        cases Option.some.inj (h2.symm.trans hc6)
        exact Or.inr ⟨hz0, _, hcl6, h3⟩) hx (Or.inr ⟨h0, c4, hcl5, hasg⟩)
  obtain ⟨t, a1, b1⟩ := kk (T.setVm vm') hT X'
  exact ⟨t, st.trans a1, b1⟩
end Rows
section Ends
variable {p : Program} {l : Launch} {e : Env} {R : Room} {s : State} {m : MethodId} {args : Array Value} {below : List Frame} {meth : Method} {c : Code} {H : Heap} {locs : List Loc} {cells slots : Nat} {Q : State → Prop}
variable {mc ms : Nat} {free : Addr → Prop} {A0 A1 : Nat → Prop} {H0 : Heap} {a : Array Value} {ls : Array Slot} {st0 rest : List Value}
variable {Qc : Array Value → State → Outcome → State → Prop} {XC : String → State → State → Prop}
/-- what a body that may throw owes at its end -/
def vx_MQ (below : List Frame) (Qc : Array Value → State → Outcome → State → Prop) (XC : String → State → State → Prop) (a : Array Value) (s : State) (mc ms : Nat) (free : Addr → Prop) : State → Prop := fun t =>
  ∃ o, t.status = .running ∧ Ended t below o ∧ vx_Q Qc XC mc ms free a s o t
theorem vx_ret {g : JFrame} {mc ms : Nat} (k : W p l e R s m args below meth c H locs cells slots (MQ below Qc args s mc ms free) g) : W p l e R s m args below meth c H locs cells slots (vx_MQ below Qc XC args s mc ms free) g := by
  intro T hT X
  obtain ⟨t, a1, o, b1, b2, b3, b4⟩ := k T hT X
  exact ⟨t, a1, o, b1, b2, Or.inl ⟨b3, b4⟩⟩
/-- not caught here: it goes on to the caller -/
theorem vx_widen {g : JFrame} {q : Addr} {k n : Nat} (h1 : cells ≤ k) (h2 : slots ≤ n) (kk : vx_W p l e R s m args below meth c H locs k n Q g q) : vx_W p l e R s m args below meth c H locs cells slots Q g q := fun T hT X => kk T hT (stand_widen X h1 h2)
theorem vx_out {pc : Nat} {E : String} {ce : Cell} {q : Addr} {mc ms : Nat} (hout : ∀ x ∈ c.exceptionTable.toList, covers x pc = false) (hlocks : meth.locks = false) (hcell : H[q]? = some ce) (hv : ce.vm = .none) (hcl : s.vm.findClass E = some ce.cls)
    (hx : ∀ t : State, t.heap = H → s.vm.Alike t.vm → XC E s t) (hf : ∀ z ∈ locs, free z.base) (hc : cells ≤ mc) (hs : slots ≤ ms) :
    vx_W p l e R s m args below meth c H locs cells slots (vx_MQ below Qc XC args s mc ms free) (F0 m pc ls rest) q := by
  intro T hT X
  obtain ⟨st1, hrun, hend, hW, hsm⟩ := X.leaveThrown q (g := F0 m pc ls rest) rfl rfl rfl hout hlocks
  have hcell9 : (T.setFrames (.throwing q :: below)).heap[q]? = some ce := by
    show T.heap[q]? = some ce
    rw [hT]; exact hcell
  exact ⟨_, st1, .threw q, hrun, hend, Or.inr ⟨q, rfl, E, ce, locs, hx _ hT hW.alike, hcell9, hv, hcl, hW, hsm.mono hc hs, hf⟩⟩
theorem vx_frame {U : State} {k n : Nat} (h : s.sameButNew ({ U with vm := s.vm } : State) locs k n) : s.heap.size ≤ U.heap.size ∧ ∀ q : Nat, q < s.heap.size → (∀ z ∈ locs, z.base ≠ q) → U.heap[q]? = s.heap[q]? := by
  obtain ⟨-, h2, -, -, -, h6⟩ := h
  refine ⟨h2, fun q hq hz => ?_⟩
  obtain ⟨c9, e1, e2, e3, e4⟩ := h6 q _ (Array.getElem?_eq_getElem hq)
  have hs : c9.slots = (s.heap[q]).slots := Array.ext_getElem? fun i => e4 i fun hm => hz _ hm rfl
  have h9 : c9 = s.heap[q] := by
    rw [hs] at e2
    exact e2
  have e5 : U.heap[q]? = some c9 := e1
  rw [e5, h9, Array.getElem?_eq_getElem hq]
/-- the words of a throw but the four that speak of the heap -/
def vx_no (w : Cond) : Bool := decide (w ≠ .isRef (.static Bundle.tN "UNASSIGNED_STACK" Bundle.steD)) && decide (w ≠ .isRef (.static Bundle.tN "SUPPRESSED_SENTINEL" Bundle.listD)) && decide (w ≠ .laysStatic Bundle.tN "UNASSIGNED_STACK" Bundle.steD) && decide (w ≠ .laysStatic Bundle.tN "SUPPRESSED_SENTINEL" Bundle.listD)
def vx_at0 (own : String) (ic : Nat) (X : String) (names : List String) : List Cond := (Bundle.ownAtoms0 own ic X names).filter vx_no
def vx_atS (own : String) (ic : Nat) (X : String) (names : List String) : List Cond := (Bundle.ownAtoms own ic X names).filter vx_no
/-- a word that the tables alone decide, or a good one -/
def vx_ot (w : Cond) : Bool := w.onTables || goodWord w
theorem vx_ot_at {args a' : Array Value} {s U : State} {w : Cond} (hW : s.WarmedH U.vm) (hvm : s.vm = U.vm) (hg : vx_ot w = true) (h : w.before args s = true) : w.before a' U = true := by
  simp only [vx_ot, Bool.or_eq_true] at hg
  rcases hg with hg | hg
  · exact va_tabs hg hvm h
  · exact word_at hW (good_of_word hg) h
/-- a list's words: the good ones out of the method's own list, the others by premises of their own -/
theorem vx_hat {args : Array Value} {s : State} {L B : List Cond} (h1 : ∀ w ∈ L.filter goodWord, w.before args s = true) (h2 : ∀ w ∈ L.filter (fun w => !goodWord w), w ∈ B) (h3 : ∀ w ∈ B, w.before args s = true) : ∀ w ∈ L, w.before args s = true := by
  intro w hw
  by_cases g : goodWord w = true
  · exact h1 w (List.mem_filter.mpr ⟨hw, g⟩)
  · refine h3 w (h2 w (List.mem_filter.mpr ⟨hw, ?_⟩))
    show (!goodWord w) = true
    cases hgw : goodWord w
    · rfl
    · exact absurd hgw g
theorem vx_c {args : Array Value} {s : State} {w : Cond} {B : List Cond} (h : w.before args s = true) (t : ∀ w ∈ B, w.before args s = true) : ∀ w' ∈ w :: B, w'.before args s = true := fun w' h' => (List.mem_cons.mp h').elim (fun e => by rw [e]; exact h) (t w')
theorem vx_n {args : Array Value} {s : State} : ∀ w ∈ ([] : List Cond), w.before args s = true := fun _ h => nomatch h
theorem vx_own {args : Array Value} {s : State} {L : List Cond} (h1 : ∀ w ∈ L.filter vx_no, w.before args s = true)
    (hU : (Cond.isRef (.static Bundle.tN "UNASSIGNED_STACK" Bundle.steD)).before args s = true) (hN : (Cond.isRef (.static Bundle.tN "SUPPRESSED_SENTINEL" Bundle.listD)).before args s = true)
    (lU : (Cond.laysStatic Bundle.tN "UNASSIGNED_STACK" Bundle.steD).before args s = true) (lN : (Cond.laysStatic Bundle.tN "SUPPRESSED_SENTINEL" Bundle.listD).before args s = true) : ∀ w ∈ L, w.before args s = true := by
  intro w hw
  by_cases e1 : w = .isRef (.static Bundle.tN "UNASSIGNED_STACK" Bundle.steD)
  · rw [e1]; exact hU
  · by_cases e2 : w = .isRef (.static Bundle.tN "SUPPRESSED_SENTINEL" Bundle.listD)
    · rw [e2]; exact hN
    · by_cases e3 : w = .laysStatic Bundle.tN "UNASSIGNED_STACK" Bundle.steD
      · rw [e3]; exact lU
      · by_cases e4 : w = .laysStatic Bundle.tN "SUPPRESSED_SENTINEL" Bundle.listD
        · rw [e4]; exact lN
        · exact h1 w (List.mem_filter.mpr ⟨hw, by unfold vx_no; rw [decide_eq_true e1, decide_eq_true e2, decide_eq_true e3, decide_eq_true e4]; rfl⟩)
/-- where a static field lies, its class's statics cell in H -/
def vx_L (C n d : String) (A : Nat → Prop) (U : State) (H : Heap) : Prop := ∃ (c : ClassId) (k : Class) (i : Nat) (f : Field) (a : Nat) (cell : Cell), U.vm.findClass C = some c ∧ U.fieldFound? C n d = some (c, k, i, f) ∧ f.isStatic = true ∧ k.statics = some a ∧ H[a]? = some cell ∧ cell.vm.isStatics = true ∧ cell.cls = c ∧ f.slot < cell.slots.size ∧ k.staticTypes[f.slot]? = some f.type ∧ ¬ A a
theorem vx_L.moved {C n d : String} {A : Nat → Prop} {u U : State} {H : Heap} (hvm : u.vm.Alike U.vm) (h : vx_L C n d A u H) : vx_L C n d A U H := by
  obtain ⟨c, k, i, f, a, cell, h1, h2, h3, h4, h5, h6, h7, h8, h9, h10⟩ := h
  obtain ⟨k', hi', he⟩ := State.fieldFound?_setVm hvm h2
  exact ⟨c, k', i, f, a, cell, by rw [hvm.findClass]; exact h1, hi', h3, by rw [he]; exact h4, h5, h6, h7, h8, by rw [he]; exact h9, h10⟩
theorem vx_L.kept {C n d : String} {A : Nat → Prop} {U : State} {H H1 : Heap} (h : vx_L C n d A U H) (hq : ∀ a : Nat, a < H.size → ¬ A a → H1[a]? = H[a]?) : vx_L C n d A U H1 := by
  obtain ⟨c, k, i, f, a, cell, h1, h2, h3, h4, h5, h6, h7, h8, h9, h10⟩ := h
  exact ⟨c, k, i, f, a, cell, h1, h2, h3, h4, by rw [hq a (Array.getElem?_eq_some_iff.mp h5).1 h10]; exact h5, h6, h7, h8, h9, h10⟩
theorem vx_L.narrow {C n d : String} {A B : Nat → Prop} {U : State} {H : Heap} (h : vx_L C n d A U H) (hAB : ∀ q, B q → A q) : vx_L C n d B U H := by
  obtain ⟨c, k, i, f, a, cell, h1, h2, h3, h4, h5, h6, h7, h8, h9, h10⟩ := h
  exact ⟨c, k, i, f, a, cell, h1, h2, h3, h4, h5, h6, h7, h8, h9, fun z => h10 (hAB _ z)⟩
theorem vx_L.word {C n d : String} {A : Nat → Prop} {s : State} {args : Array Value} (h : vx_L C n d A s s.heap) : (Cond.laysStatic C n d).before args s = true := by
  obtain ⟨c, k, i, f, a, cell, h1, h2, h3, h4, h5, h6, h7, h8, h9, -⟩ := h
  show (Cond.laysStatic C n d).holds args s none s [] = true
  exact Cond.laysStatic_of h1 h2 h3 h4 h5 h6 h7 h8 h9
/-- .. and what it holds: null or some reference -/
def vx_Zq (C n d : String) (A : Nat → Prop) (U : State) (H : Heap) : Prop := va_Zq C n d A U H ∧ vx_L C n d A U H
theorem vx_Zq.moved {C n d : String} {A : Nat → Prop} {u U : State} {H : Heap} (hvm : u.vm.Alike U.vm) (h : vx_Zq C n d A u H) : vx_Zq C n d A U H := ⟨va_Zq.moved hvm h.1, vx_L.moved hvm h.2⟩
theorem vx_Zq.kept {C n d : String} {A : Nat → Prop} {U : State} {H H1 : Heap} (h : vx_Zq C n d A U H) (hq : ∀ a : Nat, a < H.size → ¬ A a → H1[a]? = H[a]?) : vx_Zq C n d A U H1 := ⟨va_Zq.kept h.1 hq, vx_L.kept h.2 hq⟩
theorem vx_Zq.narrow {C n d : String} {A B : Nat → Prop} {U : State} {H : Heap} (h : vx_Zq C n d A U H) (hAB : ∀ q, B q → A q) : vx_Zq C n d B U H := ⟨va_Zq.narrow h.1 hAB, vx_L.narrow h.2 hAB⟩
theorem vx_Zqof {args : Array Value} {s : State} {C n d : String} {A : Nat → Prop} (hl : (Cond.laysStatic C n d).before args s = true) (hini : (Cond.initialized C).before args s = true) (h : (Cond.isRef (.static C n d)).before args s = true) (hA : ∀ a : Nat, a < s.heap.size → ¬ A a) : vx_Zq C n d A s s.heap := by
  refine ⟨va_Zqof hl hini h hA, ?_⟩
  obtain ⟨c, k, i, f, a, cell, h1, h2, h3, h4, h5, h6, h7, h8, h9⟩ := Cond.laysStatic_spec hl
  exact ⟨c, k, i, f, a, cell, h1, h2, h3, h4, h5, h6, h7, h8, h9, hA a (Array.getElem?_eq_some_iff.mp h5).1⟩
theorem vx_isRef {C n d : String} {v : Value} {A : Nat → Prop} {s : State} {args : Array Value} (h : va_Z C n d v A s s.heap) (hv : v.isRef = true) : (Cond.isRef (.static C n d)).before args s = true := by
  obtain ⟨cf, kf, fi, f, a, cell, h1, h2, h3, h4, h5, h6, h7, -⟩ := h
  have he : (Term.static C n d).eval args s none [] s = some v := by
    simp [Term.eval, State.fieldNamed?, h1, h2, h4, h5, h6, h7]
  simp only [Cond.before, Cond.holds, Cond.value, he]
  cases v <;> simp_all [Value.isRef]
theorem vx_isRefq {C n d : String} {A : Nat → Prop} {s : State} {args : Array Value} (h : va_Zq C n d A s s.heap) : (Cond.isRef (.static C n d)).before args s = true := by
  rcases h with h | ⟨t, h⟩
  · exact vx_isRef h rfl
  · exact vx_isRef h rfl
/-- the same frame, seen from here: as if the method were called anew in this heap -/
theorem vx_rebase {T : State} (X : Stand p l e R s m args below meth c T locs cells slots) {R' : Room} (hf : R'.frames ≤ R.frames) (hl : R'.locals ≤ R.locals) (hc : cells + R'.cells ≤ R.cells) (hs : slots + R'.slots ≤ R.slots) :
    Stand p l e R' ((T.setVm s.vm).setFrames (.invoking m args :: below)) m args below meth c T [] 0 0 := by
  have htop : (T.setVm s.vm).topJava?.isSome := X.here.top
  have hF : ((T.setVm s.vm).setFrames (.invoking m args :: below)).frames = .invoking m args :: below := State.frames_setFrames _ (State.cur_lt_of_top htop)
  obtain ⟨g₀, hg0⟩ := Option.isSome_iff_exists.mp htop
  obtain ⟨r, hr⟩ := State.topJava?_eq_some.mp hg0
  have hl9 : e.platform.stackLimits (T.setVm s.vm).me = e.platform.stackLimits s.me := X.limits
  have hb9 : (T.setVm s.vm).me.stackBytes = s.me.stackBytes := X.bytes
  refine ⟨X.admits, X.cas, X.clock, hF, ?_, X.hears, X.method, X.code, X.here, X.tail, X.warmed, ?_, ?_, ?_⟩
  · have h := X.room
    have hU : ((T.setVm s.vm).setFrames (.invoking m args :: below)).localsInUse = s.localsInUse := by
      rw [State.localsInUse_invoking hF (meth := meth) (c := c) X.method X.code, State.localsInUse_invoking X.frames X.method X.code]
    simp only [State.hasRoom, Bool.and_eq_true, decide_eq_true_eq] at h ⊢
    obtain ⟨⟨⟨⟨h1, h2, h3, h4, h5, h6⟩, h7⟩, h8⟩, h9⟩ := h
    rw [X.frames, List.length_cons] at h2 h3
    have q1 := X.heapSize
    have q2 := X.used
    simp only [hF, hU, List.length_cons, State.stackLimits_setFrames, State.stackBytes_setFrames, hl9, hb9]
    refine ⟨⟨⟨⟨by omega, by omega, by omega, by omega, by omega, h6⟩, ?_⟩, ?_⟩, X.book⟩
    · show T.heap.size + R'.cells ≤ e.platform.maxCells
      omega
    · show T.slotsUsed + R'.slots ≤ e.platform.maxSlots
      omega
  · rw [State.stackLimits_setFrames]; rfl
  · rw [State.stackBytes_setFrames]; rfl
  · refine ⟨?_, Nat.le_refl _, Nat.le_refl _, ?_, ?_, fun a c9 h9 => ⟨c9, h9, rfl, rfl, fun _ _ => rfl⟩⟩
    · obtain ⟨t, ht, -⟩ := State.frames_cons hr
      show T.setVm s.vm = { ((T.setVm s.vm).setFrames (.invoking m args :: below)).setFrames (T.setVm s.vm).frames with heap := T.heap, slotsUsed := T.slotsUsed }
      rw [State.setFrames_setFrames, State.setFrames_self ht]
      rfl
    · show T.slotsUsed = T.slotsUsed + ((T.heap.toList.drop T.heap.size).map (·.slots.size)).sum
      rw [List.drop_eq_nil_of_le (Nat.le_of_eq Array.length_toList)]
      rfl
    · show ((T.heap.toList.drop T.heap.size).map (·.slots.size)).sum ≤ 0
      rw [List.drop_eq_nil_of_le (Nat.le_of_eq Array.length_toList)]
      exact Nat.le_refl _
/-- 'throw new E()': new; dup; invokespecial; athrow -/
theorem vx_throw0 {cc : ByteArray} {pc : Nat} (hexec : p.tables.exec = Jvm.exec) (hb : c.code = cc) (hl : l.stackTraces = false) {own cls : String} {names : List String} {ik ic mc ms : Nat} {A : Nat → Prop}
    (hown : s.vm.findClass own = some m.cls) (hcls : Bundle.fit cls = true) (hnames : ∀ n ∈ names, Bundle.fit n = true)
    (hk : (Cond.classLink own ik cls).before args s = true) (hini : (Cond.initialized cls).before args s = true) (hat : ∀ w ∈ vx_at0 own ic cls names, w.before args s = true)
    (hgood : ∀ w ∈ Cond.classLink own ik cls :: Cond.initialized cls :: vx_at0 own ic cls names, vx_ot w = true)
    (hU : vx_Zq Bundle.tN "UNASSIGNED_STACK" Bundle.steD A s s.heap) (hN : vx_Zq Bundle.tN "SUPPRESSED_SENTINEL" Bundle.listD A s s.heap) (hS : va_S A s.heap H locs) (hsize : ls.size = c.maxLocals)
    (d0 : decode cc pc = .ok (.new ik, 3)) (d3 : decode cc (pc + 3) = .ok (.dup, 1)) (d4 : decode cc (pc + 4) = .ok (.invokespecial ic, 3)) (d7 : decode cc (pc + 7) = .ok (.athrow, 1))
    (hout : ∀ x ∈ c.exceptionTable.toList, covers x (pc + 7) = false)
    (hRframes : names.length + 3 < R.frames) (hRlocals : (rest.map fun v => v.category).sum + (13 * (names.length + 1) + 42) ≤ R.locals) (hRcells : cells + 1 ≤ R.cells) (hRslots : slots + 6 ≤ R.slots) (hlocks : meth.locks = false)
    (hx : ∀ t : State, s.vm.Alike t.vm → H.size ≤ t.heap.size → (∀ q : Nat, q < H.size → t.heap[q]? = H[q]?) → XC cls s t)
    (hf : ∀ z ∈ locs, free z.base) (hc : cells + 1 ≤ mc) (hs : slots + 6 ≤ ms) :
    W p l e R s m args below meth c H locs cells slots (vx_MQ below Qc XC args s mc ms free) (F0 m pc ls rest) := by
  intro T hT X
  have htr : e.platform.stackTraces = false := (show e.platform.stackTraces = l.stackTraces by rw [X.admits.platform]).trans hl
  have Y := vx_rebase X (R' := { frames := R.frames, locals := R.locals, cells := 1, slots := 6 }) (Nat.le_refl _) (Nat.le_refl _) hRcells hRslots
  obtain ⟨s', hA⟩ : ∃ z, z = (T.setVm s.vm).setFrames (.invoking m args :: below) := ⟨_, rfl⟩
  rw [← hA] at Y
  have hvm : s'.vm = s.vm := by rw [hA]; rfl
  have hhp : s'.heap = H := by rw [hA]; exact hT
  have hW0 : s.WarmedH s'.vm := by rw [hvm]; exact State.WarmedH.refl s
  have hat' : ∀ w ∈ vx_at0 own ic cls names, w.before args s' = true := fun w hw => vx_ot_at hW0 hvm.symm (hgood w (List.mem_cons_of_mem _ (List.mem_cons_of_mem _ hw))) (hat w hw)
  have hk' : (Cond.classLink own ik cls).before args s' = true := vx_ot_at hW0 hvm.symm (hgood _ List.mem_cons_self) hk
  have hini' : (Cond.initialized cls).before args s' = true := vx_ot_at hW0 hvm.symm (hgood _ (List.mem_cons_of_mem _ List.mem_cons_self)) hini
  have hU' : vx_Zq Bundle.tN "UNASSIGNED_STACK" Bundle.steD A s' s'.heap := by rw [hhp]; exact vx_Zq.moved hW0.alike (hU.kept hS.2.1)
  have hN' : vx_Zq Bundle.tN "SUPPRESSED_SENTINEL" Bundle.listD A s' s'.heap := by rw [hhp]; exact vx_Zq.moved hW0.alike (hN.kept hS.2.1)
  have h : ∀ w ∈ Bundle.ownAtoms0 own ic cls names, w.before args s' = true := vx_own hat' (vx_isRefq hU'.1) (vx_isRefq hN'.1) hU'.2.word hN'.2.word
  have hown' : s'.vm.findClass own = some m.cls := by rw [hvm]; exact hown
  have hins : (Cond.instantiable cls 6).before args s' = true := h _ (by simp [Bundle.ownAtoms0])
  obtain ⟨vm₁, cX, kX, hfX, hkX, -, -, X₁, st1⟩ := Y.newCold hexec (own := own) (C := cls) (index := ik) (n := 6) hown' hk' hins hini'
    (g := F0 m pc ls rest) rfl (by rw [hb]; exact d0) (Nat.le_refl _) (Nat.le_refl _)
  generalize hT1 : (T.setVm vm₁).pushCell { cls := cX, slots := kX.instanceTypes.map defaultValue, vm := .none } = T1 at X₁ st1
  have hcat : (Value.ref T.heap.size).category = 1 := rfl
  have hcellA : T1.heap[T.heap.size]? = some (freshCell cX kX) := by rw [← hT1]; exact State.heap_pushCell_size _ _
  have d3' : decode c.code (pc + 3) = .ok (.dup, 1) := by rw [hb]; exact d3
  obtain ⟨U, hsteps, hrun, hend, hW, hsame, ce, hce, hO⟩ := X₁.ctorThrow0 hexec htr (own := own) (cls := cls) (names := names) (ic := ic) hown' hcls hnames h (fun x hx => nomatch hx) hfX hkX hcellA (by rw [hhp, hT]; exact Nat.le_refl _)
    (g := { method := m, pc := pc + 4, locals := ls, stack := .ref T.heap.size :: .ref T.heap.size :: rest, locked := none }) rfl hsize rfl rfl (rest := rest) rfl
    (by rw [hb]; exact d4) (by rw [hb]; exact d7) hout hRframes (by simp only [List.map_cons, List.sum_cons, hcat]; omega) hlocks
  obtain ⟨f1, f2⟩ := vx_frame hsame
  rw [hhp] at f1 f2
  have hWs : s.WarmedH U.vm := State.WarmedH.trans hW0 hW
  have hcl : s.vm.findClass cls = some ce.cls := by
    have h9 := hO.cls
    rw [hvm] at h9
    exact h9
  have hall : s.sameButNew ({ U with vm := s.vm } : State) locs mc ms := by
    subst hA
    obtain ⟨e1, e2⟩ := hsame
    rw [State.setFrames_setFrames] at e1
    have h2 : (T.setVm s.vm).sameButNew ({ U with vm := s.vm } : State) [] (0 + 1) (0 + 6) := ⟨e1, e2⟩
    have h3 := X.same.trans h2
    rw [List.append_nil] at h3
    exact h3.mono hc hs
  refine ⟨U, ?_, .threw T.heap.size, hrun, hend, Or.inr ⟨T.heap.size, rfl, cls, ce, locs, hx U hWs.alike f1 (fun q hq => f2 q hq (fun z hz => nomatch hz)), hce, hO.vm, hcl, hWs, hall, hf⟩⟩
  refine st1 _ ?_
  show Steps p.tables e below (T1.setTop { method := m, pc := pc + 3, locals := ls, stack := .ref T.heap.size :: rest, locked := none }) _
  jvm_step X₁.here [X₁.here.top, hexec, d3', Value.category]
  exact hsteps
/-- 'throw new E("text")': new; dup; ldc; invokespecial; athrow -/
theorem vx_throwS {cc : ByteArray} {pc : Nat} (hexec : p.tables.exec = Jvm.exec) (hb : c.code = cc) (hl : l.stackTraces = false) {own cls text : String} {names : List String} {ik is ic mc ms sa : Nat} {A : Nat → Prop}
    (hown : s.vm.findClass own = some m.cls) (hcls : Bundle.fit cls = true) (hnames : ∀ n ∈ names, Bundle.fit n = true)
    (hk : (Cond.classLink own ik cls).before args s = true) (hini : (Cond.initialized cls).before args s = true) (hstr : vk_R own is text sa s) (hat : ∀ w ∈ vx_atS own ic cls names, w.before args s = true)
    (hgood : ∀ w ∈ Cond.classLink own ik cls :: Cond.initialized cls :: vx_atS own ic cls names, vx_ot w = true)
    (hU : vx_Zq Bundle.tN "UNASSIGNED_STACK" Bundle.steD A s s.heap) (hN : vx_Zq Bundle.tN "SUPPRESSED_SENTINEL" Bundle.listD A s s.heap) (hS : va_S A s.heap H locs) (hsize : ls.size = c.maxLocals)
    (d0 : decode cc pc = .ok (.new ik, 3)) (d3 : decode cc (pc + 3) = .ok (.dup, 1)) (d4 : decode cc (pc + 4) = .ok (.ldc is, 2)) (d6 : decode cc (pc + 6) = .ok (.invokespecial ic, 3)) (d9 : decode cc (pc + 9) = .ok (.athrow, 1))
    (hout : ∀ x ∈ c.exceptionTable.toList, covers x (pc + 9) = false)
    (hRframes : names.length + 3 < R.frames) (hRlocals : (rest.map fun v => v.category).sum + (13 * (names.length + 1) + 43) ≤ R.locals) (hRcells : cells + 1 ≤ R.cells) (hRslots : slots + 6 ≤ R.slots) (hlocks : meth.locks = false)
    (hx : ∀ t : State, s.vm.Alike t.vm → H.size ≤ t.heap.size → (∀ q : Nat, q < H.size → t.heap[q]? = H[q]?) → XC cls s t)
    (hf : ∀ z ∈ locs, free z.base) (hc : cells + 1 ≤ mc) (hs : slots + 6 ≤ ms) :
    W p l e R s m args below meth c H locs cells slots (vx_MQ below Qc XC args s mc ms free) (F0 m pc ls rest) := by
  intro T hT X
  have htr : e.platform.stackTraces = false := (show e.platform.stackTraces = l.stackTraces by rw [X.admits.platform]).trans hl
  have Y := vx_rebase X (R' := { frames := R.frames, locals := R.locals, cells := 1, slots := 6 }) (Nat.le_refl _) (Nat.le_refl _) hRcells hRslots
  obtain ⟨s', hA⟩ : ∃ z, z = (T.setVm s.vm).setFrames (.invoking m args :: below) := ⟨_, rfl⟩
  rw [← hA] at Y
  have hvm : s'.vm = s.vm := by rw [hA]; rfl
  have hhp : s'.heap = H := by rw [hA]; exact hT
  have hW0 : s.WarmedH s'.vm := by rw [hvm]; exact State.WarmedH.refl s
  have hat' : ∀ w ∈ vx_atS own ic cls names, w.before args s' = true := fun w hw => vx_ot_at hW0 hvm.symm (hgood w (List.mem_cons_of_mem _ (List.mem_cons_of_mem _ hw))) (hat w hw)
  have hk' : (Cond.classLink own ik cls).before args s' = true := vx_ot_at hW0 hvm.symm (hgood _ List.mem_cons_self) hk
  have hini' : (Cond.initialized cls).before args s' = true := vx_ot_at hW0 hvm.symm (hgood _ (List.mem_cons_of_mem _ List.mem_cons_self)) hini
  have hU' : vx_Zq Bundle.tN "UNASSIGNED_STACK" Bundle.steD A s' s'.heap := by rw [hhp]; exact vx_Zq.moved hW0.alike (hU.kept hS.2.1)
  have hN' : vx_Zq Bundle.tN "SUPPRESSED_SENTINEL" Bundle.listD A s' s'.heap := by rw [hhp]; exact vx_Zq.moved hW0.alike (hN.kept hS.2.1)
  have h : ∀ w ∈ Bundle.ownAtoms own ic cls names, w.before args s' = true := vx_own hat' (vx_isRefq hU'.1) (vx_isRefq hN'.1) hU'.2.word hN'.2.word
  have hown' : s'.vm.findClass own = some m.cls := by rw [hvm]; exact hown
  have hins : (Cond.instantiable cls 6).before args s' = true := h _ (by simp [Bundle.ownAtoms])
  obtain ⟨vm₁, cX, kX, hfX, hkX, -, -, X₁, st1⟩ := Y.newCold hexec (own := own) (C := cls) (index := ik) (n := 6) hown' hk' hins hini'
    (g := F0 m pc ls rest) rfl (by rw [hb]; exact d0) (Nat.le_refl _) (Nat.le_refl _)
  generalize hT1 : (T.setVm vm₁).pushCell { cls := cX, slots := kX.instanceTypes.map defaultValue, vm := .none } = T1 at X₁ st1
  have hcat : (Value.ref T.heap.size).category = 1 := rfl
  have hcellA : T1.heap[T.heap.size]? = some (freshCell cX kX) := by rw [← hT1]; exact State.heap_pushCell_size _ _
  have d3' : decode c.code (pc + 3) = .ok (.dup, 1) := by rw [hb]; exact d3
  have d4' : decode c.code (pc + 4) = .ok (.ldc is, 2) := by rw [hb]; exact d4
  have hstr' : vk_R own is text sa s' := vk_R.warm hW0 hstr
  obtain ⟨U, hsteps, hrun, hend, hW, hsame, ce, hce, hO⟩ := X₁.ctorThrowS hexec htr (own := own) (cls := cls) (names := names) (ic := ic) hown' hcls hnames h (fun x hx => nomatch hx) hfX hkX hcellA (by rw [hhp, hT]; exact Nat.le_refl _) (msg := .ref sa) rfl
    (g := { method := m, pc := pc + 6, locals := ls, stack := .ref sa :: .ref T.heap.size :: .ref T.heap.size :: rest, locked := none }) rfl hsize rfl rfl (rest := rest) rfl
    (by rw [hb]; exact d6) (by rw [hb]; exact d9) hout hRframes (by simp only [List.map_cons, List.sum_cons, hcat]; omega) hlocks
  obtain ⟨f1, f2⟩ := vx_frame hsame
  rw [hhp] at f1 f2
  have hWs : s.WarmedH U.vm := State.WarmedH.trans hW0 hW
  have hcl : s.vm.findClass cls = some ce.cls := by
    have h9 := hO.cls
    rw [hvm] at h9
    exact h9
  have hall : s.sameButNew ({ U with vm := s.vm } : State) locs mc ms := by
    subst hA
    obtain ⟨e1, e2⟩ := hsame
    rw [State.setFrames_setFrames] at e1
    have h2 : (T.setVm s.vm).sameButNew ({ U with vm := s.vm } : State) [] (0 + 1) (0 + 6) := ⟨e1, e2⟩
    have h3 := X.same.trans h2
    rw [List.append_nil] at h3
    exact h3.mono hc hs
  refine ⟨U, ?_, .threw T.heap.size, hrun, hend, Or.inr ⟨T.heap.size, rfl, cls, ce, locs, hx U hWs.alike f1 (fun q hq => f2 q hq (fun z hz => nomatch hz)), hce, hO.vm, hcl, hWs, hall, hf⟩⟩
  refine st1 _ ?_
  show Steps p.tables e below (T1.setTop { method := m, pc := pc + 3, locals := ls, stack := .ref T.heap.size :: rest, locked := none }) _
  jvm_step X₁.here [X₁.here.top, hexec, d3', Value.category]
  exact X₁.ldcString hexec (own := own) (text := text) (index := is) (a := sa) hown' hstr'.1 hstr'.2
    (g := { method := m, pc := pc + 4, locals := ls, stack := .ref T.heap.size :: .ref T.heap.size :: rest, locked := none }) rfl d4' _ hsteps
/-- 'throw new E("text")', the text by a wide index -/
theorem vx_throwSW {cc : ByteArray} {pc : Nat} (hexec : p.tables.exec = Jvm.exec) (hb : c.code = cc) (hl : l.stackTraces = false) {own cls text : String} {names : List String} {ik is ic mc ms sa : Nat} {A : Nat → Prop}
    (hown : s.vm.findClass own = some m.cls) (hcls : Bundle.fit cls = true) (hnames : ∀ n ∈ names, Bundle.fit n = true)
    (hk : (Cond.classLink own ik cls).before args s = true) (hini : (Cond.initialized cls).before args s = true) (hstr : vk_R own is text sa s) (hat : ∀ w ∈ vx_atS own ic cls names, w.before args s = true)
    (hgood : ∀ w ∈ Cond.classLink own ik cls :: Cond.initialized cls :: vx_atS own ic cls names, vx_ot w = true)
    (hU : vx_Zq Bundle.tN "UNASSIGNED_STACK" Bundle.steD A s s.heap) (hN : vx_Zq Bundle.tN "SUPPRESSED_SENTINEL" Bundle.listD A s s.heap) (hS : va_S A s.heap H locs) (hsize : ls.size = c.maxLocals)
    (d0 : decode cc pc = .ok (.new ik, 3)) (d3 : decode cc (pc + 3) = .ok (.dup, 1)) (d4 : decode cc (pc + 4) = .ok (.ldc_w is, 3)) (d7 : decode cc (pc + 7) = .ok (.invokespecial ic, 3)) (d10 : decode cc (pc + 10) = .ok (.athrow, 1))
    (hout : ∀ x ∈ c.exceptionTable.toList, covers x (pc + 10) = false)
    (hRframes : names.length + 3 < R.frames) (hRlocals : (rest.map fun v => v.category).sum + (13 * (names.length + 1) + 43) ≤ R.locals) (hRcells : cells + 1 ≤ R.cells) (hRslots : slots + 6 ≤ R.slots) (hlocks : meth.locks = false)
    (hx : ∀ t : State, s.vm.Alike t.vm → H.size ≤ t.heap.size → (∀ q : Nat, q < H.size → t.heap[q]? = H[q]?) → XC cls s t)
    (hf : ∀ z ∈ locs, free z.base) (hc : cells + 1 ≤ mc) (hs : slots + 6 ≤ ms) :
    W p l e R s m args below meth c H locs cells slots (vx_MQ below Qc XC args s mc ms free) (F0 m pc ls rest) := by
  intro T hT X
  have htr : e.platform.stackTraces = false := (show e.platform.stackTraces = l.stackTraces by rw [X.admits.platform]).trans hl
  have Y := vx_rebase X (R' := { frames := R.frames, locals := R.locals, cells := 1, slots := 6 }) (Nat.le_refl _) (Nat.le_refl _) hRcells hRslots
  obtain ⟨s', hA⟩ : ∃ z, z = (T.setVm s.vm).setFrames (.invoking m args :: below) := ⟨_, rfl⟩
  rw [← hA] at Y
  have hvm : s'.vm = s.vm := by rw [hA]; rfl
  have hhp : s'.heap = H := by rw [hA]; exact hT
  have hW0 : s.WarmedH s'.vm := by rw [hvm]; exact State.WarmedH.refl s
  have hat' : ∀ w ∈ vx_atS own ic cls names, w.before args s' = true := fun w hw => vx_ot_at hW0 hvm.symm (hgood w (List.mem_cons_of_mem _ (List.mem_cons_of_mem _ hw))) (hat w hw)
  have hk' : (Cond.classLink own ik cls).before args s' = true := vx_ot_at hW0 hvm.symm (hgood _ List.mem_cons_self) hk
  have hini' : (Cond.initialized cls).before args s' = true := vx_ot_at hW0 hvm.symm (hgood _ (List.mem_cons_of_mem _ List.mem_cons_self)) hini
  have hU' : vx_Zq Bundle.tN "UNASSIGNED_STACK" Bundle.steD A s' s'.heap := by rw [hhp]; exact vx_Zq.moved hW0.alike (hU.kept hS.2.1)
  have hN' : vx_Zq Bundle.tN "SUPPRESSED_SENTINEL" Bundle.listD A s' s'.heap := by rw [hhp]; exact vx_Zq.moved hW0.alike (hN.kept hS.2.1)
  have h : ∀ w ∈ Bundle.ownAtoms own ic cls names, w.before args s' = true := vx_own hat' (vx_isRefq hU'.1) (vx_isRefq hN'.1) hU'.2.word hN'.2.word
  have hown' : s'.vm.findClass own = some m.cls := by rw [hvm]; exact hown
  have hins : (Cond.instantiable cls 6).before args s' = true := h _ (by simp [Bundle.ownAtoms])
  obtain ⟨vm₁, cX, kX, hfX, hkX, -, -, X₁, st1⟩ := Y.newCold hexec (own := own) (C := cls) (index := ik) (n := 6) hown' hk' hins hini'
    (g := F0 m pc ls rest) rfl (by rw [hb]; exact d0) (Nat.le_refl _) (Nat.le_refl _)
  generalize hT1 : (T.setVm vm₁).pushCell { cls := cX, slots := kX.instanceTypes.map defaultValue, vm := .none } = T1 at X₁ st1
  have hcat : (Value.ref T.heap.size).category = 1 := rfl
  have hcellA : T1.heap[T.heap.size]? = some (freshCell cX kX) := by rw [← hT1]; exact State.heap_pushCell_size _ _
  have d3' : decode c.code (pc + 3) = .ok (.dup, 1) := by rw [hb]; exact d3
  have d4' : decode c.code (pc + 4) = .ok (.ldc_w is, 3) := by rw [hb]; exact d4
  have hstr' : vk_R own is text sa s' := vk_R.warm hW0 hstr
  obtain ⟨U, hsteps, hrun, hend, hW, hsame, ce, hce, hO⟩ := X₁.ctorThrowS hexec htr (own := own) (cls := cls) (names := names) (ic := ic) hown' hcls hnames h (fun x hx => nomatch hx) hfX hkX hcellA (by rw [hhp, hT]; exact Nat.le_refl _) (msg := .ref sa) rfl
    (g := { method := m, pc := pc + 7, locals := ls, stack := .ref sa :: .ref T.heap.size :: .ref T.heap.size :: rest, locked := none }) rfl hsize rfl rfl (rest := rest) rfl
    (by rw [hb]; exact d7) (by rw [hb]; exact d10) hout hRframes (by simp only [List.map_cons, List.sum_cons, hcat]; omega) hlocks
  obtain ⟨f1, f2⟩ := vx_frame hsame
  rw [hhp] at f1 f2
  have hWs : s.WarmedH U.vm := State.WarmedH.trans hW0 hW
  have hcl : s.vm.findClass cls = some ce.cls := by
    have h9 := hO.cls
    rw [hvm] at h9
    exact h9
  have hall : s.sameButNew ({ U with vm := s.vm } : State) locs mc ms := by
    subst hA
    obtain ⟨e1, e2⟩ := hsame
    rw [State.setFrames_setFrames] at e1
    have h2 : (T.setVm s.vm).sameButNew ({ U with vm := s.vm } : State) [] (0 + 1) (0 + 6) := ⟨e1, e2⟩
    have h3 := X.same.trans h2
    rw [List.append_nil] at h3
    exact h3.mono hc hs
  refine ⟨U, ?_, .threw T.heap.size, hrun, hend, Or.inr ⟨T.heap.size, rfl, cls, ce, locs, hx U hWs.alike f1 (fun q hq => f2 q hq (fun z hz => nomatch hz)), hce, hO.vm, hcl, hWs, hall, hf⟩⟩
  refine st1 _ ?_
  show Steps p.tables e below (T1.setTop { method := m, pc := pc + 3, locals := ls, stack := .ref T.heap.size :: rest, locked := none }) _
  jvm_step X₁.here [X₁.here.top, hexec, d3', Value.category]
  exact X₁.ldcStringW hexec (own := own) (text := text) (index := is) (a := sa) hown' hstr'.1 hstr'.2
    (g := { method := m, pc := pc + 4, locals := ls, stack := .ref T.heap.size :: .ref T.heap.size :: rest, locked := none }) rfl d4' _ hsteps
end Ends
section Bodies
variable {l : Launch}
theorem vx_ofW {y : MethodName} {ws ws' : List Cond} {rm : Room} {Pc : Array Value → State → Prop} {Qc : Array Value → State → Outcome → State → Prop} {XC : String → State → State → Prop} {mc ms : Nat} {free : Addr → Prop} {cc : ByteArray} {maxL : Nat} {ret : Option FieldType}
    (hy : plainName y.cls = true) (hw : ws = Cond.code y cc maxL ret :: ws')
    (body : ∀ p e s m args below meth c s₁, BodyLoose p l y (headSpec ws rm) cc maxL ret e s m args below meth c s₁ → c.maxLocals = maxL → (∀ x ∈ c.exceptionTable.toList, False) → Pc args s →
      W p l e (headSpec ws rm).room s m args below meth c s.heap [] 0 0 (vx_MQ below Qc XC args s mc ms free) (entryFrame m args maxL)) : vx_Met l y ws rm Pc Qc XC mc ms free := by
  refine MetFree.of_bodyS (code := cc) (maxLocals := maxL) (ret := ret) hy ?_ ?_
  · intro args s m h hn
    obtain ⟨meth, c, h1, h2, h3, h4, h5, h6, -, -⟩ := Cond.code_spec hn (atoms_spec (ws := ws) h _ (by rw [hw]; exact List.mem_cons_self))
    exact ⟨meth, c, h1, h2, h3, h4, h5, h6⟩
  · intro p e s m args below meth c s₁ B hml hP _
    have hh0 : s₁.heap = s.heap := by rw [B.state]; rfl
    have ht : ∀ x ∈ c.exceptionTable.toList, False := by
      obtain ⟨meth9, c9, h1, h2, -, -, -, -, h7, -⟩ := Cond.code_spec B.named (atoms_spec (ws := ws) B.pre _ (by rw [hw]; exact List.mem_cons_self))
      cases Option.some.inj (h1.symm.trans B.method)
      cases Option.some.inj (h2.symm.trans (Stand.of_body B).code)
      intro x hx
      rw [Array.isEmpty_iff.mp h7] at hx
      cases hx
    obtain ⟨t, a1, o, b1, b2, b3⟩ := body p e s m args below meth c s₁ B hml ht hP s₁ hh0 (Stand.of_body B)
    exact ⟨t, o, a1, b1, b2, b3⟩
/-- the table of a body with handlers -/
theorem vx_table {p : Program} {x y : MethodName} {S : Spec} {cc bytes : ByteArray} {maxL maxL' : Nat} {ret ret' : Option FieldType} {e : Env} {s s₁ : State} {m : MethodId} {args : Array Value} {below : List Frame} {meth : Method} {c : Code} {hh : List (Nat × Nat × Nat × Nat)}
    (B : BodyLoose p l y S cc maxL ret e s m args below meth c s₁) (h : (Cond.codeWith y bytes maxL' ret' hh).before args s = true) : c.exceptionTable.toList = tableOf hh := by
  obtain ⟨m9, meth9, c9, hn9, h1, h2, -, -, h6, -⟩ := Cond.codeWith_spec h
  cases Option.some.inj (hn9.symm.trans B.named)
  cases Option.some.inj (h1.symm.trans B.method)
  cases Option.some.inj (h2.symm.trans (Stand.of_body B).code)
  rw [← h6, table_eq]
end Bodies
end VXA
/-! ===== END ===== -/
/-! ===== BEGIN a static call of a method with an exception table ===== -/
section VXS
variable {p : Program} {l : Launch} {e : Env} {R : Room} {s : State} {m : MethodId} {args : Array Value} {below : List Frame} {meth : Method} {c : Code} {T : State} {H : Heap} {locs : List Loc} {cells slots : Nat}
abbrev vx_CSW (R : Room) (s : State) (args : Array Value) (own : String) (index : Nat) (y : MethodName) (bytes : ByteArray) (maxL : Nat) (ret : Option FieldType) (hh : List (Nat × Nat × Nat × Nat)) (ws : List Cond) (rm : Room) (mc ms n : Nat) : Prop :=
  (rm.cells = mc ∧ rm.slots = ms ∧ rm.frames + 1 ≤ R.frames ∧ 8 + (maxL + 11) + rm.locals ≤ R.locals ∧ (∀ w ∈ ws, ∀ (a' : Array Value) (U : State), s.WarmedH U.vm → w.before a' U = true) ∧ Cond.codeWith y bytes maxL ret hh ∈ ws) ∧
  (Cond.codeWith y bytes maxL ret hh).before args s = true ∧ (Cond.initialized y.cls).before args s = true ∧ (y.cls ≠ "java/lang/invoke/MethodHandle" ∧ y.cls ≠ "java/lang/invoke/VarHandle") ∧
  (∀ sig, parseMethodDescriptor y.desc = some sig → n = sig.parameters.length) ∧ (Cond.methodLink own index y).before args s = true ∧ (Cond.static y).before args s = true
theorem vx_cwSW {own : String} {index maxL mc ms : Nat} {y : MethodName} {bytes : ByteArray} {ret : Option FieldType} {hh : List (Nat × Nat × Nat × Nat)} {Ts ws ws' : List Cond} {rm : Room} (n : Nat) (ht : ∀ w ∈ Ts, w.before args s = true) (hT : GoodIn Ts (va_wsS own index y ws)) (hw : ws = Cond.codeWith y bytes maxL ret hh :: ws') (hrc : rm.cells = mc) (hrs : rm.slots = ms)
    (hd : y.cls ≠ "java/lang/invoke/MethodHandle" ∧ y.cls ≠ "java/lang/invoke/VarHandle" ∧ (parseMethodDescriptor y.desc).map (fun d => d.parameters.length) = some n) (hR : rm.frames + 1 ≤ R.frames ∧ 8 + (maxL + 11) + rm.locals ≤ R.locals) :
    vx_CSW R s args own index y bytes maxL ret hh ws rm mc ms n := by
  have ok : ∀ w ∈ va_wsS own index y ws, w.before args s = true := fun w h => ht w (hT w h).1
  have hG : GoodIn Ts ws := fun w h => hT w (by unfold va_wsS; exact List.mem_append_right _ h)
  have hc : Cond.codeWith y bytes maxL ret hh ∈ ws := by rw [hw]; exact List.mem_cons_self
  refine ⟨⟨hrc, hrs, hR.1, hR.2, pay_in ht hG, hc⟩, ht _ (hG _ hc).1, ok _ (by simp [va_wsS]), ⟨hd.1, hd.2.1⟩, fun sig h => ?_, ok _ (by simp [va_wsS]), ok _ (by simp [va_wsS])⟩
  have h2 := hd.2.2
  rw [h] at h2
  exact (Option.some.inj h2).symm
theorem vx_callSW (X : Stand p l e R s m args below meth c T locs cells slots) (hexec : p.tables.exec = Jvm.exec) {own : String} {index : Nat} {y : MethodName} {bytes : ByteArray} {maxL : Nat} {ret : Option FieldType} {hh : List (Nat × Nat × Nat × Nat)}
    (hown : s.vm.findClass own = some m.cls) (hlink : (Cond.methodLink own index y).before args s = true) (hstat : (Cond.static y).before args s = true) (hinit : (Cond.initialized y.cls).before args s = true)
    (hcode : (Cond.codeWith y bytes maxL ret hh).before args s = true) (hy : y.cls ≠ "java/lang/invoke/MethodHandle" ∧ y.cls ≠ "java/lang/invoke/VarHandle")
    {W9 : Nat} {Pre : Pt → Array Value → Prop} {Post : Pt → Array Value → Option Value → Pt → Prop} (hK : Back l R p e below s args y 3 W9 Pre Post)
    {g : JFrame} (hg : g.method = m) (hsize : g.locals.size = c.maxLocals) {argsL rest : List Value} (hlen : ∀ sig, parseMethodDescriptor y.desc = some sig → argsL.length = sig.parameters.length)
    (hstack : g.stack = argsL.reverse ++ rest) (hW : 2 * g.monitorRoom + (rest.map fun v => v.category).sum ≤ W9) (hdg : decode c.code g.pc = .ok (.invokestatic index, 3))
    (hpre : ∀ vm₁, s.WarmedH vm₁ → Pre ⟨T.setVm vm₁, locs, cells, slots⟩ argsL.toArray) :
    ∃ (v : Option Value) (vm₁ : Vm) (B : Pt), s.WarmedH vm₁ ∧ Stand p l e R s m args below meth c B.U B.locs B.cells B.slots ∧ Post ⟨T.setVm vm₁, locs, cells, slots⟩ argsL.toArray v B ∧
      ∀ target, Steps p.tables e below (B.U.setTop { g with pc := g.pc + 3, stack := v.toList ++ rest }) target → Steps p.tables e below (T.setTop g) target := by
  obtain ⟨mk, methM, cM, hnamed, hmethM, -, -, -, -, -, -, hsigM⟩ := Cond.codeWith_spec hcode
  have hstatic : methM.isStatic = true := Cond.static_spec hnamed hmethM hstat
  obtain ⟨kP, hkP, -⟩ := className_of_methodNamed hnamed
  have hinitP : kP.init = .initialized := Cond.initialized_spec (findClass_of_methodNamed hnamed) hkP hinit
  obtain ⟨vm₁, X₁, hstep₁⟩ := X.invokestatic hexec hown hlink hnamed hmethM hstatic hkP hinitP hy (g := g) hg (argsL := argsL) (rest := rest) (hlen _ hsigM) hstack hdg
  obtain ⟨v, B, X', hpost, hsteps⟩ := hK m meth c ⟨T.setVm vm₁, locs, cells, slots⟩ { g with stack := rest } (.invokestatic index) mk argsL.toArray X₁ hg hsize hdg hW (X₁.named hnamed) (hpre vm₁ X₁.warmed)
  exact ⟨v, vm₁, B, X₁.warmed, X', hpost, fun target h => hstep₁ _ fun acts => by rw [doInvoke_state]; exact hsteps.trans h⟩
theorem vx_runSW {y : MethodName} {bytes cc : ByteArray} {maxL nL mc ms n index : Nat} {ret : Option FieldType} {hh : List (Nat × Nat × Nat × Nat)} {ws : List Cond} {rm : Room} {Pc : Array Value → State → Prop} {Qc : Array Value → State → Outcome → State → Prop} {free : Addr → Prop} {Ts : List Cond} {own : String} {As rest : List Value} {g : JFrame}
    (S : CallFix p m c cc nL s args Ts own) (hM : Met l y ws rm Pc Qc mc ms free) (cw : vx_CSW R s args own index y bytes maxL ret hh ws rm mc ms n) (hp : PreS s H Pc As)
    (hg : g.method = m) (hn : As.length = n) (hsize : g.locals.size = nL) (hstack : g.stack = As.reverse ++ rest) (hW : 2 * g.monitorRoom + (rest.map fun v => v.category).sum ≤ 8) (hdg : decode cc g.pc = .ok (.invokestatic index, 3)) (hf : cells + mc ≤ R.cells ∧ slots + ms ≤ R.slots) :
    va_Run p l e R s m args below meth c H locs cells slots mc ms g rest (Qc As.toArray) (free) := by
  obtain ⟨⟨hrc, hrs, hfr, hlo, hws, hcw⟩, hcode, hini, hy, hlen, hl, hstt⟩ := cw
  have hK : Back l R p e below s args y 3 8 (PreOf R mc ms Pc) (PostOf Qc mc ms free) := va_backW (hh := hh) (bytes := bytes) (maxL := maxL) (ret := ret) hM hp.1 hrc hrs hfr hlo hws hcw (fun a' U hW => word_at hW (Or.inl (by first | rfl | simp [Cond.onTables, Cond.keeps, Cond.steady])) hini)
  obtain ⟨hx, hb, hml, ho, -⟩ := S
  intro T hT X
  obtain ⟨v, vm₁, ⟨U', l2, c2, s2⟩, hW₁, X', ⟨g', mk, t, L, e1, e2, hq, h1, hL, h2, h3⟩, st⟩ := vx_callSW X hx (hh := hh) (bytes := bytes) (maxL := maxL) (ret := ret) ho hl hstt hini hcode hy hK hg (hsize.trans hml.symm) (argsL := As) (rest := rest) (fun sig h => hn.trans (hlen sig h)) hstack hW (by rw [hb]; exact hdg)
    (fun vm₁ hW₁ => ⟨hf.1, hf.2, hp.2 (T.setVm vm₁) hT hW₁⟩)
  dsimp only [Pt.U, Pt.locs, Pt.cells, Pt.slots] at X' e1 e2 h1 h2 h3 st
  subst h1; subst h2; subst h3
  exact ⟨v, (T.setVm vm₁).calling g' mk As.toArray, t, U', L, hT, X', hL, e1, e2, hq, st⟩
/-- not caught here, past rows that name other classes: it goes on to the caller -/
theorem vx_outP {p : Program} {l : Launch} {e : Env} {R : Room} {s : State} {m : MethodId} {args : Array Value} {below : List Frame} {meth : Method} {c : Code} {H : Heap} {locs : List Loc} {cells slots : Nat} {free : Addr → Prop} {ls : Array Slot} {rest : List Value} {Qc : Array Value → State → Outcome → State → Prop} {XC : String → State → State → Prop}
    {pc : Nat} {own E : String} {ce : Cell} {q : Addr} {mc ms : Nat} (hown : s.vm.findClass own = some m.cls) (hlocks : meth.locks = false)
    (hpass : ∀ z ∈ c.exceptionTable.toList, covers z pc = false ∨ (z.catchType ≠ 0 ∧ ∃ nm : String, (Cond.classLink own z.catchType nm).before args s = true ∧ va_Nc E nm s)) (hcell : H[q]? = some ce) (hv : ce.vm = .none) (hcl : s.vm.findClass E = some ce.cls)
    (hx : ∀ t : State, t.heap = H → s.vm.Alike t.vm → XC E s t) (hf : ∀ z ∈ locs, free z.base) (hc : cells ≤ mc) (hs : slots ≤ ms) :
    vx_W p l e R s m args below meth c H locs cells slots (vx_MQ below Qc XC args s mc ms free) (F0 m pc ls rest) q := by
  intro T hT X
  have hpl : e.platform.magicAccessors = ({} : Platform).magicAccessors := by rw [X.admits.platform]
  obtain ⟨vm', hW', X', st⟩ := X.outThrough hlocks q (g := F0 m pc ls rest) rfl rfl rfl (cell := ce) (by rw [hT]; exact hcell) (by rw [hv]; rfl)
    (by obtain ⟨k9, h9, -⟩ := Vm.findClass_spec hcl; exact ⟨k9, h9⟩) (fun z hz => by
      rcases hpass z hz with h | ⟨hz0, nm, hl1, hn1⟩
      · exact Or.inl h
      · obtain ⟨c6, hc6, hcl6⟩ := Cond.classLink_spec hown hl1 e.platform hpl
        obtain ⟨a8, b8, h1, h2, h3⟩ := hn1
        cases Option.some.inj (h1.symm.trans hcl)
        cases Option.some.inj (h2.symm.trans hc6)
        exact Or.inr ⟨hz0, _, hcl6, h3⟩)
  obtain ⟨g₀, hfr⟩ := X'.frames_eq
  have hcell9 : ((T.setVm vm').setFrames (.throwing q :: below)).heap[q]? = some ce := by
    show T.heap[q]? = some ce
    rw [hT]; exact hcell
  have hend : Ended ((T.setVm vm').setFrames (.throwing q :: below)) below (.threw q) := State.frames_setFrames _ (State.cur_lt_of_frames hfr)
  refine ⟨(T.setVm vm').setFrames (.throwing q :: below), ?_, .threw q, X'.here.running, hend, Or.inr ⟨q, rfl, E, ce, locs, hx _ hT (X'.ends _).1.alike, hcell9, hv, hcl, (X'.ends _).1, (X'.ends _).2.mono hc hs, hf⟩⟩
  rw [X.pushThrowing_eq]
  exact st
/-- a thing of a world lies in the heap -/
theorem vx_lt {D : va_G} {cl : List vw_C} {ws : va_W} {H1 : Heap} (h : va_P D cl ws H1) {k : Nat} {q : Nat × va_E} (hk : ws[k]? = some q) : q.1 < H1.size := (h k q hk).lt
end VXS
/-! ===== END ===== -/
/-! ===== BEGIN methods with a table of their own: called by a name, returning or throwing ===== -/
section VXH
/-! vx_backW, vx_callVX, vx_callSX, vx_callVW, vx_runVW, vx_runVX, vx_runSX, vx_ofWH follow the same proofs as their sisters above (Free/Laws.lean, Shelf42/LK1.lean); vx_outP calls Shelf42/NT130.lean (outThrough). -/
section
variable {l : Launch} {R : Room} {p : Program} {e : Env} {below : List Frame} {s : State} {sargs : Array Value} {y : MethodName} {len W9 : Nat}
theorem vx_backW {ws : List Cond} {rm : Room} {Pc : Array Value → State → Prop} {Qc : Array Value → State → Outcome → State → Prop} {XC : String → State → State → Prop} {mc ms : Nat} {free : Addr → Prop} {bytes : ByteArray} {maxL : Nat} {ret : Option FieldType} {hh : List (Nat × Nat × Nat × Nat)}
    (hM : vx_Met l y ws rm Pc Qc XC mc ms free) (hblind : FrameBlind Pc) (hrc : rm.cells = mc) (hrs : rm.slots = ms)
    (hframes : rm.frames + 1 ≤ R.frames) (hlocals : W9 + (maxL + 11) + rm.locals ≤ R.locals)
    (hws : ∀ w ∈ ws, ∀ a' U, s.WarmedH U.vm → w.before a' U = true) (hcode : Cond.codeWith y bytes maxL ret hh ∈ ws) (hinit : ∀ a' U, s.WarmedH U.vm → (Cond.initialized y.cls).before a' U = true) :
    vx_Back l R p e below s sargs y len W9 (PreOf R mc ms Pc) (PostOf Qc mc ms free) (vx_Post XC mc ms free) := by
  intro m meth c A g ig mk a X hg hsize hdg hW hn hp
  have h1 : (headSpec ws rm).pre.before a A.U = true := atoms_intro fun w hw => hws w hw _ _ X.warmed
  have h2 : (Cond.codeWith y bytes maxL ret hh).before a A.U = true := hws _ hcode _ _ X.warmed
  have h3 : (Cond.initialized y.cls).before a A.U = true := hinit _ _ X.warmed
  have h4 : A.cells + (headSpec ws rm).room.cells ≤ R.cells := by rw [show (headSpec ws rm).room.cells = mc from hrc]; exact hp.1
  have h5 : A.slots + (headSpec ws rm).room.slots ≤ R.slots := by rw [show (headSpec ws rm).room.slots = ms from hrs]; exact hp.2.1
  have hPc : Pc a (A.U.calling g mk a) := hblind _ _ _ _ hp.2.2
  obtain ⟨U, Ls, c0, s0⟩ := A
  dsimp only [Pt.U, Pt.locs, Pt.cells, Pt.slots] at h1 h2 h3 h4 h5 X hn hPc ⊢
  obtain ⟨m9, methY, cY, hn9, hmY, hcY, -, hlY, -⟩ := Cond.codeWith_spec h2
  cases Option.some.inj (hn9.symm.trans hn)
  obtain ⟨kY, hkY, -⟩ := className_of_methodNamed hn
  have hinitY : kY.init = .initialized := Cond.initialized_spec (findClass_of_methodNamed hn) hkY h3
  have h : At U g.method c below := by rw [hg]; exact X.here
  have hlocals9 : W9 + (maxL + 11) + (headSpec ws rm).room.locals ≤ R.locals := hlocals
  have happ : (headSpec ws rm).appliesLoose y e.platform (U.calling g mk a) = true :=
    Spec.appliesLoose_calling (g := g) h hdg hn hkY hinitY
      (X.room_calling (g := g) (R' := (headSpec ws rm).room) hsize hmY hcY hframes (by rw [hlY]; omega) h4 h5) h1
  obtain ⟨mid, hmid⟩ := h.above
  have hfr : (U.setTop g).frames = (.java g :: mid) ++ below := by rw [State.frames_setTop' g h.top, hmid]; rfl
  obtain ⟨o, s₂, hsteps, -, hend, hq⟩ := Steps.callFree hM p X.admits X.cas X.clock (acts := []) hfr happ hPc trivial
  have hq' : vx_Q Qc XC mc ms free a (U.calling g mk a) o s₂ := hq
  rw [State.frames_setTop' g h.top] at hend
  obtain ⟨g₀, hg0⟩ := Option.isSome_iff_exists.mp h.top
  obtain ⟨r, hr⟩ := State.topJava?_eq_some.mp hg0
  have hr' : (({ U with heap := s₂.heap, slotsUsed := s₂.slotsUsed } : State).setVm s₂.vm).frames = .java g₀ :: r := hr
  rcases hq' with ⟨hqc, L, hfe, hL⟩ | ⟨q, rfl, E, ce, L, hx, hce, hcv, hcl, hW₂, hsm, hL⟩
  · obtain ⟨⟨v, rfl⟩, hW₂, e2, q2, q3, q4, q5, q6⟩ := id hfe
    have e3 : s₂ = ({ (U.calling g mk a).setFrames s₂.frames with heap := s₂.heap, slotsUsed := s₂.slotsUsed } : State).setVm s₂.vm := by
      have : s₂ = ({ s₂ with vm := (U.calling g mk a).vm } : State).setVm s₂.vm := rfl
      rw [e2] at this
      exact this
    obtain ⟨c₂, i₂, len₂, hc₂, hd₂, hf₂⟩ := hend
    have hW' : U.WarmedH s₂.vm := hW₂
    have hcc : c₂ = c := by
      have h1 : s₂.code? g.method = U.code? g.method := by
        rw [State.code?_eq, State.code?_eq, hW'.alike.method?]
      exact Option.some.inj (hc₂.symm.trans (h1.trans h.code))
    subst hcc
    have hlen : len₂ = len := by rw [hdg] at hd₂; cases hd₂; rfl
    subst hlen
    have hs₂ : s₂ = (({ U with heap := s₂.heap, slotsUsed := s₂.slotsUsed } : State).setVm s₂.vm).setTop { g with pc := g.pc + len₂, stack := v.toList ++ g.stack } := by
      refine e3.trans ?_
      rw [hf₂, State.calling_eq h.top, State.setFrames_setFrames, State.setTop_of_frames _ hr', hr]
      rfl
    have hsame : U.sameButNew ({ U with heap := s₂.heap, slotsUsed := s₂.slotsUsed } : State) L mc ms := by
      refine ⟨?_, q2, q3, q4, q5, q6⟩
      obtain ⟨t, ht, -⟩ := State.frames_cons hr
      show ({ U with heap := s₂.heap, slotsUsed := s₂.slotsUsed } : State) = { U.setFrames U.frames with heap := s₂.heap, slotsUsed := s₂.slotsUsed }
      rw [State.setFrames_self ht]
    subst hg
    refine Or.inl ⟨v, ⟨(({ U with heap := s₂.heap, slotsUsed := s₂.slotsUsed } : State).setVm s₂.vm), Ls ++ L, c0 + mc, s0 + ms⟩,
      ⟨X.admits, X.cas, X.clock, X.frames, X.room, X.hears, X.method, X.code, (X.here.setHeapUsed s₂.heap s₂.slotsUsed).setVm hW'.alike, X.tail, State.WarmedH.trans X.warmed hW', X.limits, X.bytes, X.same.trans (hsame.setVm s.vm)⟩,
      ⟨g, mk, s₂, L, rfl, rfl, hqc, rfl, hL, rfl, rfl⟩, ?_⟩
    show Steps p.tables e below _ ((({ U with heap := s₂.heap, slotsUsed := s₂.slotsUsed } : State).setVm s₂.vm).setTop { g with pc := g.pc + len₂, stack := v.toList ++ g.stack })
    rw [← hs₂]
    exact hsteps
  · obtain ⟨e2, q2, q3, q4, q5, q6⟩ := id hsm
    have e3 : s₂ = ({ (U.calling g mk a).setFrames s₂.frames with heap := s₂.heap, slotsUsed := s₂.slotsUsed } : State).setVm s₂.vm := by
      have : s₂ = ({ s₂ with vm := (U.calling g mk a).vm } : State).setVm s₂.vm := rfl
      rw [e2] at this
      exact this
    have hf₂ : s₂.frames = .throwing q :: .java g :: U.frames.tail := hend
    have hW' : U.WarmedH s₂.vm := hW₂
    have hs₂ : s₂ = ((({ U with heap := s₂.heap, slotsUsed := s₂.slotsUsed } : State).setVm s₂.vm).setTop g).pushFrame (.throwing q) := by
      refine e3.trans ?_
      rw [hf₂, State.calling_eq h.top, State.setFrames_setFrames, State.pushFrame, State.frames_setTop _ hr', State.setTop_of_frames _ hr', State.setFrames_setFrames, hr]
      rfl
    have hsame : U.sameButNew ({ U with heap := s₂.heap, slotsUsed := s₂.slotsUsed } : State) L mc ms := by
      refine ⟨?_, q2, q3, q4, q5, q6⟩
      obtain ⟨t, ht, -⟩ := State.frames_cons hr
      show ({ U with heap := s₂.heap, slotsUsed := s₂.slotsUsed } : State) = { U.setFrames U.frames with heap := s₂.heap, slotsUsed := s₂.slotsUsed }
      rw [State.setFrames_self ht]
    subst hg
    refine Or.inr ⟨q, ⟨(({ U with heap := s₂.heap, slotsUsed := s₂.slotsUsed } : State).setVm s₂.vm), Ls ++ L, c0 + mc, s0 + ms⟩,
      ⟨X.admits, X.cas, X.clock, X.frames, X.room, X.hears, X.method, X.code, (X.here.setHeapUsed s₂.heap s₂.slotsUsed).setVm hW'.alike, X.tail, State.WarmedH.trans X.warmed hW', X.limits, X.bytes, X.same.trans (hsame.setVm s.vm)⟩,
      ⟨g, mk, s₂, L, E, ce, rfl, rfl, hx, hce, hcv, hcl, rfl, hL, rfl, rfl⟩, ?_⟩
    show Steps p.tables e below _ (((({ U with heap := s₂.heap, slotsUsed := s₂.slotsUsed } : State).setVm s₂.vm).setTop g).pushFrame (.throwing q))
    rw [← hs₂]
    exact hsteps
end
variable {p : Program} {l : Launch} {e : Env} {R : Room} {s : State} {m : MethodId} {args : Array Value} {below : List Frame} {meth : Method} {c : Code} {T : State} {H : Heap} {locs : List Loc} {cells slots : Nat}
theorem vx_callVX (X : Stand p l e R s m args below meth c T locs cells slots) (hexec : p.tables.exec = Jvm.exec) {own C : String} {index : Nat} {y : MethodName} {bytes : ByteArray} {maxL : Nat} {ret : Option FieldType} {hh : List (Nat × Nat × Nat × Nat)}
    (hown : s.vm.findClass own = some m.cls) (hlink : (Cond.methodLink own index y).before args s = true) (hinst : (Cond.instanceMethod y).before args s = true) (hsel : (Cond.selects C y y).before args s = true)
    (hcode : (Cond.codeWith y bytes maxL ret hh).before args s = true) (hy : y.cls ≠ "java/lang/invoke/MethodHandle" ∧ y.cls ≠ "java/lang/invoke/VarHandle")
    {W9 : Nat} {Pre : Pt → Array Value → Prop} {Post : Pt → Array Value → Option Value → Pt → Prop} {PostX : Pt → Array Value → Addr → Pt → Prop} (hK : vx_Back l R p e below s args y 3 W9 Pre Post PostX)
    {b : Addr} {cellB : Cell} (hcell : T.heap[b]? = some cellB) (hobj : cellB.vm.isStatics = false) (hcls : s.vm.findClass C = some cellB.cls)
    {g : JFrame} (hg : g.method = m) (hsize : g.locals.size = c.maxLocals) {argsL rest : List Value} (hlen : ∀ sig, parseMethodDescriptor y.desc = some sig → argsL.length = sig.parameters.length)
    (hstack : g.stack = argsL.reverse ++ .ref b :: rest) (hW : 2 * g.monitorRoom + (rest.map fun v => v.category).sum ≤ W9) (hdg : decode c.code g.pc = .ok (.invokevirtual index, 3))
    (hpre : ∀ vm₁, s.WarmedH vm₁ → Pre ⟨T.setVm vm₁, locs, cells, slots⟩ (Value.ref b :: argsL).toArray) :
    (∃ (v : Option Value) (vm₁ : Vm) (B : Pt), s.WarmedH vm₁ ∧ Stand p l e R s m args below meth c B.U B.locs B.cells B.slots ∧ Post ⟨T.setVm vm₁, locs, cells, slots⟩ (Value.ref b :: argsL).toArray v B ∧
      ∀ target, Steps p.tables e below (B.U.setTop { g with pc := g.pc + 3, stack := v.toList ++ rest }) target → Steps p.tables e below (T.setTop g) target) ∨
    (∃ (q : Addr) (vm₁ : Vm) (B : Pt), s.WarmedH vm₁ ∧ Stand p l e R s m args below meth c B.U B.locs B.cells B.slots ∧ PostX ⟨T.setVm vm₁, locs, cells, slots⟩ (Value.ref b :: argsL).toArray q B ∧
      Steps p.tables e below (T.setTop g) ((B.U.setTop { g with stack := rest }).pushFrame (.throwing q))) := by
  obtain ⟨mk, methM, hnamed, hmethM, hstM, habM⟩ := Cond.instanceMethod_spec hinst
  obtain ⟨m8, methM', cM, hn8, hmethM', -, -, -, -, -, -, hsigM⟩ := Cond.codeWith_spec hcode
  cases Option.some.inj (hn8.symm.trans hnamed)
  cases hmethM.symm.trans hmethM'
  obtain ⟨c2, r2, m2, q1, q2, q3, q4, kP, hkP, hkPi⟩ := Cond.selects_spec hsel
  cases hcls.symm.trans q1
  cases (State.methodFound?_of_named hnamed hy).symm.trans q2
  cases hnamed.symm.trans q3
  have hselP : selectMethod e.platform s.vm cellB.cls mk = .method mk := by rw [Launch.admits_selectMethod X.admits]; exact q4
  obtain ⟨vm₁, X₁, hstep₁⟩ := X.invokevirtual hexec hown hlink hnamed hmethM hstM hkP hkPi hy (a := b) (cell := cellB) hcell
    (fun z h => by rw [h] at hobj; cases hobj) hselP hmethM habM hkP hkPi (g := g) hg (argsL := argsL) (rest := rest) (hlen _ hsigM) hstack hdg
  rcases hK m meth c ⟨T.setVm vm₁, locs, cells, slots⟩ { g with stack := rest } (.invokevirtual index) mk (Value.ref b :: argsL).toArray X₁ hg hsize hdg hW (X₁.named hnamed) (hpre vm₁ X₁.warmed) with ⟨v, B, X', hpost, hsteps⟩ | ⟨q, B, X', hpost, hsteps⟩
  · exact Or.inl ⟨v, vm₁, B, X₁.warmed, X', hpost, fun target h => hstep₁ _ fun acts => by rw [doInvoke_state]; exact hsteps.trans h⟩
  · exact Or.inr ⟨q, vm₁, B, X₁.warmed, X', hpost, hstep₁ _ fun acts => by rw [doInvoke_state]; exact hsteps⟩
theorem vx_callSX (X : Stand p l e R s m args below meth c T locs cells slots) (hexec : p.tables.exec = Jvm.exec) {own : String} {index : Nat} {y : MethodName} {bytes : ByteArray} {maxL : Nat} {ret : Option FieldType} {hh : List (Nat × Nat × Nat × Nat)}
    (hown : s.vm.findClass own = some m.cls) (hlink : (Cond.methodLink own index y).before args s = true) (hstat : (Cond.static y).before args s = true) (hinit : (Cond.initialized y.cls).before args s = true)
    (hcode : (Cond.codeWith y bytes maxL ret hh).before args s = true) (hy : y.cls ≠ "java/lang/invoke/MethodHandle" ∧ y.cls ≠ "java/lang/invoke/VarHandle")
    {W9 : Nat} {Pre : Pt → Array Value → Prop} {Post : Pt → Array Value → Option Value → Pt → Prop} {PostX : Pt → Array Value → Addr → Pt → Prop} (hK : vx_Back l R p e below s args y 3 W9 Pre Post PostX)
    {g : JFrame} (hg : g.method = m) (hsize : g.locals.size = c.maxLocals) {argsL rest : List Value} (hlen : ∀ sig, parseMethodDescriptor y.desc = some sig → argsL.length = sig.parameters.length)
    (hstack : g.stack = argsL.reverse ++ rest) (hW : 2 * g.monitorRoom + (rest.map fun v => v.category).sum ≤ W9) (hdg : decode c.code g.pc = .ok (.invokestatic index, 3))
    (hpre : ∀ vm₁, s.WarmedH vm₁ → Pre ⟨T.setVm vm₁, locs, cells, slots⟩ argsL.toArray) :
    (∃ (v : Option Value) (vm₁ : Vm) (B : Pt), s.WarmedH vm₁ ∧ Stand p l e R s m args below meth c B.U B.locs B.cells B.slots ∧ Post ⟨T.setVm vm₁, locs, cells, slots⟩ argsL.toArray v B ∧
      ∀ target, Steps p.tables e below (B.U.setTop { g with pc := g.pc + 3, stack := v.toList ++ rest }) target → Steps p.tables e below (T.setTop g) target) ∨
    (∃ (q : Addr) (vm₁ : Vm) (B : Pt), s.WarmedH vm₁ ∧ Stand p l e R s m args below meth c B.U B.locs B.cells B.slots ∧ PostX ⟨T.setVm vm₁, locs, cells, slots⟩ argsL.toArray q B ∧
      Steps p.tables e below (T.setTop g) ((B.U.setTop { g with stack := rest }).pushFrame (.throwing q))) := by
  obtain ⟨mk, methM, cM, hnamed, hmethM, -, -, -, -, -, -, hsigM⟩ := Cond.codeWith_spec hcode
  have hstatic : methM.isStatic = true := Cond.static_spec hnamed hmethM hstat
  obtain ⟨kP, hkP, -⟩ := className_of_methodNamed hnamed
  have hinitP : kP.init = .initialized := Cond.initialized_spec (findClass_of_methodNamed hnamed) hkP hinit
  obtain ⟨vm₁, X₁, hstep₁⟩ := X.invokestatic hexec hown hlink hnamed hmethM hstatic hkP hinitP hy (g := g) hg (argsL := argsL) (rest := rest) (hlen _ hsigM) hstack hdg
  rcases hK m meth c ⟨T.setVm vm₁, locs, cells, slots⟩ { g with stack := rest } (.invokestatic index) mk argsL.toArray X₁ hg hsize hdg hW (X₁.named hnamed) (hpre vm₁ X₁.warmed) with ⟨v, B, X', hpost, hsteps⟩ | ⟨q, B, X', hpost, hsteps⟩
  · exact Or.inl ⟨v, vm₁, B, X₁.warmed, X', hpost, fun target h => hstep₁ _ fun acts => by rw [doInvoke_state]; exact hsteps.trans h⟩
  · exact Or.inr ⟨q, vm₁, B, X₁.warmed, X', hpost, hstep₁ _ fun acts => by rw [doInvoke_state]; exact hsteps⟩
theorem vx_callVW (X : Stand p l e R s m args below meth c T locs cells slots) (hexec : p.tables.exec = Jvm.exec) {own C : String} {index : Nat} {y : MethodName} {bytes : ByteArray} {maxL : Nat} {ret : Option FieldType} {hh : List (Nat × Nat × Nat × Nat)}
    (hown : s.vm.findClass own = some m.cls) (hlink : (Cond.methodLink own index y).before args s = true) (hinst : (Cond.instanceMethod y).before args s = true) (hsel : (Cond.selects C y y).before args s = true)
    (hcode : (Cond.codeWith y bytes maxL ret hh).before args s = true) (hy : y.cls ≠ "java/lang/invoke/MethodHandle" ∧ y.cls ≠ "java/lang/invoke/VarHandle")
    {W9 : Nat} {Pre : Pt → Array Value → Prop} {Post : Pt → Array Value → Option Value → Pt → Prop} (hK : Back l R p e below s args y 3 W9 Pre Post)
    {b : Addr} {cellB : Cell} (hcell : T.heap[b]? = some cellB) (hobj : cellB.vm.isStatics = false) (hcls : s.vm.findClass C = some cellB.cls)
    {g : JFrame} (hg : g.method = m) (hsize : g.locals.size = c.maxLocals) {argsL rest : List Value} (hlen : ∀ sig, parseMethodDescriptor y.desc = some sig → argsL.length = sig.parameters.length)
    (hstack : g.stack = argsL.reverse ++ .ref b :: rest) (hW : 2 * g.monitorRoom + (rest.map fun v => v.category).sum ≤ W9) (hdg : decode c.code g.pc = .ok (.invokevirtual index, 3))
    (hpre : ∀ vm₁, s.WarmedH vm₁ → Pre ⟨T.setVm vm₁, locs, cells, slots⟩ (Value.ref b :: argsL).toArray) :
    ∃ (v : Option Value) (vm₁ : Vm) (B : Pt), s.WarmedH vm₁ ∧ Stand p l e R s m args below meth c B.U B.locs B.cells B.slots ∧ Post ⟨T.setVm vm₁, locs, cells, slots⟩ (Value.ref b :: argsL).toArray v B ∧
      ∀ target, Steps p.tables e below (B.U.setTop { g with pc := g.pc + 3, stack := v.toList ++ rest }) target → Steps p.tables e below (T.setTop g) target := by
  obtain ⟨mk, methM, hnamed, hmethM, hstM, habM⟩ := Cond.instanceMethod_spec hinst
  obtain ⟨m8, methM', cM, hn8, hmethM', -, -, -, -, -, -, hsigM⟩ := Cond.codeWith_spec hcode
  cases Option.some.inj (hn8.symm.trans hnamed)
  cases hmethM.symm.trans hmethM'
  obtain ⟨c2, r2, m2, q1, q2, q3, q4, kP, hkP, hkPi⟩ := Cond.selects_spec hsel
  cases hcls.symm.trans q1
  cases (State.methodFound?_of_named hnamed hy).symm.trans q2
  cases hnamed.symm.trans q3
  have hselP : selectMethod e.platform s.vm cellB.cls mk = .method mk := by rw [Launch.admits_selectMethod X.admits]; exact q4
  obtain ⟨vm₁, X₁, hstep₁⟩ := X.invokevirtual hexec hown hlink hnamed hmethM hstM hkP hkPi hy (a := b) (cell := cellB) hcell
    (fun z h => by rw [h] at hobj; cases hobj) hselP hmethM habM hkP hkPi (g := g) hg (argsL := argsL) (rest := rest) (hlen _ hsigM) hstack hdg
  obtain ⟨v, B, X', hpost, hsteps⟩ := hK m meth c ⟨T.setVm vm₁, locs, cells, slots⟩ { g with stack := rest } (.invokevirtual index) mk (Value.ref b :: argsL).toArray X₁ hg hsize hdg hW (X₁.named hnamed) (hpre vm₁ X₁.warmed)
  exact ⟨v, vm₁, B, X₁.warmed, X', hpost, fun target h => hstep₁ _ fun acts => by rw [doInvoke_state]; exact hsteps.trans h⟩
abbrev vx_CVW (R : Room) (s : State) (args : Array Value) (own C : String) (index : Nat) (y : MethodName) (bytes : ByteArray) (maxL : Nat) (ret : Option FieldType) (hh : List (Nat × Nat × Nat × Nat)) (ws : List Cond) (rm : Room) (mc ms n : Nat) : Prop :=
  (rm.cells = mc ∧ rm.slots = ms ∧ rm.frames + 1 ≤ R.frames ∧ 8 + (maxL + 11) + rm.locals ≤ R.locals ∧ (∀ w ∈ ws, ∀ (a' : Array Value) (U : State), s.WarmedH U.vm → w.before a' U = true) ∧ Cond.codeWith y bytes maxL ret hh ∈ ws) ∧
  (Cond.codeWith y bytes maxL ret hh).before args s = true ∧ (Cond.initialized y.cls).before args s = true ∧ (y.cls ≠ "java/lang/invoke/MethodHandle" ∧ y.cls ≠ "java/lang/invoke/VarHandle") ∧
  (∀ sig, parseMethodDescriptor y.desc = some sig → n = sig.parameters.length) ∧ (Cond.methodLink own index y).before args s = true ∧ (Cond.instanceMethod y).before args s = true ∧ (Cond.selects C y y).before args s = true
theorem vx_cwVW {own C : String} {index maxL mc ms : Nat} {y : MethodName} {bytes : ByteArray} {ret : Option FieldType} {hh : List (Nat × Nat × Nat × Nat)} {Ts ws ws' : List Cond} {rm : Room} (n : Nat) (ht : ∀ w ∈ Ts, w.before args s = true) (hT : GoodIn Ts (wsV own index C y ws)) (hw : ws = Cond.codeWith y bytes maxL ret hh :: ws') (hrc : rm.cells = mc) (hrs : rm.slots = ms)
    (hd : y.cls = C ∧ y.cls ≠ "java/lang/invoke/MethodHandle" ∧ y.cls ≠ "java/lang/invoke/VarHandle" ∧ (parseMethodDescriptor y.desc).map (fun d => d.parameters.length) = some n) (hR : rm.frames + 1 ≤ R.frames ∧ 8 + (maxL + 11) + rm.locals ≤ R.locals) :
    vx_CVW R s args own C index y bytes maxL ret hh ws rm mc ms n := by
  obtain ⟨hC, hd⟩ := hd
  subst hC
  have ok : ∀ w ∈ wsV own index y.cls y ws, w.before args s = true := fun w h => ht w (hT w h).1
  have hG : GoodIn Ts ws := fun w h => hT w (by unfold wsV; exact List.mem_append_right _ h)
  have hc : Cond.codeWith y bytes maxL ret hh ∈ ws := by rw [hw]; exact List.mem_cons_self
  refine ⟨⟨hrc, hrs, hR.1, hR.2, pay_in ht hG, hc⟩, ht _ (hG _ hc).1, ok _ (by simp [wsV]), ⟨hd.1, hd.2.1⟩, fun sig h => ?_, ok _ (by simp [wsV]), ok _ (by simp [wsV]), ok _ (by simp [wsV])⟩
  have h2 := hd.2.2
  rw [h] at h2
  exact (Option.some.inj h2).symm
theorem vx_runVW {y : MethodName} {bytes cc : ByteArray} {maxL nL mc ms n index : Nat} {ret : Option FieldType} {hh : List (Nat × Nat × Nat × Nat)} {ws : List Cond} {rm : Room} {Pc : Array Value → State → Prop} {Qc : Array Value → State → Outcome → State → Prop} {free : Addr → Prop} {Ts : List Cond} {own C : String} {b : Addr} {As rest : List Value} {g : JFrame}
    (S : CallFix p m c cc nL s args Ts own) (hM : Met l y ws rm Pc Qc mc ms free) (cw : vx_CVW R s args own C index y bytes maxL ret hh ws rm mc ms n) (hp : PreV s H C b Pc As)
    (hg : g.method = m) (hn : As.length = n) (hsize : g.locals.size = nL) (hstack : g.stack = As.reverse ++ .ref b :: rest) (hW : 2 * g.monitorRoom + (rest.map fun v => v.category).sum ≤ 8) (hdg : decode cc g.pc = .ok (.invokevirtual index, 3)) (hf : cells + mc ≤ R.cells ∧ slots + ms ≤ R.slots) :
    va_Run p l e R s m args below meth c H locs cells slots mc ms g rest (Qc (Value.ref b :: As).toArray) free := by
  obtain ⟨⟨hrc, hrs, hfr, hlo, hws, hcw⟩, hcode, hini, hy, hlen, hl, hin, hse⟩ := cw
  have hK : Back l R p e below s args y 3 8 (PreOf R mc ms Pc) (PostOf Qc mc ms free) := va_backW (hh := hh) (bytes := bytes) (maxL := maxL) (ret := ret) hM hp.1 hrc hrs hfr hlo hws hcw (fun a' U hW => word_at hW (Or.inl (by first | rfl | simp [Cond.onTables, Cond.keeps, Cond.steady])) hini)
  obtain ⟨hx, hb, hml, ho, -⟩ := S
  obtain ⟨-, ⟨cellB, hcB, hoB, hclB⟩, hPc⟩ := hp
  intro T hT X
  obtain ⟨v, vm₁, ⟨U', l2, c2, s2⟩, hW₁, X', ⟨g', mk, t, L, e1, e2, hq, h1, hL, h2, h3⟩, st⟩ := vx_callVW X hx (C := C) (hh := hh) (bytes := bytes) (maxL := maxL) (ret := ret) ho hl hin hse hcode hy hK (by rw [hT]; exact hcB) hoB hclB hg (hsize.trans hml.symm) (argsL := As) (rest := rest) (fun sig h => hn.trans (hlen sig h)) hstack hW (by rw [hb]; exact hdg)
    (fun vm₁ hW₁ => ⟨hf.1, hf.2, hPc (T.setVm vm₁) hT hW₁⟩)
  dsimp only [Pt.U, Pt.locs, Pt.cells, Pt.slots] at X' e1 e2 h1 h2 h3 st
  subst h1; subst h2; subst h3
  exact ⟨v, (T.setVm vm₁).calling g' mk (Value.ref b :: As).toArray, t, U', L, hT, X', hL, e1, e2, hq, st⟩
section
variable {y : MethodName} {bytes cc : ByteArray} {maxL nL mc ms n index : Nat} {ret : Option FieldType} {ws : List Cond} {rm : Room} {Pc : Array Value → State → Prop} {Qc : Array Value → State → Outcome → State → Prop} {XC : String → State → State → Prop} {free : Addr → Prop} {Ts : List Cond} {own C : String} {b : Addr} {As rest : List Value} {g : JFrame}
theorem vx_runVX {hh : List (Nat × Nat × Nat × Nat)} (S : CallFix p m c cc nL s args Ts own) (hM : vx_Met l y ws rm Pc Qc XC mc ms free) (cw : vx_CVW R s args own C index y bytes maxL ret hh ws rm mc ms n) (hp : PreV s H C b Pc As)
    (hg : g.method = m) (hn : As.length = n) (hsize : g.locals.size = nL) (hstack : g.stack = As.reverse ++ .ref b :: rest) (hW : 2 * g.monitorRoom + (rest.map fun v => v.category).sum ≤ 8) (hdg : decode cc g.pc = .ok (.invokevirtual index, 3)) (hf : cells + mc ≤ R.cells ∧ slots + ms ≤ R.slots) :
    vx_Run p l e R s m args below meth c H locs cells slots mc ms g rest (Qc (Value.ref b :: As).toArray) XC free := by
  obtain ⟨⟨hrc, hrs, hfr, hlo, hws, hcw⟩, hcode, hini, hy, hlen, hl, hin, hse⟩ := cw
  have hK : vx_Back l R p e below s args y 3 8 (PreOf R mc ms Pc) (PostOf Qc mc ms free) (vx_Post XC mc ms free) := vx_backW (hh := hh) (bytes := bytes) (maxL := maxL) (ret := ret) hM hp.1 hrc hrs hfr hlo hws hcw (fun a' U hW => word_at hW (Or.inl (by first | rfl | simp [Cond.onTables, Cond.keeps, Cond.steady])) hini)
  obtain ⟨hx, hb, hml, ho, -⟩ := S
  obtain ⟨-, ⟨cellB, hcB, hoB, hclB⟩, hPc⟩ := hp
  intro T hT X
  rcases vx_callVX X hx (C := C) (hh := hh) (bytes := bytes) (maxL := maxL) (ret := ret) ho hl hin hse hcode hy hK (by rw [hT]; exact hcB) hoB hclB hg (hsize.trans hml.symm) (argsL := As) (rest := rest) (fun sig h => hn.trans (hlen sig h)) hstack hW (by rw [hb]; exact hdg)
    (fun vm₁ hW₁ => ⟨hf.1, hf.2, hPc (T.setVm vm₁) hT hW₁⟩) with ⟨v, vm₁, ⟨U', l2, c2, s2⟩, hW₁, X', ⟨g', mk, t, L, e1, e2, hq, h1, hL, h2, h3⟩, st⟩ | ⟨q, vm₁, ⟨U', l2, c2, s2⟩, hW₁, X', ⟨g', mk, t, L, E, ce, e1, e2, hq, hce, hcv, hcl, h1, hL, h2, h3⟩, st⟩
  · dsimp only [Pt.U, Pt.locs, Pt.cells, Pt.slots] at X' e1 e2 h1 h2 h3 st
    subst h1; subst h2; subst h3
    exact Or.inl ⟨v, (T.setVm vm₁).calling g' mk (Value.ref b :: As).toArray, t, U', L, hT, X', hL, e1, e2, hq, st⟩
  · dsimp only [Pt.U, Pt.locs, Pt.cells, Pt.slots] at X' e1 e2 h1 h2 h3 st hcl
    subst h1; subst h2; subst h3
    exact Or.inr ⟨q, (T.setVm vm₁).calling g' mk (Value.ref b :: As).toArray, t, U', L, E, ce, hT, X', hL, e1, e2, hq, hce, hcv, vx_cls hW₁ hcl, st⟩
theorem vx_runSX {hh : List (Nat × Nat × Nat × Nat)} (S : CallFix p m c cc nL s args Ts own) (hM : vx_Met l y ws rm Pc Qc XC mc ms free) (cw : vx_CSW R s args own index y bytes maxL ret hh ws rm mc ms n) (hp : PreS s H Pc As)
    (hg : g.method = m) (hn : As.length = n) (hsize : g.locals.size = nL) (hstack : g.stack = As.reverse ++ rest) (hW : 2 * g.monitorRoom + (rest.map fun v => v.category).sum ≤ 8) (hdg : decode cc g.pc = .ok (.invokestatic index, 3)) (hf : cells + mc ≤ R.cells ∧ slots + ms ≤ R.slots) :
    vx_Run p l e R s m args below meth c H locs cells slots mc ms g rest (Qc As.toArray) XC free := by
  obtain ⟨⟨hrc, hrs, hfr, hlo, hws, hcw⟩, hcode, hini, hy, hlen, hl, hstt⟩ := cw
  have hK : vx_Back l R p e below s args y 3 8 (PreOf R mc ms Pc) (PostOf Qc mc ms free) (vx_Post XC mc ms free) := vx_backW (hh := hh) (bytes := bytes) (maxL := maxL) (ret := ret) hM hp.1 hrc hrs hfr hlo hws hcw (fun a' U hW => word_at hW (Or.inl (by first | rfl | simp [Cond.onTables, Cond.keeps, Cond.steady])) hini)
  obtain ⟨hx, hb, hml, ho, -⟩ := S
  intro T hT X
  rcases vx_callSX X hx (hh := hh) (bytes := bytes) (maxL := maxL) (ret := ret) ho hl hstt hini hcode hy hK hg (hsize.trans hml.symm) (argsL := As) (rest := rest) (fun sig h => hn.trans (hlen sig h)) hstack hW (by rw [hb]; exact hdg)
    (fun vm₁ hW₁ => ⟨hf.1, hf.2, hp.2 (T.setVm vm₁) hT hW₁⟩) with ⟨v, vm₁, ⟨U', l2, c2, s2⟩, hW₁, X', ⟨g', mk, t, L, e1, e2, hq, h1, hL, h2, h3⟩, st⟩ | ⟨q, vm₁, ⟨U', l2, c2, s2⟩, hW₁, X', ⟨g', mk, t, L, E, ce, e1, e2, hq, hce, hcv, hcl, h1, hL, h2, h3⟩, st⟩
  · dsimp only [Pt.U, Pt.locs, Pt.cells, Pt.slots] at X' e1 e2 h1 h2 h3 st
    subst h1; subst h2; subst h3
    exact Or.inl ⟨v, (T.setVm vm₁).calling g' mk As.toArray, t, U', L, hT, X', hL, e1, e2, hq, st⟩
  · dsimp only [Pt.U, Pt.locs, Pt.cells, Pt.slots] at X' e1 e2 h1 h2 h3 st hcl
    subst h1; subst h2; subst h3
    exact Or.inr ⟨q, (T.setVm vm₁).calling g' mk As.toArray, t, U', L, E, ce, hT, X', hL, e1, e2, hq, hce, hcv, vx_cls hW₁ hcl, st⟩
end
end VXH
theorem vx_ofWH {l : Launch} {y : MethodName} {ws ws' : List Cond} {rm : Room} {Pc : Array Value → State → Prop} {Qc : Array Value → State → Outcome → State → Prop} {XC : String → State → State → Prop} {mc ms : Nat} {free : Addr → Prop} {cc : ByteArray} {maxL : Nat} {ret : Option FieldType} {hh : List (Nat × Nat × Nat × Nat)}
    (hy : plainName y.cls = true) (hw : ws = Cond.codeWith y cc maxL ret hh :: ws')
    (body : ∀ p e s m args below meth c s₁, BodyLoose p l y (headSpec ws rm) cc maxL ret e s m args below meth c s₁ → c.maxLocals = maxL → Pc args s →
      W p l e (headSpec ws rm).room s m args below meth c s.heap [] 0 0 (vx_MQ below Qc XC args s mc ms free) (entryFrame m args maxL)) : vx_Met l y ws rm Pc Qc XC mc ms free := by
  refine MetFree.of_bodyS (code := cc) (maxLocals := maxL) (ret := ret) hy ?_ ?_
  · intro args s m h hn
    obtain ⟨m9, meth, c, hn9, h1, h2, h3, h4, -, h5, h6, -⟩ := Cond.codeWith_spec (atoms_spec (ws := ws) h _ (by rw [hw]; exact List.mem_cons_self))
    cases hn.symm.trans hn9
    exact ⟨meth, c, h1, h2, h3, h4, h5, h6⟩
  · intro p e s m args below meth c s₁ B hml hP _
    have hh0 : s₁.heap = s.heap := by rw [B.state]; rfl
    obtain ⟨t, a1, o, b1, b2, b3⟩ := body p e s m args below meth c s₁ B hml hP s₁ hh0 (Stand.of_body B)
    exact ⟨t, o, a1, b1, b2, b3⟩
/-! ===== END ===== -/
end
section
def RX0 : String := "AreaPicker$AreaFinder"
def TX0 : u_T := fun k => match k with
  | 0 => ("AreaPicker$AreaFinder", "alike", "[Z", true)
  | 1 => ("AreaPicker$AreaFinder", "sides", "[I", true)
  | 2 => ("AreaPicker$AreaFinder", "joined", "[Z", true)
  | 3 => ("AreaPicker$AreaFinder", "area", "[Z", true)
  | 4 => ("AreaPicker$AreaFinder", "queue", "[I", true)
  | 5 => ("AreaPicker$AreaFinder", "queued", "I", false)
  | _ => ("AreaPicker$AreaFinder", "width", "I", false)
def tyX0 : Nat → FieldType := fun k => match k with
  | 0 => .array .boolean
  | 1 => .array .int
  | 2 => .array .boolean
  | 3 => .array .boolean
  | 4 => .array .int
  | 5 => .int
  | _ => .int
theorem nmX0 : ∀ a, a < 7 → ∀ b, b < 7 → a ≠ b → (TX0 a).2.1 ≠ (TX0 b).2.1 := by decide +kernel
theorem tyX0_ok : ∀ k, k < 7 → parseFieldDescriptor (TX0 k).2.2.1 = some (tyX0 k) := by decide +kernel
abbrev cX0_init : ByteArray := prog_2_method_1_code
def yX0_init : MethodName := ⟨RX0, "<init>", "()V"⟩
abbrev cX0_search : ByteArray := prog_2_method_2_code
def yX0_search : MethodName := ⟨RX0, "search", "([IIIII)I"⟩
abbrev cX0_leastReaching : ByteArray := prog_2_method_3_code
def yX0_leastReaching : MethodName := ⟨RX0, "leastReaching", "([IIIII)I"⟩
abbrev cX0_leastParting : ByteArray := prog_2_method_4_code
def yX0_leastParting : MethodName := ⟨RX0, "leastParting", "([IIII)I"⟩
abbrev cX0_parts : ByteArray := prog_2_method_5_code
def yX0_parts : MethodName := ⟨RX0, "parts", "([II)I"⟩
abbrev cX0_softLevels : ByteArray := prog_2_method_6_code
def yX0_softLevels : MethodName := ⟨RX0, "softLevels", "(I)[I"⟩
abbrev cX0_clear : ByteArray := prog_2_method_7_code
def yX0_clear : MethodName := ⟨RX0, "clear", "([Z)V"⟩
abbrev cX0_findAlike : ByteArray := prog_2_method_8_code
def yX0_findAlike : MethodName := ⟨RX0, "findAlike", "([IIII)I"⟩
abbrev cX0_flood : ByteArray := prog_2_method_9_code
def yX0_flood : MethodName := ⟨RX0, "flood", "([III)I"⟩
abbrev cX0_enter : ByteArray := prog_2_method_10_code
def yX0_enter : MethodName := ⟨RX0, "enter", "([ZI)V"⟩
abbrev cX0_spread : ByteArray := prog_2_method_11_code
def yX0_spread : MethodName := ⟨RX0, "spread", "(II)I"⟩
abbrev cX0_measureSquares : ByteArray := prog_2_method_12_code
def yX0_measureSquares : MethodName := ⟨RX0, "measureSquares", "()V"⟩
abbrev cX0_sideAt : ByteArray := prog_2_method_13_code
def yX0_sideAt : MethodName := ⟨RX0, "sideAt", "(II)I"⟩
abbrev cX0_liesInSquare : ByteArray := prog_2_method_14_code
def yX0_liesInSquare : MethodName := ⟨RX0, "liesInSquare", "(I)Z"⟩
abbrev cX0_joinSquaresOver : ByteArray := prog_2_method_15_code
def yX0_joinSquaresOver : MethodName := ⟨RX0, "joinSquaresOver", "(I)V"⟩
abbrev cX0_joinAround : ByteArray := prog_2_method_16_code
def yX0_joinAround : MethodName := ⟨RX0, "joinAround", "(I)V"⟩
abbrev cX0_join : ByteArray := prog_2_method_17_code
def yX0_join : MethodName := ⟨RX0, "join", "(II)V"⟩
abbrev cX0_coverSquares : ByteArray := prog_2_method_18_code
def yX0_coverSquares : MethodName := ⟨RX0, "coverSquares", "()I"⟩
abbrev cX0_coverSquare : ByteArray := prog_2_method_19_code
def yX0_coverSquare : MethodName := ⟨RX0, "coverSquare", "(I)V"⟩
abbrev cX0_addRing : ByteArray := prog_2_method_20_code
def yX0_addRing : MethodName := ⟨RX0, "addRing", "([III)V"⟩
abbrev cX0_touches : ByteArray := prog_2_method_21_code
def yX0_touches : MethodName := ⟨RX0, "touches", "([III)Z"⟩
def RX1 : String := "AreaPicker$Found"
def TX1 : u_T := fun k => match k with
  | 0 => ("AreaPicker$Found", "first", "I", true)
  | 1 => ("AreaPicker$Found", "likeness", "I", true)
  | 2 => ("AreaPicker$Found", "way", "I", true)
  | 3 => ("AreaPicker$Found", "gap", "I", true)
  | 4 => ("AreaPicker$Found", "softness", "I", true)
  | 5 => ("AreaPicker$Found", "width", "I", true)
  | _ => ("AreaPicker$Found", "levels", "[I", true)
def tyX1 : Nat → FieldType := fun k => match k with
  | 0 => .int
  | 1 => .int
  | 2 => .int
  | 3 => .int
  | 4 => .int
  | 5 => .int
  | _ => .array .int
theorem nmX1 : ∀ a, a < 7 → ∀ b, b < 7 → a ≠ b → (TX1 a).2.1 ≠ (TX1 b).2.1 := by decide +kernel
theorem tyX1_ok : ∀ k, k < 7 → parseFieldDescriptor (TX1 k).2.2.1 = some (tyX1 k) := by decide +kernel
abbrev cX1_init : ByteArray := prog_3_method_1_code
def yX1_init : MethodName := ⟨RX1, "<init>", "(IIIIII[I)V"⟩
def RX2 : String := "AreaPicker$History"
def TX2 : u_T := fun k => match k with
  | 0 => ("AreaPicker$History", "states", "[LAreaPicker$State;", true)
  | _ => ("AreaPicker$History", "kept", "I", false)
def tyX2 : Nat → FieldType := fun k => match k with
  | 0 => .array (.object "AreaPicker$State")
  | _ => .int
theorem nmX2 : ∀ a, a < 2 → ∀ b, b < 2 → a ≠ b → (TX2 a).2.1 ≠ (TX2 b).2.1 := by decide +kernel
theorem tyX2_ok : ∀ k, k < 2 → parseFieldDescriptor (TX2 k).2.2.1 = some (tyX2 k) := by decide +kernel
abbrev cX2_init : ByteArray := prog_4_method_1_code
def yX2_init : MethodName := ⟨RX2, "<init>", "(LAreaPicker$Pick;)V"⟩
abbrev cX2_keep : ByteArray := prog_4_method_2_code
def yX2_keep : MethodName := ⟨RX2, "keep", "(LAreaPicker$State;)V"⟩
abbrev cX2_dropOldest : ByteArray := prog_4_method_3_code
def yX2_dropOldest : MethodName := ⟨RX2, "dropOldest", "()V"⟩
abbrev cX2_restore : ByteArray := prog_4_method_4_code
def yX2_restore : MethodName := ⟨RX2, "restore", "(LAreaPicker$State;)V"⟩
def RX3 : String := "AreaPicker$Pick"
def TX3 : u_T := fun k => match k with
  | 0 => ("AreaPicker$Pick", "found", "LAreaPicker$Found;", true)
  | 1 => ("AreaPicker$Pick", "kind", "I", true)
  | _ => ("AreaPicker$Pick", "in", "Z", true)
def tyX3 : Nat → FieldType := fun k => match k with
  | 0 => .object "AreaPicker$Found"
  | 1 => .int
  | _ => .boolean
theorem nmX3 : ∀ a, a < 3 → ∀ b, b < 3 → a ≠ b → (TX3 a).2.1 ≠ (TX3 b).2.1 := by decide +kernel
theorem tyX3_ok : ∀ k, k < 3 → parseFieldDescriptor (TX3 k).2.2.1 = some (tyX3 k) := by decide +kernel
abbrev cX3_init : ByteArray := prog_5_method_1_code
def yX3_init : MethodName := ⟨RX3, "<init>", "(LAreaPicker$Found;IZ)V"⟩
abbrev cX3_over : ByteArray := prog_5_method_2_code
def yX3_over : MethodName := ⟨RX3, "over", "(II)I"⟩
abbrev cX3_property : ByteArray := prog_5_method_3_code
def yX3_property : MethodName := ⟨RX3, "property", "(I)I"⟩
def RX4 : String := "AreaPicker$PictureText"
def TX4 : u_T := fun k => match k with
  | 0 => ("AreaPicker$PictureText", "codes", "[I", true)
  | _ => ("AreaPicker$PictureText", "length", "I", false)
def tyX4 : Nat → FieldType := fun k => match k with
  | 0 => .array .int
  | _ => .int
theorem nmX4 : ∀ a, a < 2 → ∀ b, b < 2 → a ≠ b → (TX4 a).2.1 ≠ (TX4 b).2.1 := by decide +kernel
theorem tyX4_ok : ∀ k, k < 2 → parseFieldDescriptor (TX4 k).2.2.1 = some (tyX4 k) := by decide +kernel
abbrev cX4_init : ByteArray := prog_6_method_1_code
def yX4_init : MethodName := ⟨RX4, "<init>", "()V"⟩
abbrev cX4_add : ByteArray := prog_6_method_2_code
def yX4_add : MethodName := ⟨RX4, "add", "(I)V"⟩
abbrev cX4_isDigit : ByteArray := prog_6_method_3_code
def yX4_isDigit : MethodName := ⟨RX4, "isDigit", "(I)Z"⟩
abbrev cX4_placeAfter : ByteArray := prog_6_method_4_code
def yX4_placeAfter : MethodName := ⟨RX4, "placeAfter", "(II)I"⟩
abbrev cX4_firstWrong : ByteArray := prog_6_method_5_code
def yX4_firstWrong : MethodName := ⟨RX4, "firstWrong", "()I"⟩
abbrev cX4_isComplete : ByteArray := prog_6_method_6_code
def yX4_isComplete : MethodName := ⟨RX4, "isComplete", "()Z"⟩
abbrev cX4_writeInto : ByteArray := prog_6_method_7_code
def yX4_writeInto : MethodName := ⟨RX4, "writeInto", "([I)V"⟩
def RX5 : String := "AreaPicker$State"
def TX5 : u_T := fun k => match k with
  | 0 => ("AreaPicker$State", "shades", "[I", true)
  | 1 => ("AreaPicker$State", "picks", "[LAreaPicker$Pick;", true)
  | _ => ("AreaPicker$State", "pickCount", "I", false)
def tyX5 : Nat → FieldType := fun k => match k with
  | 0 => .array .int
  | 1 => .array (.object "AreaPicker$Pick")
  | _ => .int
theorem nmX5 : ∀ a, a < 3 → ∀ b, b < 3 → a ≠ b → (TX5 a).2.1 ≠ (TX5 b).2.1 := by decide +kernel
theorem tyX5_ok : ∀ k, k < 3 → parseFieldDescriptor (TX5 k).2.2.1 = some (tyX5 k) := by decide +kernel
abbrev cX5_init : ByteArray := prog_7_method_1_code
def yX5_init : MethodName := ⟨RX5, "<init>", "(LAreaPicker$Pick;)V"⟩
abbrev cX5_become : ByteArray := prog_7_method_2_code
def yX5_become : MethodName := ⟨RX5, "become", "(LAreaPicker$State;)V"⟩
abbrev cX5_paint : ByteArray := prog_7_method_3_code
def yX5_paint : MethodName := ⟨RX5, "paint", "(II)I"⟩
abbrev cX5_addPick : ByteArray := prog_7_method_4_code
def yX5_addPick : MethodName := ⟨RX5, "addPick", "(LAreaPicker$Pick;)V"⟩
abbrev cX5_movePick : ByteArray := prog_7_method_5_code
def yX5_movePick : MethodName := ⟨RX5, "movePick", "(II)V"⟩
abbrev cX5_removePicksThatAreOut : ByteArray := prog_7_method_6_code
def yX5_removePicksThatAreOut : MethodName := ⟨RX5, "removePicksThatAreOut", "()I"⟩
abbrev cX5_picksThatAreIn : ByteArray := prog_7_method_7_code
def yX5_picksThatAreIn : MethodName := ⟨RX5, "picksThatAreIn", "()I"⟩
abbrev cX5_makeMask : ByteArray := prog_7_method_8_code
def yX5_makeMask : MethodName := ⟨RX5, "makeMask", "([I)V"⟩
abbrev cX5_maskLevel : ByteArray := prog_7_method_9_code
def yX5_maskLevel : MethodName := ⟨RX5, "maskLevel", "(I)I"⟩
abbrev cX5_picksOver : ByteArray := prog_7_method_10_code
def yX5_picksOver : MethodName := ⟨RX5, "picksOver", "(I)I"⟩
abbrev cX5_cellProperty : ByteArray := prog_7_method_11_code
def yX5_cellProperty : MethodName := ⟨RX5, "cellProperty", "(II)I"⟩
def RX6 : String := "AreaPicker"
def TX6 : u_T := fun k => match k with
  | 0 => ("AreaPicker", "now", "LAreaPicker$State;", true)
  | 1 => ("AreaPicker", "history", "LAreaPicker$History;", true)
  | 2 => ("AreaPicker", "text", "LAreaPicker$PictureText;", true)
  | 3 => ("AreaPicker", "finder", "LAreaPicker$AreaFinder;", true)
  | 4 => ("AreaPicker", "mask", "[I", true)
  | _ => ("AreaPicker", "before", "[I", true)
def tyX6 : Nat → FieldType := fun k => match k with
  | 0 => .object "AreaPicker$State"
  | 1 => .object "AreaPicker$History"
  | 2 => .object "AreaPicker$PictureText"
  | 3 => .object "AreaPicker$AreaFinder"
  | 4 => .array .int
  | _ => .array .int
theorem nmX6 : ∀ a, a < 6 → ∀ b, b < 6 → a ≠ b → (TX6 a).2.1 ≠ (TX6 b).2.1 := by decide +kernel
theorem tyX6_ok : ∀ k, k < 6 → parseFieldDescriptor (TX6 k).2.2.1 = some (tyX6 k) := by decide +kernel
abbrev cX6_init : ByteArray := prog_1_method_1_code
def yX6_init : MethodName := ⟨RX6, "<init>", "()V"⟩
abbrev cX6_draw : ByteArray := prog_1_method_2_code
def yX6_draw : MethodName := ⟨RX6, "draw", "(IIIII)I"⟩
abbrev cX6_fill : ByteArray := prog_1_method_3_code
def yX6_fill : MethodName := ⟨RX6, "fill", "(I)I"⟩
abbrev cX6_pick : ByteArray := prog_1_method_4_code
def yX6_pick : MethodName := ⟨RX6, "pick", "(IIIIII)I"⟩
abbrev cX6_toggle : ByteArray := prog_1_method_5_code
def yX6_toggle : MethodName := ⟨RX6, "toggle", "(I)I"⟩
abbrev cX6_setKind : ByteArray := prog_1_method_6_code
def yX6_setKind : MethodName := ⟨RX6, "setKind", "(II)I"⟩
abbrev cX6_reorder : ByteArray := prog_1_method_7_code
def yX6_reorder : MethodName := ⟨RX6, "reorder", "(II)I"⟩
abbrev cX6_clean : ByteArray := prog_1_method_8_code
def yX6_clean : MethodName := ⟨RX6, "clean", "()I"⟩
abbrev cX6_append : ByteArray := prog_1_method_9_code
def yX6_append : MethodName := ⟨RX6, "append", "(I)I"⟩
abbrev cX6_clearBuffer : ByteArray := prog_1_method_10_code
def yX6_clearBuffer : MethodName := ⟨RX6, "clearBuffer", "()I"⟩
abbrev cX6_firstError : ByteArray := prog_1_method_11_code
def yX6_firstError : MethodName := ⟨RX6, "firstError", "()I"⟩
abbrev cX6_load : ByteArray := prog_1_method_12_code
def yX6_load : MethodName := ⟨RX6, "load", "()I"⟩
abbrev cX6_undo : ByteArray := prog_1_method_13_code
def yX6_undo : MethodName := ⟨RX6, "undo", "()I"⟩
abbrev cX6_cell : ByteArray := prog_1_method_14_code
def yX6_cell : MethodName := ⟨RX6, "cell", "(III)I"⟩
abbrev cX6_picked : ByteArray := prog_1_method_15_code
def yX6_picked : MethodName := ⟨RX6, "picked", "(II)I"⟩
abbrev cX6_level : ByteArray := prog_1_method_16_code
def yX6_level : MethodName := ⟨RX6, "level", "(III)I"⟩
abbrev cX6_count : ByteArray := prog_1_method_17_code
def yX6_count : MethodName := ⟨RX6, "count", "(I)I"⟩
abbrev cX6_areaOf : ByteArray := prog_1_method_18_code
def yX6_areaOf : MethodName := ⟨RX6, "areaOf", "(IIIII)I"⟩
abbrev cX6_leastLikeness : ByteArray := prog_1_method_19_code
def yX6_leastLikeness : MethodName := ⟨RX6, "leastLikeness", "(IIIIII)I"⟩
abbrev cX6_partingGap : ByteArray := prog_1_method_20_code
def yX6_partingGap : MethodName := ⟨RX6, "partingGap", "(IIIII)I"⟩
abbrev cX6_areas : ByteArray := prog_1_method_21_code
def yX6_areas : MethodName := ⟨RX6, "areas", "(I)I"⟩
abbrev cX6_coverage : ByteArray := prog_1_method_22_code
def yX6_coverage : MethodName := ⟨RX6, "coverage", "()D"⟩
abbrev cX6_digest : ByteArray := prog_1_method_23_code
def yX6_digest : MethodName := ⟨RX6, "digest", "()J"⟩
abbrev cX6_mixCells : ByteArray := prog_1_method_24_code
def yX6_mixCells : MethodName := ⟨RX6, "mixCells", "(J)J"⟩
abbrev cX6_mixPicks : ByteArray := prog_1_method_25_code
def yX6_mixPicks : MethodName := ⟨RX6, "mixPicks", "(J)J"⟩
abbrev cX6_mix : ByteArray := prog_1_method_26_code
def yX6_mix : MethodName := ⟨RX6, "mix", "(JJ)J"⟩
abbrev cX6_bitsOf : ByteArray := prog_1_method_27_code
def yX6_bitsOf : MethodName := ⟨RX6, "bitsOf", "(D)J"⟩
abbrev cX6_number : ByteArray := prog_1_method_28_code
def yX6_number : MethodName := ⟨RX6, "number", "(I)I"⟩
abbrev cX6_maskNumber : ByteArray := prog_1_method_29_code
def yX6_maskNumber : MethodName := ⟨RX6, "maskNumber", "(I)I"⟩
abbrev cX6_edgeLength : ByteArray := prog_1_method_30_code
def yX6_edgeLength : MethodName := ⟨RX6, "edgeLength", "([I)I"⟩
abbrev cX6_openSides : ByteArray := prog_1_method_31_code
def yX6_openSides : MethodName := ⟨RX6, "openSides", "([II)I"⟩
abbrev cX6_atLeast : ByteArray := prog_1_method_32_code
def yX6_atLeast : MethodName := ⟨RX6, "atLeast", "([II)I"⟩
abbrev cX6_sum : ByteArray := prog_1_method_33_code
def yX6_sum : MethodName := ⟨RX6, "sum", "([I)I"⟩
abbrev cX6_differences : ByteArray := prog_1_method_34_code
def yX6_differences : MethodName := ⟨RX6, "differences", "([I[I)I"⟩
abbrev cX6_differentShades : ByteArray := prog_1_method_35_code
def yX6_differentShades : MethodName := ⟨RX6, "differentShades", "([I)I"⟩
abbrev cX6_isCell : ByteArray := prog_1_method_36_code
def yX6_isCell : MethodName := ⟨RX6, "isCell", "(II)Z"⟩
abbrev cX6_cellAt : ByteArray := prog_1_method_37_code
def yX6_cellAt : MethodName := ⟨RX6, "cellAt", "(II)I"⟩
abbrev cX6_neighbor : ByteArray := prog_1_method_38_code
def yX6_neighbor : MethodName := ⟨RX6, "neighbor", "(II)I"⟩
abbrev cX6_needCell : ByteArray := prog_1_method_39_code
def yX6_needCell : MethodName := ⟨RX6, "needCell", "(II)V"⟩
abbrev cX6_needPick : ByteArray := prog_1_method_40_code
def yX6_needPick : MethodName := ⟨RX6, "needPick", "(I)V"⟩
abbrev cX6_needRange : ByteArray := prog_1_method_41_code
def yX6_needRange : MethodName := ⟨RX6, "needRange", "(III)V"⟩
abbrev cX6_needSearch : ByteArray := prog_1_method_42_code
def yX6_needSearch : MethodName := ⟨RX6, "needSearch", "(III)V"⟩
def RX7 : String := "AreaPickerModel"
def TX7 : u_T := fun k => match k with
  | 0 => ("AreaPickerModel", "thrown", "I", false)
  | 1 => ("AreaPickerModel", "z", "[I", true)
  | 2 => ("AreaPickerModel", "saves", "I", false)
  | 3 => ("AreaPickerModel", "saved", "[I", true)
  | 4 => ("AreaPickerModel", "length", "I", false)
  | 5 => ("AreaPickerModel", "text", "[I", true)
  | 6 => ("AreaPickerModel", "isAlike", "[Z", true)
  | 7 => ("AreaPickerModel", "isArea", "[Z", true)
  | 8 => ("AreaPickerModel", "line", "[I", true)
  | 9 => ("AreaPickerModel", "isSquare", "[Z", true)
  | 10 => ("AreaPickerModel", "width", "I", false)
  | 11 => ("AreaPickerModel", "mask", "[I", true)
  | 12 => ("AreaPickerModel", "before", "[I", true)
  | 13 => ("AreaPickerModel", "step", "I", false)
  | 14 => ("AreaPickerModel", "shades", "I", false)
  | _ => ("AreaPickerModel", "h", "J", false)
def tyX7 : Nat → FieldType := fun k => match k with
  | 0 => .int
  | 1 => .array .int
  | 2 => .int
  | 3 => .array .int
  | 4 => .int
  | 5 => .array .int
  | 6 => .array .boolean
  | 7 => .array .boolean
  | 8 => .array .int
  | 9 => .array .boolean
  | 10 => .int
  | 11 => .array .int
  | 12 => .array .int
  | 13 => .int
  | 14 => .int
  | _ => .long
theorem nmX7 : ∀ a, a < 16 → ∀ b, b < 16 → a ≠ b → (TX7 a).2.1 ≠ (TX7 b).2.1 := by decide +kernel
theorem tyX7_ok : ∀ k, k < 16 → parseFieldDescriptor (TX7 k).2.2.1 = some (tyX7 k) := by decide +kernel
abbrev cX7_init : ByteArray := prog_9_method_1_code
def yX7_init : MethodName := ⟨RX7, "<init>", "()V"⟩
abbrev cX7_thrown : ByteArray := prog_9_method_2_code
def yX7_thrown : MethodName := ⟨RX7, "thrown", "()I"⟩
abbrev cX7_within : ByteArray := prog_9_method_3_code
def yX7_within : MethodName := ⟨RX7, "within", "(III)Z"⟩
abbrev cX7_size : ByteArray := prog_9_method_4_code
def yX7_size : MethodName := ⟨RX7, "size", "(I)I"⟩
abbrev cX7_isCell : ByteArray := prog_9_method_5_code
def yX7_isCell : MethodName := ⟨RX7, "isCell", "(II)Z"⟩
abbrev cX7_isPick : ByteArray := prog_9_method_6_code
def yX7_isPick : MethodName := ⟨RX7, "isPick", "(I)Z"⟩
abbrev cX7_of : ByteArray := prog_9_method_7_code
def yX7_of : MethodName := ⟨RX7, "of", "(II)I"⟩
abbrev cX7_levelOf : ByteArray := prog_9_method_8_code
def yX7_levelOf : MethodName := ⟨RX7, "levelOf", "(II)I"⟩
abbrev cX7_layAlike : ByteArray := prog_9_method_9_code
def yX7_layAlike : MethodName := ⟨RX7, "layAlike", "(III)V"⟩
abbrev cX7_reach : ByteArray := prog_9_method_10_code
def yX7_reach : MethodName := ⟨RX7, "reach", "(II)V"⟩
abbrev cX7_steps : ByteArray := prog_9_method_11_code
def yX7_steps : MethodName := ⟨RX7, "steps", "(II)I"⟩
abbrev cX7_far : ByteArray := prog_9_method_12_code
def yX7_far : MethodName := ⟨RX7, "far", "(II)I"⟩
abbrev cX7_hasSquare : ByteArray := prog_9_method_13_code
def yX7_hasSquare : MethodName := ⟨RX7, "hasSquare", "(II)Z"⟩
abbrev cX7_liesIn : ByteArray := prog_9_method_14_code
def yX7_liesIn : MethodName := ⟨RX7, "liesIn", "(III)Z"⟩
abbrev cX7_laySquares : ByteArray := prog_9_method_15_code
def yX7_laySquares : MethodName := ⟨RX7, "laySquares", "(I)V"⟩
abbrev cX7_liesInAny : ByteArray := prog_9_method_16_code
def yX7_liesInAny : MethodName := ⟨RX7, "liesInAny", "(II)Z"⟩
abbrev cX7_layArea : ByteArray := prog_9_method_17_code
def yX7_layArea : MethodName := ⟨RX7, "layArea", "(IIII)V"⟩
abbrev cX7_areaSize : ByteArray := prog_9_method_18_code
def yX7_areaSize : MethodName := ⟨RX7, "areaSize", "()I"⟩
abbrev cX7_softLevel : ByteArray := prog_9_method_19_code
def yX7_softLevel : MethodName := ⟨RX7, "softLevel", "(II)I"⟩
abbrev cX7_layMask : ByteArray := prog_9_method_20_code
def yX7_layMask : MethodName := ⟨RX7, "layMask", "()V"⟩
abbrev cX7_save : ByteArray := prog_9_method_21_code
def yX7_save : MethodName := ⟨RX7, "save", "()V"⟩
abbrev cX7_undo : ByteArray := prog_9_method_22_code
def yX7_undo : MethodName := ⟨RX7, "undo", "()I"⟩
abbrev cX7_altered : ByteArray := prog_9_method_23_code
def yX7_altered : MethodName := ⟨RX7, "altered", "()I"⟩
abbrev cX7_isShade : ByteArray := prog_9_method_24_code
def yX7_isShade : MethodName := ⟨RX7, "isShade", "(I)Z"⟩
abbrev cX7_draw : ByteArray := prog_9_method_25_code
def yX7_draw : MethodName := ⟨RX7, "draw", "(IIIII)I"⟩
abbrev cX7_fill : ByteArray := prog_9_method_26_code
def yX7_fill : MethodName := ⟨RX7, "fill", "(I)I"⟩
abbrev cX7_isAsked : ByteArray := prog_9_method_27_code
def yX7_isAsked : MethodName := ⟨RX7, "isAsked", "(III)Z"⟩
abbrev cX7_pick : ByteArray := prog_9_method_28_code
def yX7_pick : MethodName := ⟨RX7, "pick", "(IIIIII)I"⟩
abbrev cX7_toggle : ByteArray := prog_9_method_29_code
def yX7_toggle : MethodName := ⟨RX7, "toggle", "(I)I"⟩
abbrev cX7_setKind : ByteArray := prog_9_method_30_code
def yX7_setKind : MethodName := ⟨RX7, "setKind", "(II)I"⟩
abbrev cX7_exchange : ByteArray := prog_9_method_31_code
def yX7_exchange : MethodName := ⟨RX7, "exchange", "(I)V"⟩
abbrev cX7_reorder : ByteArray := prog_9_method_32_code
def yX7_reorder : MethodName := ⟨RX7, "reorder", "(II)I"⟩
abbrev cX7_clean : ByteArray := prog_9_method_33_code
def yX7_clean : MethodName := ⟨RX7, "clean", "()I"⟩
abbrev cX7_append : ByteArray := prog_9_method_34_code
def yX7_append : MethodName := ⟨RX7, "append", "(I)I"⟩
abbrev cX7_clearBuffer : ByteArray := prog_9_method_35_code
def yX7_clearBuffer : MethodName := ⟨RX7, "clearBuffer", "()I"⟩
abbrev cX7_takes : ByteArray := prog_9_method_36_code
def yX7_takes : MethodName := ⟨RX7, "takes", "(I)Z"⟩
abbrev cX7_readText : ByteArray := prog_9_method_37_code
def yX7_readText : MethodName := ⟨RX7, "readText", "()I"⟩
abbrev cX7_firstError : ByteArray := prog_9_method_38_code
def yX7_firstError : MethodName := ⟨RX7, "firstError", "()I"⟩
abbrev cX7_load : ByteArray := prog_9_method_39_code
def yX7_load : MethodName := ⟨RX7, "load", "()I"⟩
abbrev cX7_picksAt : ByteArray := prog_9_method_40_code
def yX7_picksAt : MethodName := ⟨RX7, "picksAt", "(I)I"⟩
abbrev cX7_cellNow : ByteArray := prog_9_method_41_code
def yX7_cellNow : MethodName := ⟨RX7, "cellNow", "(II)I"⟩
abbrev cX7_cell : ByteArray := prog_9_method_42_code
def yX7_cell : MethodName := ⟨RX7, "cell", "(III)I"⟩
abbrev cX7_pickedNow : ByteArray := prog_9_method_43_code
def yX7_pickedNow : MethodName := ⟨RX7, "pickedNow", "(II)I"⟩
abbrev cX7_picked : ByteArray := prog_9_method_44_code
def yX7_picked : MethodName := ⟨RX7, "picked", "(II)I"⟩
abbrev cX7_level : ByteArray := prog_9_method_45_code
def yX7_level : MethodName := ⟨RX7, "level", "(III)I"⟩
abbrev cX7_picksIn : ByteArray := prog_9_method_46_code
def yX7_picksIn : MethodName := ⟨RX7, "picksIn", "()I"⟩
abbrev cX7_maskFrom : ByteArray := prog_9_method_47_code
def yX7_maskFrom : MethodName := ⟨RX7, "maskFrom", "(I)I"⟩
abbrev cX7_maskSum : ByteArray := prog_9_method_48_code
def yX7_maskSum : MethodName := ⟨RX7, "maskSum", "()I"⟩
abbrev cX7_isMasked : ByteArray := prog_9_method_49_code
def yX7_isMasked : MethodName := ⟨RX7, "isMasked", "(II)Z"⟩
abbrev cX7_edge : ByteArray := prog_9_method_50_code
def yX7_edge : MethodName := ⟨RX7, "edge", "()I"⟩
abbrev cX7_shadeSum : ByteArray := prog_9_method_51_code
def yX7_shadeSum : MethodName := ⟨RX7, "shadeSum", "()I"⟩
abbrev cX7_different : ByteArray := prog_9_method_52_code
def yX7_different : MethodName := ⟨RX7, "different", "()I"⟩
abbrev cX7_counted : ByteArray := prog_9_method_53_code
def yX7_counted : MethodName := ⟨RX7, "counted", "(I)I"⟩
abbrev cX7_count : ByteArray := prog_9_method_54_code
def yX7_count : MethodName := ⟨RX7, "count", "(I)I"⟩
abbrev cX7_areaAnswer : ByteArray := prog_9_method_55_code
def yX7_areaAnswer : MethodName := ⟨RX7, "areaAnswer", "(IIII)I"⟩
abbrev cX7_areaOf : ByteArray := prog_9_method_56_code
def yX7_areaOf : MethodName := ⟨RX7, "areaOf", "(IIIII)I"⟩
abbrev cX7_likenessAnswer : ByteArray := prog_9_method_57_code
def yX7_likenessAnswer : MethodName := ⟨RX7, "likenessAnswer", "(IIII)I"⟩
abbrev cX7_leastLikeness : ByteArray := prog_9_method_58_code
def yX7_leastLikeness : MethodName := ⟨RX7, "leastLikeness", "(IIIIII)I"⟩
abbrev cX7_gapAnswer : ByteArray := prog_9_method_59_code
def yX7_gapAnswer : MethodName := ⟨RX7, "gapAnswer", "(III)I"⟩
abbrev cX7_partingGap : ByteArray := prog_9_method_60_code
def yX7_partingGap : MethodName := ⟨RX7, "partingGap", "(IIIII)I"⟩
abbrev cX7_areasAnswer : ByteArray := prog_9_method_61_code
def yX7_areasAnswer : MethodName := ⟨RX7, "areasAnswer", "(I)I"⟩
abbrev cX7_areas : ByteArray := prog_9_method_62_code
def yX7_areas : MethodName := ⟨RX7, "areas", "(I)I"⟩
abbrev cX7_coverage : ByteArray := prog_9_method_63_code
def yX7_coverage : MethodName := ⟨RX7, "coverage", "()D"⟩
abbrev cX7_mix : ByteArray := prog_9_method_64_code
def yX7_mix : MethodName := ⟨RX7, "mix", "(J)V"⟩
abbrev cX7_digest : ByteArray := prog_9_method_65_code
def yX7_digest : MethodName := ⟨RX7, "digest", "()J"⟩
def RJxe99ae : String := "java/lang/Double"
def TJxe99ae : u_T := fun k => match k with
  | _ => ("", "", "", false)
def tyJxe99ae : Nat → FieldType := fun k => match k with
  | _ => .int
theorem nmJxe99ae : ∀ a, a < 0 → ∀ b, b < 0 → a ≠ b → (TJxe99ae a).2.1 ≠ (TJxe99ae b).2.1 := by decide +kernel
theorem tyJxe99ae_ok : ∀ k, k < 0 → parseFieldDescriptor (TJxe99ae k).2.2.1 = some (tyJxe99ae k) := by decide +kernel
abbrev cJxe99ae_isNaN_b9ae7 : ByteArray := prog_10_method_6_code
def yJxe99ae_isNaN_b9ae7 : MethodName := ⟨RJxe99ae, "isNaN", "(D)Z"⟩
abbrev cJxe99ae_doubleToLongBits_ccdee : ByteArray := prog_10_method_23_code
def yJxe99ae_doubleToLongBits_ccdee : MethodName := ⟨RJxe99ae, "doubleToLongBits", "(D)J"⟩
def RJ13 : String := "java/lang/Long"
def TJ13 : u_T := fun k => match k with
  | _ => ("", "", "", false)
def tyJ13 : Nat → FieldType := fun k => match k with
  | _ => .int
theorem nmJ13 : ∀ a, a < 0 → ∀ b, b < 0 → a ≠ b → (TJ13 a).2.1 ≠ (TJ13 b).2.1 := by decide +kernel
theorem tyJ13_ok : ∀ k, k < 0 → parseFieldDescriptor (TJ13 k).2.2.1 = some (tyJ13 k) := by decide +kernel
abbrev cJ13_bitCount_95d88 : ByteArray := prog_15_method_50_code
def yJ13_bitCount_95d88 : MethodName := ⟨RJ13, "bitCount", "(J)I"⟩
def RJ9 : String := "java/lang/Math"
def TJ9 : u_T := fun k => match k with
  | _ => ("", "", "", false)
def tyJ9 : Nat → FieldType := fun k => match k with
  | _ => .int
theorem nmJ9 : ∀ a, a < 0 → ∀ b, b < 0 → a ≠ b → (TJ9 a).2.1 ≠ (TJ9 b).2.1 := by decide +kernel
theorem tyJ9_ok : ∀ k, k < 0 → parseFieldDescriptor (TJ9 k).2.2.1 = some (tyJ9 k) := by decide +kernel
abbrev cJ9_abs_0f7a4 : ByteArray := prog_16_method_59_code
def yJ9_abs_0f7a4 : MethodName := ⟨RJ9, "abs", "(I)I"⟩
abbrev cJ9_max_7cf53 : ByteArray := prog_16_method_65_code
def yJ9_max_7cf53 : MethodName := ⟨RJ9, "max", "(II)I"⟩
abbrev cJ9_min_7cf53 : ByteArray := prog_16_method_69_code
def yJ9_min_7cf53 : MethodName := ⟨RJ9, "min", "(II)I"⟩
def RJ0 : String := "java/lang/String"
def TJ0 : u_T := fun k => match k with
  | _ => ("", "", "", false)
def tyJ0 : Nat → FieldType := fun k => match k with
  | _ => .int
theorem nmJ0 : ∀ a, a < 0 → ∀ b, b < 0 → a ≠ b → (TJ0 a).2.1 ≠ (TJ0 b).2.1 := by decide +kernel
theorem tyJ0_ok : ∀ k, k < 0 → parseFieldDescriptor (TJ0 k).2.2.1 = some (tyJ0 k) := by decide +kernel
def RJ10 : String := "java/lang/System"
def TJ10 : u_T := fun k => match k with
  | _ => ("", "", "", false)
def tyJ10 : Nat → FieldType := fun k => match k with
  | _ => .int
theorem nmJ10 : ∀ a, a < 0 → ∀ b, b < 0 → a ≠ b → (TJ10 a).2.1 ≠ (TJ10 b).2.1 := by decide +kernel
theorem tyJ10_ok : ∀ k, k < 0 → parseFieldDescriptor (TJ10 k).2.2.1 = some (tyJ10 k) := by decide +kernel
def RL : String := "AreaPickerLaw"
abbrev cL_draw : ByteArray := method_3_code
def yL_draw : MethodName := ⟨RL, "draw", "(LAreaPicker;IIIII[J)I"⟩
abbrev cL_fill : ByteArray := method_4_code
def yL_fill : MethodName := ⟨RL, "fill", "(LAreaPicker;I[J)I"⟩
abbrev cL_pick : ByteArray := method_5_code
def yL_pick : MethodName := ⟨RL, "pick", "(LAreaPicker;IIIIII[J)I"⟩
abbrev cL_toggle : ByteArray := method_6_code
def yL_toggle : MethodName := ⟨RL, "toggle", "(LAreaPicker;I[J)I"⟩
abbrev cL_setKind : ByteArray := method_7_code
def yL_setKind : MethodName := ⟨RL, "setKind", "(LAreaPicker;II[J)I"⟩
abbrev cL_reorder : ByteArray := method_8_code
def yL_reorder : MethodName := ⟨RL, "reorder", "(LAreaPicker;II[J)I"⟩
abbrev cL_append : ByteArray := method_9_code
def yL_append : MethodName := ⟨RL, "append", "(LAreaPicker;I[J)I"⟩
abbrev cL_load : ByteArray := method_10_code
def yL_load : MethodName := ⟨RL, "load", "(LAreaPicker;[J)I"⟩
abbrev cL_undo : ByteArray := method_11_code
def yL_undo : MethodName := ⟨RL, "undo", "(LAreaPicker;[J)I"⟩
abbrev cL_cell : ByteArray := method_12_code
def yL_cell : MethodName := ⟨RL, "cell", "(LAreaPicker;III[J)I"⟩
abbrev cL_picked : ByteArray := method_13_code
def yL_picked : MethodName := ⟨RL, "picked", "(LAreaPicker;II[J)I"⟩
abbrev cL_level : ByteArray := method_14_code
def yL_level : MethodName := ⟨RL, "level", "(LAreaPicker;III[J)I"⟩
abbrev cL_count : ByteArray := method_15_code
def yL_count : MethodName := ⟨RL, "count", "(LAreaPicker;I[J)I"⟩
abbrev cL_areaOf : ByteArray := method_16_code
def yL_areaOf : MethodName := ⟨RL, "areaOf", "(LAreaPicker;IIIII[J)I"⟩
abbrev cL_leastLikeness : ByteArray := method_17_code
def yL_leastLikeness : MethodName := ⟨RL, "leastLikeness", "(LAreaPicker;IIIIII[J)I"⟩
abbrev cL_partingGap : ByteArray := method_18_code
def yL_partingGap : MethodName := ⟨RL, "partingGap", "(LAreaPicker;IIIII[J)I"⟩
abbrev cL_areas : ByteArray := method_19_code
def yL_areas : MethodName := ⟨RL, "areas", "(LAreaPicker;I[J)I"⟩
abbrev cL_law : ByteArray := code
def yL_law : MethodName := ⟨RL, "law", "([I)Z"⟩
abbrev vwCl : List vw_C := [(RX0, TX0, 7), (RX1, TX1, 7), (RX2, TX2, 2), (RX3, TX3, 3), (RX4, TX4, 2), (RX5, TX5, 3), (RX6, TX6, 6), (RX7, TX7, 16)]
end
section
theorem dX0_init_0 : decode cX0_init 0 = .ok (.aload_n 0, 1) := by decide +kernel
theorem dX0_init_1 : decode cX0_init 1 = .ok (.invokespecial 3, 3) := by decide +kernel
theorem dX0_init_4 : decode cX0_init 4 = .ok (.aload_n 0, 1) := by decide +kernel
theorem dX0_init_5 : decode cX0_init 5 = .ok (.sipush 160, 3) := by decide +kernel
theorem dX0_init_8 : decode cX0_init 8 = .ok (.newarray .boolean, 2) := by decide +kernel
theorem dX0_init_10 : decode cX0_init 10 = .ok (.putfield 9, 3) := by decide +kernel
theorem dX0_init_13 : decode cX0_init 13 = .ok (.aload_n 0, 1) := by decide +kernel
theorem dX0_init_14 : decode cX0_init 14 = .ok (.sipush 160, 3) := by decide +kernel
theorem dX0_init_17 : decode cX0_init 17 = .ok (.newarray .int, 2) := by decide +kernel
theorem dX0_init_19 : decode cX0_init 19 = .ok (.putfield 15, 3) := by decide +kernel
theorem dX0_init_22 : decode cX0_init 22 = .ok (.aload_n 0, 1) := by decide +kernel
theorem dX0_init_23 : decode cX0_init 23 = .ok (.sipush 160, 3) := by decide +kernel
theorem dX0_init_26 : decode cX0_init 26 = .ok (.newarray .boolean, 2) := by decide +kernel
theorem dX0_init_28 : decode cX0_init 28 = .ok (.putfield 19, 3) := by decide +kernel
theorem dX0_init_31 : decode cX0_init 31 = .ok (.aload_n 0, 1) := by decide +kernel
theorem dX0_init_32 : decode cX0_init 32 = .ok (.sipush 160, 3) := by decide +kernel
theorem dX0_init_35 : decode cX0_init 35 = .ok (.newarray .boolean, 2) := by decide +kernel
theorem dX0_init_37 : decode cX0_init 37 = .ok (.putfield 22, 3) := by decide +kernel
theorem dX0_init_40 : decode cX0_init 40 = .ok (.aload_n 0, 1) := by decide +kernel
theorem dX0_init_41 : decode cX0_init 41 = .ok (.sipush 160, 3) := by decide +kernel
theorem dX0_init_44 : decode cX0_init 44 = .ok (.newarray .int, 2) := by decide +kernel
theorem dX0_init_46 : decode cX0_init 46 = .ok (.putfield 25, 3) := by decide +kernel
theorem dX0_init_49 : decode cX0_init 49 = .ok (.aload_n 0, 1) := by decide +kernel
theorem dX0_init_50 : decode cX0_init 50 = .ok (.iconst 0, 1) := by decide +kernel
theorem dX0_init_51 : decode cX0_init 51 = .ok (.putfield 28, 3) := by decide +kernel
theorem dX0_init_54 : decode cX0_init 54 = .ok (.aload_n 0, 1) := by decide +kernel
theorem dX0_init_55 : decode cX0_init 55 = .ok (.iconst 0, 1) := by decide +kernel
theorem dX0_init_56 : decode cX0_init 56 = .ok (.putfield 32, 3) := by decide +kernel
theorem dX0_init_59 : decode cX0_init 59 = .ok (.return_, 1) := by decide +kernel
theorem dX0_search_0 : decode cX0_search 0 = .ok (.aload_n 0, 1) := by decide +kernel
theorem dX0_search_1 : decode cX0_search 1 = .ok (.aload_n 1, 1) := by decide +kernel
theorem dX0_search_2 : decode cX0_search 2 = .ok (.iload_n 2, 1) := by decide +kernel
theorem dX0_search_3 : decode cX0_search 3 = .ok (.iload_n 3, 1) := by decide +kernel
theorem dX0_search_4 : decode cX0_search 4 = .ok (.iload 4, 2) := by decide +kernel
theorem dX0_search_6 : decode cX0_search 6 = .ok (.invokevirtual 35, 3) := by decide +kernel
theorem dX0_search_9 : decode cX0_search 9 = .ok (.pop, 1) := by decide +kernel
theorem dX0_search_10 : decode cX0_search 10 = .ok (.aload_n 0, 1) := by decide +kernel
theorem dX0_search_11 : decode cX0_search 11 = .ok (.iload_n 2, 1) := by decide +kernel
theorem dX0_search_12 : decode cX0_search 12 = .ok (.iload 5, 2) := by decide +kernel
theorem dX0_search_14 : decode cX0_search 14 = .ok (.invokevirtual 39, 3) := by decide +kernel
theorem dX0_search_17 : decode cX0_search 17 = .ok (.ireturn, 1) := by decide +kernel
theorem dX0_leastReaching_0 : decode cX0_leastReaching 0 = .ok (.iconst 0, 1) := by decide +kernel
theorem dX0_leastReaching_1 : decode cX0_leastReaching 1 = .ok (.istore 6, 2) := by decide +kernel
theorem dX0_leastReaching_3 : decode cX0_leastReaching 3 = .ok (.iconst 0, 1) := by decide +kernel
theorem dX0_leastReaching_4 : decode cX0_leastReaching 4 = .ok (.istore 7, 2) := by decide +kernel
theorem dX0_leastReaching_6 : decode cX0_leastReaching 6 = .ok (.iload 7, 2) := by decide +kernel
theorem dX0_leastReaching_8 : decode cX0_leastReaching 8 = .ok (.bipush 99, 2) := by decide +kernel
theorem dX0_leastReaching_10 : decode cX0_leastReaching 10 = .ok (.if_icmp .gt 61, 3) := by decide +kernel
theorem dX0_leastReaching_13 : decode cX0_leastReaching 13 = .ok (.aload_n 0, 1) := by decide +kernel
theorem dX0_leastReaching_14 : decode cX0_leastReaching 14 = .ok (.aload_n 1, 1) := by decide +kernel
theorem dX0_leastReaching_15 : decode cX0_leastReaching 15 = .ok (.iload_n 2, 1) := by decide +kernel
theorem dX0_leastReaching_16 : decode cX0_leastReaching 16 = .ok (.iload 7, 2) := by decide +kernel
theorem dX0_leastReaching_18 : decode cX0_leastReaching 18 = .ok (.iload 4, 2) := by decide +kernel
theorem dX0_leastReaching_20 : decode cX0_leastReaching 20 = .ok (.invokevirtual 35, 3) := by decide +kernel
theorem dX0_leastReaching_23 : decode cX0_leastReaching 23 = .ok (.istore 8, 2) := by decide +kernel
theorem dX0_leastReaching_25 : decode cX0_leastReaching 25 = .ok (.iload 8, 2) := by decide +kernel
theorem dX0_leastReaching_27 : decode cX0_leastReaching 27 = .ok (.iload 6, 2) := by decide +kernel
theorem dX0_leastReaching_29 : decode cX0_leastReaching 29 = .ok (.if_icmp .eq 32, 3) := by decide +kernel
theorem dX0_leastReaching_32 : decode cX0_leastReaching 32 = .ok (.aload_n 0, 1) := by decide +kernel
theorem dX0_leastReaching_33 : decode cX0_leastReaching 33 = .ok (.getfield 9, 3) := by decide +kernel
theorem dX0_leastReaching_36 : decode cX0_leastReaching 36 = .ok (.iload_n 3, 1) := by decide +kernel
theorem dX0_leastReaching_37 : decode cX0_leastReaching 37 = .ok (.baload, 1) := by decide +kernel
theorem dX0_leastReaching_38 : decode cX0_leastReaching 38 = .ok (.ifCond .eq 23, 3) := by decide +kernel
theorem dX0_leastReaching_41 : decode cX0_leastReaching 41 = .ok (.aload_n 0, 1) := by decide +kernel
theorem dX0_leastReaching_42 : decode cX0_leastReaching 42 = .ok (.iload_n 2, 1) := by decide +kernel
theorem dX0_leastReaching_43 : decode cX0_leastReaching 43 = .ok (.iload 5, 2) := by decide +kernel
theorem dX0_leastReaching_45 : decode cX0_leastReaching 45 = .ok (.invokevirtual 39, 3) := by decide +kernel
theorem dX0_leastReaching_48 : decode cX0_leastReaching 48 = .ok (.pop, 1) := by decide +kernel
theorem dX0_leastReaching_49 : decode cX0_leastReaching 49 = .ok (.aload_n 0, 1) := by decide +kernel
theorem dX0_leastReaching_50 : decode cX0_leastReaching 50 = .ok (.getfield 22, 3) := by decide +kernel
theorem dX0_leastReaching_53 : decode cX0_leastReaching 53 = .ok (.iload_n 3, 1) := by decide +kernel
theorem dX0_leastReaching_54 : decode cX0_leastReaching 54 = .ok (.baload, 1) := by decide +kernel
theorem dX0_leastReaching_55 : decode cX0_leastReaching 55 = .ok (.ifCond .eq 6, 3) := by decide +kernel
theorem dX0_leastReaching_58 : decode cX0_leastReaching 58 = .ok (.iload 7, 2) := by decide +kernel
theorem dX0_leastReaching_60 : decode cX0_leastReaching 60 = .ok (.ireturn, 1) := by decide +kernel
theorem dX0_leastReaching_61 : decode cX0_leastReaching 61 = .ok (.iload 8, 2) := by decide +kernel
theorem dX0_leastReaching_63 : decode cX0_leastReaching 63 = .ok (.istore 6, 2) := by decide +kernel
theorem dX0_leastReaching_65 : decode cX0_leastReaching 65 = .ok (.iinc 7 1, 3) := by decide +kernel
theorem dX0_leastReaching_68 : decode cX0_leastReaching 68 = .ok (.goto (-62), 3) := by decide +kernel
theorem dX0_leastReaching_71 : decode cX0_leastReaching 71 = .ok (.iconst (-1), 1) := by decide +kernel
theorem dX0_leastReaching_72 : decode cX0_leastReaching 72 = .ok (.ireturn, 1) := by decide +kernel
theorem dX0_leastParting_0 : decode cX0_leastParting 0 = .ok (.aload_n 0, 1) := by decide +kernel
theorem dX0_leastParting_1 : decode cX0_leastParting 1 = .ok (.aload_n 1, 1) := by decide +kernel
theorem dX0_leastParting_2 : decode cX0_leastParting 2 = .ok (.iload_n 2, 1) := by decide +kernel
theorem dX0_leastParting_3 : decode cX0_leastParting 3 = .ok (.iload 4, 2) := by decide +kernel
theorem dX0_leastParting_5 : decode cX0_leastParting 5 = .ok (.iconst 0, 1) := by decide +kernel
theorem dX0_leastParting_6 : decode cX0_leastParting 6 = .ok (.invokevirtual 35, 3) := by decide +kernel
theorem dX0_leastParting_9 : decode cX0_leastParting 9 = .ok (.pop, 1) := by decide +kernel
theorem dX0_leastParting_10 : decode cX0_leastParting 10 = .ok (.iconst 0, 1) := by decide +kernel
theorem dX0_leastParting_11 : decode cX0_leastParting 11 = .ok (.istore 5, 2) := by decide +kernel
theorem dX0_leastParting_13 : decode cX0_leastParting 13 = .ok (.iload 5, 2) := by decide +kernel
theorem dX0_leastParting_15 : decode cX0_leastParting 15 = .ok (.iconst 5, 1) := by decide +kernel
theorem dX0_leastParting_16 : decode cX0_leastParting 16 = .ok (.if_icmp .gt 29, 3) := by decide +kernel
theorem dX0_leastParting_19 : decode cX0_leastParting 19 = .ok (.aload_n 0, 1) := by decide +kernel
theorem dX0_leastParting_20 : decode cX0_leastParting 20 = .ok (.iload_n 2, 1) := by decide +kernel
theorem dX0_leastParting_21 : decode cX0_leastParting 21 = .ok (.iload 5, 2) := by decide +kernel
theorem dX0_leastParting_23 : decode cX0_leastParting 23 = .ok (.invokevirtual 39, 3) := by decide +kernel
theorem dX0_leastParting_26 : decode cX0_leastParting 26 = .ok (.pop, 1) := by decide +kernel
theorem dX0_leastParting_27 : decode cX0_leastParting 27 = .ok (.aload_n 0, 1) := by decide +kernel
theorem dX0_leastParting_28 : decode cX0_leastParting 28 = .ok (.getfield 22, 3) := by decide +kernel
theorem dX0_leastParting_31 : decode cX0_leastParting 31 = .ok (.iload_n 3, 1) := by decide +kernel
theorem dX0_leastParting_32 : decode cX0_leastParting 32 = .ok (.baload, 1) := by decide +kernel
theorem dX0_leastParting_33 : decode cX0_leastParting 33 = .ok (.ifCond .ne 6, 3) := by decide +kernel
theorem dX0_leastParting_36 : decode cX0_leastParting 36 = .ok (.iload 5, 2) := by decide +kernel
theorem dX0_leastParting_38 : decode cX0_leastParting 38 = .ok (.ireturn, 1) := by decide +kernel
theorem dX0_leastParting_39 : decode cX0_leastParting 39 = .ok (.iinc 5 1, 3) := by decide +kernel
theorem dX0_leastParting_42 : decode cX0_leastParting 42 = .ok (.goto (-29), 3) := by decide +kernel
theorem dX0_leastParting_45 : decode cX0_leastParting 45 = .ok (.iconst (-1), 1) := by decide +kernel
theorem dX0_leastParting_46 : decode cX0_leastParting 46 = .ok (.ireturn, 1) := by decide +kernel
theorem dX0_parts_0 : decode cX0_parts 0 = .ok (.aload_n 0, 1) := by decide +kernel
theorem dX0_parts_1 : decode cX0_parts 1 = .ok (.getfield 9, 3) := by decide +kernel
theorem dX0_parts_4 : decode cX0_parts 4 = .ok (.invokestatic 43, 3) := by decide +kernel
theorem dX0_parts_7 : decode cX0_parts 7 = .ok (.iconst 0, 1) := by decide +kernel
theorem dX0_parts_8 : decode cX0_parts 8 = .ok (.istore_n 3, 1) := by decide +kernel
theorem dX0_parts_9 : decode cX0_parts 9 = .ok (.iconst 0, 1) := by decide +kernel
theorem dX0_parts_10 : decode cX0_parts 10 = .ok (.istore 4, 2) := by decide +kernel
theorem dX0_parts_12 : decode cX0_parts 12 = .ok (.iload 4, 2) := by decide +kernel
theorem dX0_parts_14 : decode cX0_parts 14 = .ok (.sipush 160, 3) := by decide +kernel
theorem dX0_parts_17 : decode cX0_parts 17 = .ok (.if_icmp .ge 31, 3) := by decide +kernel
theorem dX0_parts_20 : decode cX0_parts 20 = .ok (.aload_n 0, 1) := by decide +kernel
theorem dX0_parts_21 : decode cX0_parts 21 = .ok (.getfield 9, 3) := by decide +kernel
theorem dX0_parts_24 : decode cX0_parts 24 = .ok (.iload 4, 2) := by decide +kernel
theorem dX0_parts_26 : decode cX0_parts 26 = .ok (.baload, 1) := by decide +kernel
theorem dX0_parts_27 : decode cX0_parts 27 = .ok (.ifCond .ne 15, 3) := by decide +kernel
theorem dX0_parts_30 : decode cX0_parts 30 = .ok (.aload_n 0, 1) := by decide +kernel
theorem dX0_parts_31 : decode cX0_parts 31 = .ok (.aload_n 1, 1) := by decide +kernel
theorem dX0_parts_32 : decode cX0_parts 32 = .ok (.iload 4, 2) := by decide +kernel
theorem dX0_parts_34 : decode cX0_parts 34 = .ok (.iload_n 2, 1) := by decide +kernel
theorem dX0_parts_35 : decode cX0_parts 35 = .ok (.invokevirtual 47, 3) := by decide +kernel
theorem dX0_parts_38 : decode cX0_parts 38 = .ok (.pop, 1) := by decide +kernel
theorem dX0_parts_39 : decode cX0_parts 39 = .ok (.iinc 3 1, 3) := by decide +kernel
theorem dX0_parts_42 : decode cX0_parts 42 = .ok (.iinc 4 1, 3) := by decide +kernel
theorem dX0_parts_45 : decode cX0_parts 45 = .ok (.goto (-33), 3) := by decide +kernel
theorem dX0_parts_48 : decode cX0_parts 48 = .ok (.iload_n 3, 1) := by decide +kernel
theorem dX0_parts_49 : decode cX0_parts 49 = .ok (.ireturn, 1) := by decide +kernel
theorem dX0_softLevels_0 : decode cX0_softLevels 0 = .ok (.sipush 160, 3) := by decide +kernel
theorem dX0_softLevels_3 : decode cX0_softLevels 3 = .ok (.newarray .int, 2) := by decide +kernel
theorem dX0_softLevels_5 : decode cX0_softLevels 5 = .ok (.astore_n 2, 1) := by decide +kernel
theorem dX0_softLevels_6 : decode cX0_softLevels 6 = .ok (.iconst 0, 1) := by decide +kernel
theorem dX0_softLevels_7 : decode cX0_softLevels 7 = .ok (.istore_n 3, 1) := by decide +kernel
theorem dX0_softLevels_8 : decode cX0_softLevels 8 = .ok (.iload_n 3, 1) := by decide +kernel
theorem dX0_softLevels_9 : decode cX0_softLevels 9 = .ok (.sipush 160, 3) := by decide +kernel
theorem dX0_softLevels_12 : decode cX0_softLevels 12 = .ok (.if_icmp .ge 27, 3) := by decide +kernel
theorem dX0_softLevels_15 : decode cX0_softLevels 15 = .ok (.aload_n 2, 1) := by decide +kernel
theorem dX0_softLevels_16 : decode cX0_softLevels 16 = .ok (.iload_n 3, 1) := by decide +kernel
theorem dX0_softLevels_17 : decode cX0_softLevels 17 = .ok (.aload_n 0, 1) := by decide +kernel
theorem dX0_softLevels_18 : decode cX0_softLevels 18 = .ok (.getfield 22, 3) := by decide +kernel
theorem dX0_softLevels_21 : decode cX0_softLevels 21 = .ok (.iload_n 3, 1) := by decide +kernel
theorem dX0_softLevels_22 : decode cX0_softLevels 22 = .ok (.baload, 1) := by decide +kernel
theorem dX0_softLevels_23 : decode cX0_softLevels 23 = .ok (.ifCond .eq 8, 3) := by decide +kernel
theorem dX0_softLevels_26 : decode cX0_softLevels 26 = .ok (.bipush 100, 2) := by decide +kernel
theorem dX0_softLevels_28 : decode cX0_softLevels 28 = .ok (.goto 4, 3) := by decide +kernel
theorem dX0_softLevels_31 : decode cX0_softLevels 31 = .ok (.iconst 0, 1) := by decide +kernel
theorem dX0_softLevels_32 : decode cX0_softLevels 32 = .ok (.iastore, 1) := by decide +kernel
theorem dX0_softLevels_33 : decode cX0_softLevels 33 = .ok (.iinc 3 1, 3) := by decide +kernel
theorem dX0_softLevels_36 : decode cX0_softLevels 36 = .ok (.goto (-28), 3) := by decide +kernel
theorem dX0_softLevels_39 : decode cX0_softLevels 39 = .ok (.bipush 100, 2) := by decide +kernel
theorem dX0_softLevels_41 : decode cX0_softLevels 41 = .ok (.istore_n 3, 1) := by decide +kernel
theorem dX0_softLevels_42 : decode cX0_softLevels 42 = .ok (.iconst 1, 1) := by decide +kernel
theorem dX0_softLevels_43 : decode cX0_softLevels 43 = .ok (.istore 4, 2) := by decide +kernel
theorem dX0_softLevels_45 : decode cX0_softLevels 45 = .ok (.iload 4, 2) := by decide +kernel
theorem dX0_softLevels_47 : decode cX0_softLevels 47 = .ok (.iload_n 1, 1) := by decide +kernel
theorem dX0_softLevels_48 : decode cX0_softLevels 48 = .ok (.if_icmp .gt 34, 3) := by decide +kernel
theorem dX0_softLevels_51 : decode cX0_softLevels 51 = .ok (.bipush 100, 2) := by decide +kernel
theorem dX0_softLevels_53 : decode cX0_softLevels 53 = .ok (.iload_n 1, 1) := by decide +kernel
theorem dX0_softLevels_54 : decode cX0_softLevels 54 = .ok (.iconst 1, 1) := by decide +kernel
theorem dX0_softLevels_55 : decode cX0_softLevels 55 = .ok (.iadd, 1) := by decide +kernel
theorem dX0_softLevels_56 : decode cX0_softLevels 56 = .ok (.iload 4, 2) := by decide +kernel
theorem dX0_softLevels_58 : decode cX0_softLevels 58 = .ok (.isub, 1) := by decide +kernel
theorem dX0_softLevels_59 : decode cX0_softLevels 59 = .ok (.imul, 1) := by decide +kernel
theorem dX0_softLevels_60 : decode cX0_softLevels 60 = .ok (.iload_n 1, 1) := by decide +kernel
theorem dX0_softLevels_61 : decode cX0_softLevels 61 = .ok (.iconst 1, 1) := by decide +kernel
theorem dX0_softLevels_62 : decode cX0_softLevels 62 = .ok (.iadd, 1) := by decide +kernel
theorem dX0_softLevels_63 : decode cX0_softLevels 63 = .ok (.idiv, 1) := by decide +kernel
theorem dX0_softLevels_64 : decode cX0_softLevels 64 = .ok (.istore 5, 2) := by decide +kernel
theorem dX0_softLevels_66 : decode cX0_softLevels 66 = .ok (.aload_n 2, 1) := by decide +kernel
theorem dX0_softLevels_67 : decode cX0_softLevels 67 = .ok (.iload_n 3, 1) := by decide +kernel
theorem dX0_softLevels_68 : decode cX0_softLevels 68 = .ok (.iload 5, 2) := by decide +kernel
theorem dX0_softLevels_70 : decode cX0_softLevels 70 = .ok (.invokestatic 51, 3) := by decide +kernel
theorem dX0_softLevels_73 : decode cX0_softLevels 73 = .ok (.iload 5, 2) := by decide +kernel
theorem dX0_softLevels_75 : decode cX0_softLevels 75 = .ok (.istore_n 3, 1) := by decide +kernel
theorem dX0_softLevels_76 : decode cX0_softLevels 76 = .ok (.iinc 4 1, 3) := by decide +kernel
theorem dX0_softLevels_79 : decode cX0_softLevels 79 = .ok (.goto (-34), 3) := by decide +kernel
theorem dX0_softLevels_82 : decode cX0_softLevels 82 = .ok (.aload_n 2, 1) := by decide +kernel
theorem dX0_softLevels_83 : decode cX0_softLevels 83 = .ok (.areturn, 1) := by decide +kernel
theorem dX0_clear_0 : decode cX0_clear 0 = .ok (.iconst 0, 1) := by decide +kernel
theorem dX0_clear_1 : decode cX0_clear 1 = .ok (.istore_n 1, 1) := by decide +kernel
theorem dX0_clear_2 : decode cX0_clear 2 = .ok (.iload_n 1, 1) := by decide +kernel
theorem dX0_clear_3 : decode cX0_clear 3 = .ok (.sipush 160, 3) := by decide +kernel
theorem dX0_clear_6 : decode cX0_clear 6 = .ok (.if_icmp .ge 13, 3) := by decide +kernel
theorem dX0_clear_9 : decode cX0_clear 9 = .ok (.aload_n 0, 1) := by decide +kernel
theorem dX0_clear_10 : decode cX0_clear 10 = .ok (.iload_n 1, 1) := by decide +kernel
theorem dX0_clear_11 : decode cX0_clear 11 = .ok (.iconst 0, 1) := by decide +kernel
theorem dX0_clear_12 : decode cX0_clear 12 = .ok (.bastore, 1) := by decide +kernel
theorem dX0_clear_13 : decode cX0_clear 13 = .ok (.iinc 1 1, 3) := by decide +kernel
theorem dX0_clear_16 : decode cX0_clear 16 = .ok (.goto (-14), 3) := by decide +kernel
theorem dX0_clear_19 : decode cX0_clear 19 = .ok (.return_, 1) := by decide +kernel
theorem dX0_findAlike_0 : decode cX0_findAlike 0 = .ok (.aload_n 0, 1) := by decide +kernel
theorem dX0_findAlike_1 : decode cX0_findAlike 1 = .ok (.getfield 9, 3) := by decide +kernel
theorem dX0_findAlike_4 : decode cX0_findAlike 4 = .ok (.invokestatic 43, 3) := by decide +kernel
theorem dX0_findAlike_7 : decode cX0_findAlike 7 = .ok (.iload 4, 2) := by decide +kernel
theorem dX0_findAlike_9 : decode cX0_findAlike 9 = .ok (.iconst 1, 1) := by decide +kernel
theorem dX0_findAlike_10 : decode cX0_findAlike 10 = .ok (.if_icmp .ne 11, 3) := by decide +kernel
theorem dX0_findAlike_13 : decode cX0_findAlike 13 = .ok (.aload_n 0, 1) := by decide +kernel
theorem dX0_findAlike_14 : decode cX0_findAlike 14 = .ok (.aload_n 1, 1) := by decide +kernel
theorem dX0_findAlike_15 : decode cX0_findAlike 15 = .ok (.iload_n 2, 1) := by decide +kernel
theorem dX0_findAlike_16 : decode cX0_findAlike 16 = .ok (.iload_n 3, 1) := by decide +kernel
theorem dX0_findAlike_17 : decode cX0_findAlike 17 = .ok (.invokevirtual 47, 3) := by decide +kernel
theorem dX0_findAlike_20 : decode cX0_findAlike 20 = .ok (.ireturn, 1) := by decide +kernel
theorem dX0_findAlike_21 : decode cX0_findAlike 21 = .ok (.iconst 0, 1) := by decide +kernel
theorem dX0_findAlike_22 : decode cX0_findAlike 22 = .ok (.istore 5, 2) := by decide +kernel
theorem dX0_findAlike_24 : decode cX0_findAlike 24 = .ok (.iconst 0, 1) := by decide +kernel
theorem dX0_findAlike_25 : decode cX0_findAlike 25 = .ok (.istore 6, 2) := by decide +kernel
theorem dX0_findAlike_27 : decode cX0_findAlike 27 = .ok (.iload 6, 2) := by decide +kernel
theorem dX0_findAlike_29 : decode cX0_findAlike 29 = .ok (.sipush 160, 3) := by decide +kernel
theorem dX0_findAlike_32 : decode cX0_findAlike 32 = .ok (.if_icmp .ge 35, 3) := by decide +kernel
theorem dX0_findAlike_35 : decode cX0_findAlike 35 = .ok (.aload_n 1, 1) := by decide +kernel
theorem dX0_findAlike_36 : decode cX0_findAlike 36 = .ok (.iload 6, 2) := by decide +kernel
theorem dX0_findAlike_38 : decode cX0_findAlike 38 = .ok (.iaload, 1) := by decide +kernel
theorem dX0_findAlike_39 : decode cX0_findAlike 39 = .ok (.aload_n 1, 1) := by decide +kernel
theorem dX0_findAlike_40 : decode cX0_findAlike 40 = .ok (.iload_n 2, 1) := by decide +kernel
theorem dX0_findAlike_41 : decode cX0_findAlike 41 = .ok (.iaload, 1) := by decide +kernel
theorem dX0_findAlike_42 : decode cX0_findAlike 42 = .ok (.isub, 1) := by decide +kernel
theorem dX0_findAlike_43 : decode cX0_findAlike 43 = .ok (.invokestatic 55, 3) := by decide +kernel
theorem dX0_findAlike_46 : decode cX0_findAlike 46 = .ok (.iload_n 3, 1) := by decide +kernel
theorem dX0_findAlike_47 : decode cX0_findAlike 47 = .ok (.if_icmp .gt 14, 3) := by decide +kernel
theorem dX0_findAlike_50 : decode cX0_findAlike 50 = .ok (.aload_n 0, 1) := by decide +kernel
theorem dX0_findAlike_51 : decode cX0_findAlike 51 = .ok (.getfield 9, 3) := by decide +kernel
theorem dX0_findAlike_54 : decode cX0_findAlike 54 = .ok (.iload 6, 2) := by decide +kernel
theorem dX0_findAlike_56 : decode cX0_findAlike 56 = .ok (.iconst 1, 1) := by decide +kernel
theorem dX0_findAlike_57 : decode cX0_findAlike 57 = .ok (.bastore, 1) := by decide +kernel
theorem dX0_findAlike_58 : decode cX0_findAlike 58 = .ok (.iinc 5 1, 3) := by decide +kernel
theorem dX0_findAlike_61 : decode cX0_findAlike 61 = .ok (.iinc 6 1, 3) := by decide +kernel
theorem dX0_findAlike_64 : decode cX0_findAlike 64 = .ok (.goto (-37), 3) := by decide +kernel
theorem dX0_findAlike_67 : decode cX0_findAlike 67 = .ok (.iload 5, 2) := by decide +kernel
theorem dX0_findAlike_69 : decode cX0_findAlike 69 = .ok (.ireturn, 1) := by decide +kernel
theorem dX0_flood_0 : decode cX0_flood 0 = .ok (.aload_n 0, 1) := by decide +kernel
theorem dX0_flood_1 : decode cX0_flood 1 = .ok (.iconst 0, 1) := by decide +kernel
theorem dX0_flood_2 : decode cX0_flood 2 = .ok (.putfield 28, 3) := by decide +kernel
theorem dX0_flood_5 : decode cX0_flood 5 = .ok (.aload_n 0, 1) := by decide +kernel
theorem dX0_flood_6 : decode cX0_flood 6 = .ok (.aload_n 0, 1) := by decide +kernel
theorem dX0_flood_7 : decode cX0_flood 7 = .ok (.getfield 9, 3) := by decide +kernel
theorem dX0_flood_10 : decode cX0_flood 10 = .ok (.iload_n 2, 1) := by decide +kernel
theorem dX0_flood_11 : decode cX0_flood 11 = .ok (.invokevirtual 61, 3) := by decide +kernel
theorem dX0_flood_14 : decode cX0_flood 14 = .ok (.iconst 0, 1) := by decide +kernel
theorem dX0_flood_15 : decode cX0_flood 15 = .ok (.istore 4, 2) := by decide +kernel
theorem dX0_flood_17 : decode cX0_flood 17 = .ok (.iload 4, 2) := by decide +kernel
theorem dX0_flood_19 : decode cX0_flood 19 = .ok (.aload_n 0, 1) := by decide +kernel
theorem dX0_flood_20 : decode cX0_flood 20 = .ok (.getfield 28, 3) := by decide +kernel
theorem dX0_flood_23 : decode cX0_flood 23 = .ok (.if_icmp .ge 81, 3) := by decide +kernel
theorem dX0_flood_26 : decode cX0_flood 26 = .ok (.iload 4, 2) := by decide +kernel
theorem dX0_flood_28 : decode cX0_flood 28 = .ok (.sipush 160, 3) := by decide +kernel
theorem dX0_flood_31 : decode cX0_flood 31 = .ok (.if_icmp .ge 73, 3) := by decide +kernel
theorem dX0_flood_34 : decode cX0_flood 34 = .ok (.aload_n 0, 1) := by decide +kernel
theorem dX0_flood_35 : decode cX0_flood 35 = .ok (.getfield 25, 3) := by decide +kernel
theorem dX0_flood_38 : decode cX0_flood 38 = .ok (.iload 4, 2) := by decide +kernel
theorem dX0_flood_40 : decode cX0_flood 40 = .ok (.iaload, 1) := by decide +kernel
theorem dX0_flood_41 : decode cX0_flood 41 = .ok (.istore 5, 2) := by decide +kernel
theorem dX0_flood_43 : decode cX0_flood 43 = .ok (.iconst 0, 1) := by decide +kernel
theorem dX0_flood_44 : decode cX0_flood 44 = .ok (.istore 6, 2) := by decide +kernel
theorem dX0_flood_46 : decode cX0_flood 46 = .ok (.iload 6, 2) := by decide +kernel
theorem dX0_flood_48 : decode cX0_flood 48 = .ok (.iconst 4, 1) := by decide +kernel
theorem dX0_flood_49 : decode cX0_flood 49 = .ok (.if_icmp .ge 49, 3) := by decide +kernel
theorem dX0_flood_52 : decode cX0_flood 52 = .ok (.iload 5, 2) := by decide +kernel
theorem dX0_flood_54 : decode cX0_flood 54 = .ok (.iload 6, 2) := by decide +kernel
theorem dX0_flood_56 : decode cX0_flood 56 = .ok (.invokestatic 65, 3) := by decide +kernel
theorem dX0_flood_59 : decode cX0_flood 59 = .ok (.istore 7, 2) := by decide +kernel
theorem dX0_flood_61 : decode cX0_flood 61 = .ok (.iload 7, 2) := by decide +kernel
theorem dX0_flood_63 : decode cX0_flood 63 = .ok (.ifCond .lt 29, 3) := by decide +kernel
theorem dX0_flood_66 : decode cX0_flood 66 = .ok (.aload_n 1, 1) := by decide +kernel
theorem dX0_flood_67 : decode cX0_flood 67 = .ok (.iload 7, 2) := by decide +kernel
theorem dX0_flood_69 : decode cX0_flood 69 = .ok (.iaload, 1) := by decide +kernel
theorem dX0_flood_70 : decode cX0_flood 70 = .ok (.aload_n 1, 1) := by decide +kernel
theorem dX0_flood_71 : decode cX0_flood 71 = .ok (.iload 5, 2) := by decide +kernel
theorem dX0_flood_73 : decode cX0_flood 73 = .ok (.iaload, 1) := by decide +kernel
theorem dX0_flood_74 : decode cX0_flood 74 = .ok (.isub, 1) := by decide +kernel
theorem dX0_flood_75 : decode cX0_flood 75 = .ok (.invokestatic 55, 3) := by decide +kernel
theorem dX0_flood_78 : decode cX0_flood 78 = .ok (.iload_n 3, 1) := by decide +kernel
theorem dX0_flood_79 : decode cX0_flood 79 = .ok (.if_icmp .gt 13, 3) := by decide +kernel
theorem dX0_flood_82 : decode cX0_flood 82 = .ok (.aload_n 0, 1) := by decide +kernel
theorem dX0_flood_83 : decode cX0_flood 83 = .ok (.aload_n 0, 1) := by decide +kernel
theorem dX0_flood_84 : decode cX0_flood 84 = .ok (.getfield 9, 3) := by decide +kernel
theorem dX0_flood_87 : decode cX0_flood 87 = .ok (.iload 7, 2) := by decide +kernel
theorem dX0_flood_89 : decode cX0_flood 89 = .ok (.invokevirtual 61, 3) := by decide +kernel
theorem dX0_flood_92 : decode cX0_flood 92 = .ok (.iinc 6 1, 3) := by decide +kernel
theorem dX0_flood_95 : decode cX0_flood 95 = .ok (.goto (-49), 3) := by decide +kernel
theorem dX0_flood_98 : decode cX0_flood 98 = .ok (.iinc 4 1, 3) := by decide +kernel
theorem dX0_flood_101 : decode cX0_flood 101 = .ok (.goto (-84), 3) := by decide +kernel
theorem dX0_flood_104 : decode cX0_flood 104 = .ok (.aload_n 0, 1) := by decide +kernel
theorem dX0_flood_105 : decode cX0_flood 105 = .ok (.getfield 28, 3) := by decide +kernel
theorem dX0_flood_108 : decode cX0_flood 108 = .ok (.ireturn, 1) := by decide +kernel
theorem dX0_enter_0 : decode cX0_enter 0 = .ok (.aload_n 1, 1) := by decide +kernel
theorem dX0_enter_1 : decode cX0_enter 1 = .ok (.iload_n 2, 1) := by decide +kernel
theorem dX0_enter_2 : decode cX0_enter 2 = .ok (.baload, 1) := by decide +kernel
theorem dX0_enter_3 : decode cX0_enter 3 = .ok (.ifCond .ne 37, 3) := by decide +kernel
theorem dX0_enter_6 : decode cX0_enter 6 = .ok (.aload_n 0, 1) := by decide +kernel
theorem dX0_enter_7 : decode cX0_enter 7 = .ok (.getfield 28, 3) := by decide +kernel
theorem dX0_enter_10 : decode cX0_enter 10 = .ok (.sipush 160, 3) := by decide +kernel
theorem dX0_enter_13 : decode cX0_enter 13 = .ok (.if_icmp .ge 27, 3) := by decide +kernel
theorem dX0_enter_16 : decode cX0_enter 16 = .ok (.aload_n 1, 1) := by decide +kernel
theorem dX0_enter_17 : decode cX0_enter 17 = .ok (.iload_n 2, 1) := by decide +kernel
theorem dX0_enter_18 : decode cX0_enter 18 = .ok (.iconst 1, 1) := by decide +kernel
theorem dX0_enter_19 : decode cX0_enter 19 = .ok (.bastore, 1) := by decide +kernel
theorem dX0_enter_20 : decode cX0_enter 20 = .ok (.aload_n 0, 1) := by decide +kernel
theorem dX0_enter_21 : decode cX0_enter 21 = .ok (.getfield 25, 3) := by decide +kernel
theorem dX0_enter_24 : decode cX0_enter 24 = .ok (.aload_n 0, 1) := by decide +kernel
theorem dX0_enter_25 : decode cX0_enter 25 = .ok (.getfield 28, 3) := by decide +kernel
theorem dX0_enter_28 : decode cX0_enter 28 = .ok (.iload_n 2, 1) := by decide +kernel
theorem dX0_enter_29 : decode cX0_enter 29 = .ok (.iastore, 1) := by decide +kernel
theorem dX0_enter_30 : decode cX0_enter 30 = .ok (.aload_n 0, 1) := by decide +kernel
theorem dX0_enter_31 : decode cX0_enter 31 = .ok (.dup, 1) := by decide +kernel
theorem dX0_enter_32 : decode cX0_enter 32 = .ok (.getfield 28, 3) := by decide +kernel
theorem dX0_enter_35 : decode cX0_enter 35 = .ok (.iconst 1, 1) := by decide +kernel
theorem dX0_enter_36 : decode cX0_enter 36 = .ok (.iadd, 1) := by decide +kernel
theorem dX0_enter_37 : decode cX0_enter 37 = .ok (.putfield 28, 3) := by decide +kernel
theorem dX0_enter_40 : decode cX0_enter 40 = .ok (.return_, 1) := by decide +kernel
theorem dX0_spread_0 : decode cX0_spread 0 = .ok (.aload_n 0, 1) := by decide +kernel
theorem dX0_spread_1 : decode cX0_spread 1 = .ok (.invokevirtual 68, 3) := by decide +kernel
theorem dX0_spread_4 : decode cX0_spread 4 = .ok (.aload_n 0, 1) := by decide +kernel
theorem dX0_spread_5 : decode cX0_spread 5 = .ok (.iload_n 2, 1) := by decide +kernel
theorem dX0_spread_6 : decode cX0_spread 6 = .ok (.putfield 32, 3) := by decide +kernel
theorem dX0_spread_9 : decode cX0_spread 9 = .ok (.aload_n 0, 1) := by decide +kernel
theorem dX0_spread_10 : decode cX0_spread 10 = .ok (.getfield 32, 3) := by decide +kernel
theorem dX0_spread_13 : decode cX0_spread 13 = .ok (.ifCond .le 24, 3) := by decide +kernel
theorem dX0_spread_16 : decode cX0_spread 16 = .ok (.aload_n 0, 1) := by decide +kernel
theorem dX0_spread_17 : decode cX0_spread 17 = .ok (.iload_n 1, 1) := by decide +kernel
theorem dX0_spread_18 : decode cX0_spread 18 = .ok (.invokevirtual 71, 3) := by decide +kernel
theorem dX0_spread_21 : decode cX0_spread 21 = .ok (.ifCond .ne 16, 3) := by decide +kernel
theorem dX0_spread_24 : decode cX0_spread 24 = .ok (.aload_n 0, 1) := by decide +kernel
theorem dX0_spread_25 : decode cX0_spread 25 = .ok (.dup, 1) := by decide +kernel
theorem dX0_spread_26 : decode cX0_spread 26 = .ok (.getfield 32, 3) := by decide +kernel
theorem dX0_spread_29 : decode cX0_spread 29 = .ok (.iconst 1, 1) := by decide +kernel
theorem dX0_spread_30 : decode cX0_spread 30 = .ok (.isub, 1) := by decide +kernel
theorem dX0_spread_31 : decode cX0_spread 31 = .ok (.putfield 32, 3) := by decide +kernel
theorem dX0_spread_34 : decode cX0_spread 34 = .ok (.goto (-25), 3) := by decide +kernel
theorem dX0_spread_37 : decode cX0_spread 37 = .ok (.aload_n 0, 1) := by decide +kernel
theorem dX0_spread_38 : decode cX0_spread 38 = .ok (.iload_n 1, 1) := by decide +kernel
theorem dX0_spread_39 : decode cX0_spread 39 = .ok (.invokevirtual 75, 3) := by decide +kernel
theorem dX0_spread_42 : decode cX0_spread 42 = .ok (.iconst 0, 1) := by decide +kernel
theorem dX0_spread_43 : decode cX0_spread 43 = .ok (.istore_n 3, 1) := by decide +kernel
theorem dX0_spread_44 : decode cX0_spread 44 = .ok (.iload_n 3, 1) := by decide +kernel
theorem dX0_spread_45 : decode cX0_spread 45 = .ok (.aload_n 0, 1) := by decide +kernel
theorem dX0_spread_46 : decode cX0_spread 46 = .ok (.getfield 28, 3) := by decide +kernel
theorem dX0_spread_49 : decode cX0_spread 49 = .ok (.if_icmp .ge 26, 3) := by decide +kernel
theorem dX0_spread_52 : decode cX0_spread 52 = .ok (.iload_n 3, 1) := by decide +kernel
theorem dX0_spread_53 : decode cX0_spread 53 = .ok (.sipush 160, 3) := by decide +kernel
theorem dX0_spread_56 : decode cX0_spread 56 = .ok (.if_icmp .ge 19, 3) := by decide +kernel
theorem dX0_spread_59 : decode cX0_spread 59 = .ok (.aload_n 0, 1) := by decide +kernel
theorem dX0_spread_60 : decode cX0_spread 60 = .ok (.aload_n 0, 1) := by decide +kernel
theorem dX0_spread_61 : decode cX0_spread 61 = .ok (.getfield 25, 3) := by decide +kernel
theorem dX0_spread_64 : decode cX0_spread 64 = .ok (.iload_n 3, 1) := by decide +kernel
theorem dX0_spread_65 : decode cX0_spread 65 = .ok (.iaload, 1) := by decide +kernel
theorem dX0_spread_66 : decode cX0_spread 66 = .ok (.invokevirtual 79, 3) := by decide +kernel
theorem dX0_spread_69 : decode cX0_spread 69 = .ok (.iinc 3 1, 3) := by decide +kernel
theorem dX0_spread_72 : decode cX0_spread 72 = .ok (.goto (-28), 3) := by decide +kernel
theorem dX0_spread_75 : decode cX0_spread 75 = .ok (.aload_n 0, 1) := by decide +kernel
theorem dX0_spread_76 : decode cX0_spread 76 = .ok (.invokevirtual 82, 3) := by decide +kernel
theorem dX0_spread_79 : decode cX0_spread 79 = .ok (.ireturn, 1) := by decide +kernel
theorem dX0_measureSquares_0 : decode cX0_measureSquares 0 = .ok (.sipush 159, 3) := by decide +kernel
theorem dX0_measureSquares_3 : decode cX0_measureSquares 3 = .ok (.istore_n 1, 1) := by decide +kernel
theorem dX0_measureSquares_4 : decode cX0_measureSquares 4 = .ok (.iload_n 1, 1) := by decide +kernel
theorem dX0_measureSquares_5 : decode cX0_measureSquares 5 = .ok (.ifCond .lt 76, 3) := by decide +kernel
theorem dX0_measureSquares_8 : decode cX0_measureSquares 8 = .ok (.iload_n 1, 1) := by decide +kernel
theorem dX0_measureSquares_9 : decode cX0_measureSquares 9 = .ok (.bipush 16, 2) := by decide +kernel
theorem dX0_measureSquares_11 : decode cX0_measureSquares 11 = .ok (.irem, 1) := by decide +kernel
theorem dX0_measureSquares_12 : decode cX0_measureSquares 12 = .ok (.istore_n 2, 1) := by decide +kernel
theorem dX0_measureSquares_13 : decode cX0_measureSquares 13 = .ok (.iload_n 1, 1) := by decide +kernel
theorem dX0_measureSquares_14 : decode cX0_measureSquares 14 = .ok (.bipush 16, 2) := by decide +kernel
theorem dX0_measureSquares_16 : decode cX0_measureSquares 16 = .ok (.idiv, 1) := by decide +kernel
theorem dX0_measureSquares_17 : decode cX0_measureSquares 17 = .ok (.istore_n 3, 1) := by decide +kernel
theorem dX0_measureSquares_18 : decode cX0_measureSquares 18 = .ok (.aload_n 0, 1) := by decide +kernel
theorem dX0_measureSquares_19 : decode cX0_measureSquares 19 = .ok (.iload_n 2, 1) := by decide +kernel
theorem dX0_measureSquares_20 : decode cX0_measureSquares 20 = .ok (.iconst 1, 1) := by decide +kernel
theorem dX0_measureSquares_21 : decode cX0_measureSquares 21 = .ok (.iadd, 1) := by decide +kernel
theorem dX0_measureSquares_22 : decode cX0_measureSquares 22 = .ok (.iload_n 3, 1) := by decide +kernel
theorem dX0_measureSquares_23 : decode cX0_measureSquares 23 = .ok (.invokevirtual 86, 3) := by decide +kernel
theorem dX0_measureSquares_26 : decode cX0_measureSquares 26 = .ok (.aload_n 0, 1) := by decide +kernel
theorem dX0_measureSquares_27 : decode cX0_measureSquares 27 = .ok (.iload_n 2, 1) := by decide +kernel
theorem dX0_measureSquares_28 : decode cX0_measureSquares 28 = .ok (.iload_n 3, 1) := by decide +kernel
theorem dX0_measureSquares_29 : decode cX0_measureSquares 29 = .ok (.iconst 1, 1) := by decide +kernel
theorem dX0_measureSquares_30 : decode cX0_measureSquares 30 = .ok (.iadd, 1) := by decide +kernel
theorem dX0_measureSquares_31 : decode cX0_measureSquares 31 = .ok (.invokevirtual 86, 3) := by decide +kernel
theorem dX0_measureSquares_34 : decode cX0_measureSquares 34 = .ok (.invokestatic 89, 3) := by decide +kernel
theorem dX0_measureSquares_37 : decode cX0_measureSquares 37 = .ok (.istore 4, 2) := by decide +kernel
theorem dX0_measureSquares_39 : decode cX0_measureSquares 39 = .ok (.aload_n 0, 1) := by decide +kernel
theorem dX0_measureSquares_40 : decode cX0_measureSquares 40 = .ok (.getfield 15, 3) := by decide +kernel
theorem dX0_measureSquares_43 : decode cX0_measureSquares 43 = .ok (.iload_n 1, 1) := by decide +kernel
theorem dX0_measureSquares_44 : decode cX0_measureSquares 44 = .ok (.aload_n 0, 1) := by decide +kernel
theorem dX0_measureSquares_45 : decode cX0_measureSquares 45 = .ok (.getfield 9, 3) := by decide +kernel
theorem dX0_measureSquares_48 : decode cX0_measureSquares 48 = .ok (.iload_n 1, 1) := by decide +kernel
theorem dX0_measureSquares_49 : decode cX0_measureSquares 49 = .ok (.baload, 1) := by decide +kernel
theorem dX0_measureSquares_50 : decode cX0_measureSquares 50 = .ok (.ifCond .eq 23, 3) := by decide +kernel
theorem dX0_measureSquares_53 : decode cX0_measureSquares 53 = .ok (.iconst 1, 1) := by decide +kernel
theorem dX0_measureSquares_54 : decode cX0_measureSquares 54 = .ok (.iload 4, 2) := by decide +kernel
theorem dX0_measureSquares_56 : decode cX0_measureSquares 56 = .ok (.aload_n 0, 1) := by decide +kernel
theorem dX0_measureSquares_57 : decode cX0_measureSquares 57 = .ok (.iload_n 2, 1) := by decide +kernel
theorem dX0_measureSquares_58 : decode cX0_measureSquares 58 = .ok (.iconst 1, 1) := by decide +kernel
theorem dX0_measureSquares_59 : decode cX0_measureSquares 59 = .ok (.iadd, 1) := by decide +kernel
theorem dX0_measureSquares_60 : decode cX0_measureSquares 60 = .ok (.iload_n 3, 1) := by decide +kernel
theorem dX0_measureSquares_61 : decode cX0_measureSquares 61 = .ok (.iconst 1, 1) := by decide +kernel
theorem dX0_measureSquares_62 : decode cX0_measureSquares 62 = .ok (.iadd, 1) := by decide +kernel
theorem dX0_measureSquares_63 : decode cX0_measureSquares 63 = .ok (.invokevirtual 86, 3) := by decide +kernel
theorem dX0_measureSquares_66 : decode cX0_measureSquares 66 = .ok (.invokestatic 89, 3) := by decide +kernel
theorem dX0_measureSquares_69 : decode cX0_measureSquares 69 = .ok (.iadd, 1) := by decide +kernel
theorem dX0_measureSquares_70 : decode cX0_measureSquares 70 = .ok (.goto 4, 3) := by decide +kernel
theorem dX0_measureSquares_73 : decode cX0_measureSquares 73 = .ok (.iconst 0, 1) := by decide +kernel
theorem dX0_measureSquares_74 : decode cX0_measureSquares 74 = .ok (.iastore, 1) := by decide +kernel
theorem dX0_measureSquares_75 : decode cX0_measureSquares 75 = .ok (.iinc 1 (-1), 3) := by decide +kernel
theorem dX0_measureSquares_78 : decode cX0_measureSquares 78 = .ok (.goto (-74), 3) := by decide +kernel
theorem dX0_measureSquares_81 : decode cX0_measureSquares 81 = .ok (.return_, 1) := by decide +kernel
theorem dX0_sideAt_0 : decode cX0_sideAt 0 = .ok (.iload_n 1, 1) := by decide +kernel
theorem dX0_sideAt_1 : decode cX0_sideAt 1 = .ok (.iload_n 2, 1) := by decide +kernel
theorem dX0_sideAt_2 : decode cX0_sideAt 2 = .ok (.invokestatic 92, 3) := by decide +kernel
theorem dX0_sideAt_5 : decode cX0_sideAt 5 = .ok (.ifCond .eq 16, 3) := by decide +kernel
theorem dX0_sideAt_8 : decode cX0_sideAt 8 = .ok (.aload_n 0, 1) := by decide +kernel
theorem dX0_sideAt_9 : decode cX0_sideAt 9 = .ok (.getfield 15, 3) := by decide +kernel
theorem dX0_sideAt_12 : decode cX0_sideAt 12 = .ok (.iload_n 1, 1) := by decide +kernel
theorem dX0_sideAt_13 : decode cX0_sideAt 13 = .ok (.iload_n 2, 1) := by decide +kernel
theorem dX0_sideAt_14 : decode cX0_sideAt 14 = .ok (.invokestatic 96, 3) := by decide +kernel
theorem dX0_sideAt_17 : decode cX0_sideAt 17 = .ok (.iaload, 1) := by decide +kernel
theorem dX0_sideAt_18 : decode cX0_sideAt 18 = .ok (.goto 4, 3) := by decide +kernel
theorem dX0_sideAt_21 : decode cX0_sideAt 21 = .ok (.iconst 0, 1) := by decide +kernel
theorem dX0_sideAt_22 : decode cX0_sideAt 22 = .ok (.ireturn, 1) := by decide +kernel
theorem dX0_liesInSquare_0 : decode cX0_liesInSquare 0 = .ok (.iload_n 1, 1) := by decide +kernel
theorem dX0_liesInSquare_1 : decode cX0_liesInSquare 1 = .ok (.bipush 16, 2) := by decide +kernel
theorem dX0_liesInSquare_3 : decode cX0_liesInSquare 3 = .ok (.irem, 1) := by decide +kernel
theorem dX0_liesInSquare_4 : decode cX0_liesInSquare 4 = .ok (.istore_n 2, 1) := by decide +kernel
theorem dX0_liesInSquare_5 : decode cX0_liesInSquare 5 = .ok (.iload_n 1, 1) := by decide +kernel
theorem dX0_liesInSquare_6 : decode cX0_liesInSquare 6 = .ok (.bipush 16, 2) := by decide +kernel
theorem dX0_liesInSquare_8 : decode cX0_liesInSquare 8 = .ok (.idiv, 1) := by decide +kernel
theorem dX0_liesInSquare_9 : decode cX0_liesInSquare 9 = .ok (.istore_n 3, 1) := by decide +kernel
theorem dX0_liesInSquare_10 : decode cX0_liesInSquare 10 = .ok (.iload_n 3, 1) := by decide +kernel
theorem dX0_liesInSquare_11 : decode cX0_liesInSquare 11 = .ok (.aload_n 0, 1) := by decide +kernel
theorem dX0_liesInSquare_12 : decode cX0_liesInSquare 12 = .ok (.getfield 32, 3) := by decide +kernel
theorem dX0_liesInSquare_15 : decode cX0_liesInSquare 15 = .ok (.isub, 1) := by decide +kernel
theorem dX0_liesInSquare_16 : decode cX0_liesInSquare 16 = .ok (.istore 4, 2) := by decide +kernel
theorem dX0_liesInSquare_18 : decode cX0_liesInSquare 18 = .ok (.iload 4, 2) := by decide +kernel
theorem dX0_liesInSquare_20 : decode cX0_liesInSquare 20 = .ok (.iload_n 3, 1) := by decide +kernel
theorem dX0_liesInSquare_21 : decode cX0_liesInSquare 21 = .ok (.if_icmp .gt 46, 3) := by decide +kernel
theorem dX0_liesInSquare_24 : decode cX0_liesInSquare 24 = .ok (.iload_n 2, 1) := by decide +kernel
theorem dX0_liesInSquare_25 : decode cX0_liesInSquare 25 = .ok (.aload_n 0, 1) := by decide +kernel
theorem dX0_liesInSquare_26 : decode cX0_liesInSquare 26 = .ok (.getfield 32, 3) := by decide +kernel
theorem dX0_liesInSquare_29 : decode cX0_liesInSquare 29 = .ok (.isub, 1) := by decide +kernel
theorem dX0_liesInSquare_30 : decode cX0_liesInSquare 30 = .ok (.istore 5, 2) := by decide +kernel
theorem dX0_liesInSquare_32 : decode cX0_liesInSquare 32 = .ok (.iload 5, 2) := by decide +kernel
theorem dX0_liesInSquare_34 : decode cX0_liesInSquare 34 = .ok (.iload_n 2, 1) := by decide +kernel
theorem dX0_liesInSquare_35 : decode cX0_liesInSquare 35 = .ok (.if_icmp .gt 26, 3) := by decide +kernel
theorem dX0_liesInSquare_38 : decode cX0_liesInSquare 38 = .ok (.aload_n 0, 1) := by decide +kernel
theorem dX0_liesInSquare_39 : decode cX0_liesInSquare 39 = .ok (.iload 5, 2) := by decide +kernel
theorem dX0_liesInSquare_41 : decode cX0_liesInSquare 41 = .ok (.iload 4, 2) := by decide +kernel
theorem dX0_liesInSquare_43 : decode cX0_liesInSquare 43 = .ok (.invokevirtual 86, 3) := by decide +kernel
theorem dX0_liesInSquare_46 : decode cX0_liesInSquare 46 = .ok (.aload_n 0, 1) := by decide +kernel
theorem dX0_liesInSquare_47 : decode cX0_liesInSquare 47 = .ok (.getfield 32, 3) := by decide +kernel
theorem dX0_liesInSquare_50 : decode cX0_liesInSquare 50 = .ok (.if_icmp .le 5, 3) := by decide +kernel
theorem dX0_liesInSquare_53 : decode cX0_liesInSquare 53 = .ok (.iconst 1, 1) := by decide +kernel
theorem dX0_liesInSquare_54 : decode cX0_liesInSquare 54 = .ok (.ireturn, 1) := by decide +kernel
theorem dX0_liesInSquare_55 : decode cX0_liesInSquare 55 = .ok (.iinc 5 1, 3) := by decide +kernel
theorem dX0_liesInSquare_58 : decode cX0_liesInSquare 58 = .ok (.goto (-26), 3) := by decide +kernel
theorem dX0_liesInSquare_61 : decode cX0_liesInSquare 61 = .ok (.iinc 4 1, 3) := by decide +kernel
theorem dX0_liesInSquare_64 : decode cX0_liesInSquare 64 = .ok (.goto (-46), 3) := by decide +kernel
theorem dX0_liesInSquare_67 : decode cX0_liesInSquare 67 = .ok (.iconst 0, 1) := by decide +kernel
theorem dX0_liesInSquare_68 : decode cX0_liesInSquare 68 = .ok (.ireturn, 1) := by decide +kernel
theorem dX0_joinSquaresOver_0 : decode cX0_joinSquaresOver 0 = .ok (.aload_n 0, 1) := by decide +kernel
theorem dX0_joinSquaresOver_1 : decode cX0_joinSquaresOver 1 = .ok (.getfield 19, 3) := by decide +kernel
theorem dX0_joinSquaresOver_4 : decode cX0_joinSquaresOver 4 = .ok (.invokestatic 43, 3) := by decide +kernel
theorem dX0_joinSquaresOver_7 : decode cX0_joinSquaresOver 7 = .ok (.aload_n 0, 1) := by decide +kernel
theorem dX0_joinSquaresOver_8 : decode cX0_joinSquaresOver 8 = .ok (.iconst 0, 1) := by decide +kernel
theorem dX0_joinSquaresOver_9 : decode cX0_joinSquaresOver 9 = .ok (.putfield 28, 3) := by decide +kernel
theorem dX0_joinSquaresOver_12 : decode cX0_joinSquaresOver 12 = .ok (.iload_n 1, 1) := by decide +kernel
theorem dX0_joinSquaresOver_13 : decode cX0_joinSquaresOver 13 = .ok (.bipush 16, 2) := by decide +kernel
theorem dX0_joinSquaresOver_15 : decode cX0_joinSquaresOver 15 = .ok (.irem, 1) := by decide +kernel
theorem dX0_joinSquaresOver_16 : decode cX0_joinSquaresOver 16 = .ok (.istore_n 2, 1) := by decide +kernel
theorem dX0_joinSquaresOver_17 : decode cX0_joinSquaresOver 17 = .ok (.iload_n 1, 1) := by decide +kernel
theorem dX0_joinSquaresOver_18 : decode cX0_joinSquaresOver 18 = .ok (.bipush 16, 2) := by decide +kernel
theorem dX0_joinSquaresOver_20 : decode cX0_joinSquaresOver 20 = .ok (.idiv, 1) := by decide +kernel
theorem dX0_joinSquaresOver_21 : decode cX0_joinSquaresOver 21 = .ok (.istore_n 3, 1) := by decide +kernel
theorem dX0_joinSquaresOver_22 : decode cX0_joinSquaresOver 22 = .ok (.iload_n 3, 1) := by decide +kernel
theorem dX0_joinSquaresOver_23 : decode cX0_joinSquaresOver 23 = .ok (.aload_n 0, 1) := by decide +kernel
theorem dX0_joinSquaresOver_24 : decode cX0_joinSquaresOver 24 = .ok (.getfield 32, 3) := by decide +kernel
theorem dX0_joinSquaresOver_27 : decode cX0_joinSquaresOver 27 = .ok (.isub, 1) := by decide +kernel
theorem dX0_joinSquaresOver_28 : decode cX0_joinSquaresOver 28 = .ok (.istore 4, 2) := by decide +kernel
theorem dX0_joinSquaresOver_30 : decode cX0_joinSquaresOver 30 = .ok (.iload 4, 2) := by decide +kernel
theorem dX0_joinSquaresOver_32 : decode cX0_joinSquaresOver 32 = .ok (.iload_n 3, 1) := by decide +kernel
theorem dX0_joinSquaresOver_33 : decode cX0_joinSquaresOver 33 = .ok (.if_icmp .gt 37, 3) := by decide +kernel
theorem dX0_joinSquaresOver_36 : decode cX0_joinSquaresOver 36 = .ok (.iload_n 2, 1) := by decide +kernel
theorem dX0_joinSquaresOver_37 : decode cX0_joinSquaresOver 37 = .ok (.aload_n 0, 1) := by decide +kernel
theorem dX0_joinSquaresOver_38 : decode cX0_joinSquaresOver 38 = .ok (.getfield 32, 3) := by decide +kernel
theorem dX0_joinSquaresOver_41 : decode cX0_joinSquaresOver 41 = .ok (.isub, 1) := by decide +kernel
theorem dX0_joinSquaresOver_42 : decode cX0_joinSquaresOver 42 = .ok (.istore 5, 2) := by decide +kernel
theorem dX0_joinSquaresOver_44 : decode cX0_joinSquaresOver 44 = .ok (.iload 5, 2) := by decide +kernel
theorem dX0_joinSquaresOver_46 : decode cX0_joinSquaresOver 46 = .ok (.iload_n 2, 1) := by decide +kernel
theorem dX0_joinSquaresOver_47 : decode cX0_joinSquaresOver 47 = .ok (.if_icmp .gt 17, 3) := by decide +kernel
theorem dX0_joinSquaresOver_50 : decode cX0_joinSquaresOver 50 = .ok (.aload_n 0, 1) := by decide +kernel
theorem dX0_joinSquaresOver_51 : decode cX0_joinSquaresOver 51 = .ok (.iload 5, 2) := by decide +kernel
theorem dX0_joinSquaresOver_53 : decode cX0_joinSquaresOver 53 = .ok (.iload 4, 2) := by decide +kernel
theorem dX0_joinSquaresOver_55 : decode cX0_joinSquaresOver 55 = .ok (.invokevirtual 99, 3) := by decide +kernel
theorem dX0_joinSquaresOver_58 : decode cX0_joinSquaresOver 58 = .ok (.iinc 5 1, 3) := by decide +kernel
theorem dX0_joinSquaresOver_61 : decode cX0_joinSquaresOver 61 = .ok (.goto (-17), 3) := by decide +kernel
theorem dX0_joinSquaresOver_64 : decode cX0_joinSquaresOver 64 = .ok (.iinc 4 1, 3) := by decide +kernel
theorem dX0_joinSquaresOver_67 : decode cX0_joinSquaresOver 67 = .ok (.goto (-37), 3) := by decide +kernel
theorem dX0_joinSquaresOver_70 : decode cX0_joinSquaresOver 70 = .ok (.return_, 1) := by decide +kernel
theorem dX0_joinAround_0 : decode cX0_joinAround 0 = .ok (.iload_n 1, 1) := by decide +kernel
theorem dX0_joinAround_1 : decode cX0_joinAround 1 = .ok (.bipush 16, 2) := by decide +kernel
theorem dX0_joinAround_3 : decode cX0_joinAround 3 = .ok (.irem, 1) := by decide +kernel
theorem dX0_joinAround_4 : decode cX0_joinAround 4 = .ok (.istore_n 2, 1) := by decide +kernel
theorem dX0_joinAround_5 : decode cX0_joinAround 5 = .ok (.iload_n 1, 1) := by decide +kernel
theorem dX0_joinAround_6 : decode cX0_joinAround 6 = .ok (.bipush 16, 2) := by decide +kernel
theorem dX0_joinAround_8 : decode cX0_joinAround 8 = .ok (.idiv, 1) := by decide +kernel
theorem dX0_joinAround_9 : decode cX0_joinAround 9 = .ok (.istore_n 3, 1) := by decide +kernel
theorem dX0_joinAround_10 : decode cX0_joinAround 10 = .ok (.aload_n 0, 1) := by decide +kernel
theorem dX0_joinAround_11 : decode cX0_joinAround 11 = .ok (.getfield 32, 3) := by decide +kernel
theorem dX0_joinAround_14 : decode cX0_joinAround 14 = .ok (.iconst 1, 1) := by decide +kernel
theorem dX0_joinAround_15 : decode cX0_joinAround 15 = .ok (.invokestatic 103, 3) := by decide +kernel
theorem dX0_joinAround_18 : decode cX0_joinAround 18 = .ok (.istore 4, 2) := by decide +kernel
theorem dX0_joinAround_20 : decode cX0_joinAround 20 = .ok (.iload 4, 2) := by decide +kernel
theorem dX0_joinAround_22 : decode cX0_joinAround 22 = .ok (.ineg, 1) := by decide +kernel
theorem dX0_joinAround_23 : decode cX0_joinAround 23 = .ok (.istore 5, 2) := by decide +kernel
theorem dX0_joinAround_25 : decode cX0_joinAround 25 = .ok (.iload 5, 2) := by decide +kernel
theorem dX0_joinAround_27 : decode cX0_joinAround 27 = .ok (.iload 4, 2) := by decide +kernel
theorem dX0_joinAround_29 : decode cX0_joinAround 29 = .ok (.if_icmp .gt 56, 3) := by decide +kernel
theorem dX0_joinAround_32 : decode cX0_joinAround 32 = .ok (.iload 4, 2) := by decide +kernel
theorem dX0_joinAround_34 : decode cX0_joinAround 34 = .ok (.ineg, 1) := by decide +kernel
theorem dX0_joinAround_35 : decode cX0_joinAround 35 = .ok (.istore 6, 2) := by decide +kernel
theorem dX0_joinAround_37 : decode cX0_joinAround 37 = .ok (.iload 6, 2) := by decide +kernel
theorem dX0_joinAround_39 : decode cX0_joinAround 39 = .ok (.iload 4, 2) := by decide +kernel
theorem dX0_joinAround_41 : decode cX0_joinAround 41 = .ok (.if_icmp .gt 38, 3) := by decide +kernel
theorem dX0_joinAround_44 : decode cX0_joinAround 44 = .ok (.aload_n 0, 1) := by decide +kernel
theorem dX0_joinAround_45 : decode cX0_joinAround 45 = .ok (.getfield 32, 3) := by decide +kernel
theorem dX0_joinAround_48 : decode cX0_joinAround 48 = .ok (.ifCond .gt 13, 3) := by decide +kernel
theorem dX0_joinAround_51 : decode cX0_joinAround 51 = .ok (.iload 5, 2) := by decide +kernel
theorem dX0_joinAround_53 : decode cX0_joinAround 53 = .ok (.ifCond .eq 8, 3) := by decide +kernel
theorem dX0_joinAround_56 : decode cX0_joinAround 56 = .ok (.iload 6, 2) := by decide +kernel
theorem dX0_joinAround_58 : decode cX0_joinAround 58 = .ok (.ifCond .ne 15, 3) := by decide +kernel
theorem dX0_joinAround_61 : decode cX0_joinAround 61 = .ok (.aload_n 0, 1) := by decide +kernel
theorem dX0_joinAround_62 : decode cX0_joinAround 62 = .ok (.iload_n 2, 1) := by decide +kernel
theorem dX0_joinAround_63 : decode cX0_joinAround 63 = .ok (.iload 6, 2) := by decide +kernel
theorem dX0_joinAround_65 : decode cX0_joinAround 65 = .ok (.iadd, 1) := by decide +kernel
theorem dX0_joinAround_66 : decode cX0_joinAround 66 = .ok (.iload_n 3, 1) := by decide +kernel
theorem dX0_joinAround_67 : decode cX0_joinAround 67 = .ok (.iload 5, 2) := by decide +kernel
theorem dX0_joinAround_69 : decode cX0_joinAround 69 = .ok (.iadd, 1) := by decide +kernel
theorem dX0_joinAround_70 : decode cX0_joinAround 70 = .ok (.invokevirtual 99, 3) := by decide +kernel
theorem dX0_joinAround_73 : decode cX0_joinAround 73 = .ok (.iinc 6 1, 3) := by decide +kernel
theorem dX0_joinAround_76 : decode cX0_joinAround 76 = .ok (.goto (-39), 3) := by decide +kernel
theorem dX0_joinAround_79 : decode cX0_joinAround 79 = .ok (.iinc 5 1, 3) := by decide +kernel
theorem dX0_joinAround_82 : decode cX0_joinAround 82 = .ok (.goto (-57), 3) := by decide +kernel
theorem dX0_joinAround_85 : decode cX0_joinAround 85 = .ok (.return_, 1) := by decide +kernel
theorem dX0_join_0 : decode cX0_join 0 = .ok (.aload_n 0, 1) := by decide +kernel
theorem dX0_join_1 : decode cX0_join 1 = .ok (.iload_n 1, 1) := by decide +kernel
theorem dX0_join_2 : decode cX0_join 2 = .ok (.iload_n 2, 1) := by decide +kernel
theorem dX0_join_3 : decode cX0_join 3 = .ok (.invokevirtual 86, 3) := by decide +kernel
theorem dX0_join_6 : decode cX0_join 6 = .ok (.aload_n 0, 1) := by decide +kernel
theorem dX0_join_7 : decode cX0_join 7 = .ok (.getfield 32, 3) := by decide +kernel
theorem dX0_join_10 : decode cX0_join 10 = .ok (.if_icmp .le 16, 3) := by decide +kernel
theorem dX0_join_13 : decode cX0_join 13 = .ok (.aload_n 0, 1) := by decide +kernel
theorem dX0_join_14 : decode cX0_join 14 = .ok (.aload_n 0, 1) := by decide +kernel
theorem dX0_join_15 : decode cX0_join 15 = .ok (.getfield 19, 3) := by decide +kernel
theorem dX0_join_18 : decode cX0_join 18 = .ok (.iload_n 1, 1) := by decide +kernel
theorem dX0_join_19 : decode cX0_join 19 = .ok (.iload_n 2, 1) := by decide +kernel
theorem dX0_join_20 : decode cX0_join 20 = .ok (.invokestatic 96, 3) := by decide +kernel
theorem dX0_join_23 : decode cX0_join 23 = .ok (.invokevirtual 61, 3) := by decide +kernel
theorem dX0_join_26 : decode cX0_join 26 = .ok (.return_, 1) := by decide +kernel
theorem dX0_coverSquares_0 : decode cX0_coverSquares 0 = .ok (.aload_n 0, 1) := by decide +kernel
theorem dX0_coverSquares_1 : decode cX0_coverSquares 1 = .ok (.getfield 22, 3) := by decide +kernel
theorem dX0_coverSquares_4 : decode cX0_coverSquares 4 = .ok (.invokestatic 43, 3) := by decide +kernel
theorem dX0_coverSquares_7 : decode cX0_coverSquares 7 = .ok (.iconst 0, 1) := by decide +kernel
theorem dX0_coverSquares_8 : decode cX0_coverSquares 8 = .ok (.istore_n 1, 1) := by decide +kernel
theorem dX0_coverSquares_9 : decode cX0_coverSquares 9 = .ok (.iload_n 1, 1) := by decide +kernel
theorem dX0_coverSquares_10 : decode cX0_coverSquares 10 = .ok (.aload_n 0, 1) := by decide +kernel
theorem dX0_coverSquares_11 : decode cX0_coverSquares 11 = .ok (.getfield 28, 3) := by decide +kernel
theorem dX0_coverSquares_14 : decode cX0_coverSquares 14 = .ok (.if_icmp .ge 26, 3) := by decide +kernel
theorem dX0_coverSquares_17 : decode cX0_coverSquares 17 = .ok (.iload_n 1, 1) := by decide +kernel
theorem dX0_coverSquares_18 : decode cX0_coverSquares 18 = .ok (.sipush 160, 3) := by decide +kernel
theorem dX0_coverSquares_21 : decode cX0_coverSquares 21 = .ok (.if_icmp .ge 19, 3) := by decide +kernel
theorem dX0_coverSquares_24 : decode cX0_coverSquares 24 = .ok (.aload_n 0, 1) := by decide +kernel
theorem dX0_coverSquares_25 : decode cX0_coverSquares 25 = .ok (.aload_n 0, 1) := by decide +kernel
theorem dX0_coverSquares_26 : decode cX0_coverSquares 26 = .ok (.getfield 25, 3) := by decide +kernel
theorem dX0_coverSquares_29 : decode cX0_coverSquares 29 = .ok (.iload_n 1, 1) := by decide +kernel
theorem dX0_coverSquares_30 : decode cX0_coverSquares 30 = .ok (.iaload, 1) := by decide +kernel
theorem dX0_coverSquares_31 : decode cX0_coverSquares 31 = .ok (.invokevirtual 106, 3) := by decide +kernel
theorem dX0_coverSquares_34 : decode cX0_coverSquares 34 = .ok (.iinc 1 1, 3) := by decide +kernel
theorem dX0_coverSquares_37 : decode cX0_coverSquares 37 = .ok (.goto (-28), 3) := by decide +kernel
theorem dX0_coverSquares_40 : decode cX0_coverSquares 40 = .ok (.iconst 0, 1) := by decide +kernel
theorem dX0_coverSquares_41 : decode cX0_coverSquares 41 = .ok (.istore_n 1, 1) := by decide +kernel
theorem dX0_coverSquares_42 : decode cX0_coverSquares 42 = .ok (.iconst 0, 1) := by decide +kernel
theorem dX0_coverSquares_43 : decode cX0_coverSquares 43 = .ok (.istore_n 2, 1) := by decide +kernel
theorem dX0_coverSquares_44 : decode cX0_coverSquares 44 = .ok (.iload_n 2, 1) := by decide +kernel
theorem dX0_coverSquares_45 : decode cX0_coverSquares 45 = .ok (.sipush 160, 3) := by decide +kernel
theorem dX0_coverSquares_48 : decode cX0_coverSquares 48 = .ok (.if_icmp .ge 21, 3) := by decide +kernel
theorem dX0_coverSquares_51 : decode cX0_coverSquares 51 = .ok (.aload_n 0, 1) := by decide +kernel
theorem dX0_coverSquares_52 : decode cX0_coverSquares 52 = .ok (.getfield 22, 3) := by decide +kernel
theorem dX0_coverSquares_55 : decode cX0_coverSquares 55 = .ok (.iload_n 2, 1) := by decide +kernel
theorem dX0_coverSquares_56 : decode cX0_coverSquares 56 = .ok (.baload, 1) := by decide +kernel
theorem dX0_coverSquares_57 : decode cX0_coverSquares 57 = .ok (.ifCond .eq 6, 3) := by decide +kernel
theorem dX0_coverSquares_60 : decode cX0_coverSquares 60 = .ok (.iinc 1 1, 3) := by decide +kernel
theorem dX0_coverSquares_63 : decode cX0_coverSquares 63 = .ok (.iinc 2 1, 3) := by decide +kernel
theorem dX0_coverSquares_66 : decode cX0_coverSquares 66 = .ok (.goto (-22), 3) := by decide +kernel
theorem dX0_coverSquares_69 : decode cX0_coverSquares 69 = .ok (.iload_n 1, 1) := by decide +kernel
theorem dX0_coverSquares_70 : decode cX0_coverSquares 70 = .ok (.ireturn, 1) := by decide +kernel
theorem dX0_coverSquare_0 : decode cX0_coverSquare 0 = .ok (.iload_n 1, 1) := by decide +kernel
theorem dX0_coverSquare_1 : decode cX0_coverSquare 1 = .ok (.bipush 16, 2) := by decide +kernel
theorem dX0_coverSquare_3 : decode cX0_coverSquare 3 = .ok (.irem, 1) := by decide +kernel
theorem dX0_coverSquare_4 : decode cX0_coverSquare 4 = .ok (.istore_n 2, 1) := by decide +kernel
theorem dX0_coverSquare_5 : decode cX0_coverSquare 5 = .ok (.iload_n 1, 1) := by decide +kernel
theorem dX0_coverSquare_6 : decode cX0_coverSquare 6 = .ok (.bipush 16, 2) := by decide +kernel
theorem dX0_coverSquare_8 : decode cX0_coverSquare 8 = .ok (.idiv, 1) := by decide +kernel
theorem dX0_coverSquare_9 : decode cX0_coverSquare 9 = .ok (.istore_n 3, 1) := by decide +kernel
theorem dX0_coverSquare_10 : decode cX0_coverSquare 10 = .ok (.iload_n 3, 1) := by decide +kernel
theorem dX0_coverSquare_11 : decode cX0_coverSquare 11 = .ok (.istore 4, 2) := by decide +kernel
theorem dX0_coverSquare_13 : decode cX0_coverSquare 13 = .ok (.iload 4, 2) := by decide +kernel
theorem dX0_coverSquare_15 : decode cX0_coverSquare 15 = .ok (.iload_n 3, 1) := by decide +kernel
theorem dX0_coverSquare_16 : decode cX0_coverSquare 16 = .ok (.aload_n 0, 1) := by decide +kernel
theorem dX0_coverSquare_17 : decode cX0_coverSquare 17 = .ok (.getfield 32, 3) := by decide +kernel
theorem dX0_coverSquare_20 : decode cX0_coverSquare 20 = .ok (.iadd, 1) := by decide +kernel
theorem dX0_coverSquare_21 : decode cX0_coverSquare 21 = .ok (.if_icmp .gt 52, 3) := by decide +kernel
theorem dX0_coverSquare_24 : decode cX0_coverSquare 24 = .ok (.iload_n 2, 1) := by decide +kernel
theorem dX0_coverSquare_25 : decode cX0_coverSquare 25 = .ok (.istore 5, 2) := by decide +kernel
theorem dX0_coverSquare_27 : decode cX0_coverSquare 27 = .ok (.iload 5, 2) := by decide +kernel
theorem dX0_coverSquare_29 : decode cX0_coverSquare 29 = .ok (.iload_n 2, 1) := by decide +kernel
theorem dX0_coverSquare_30 : decode cX0_coverSquare 30 = .ok (.aload_n 0, 1) := by decide +kernel
theorem dX0_coverSquare_31 : decode cX0_coverSquare 31 = .ok (.getfield 32, 3) := by decide +kernel
theorem dX0_coverSquare_34 : decode cX0_coverSquare 34 = .ok (.iadd, 1) := by decide +kernel
theorem dX0_coverSquare_35 : decode cX0_coverSquare 35 = .ok (.if_icmp .gt 32, 3) := by decide +kernel
theorem dX0_coverSquare_38 : decode cX0_coverSquare 38 = .ok (.iload 5, 2) := by decide +kernel
theorem dX0_coverSquare_40 : decode cX0_coverSquare 40 = .ok (.iload 4, 2) := by decide +kernel
theorem dX0_coverSquare_42 : decode cX0_coverSquare 42 = .ok (.invokestatic 92, 3) := by decide +kernel
theorem dX0_coverSquare_45 : decode cX0_coverSquare 45 = .ok (.ifCond .eq 16, 3) := by decide +kernel
theorem dX0_coverSquare_48 : decode cX0_coverSquare 48 = .ok (.aload_n 0, 1) := by decide +kernel
theorem dX0_coverSquare_49 : decode cX0_coverSquare 49 = .ok (.getfield 22, 3) := by decide +kernel
theorem dX0_coverSquare_52 : decode cX0_coverSquare 52 = .ok (.iload 5, 2) := by decide +kernel
theorem dX0_coverSquare_54 : decode cX0_coverSquare 54 = .ok (.iload 4, 2) := by decide +kernel
theorem dX0_coverSquare_56 : decode cX0_coverSquare 56 = .ok (.invokestatic 96, 3) := by decide +kernel
theorem dX0_coverSquare_59 : decode cX0_coverSquare 59 = .ok (.iconst 1, 1) := by decide +kernel
theorem dX0_coverSquare_60 : decode cX0_coverSquare 60 = .ok (.bastore, 1) := by decide +kernel
theorem dX0_coverSquare_61 : decode cX0_coverSquare 61 = .ok (.iinc 5 1, 3) := by decide +kernel
theorem dX0_coverSquare_64 : decode cX0_coverSquare 64 = .ok (.goto (-37), 3) := by decide +kernel
theorem dX0_coverSquare_67 : decode cX0_coverSquare 67 = .ok (.iinc 4 1, 3) := by decide +kernel
theorem dX0_coverSquare_70 : decode cX0_coverSquare 70 = .ok (.goto (-57), 3) := by decide +kernel
theorem dX0_coverSquare_73 : decode cX0_coverSquare 73 = .ok (.return_, 1) := by decide +kernel
theorem dX0_addRing_0 : decode cX0_addRing 0 = .ok (.iconst 0, 1) := by decide +kernel
theorem dX0_addRing_1 : decode cX0_addRing 1 = .ok (.istore_n 3, 1) := by decide +kernel
theorem dX0_addRing_2 : decode cX0_addRing 2 = .ok (.iload_n 3, 1) := by decide +kernel
theorem dX0_addRing_3 : decode cX0_addRing 3 = .ok (.sipush 160, 3) := by decide +kernel
theorem dX0_addRing_6 : decode cX0_addRing 6 = .ok (.if_icmp .ge 28, 3) := by decide +kernel
theorem dX0_addRing_9 : decode cX0_addRing 9 = .ok (.aload_n 0, 1) := by decide +kernel
theorem dX0_addRing_10 : decode cX0_addRing 10 = .ok (.iload_n 3, 1) := by decide +kernel
theorem dX0_addRing_11 : decode cX0_addRing 11 = .ok (.iaload, 1) := by decide +kernel
theorem dX0_addRing_12 : decode cX0_addRing 12 = .ok (.ifCond .ne 16, 3) := by decide +kernel
theorem dX0_addRing_15 : decode cX0_addRing 15 = .ok (.aload_n 0, 1) := by decide +kernel
theorem dX0_addRing_16 : decode cX0_addRing 16 = .ok (.iload_n 3, 1) := by decide +kernel
theorem dX0_addRing_17 : decode cX0_addRing 17 = .ok (.iload_n 1, 1) := by decide +kernel
theorem dX0_addRing_18 : decode cX0_addRing 18 = .ok (.invokestatic 109, 3) := by decide +kernel
theorem dX0_addRing_21 : decode cX0_addRing 21 = .ok (.ifCond .eq 7, 3) := by decide +kernel
theorem dX0_addRing_24 : decode cX0_addRing 24 = .ok (.aload_n 0, 1) := by decide +kernel
theorem dX0_addRing_25 : decode cX0_addRing 25 = .ok (.iload_n 3, 1) := by decide +kernel
theorem dX0_addRing_26 : decode cX0_addRing 26 = .ok (.iload_n 2, 1) := by decide +kernel
theorem dX0_addRing_27 : decode cX0_addRing 27 = .ok (.iastore, 1) := by decide +kernel
theorem dX0_addRing_28 : decode cX0_addRing 28 = .ok (.iinc 3 1, 3) := by decide +kernel
theorem dX0_addRing_31 : decode cX0_addRing 31 = .ok (.goto (-29), 3) := by decide +kernel
theorem dX0_addRing_34 : decode cX0_addRing 34 = .ok (.return_, 1) := by decide +kernel
theorem dX0_touches_0 : decode cX0_touches 0 = .ok (.iload_n 1, 1) := by decide +kernel
theorem dX0_touches_1 : decode cX0_touches 1 = .ok (.bipush 16, 2) := by decide +kernel
theorem dX0_touches_3 : decode cX0_touches 3 = .ok (.irem, 1) := by decide +kernel
theorem dX0_touches_4 : decode cX0_touches 4 = .ok (.istore_n 3, 1) := by decide +kernel
theorem dX0_touches_5 : decode cX0_touches 5 = .ok (.iload_n 1, 1) := by decide +kernel
theorem dX0_touches_6 : decode cX0_touches 6 = .ok (.bipush 16, 2) := by decide +kernel
theorem dX0_touches_8 : decode cX0_touches 8 = .ok (.idiv, 1) := by decide +kernel
theorem dX0_touches_9 : decode cX0_touches 9 = .ok (.istore 4, 2) := by decide +kernel
theorem dX0_touches_11 : decode cX0_touches 11 = .ok (.iload 4, 2) := by decide +kernel
theorem dX0_touches_13 : decode cX0_touches 13 = .ok (.iconst 1, 1) := by decide +kernel
theorem dX0_touches_14 : decode cX0_touches 14 = .ok (.isub, 1) := by decide +kernel
theorem dX0_touches_15 : decode cX0_touches 15 = .ok (.istore 5, 2) := by decide +kernel
theorem dX0_touches_17 : decode cX0_touches 17 = .ok (.iload 5, 2) := by decide +kernel
theorem dX0_touches_19 : decode cX0_touches 19 = .ok (.iload 4, 2) := by decide +kernel
theorem dX0_touches_21 : decode cX0_touches 21 = .ok (.iconst 1, 1) := by decide +kernel
theorem dX0_touches_22 : decode cX0_touches 22 = .ok (.iadd, 1) := by decide +kernel
theorem dX0_touches_23 : decode cX0_touches 23 = .ok (.if_icmp .gt 53, 3) := by decide +kernel
theorem dX0_touches_26 : decode cX0_touches 26 = .ok (.iload_n 3, 1) := by decide +kernel
theorem dX0_touches_27 : decode cX0_touches 27 = .ok (.iconst 1, 1) := by decide +kernel
theorem dX0_touches_28 : decode cX0_touches 28 = .ok (.isub, 1) := by decide +kernel
theorem dX0_touches_29 : decode cX0_touches 29 = .ok (.istore 6, 2) := by decide +kernel
theorem dX0_touches_31 : decode cX0_touches 31 = .ok (.iload 6, 2) := by decide +kernel
theorem dX0_touches_33 : decode cX0_touches 33 = .ok (.iload_n 3, 1) := by decide +kernel
theorem dX0_touches_34 : decode cX0_touches 34 = .ok (.iconst 1, 1) := by decide +kernel
theorem dX0_touches_35 : decode cX0_touches 35 = .ok (.iadd, 1) := by decide +kernel
theorem dX0_touches_36 : decode cX0_touches 36 = .ok (.if_icmp .gt 34, 3) := by decide +kernel
theorem dX0_touches_39 : decode cX0_touches 39 = .ok (.iload 6, 2) := by decide +kernel
theorem dX0_touches_41 : decode cX0_touches 41 = .ok (.iload 5, 2) := by decide +kernel
theorem dX0_touches_43 : decode cX0_touches 43 = .ok (.invokestatic 92, 3) := by decide +kernel
theorem dX0_touches_46 : decode cX0_touches 46 = .ok (.ifCond .eq 18, 3) := by decide +kernel
theorem dX0_touches_49 : decode cX0_touches 49 = .ok (.aload_n 0, 1) := by decide +kernel
theorem dX0_touches_50 : decode cX0_touches 50 = .ok (.iload 6, 2) := by decide +kernel
theorem dX0_touches_52 : decode cX0_touches 52 = .ok (.iload 5, 2) := by decide +kernel
theorem dX0_touches_54 : decode cX0_touches 54 = .ok (.invokestatic 96, 3) := by decide +kernel
theorem dX0_touches_57 : decode cX0_touches 57 = .ok (.iaload, 1) := by decide +kernel
theorem dX0_touches_58 : decode cX0_touches 58 = .ok (.iload_n 2, 1) := by decide +kernel
theorem dX0_touches_59 : decode cX0_touches 59 = .ok (.if_icmp .ne 5, 3) := by decide +kernel
theorem dX0_touches_62 : decode cX0_touches 62 = .ok (.iconst 1, 1) := by decide +kernel
theorem dX0_touches_63 : decode cX0_touches 63 = .ok (.ireturn, 1) := by decide +kernel
theorem dX0_touches_64 : decode cX0_touches 64 = .ok (.iinc 6 1, 3) := by decide +kernel
theorem dX0_touches_67 : decode cX0_touches 67 = .ok (.goto (-36), 3) := by decide +kernel
theorem dX0_touches_70 : decode cX0_touches 70 = .ok (.iinc 5 1, 3) := by decide +kernel
theorem dX0_touches_73 : decode cX0_touches 73 = .ok (.goto (-56), 3) := by decide +kernel
theorem dX0_touches_76 : decode cX0_touches 76 = .ok (.iconst 0, 1) := by decide +kernel
theorem dX0_touches_77 : decode cX0_touches 77 = .ok (.ireturn, 1) := by decide +kernel
theorem dX1_init_0 : decode cX1_init 0 = .ok (.aload_n 0, 1) := by decide +kernel
theorem dX1_init_1 : decode cX1_init 1 = .ok (.invokespecial 1, 3) := by decide +kernel
theorem dX1_init_4 : decode cX1_init 4 = .ok (.aload_n 0, 1) := by decide +kernel
theorem dX1_init_5 : decode cX1_init 5 = .ok (.iload_n 1, 1) := by decide +kernel
theorem dX1_init_6 : decode cX1_init 6 = .ok (.putfield 7, 3) := by decide +kernel
theorem dX1_init_9 : decode cX1_init 9 = .ok (.aload_n 0, 1) := by decide +kernel
theorem dX1_init_10 : decode cX1_init 10 = .ok (.iload_n 2, 1) := by decide +kernel
theorem dX1_init_11 : decode cX1_init 11 = .ok (.putfield 13, 3) := by decide +kernel
theorem dX1_init_14 : decode cX1_init 14 = .ok (.aload_n 0, 1) := by decide +kernel
theorem dX1_init_15 : decode cX1_init 15 = .ok (.iload_n 3, 1) := by decide +kernel
theorem dX1_init_16 : decode cX1_init 16 = .ok (.putfield 16, 3) := by decide +kernel
theorem dX1_init_19 : decode cX1_init 19 = .ok (.aload_n 0, 1) := by decide +kernel
theorem dX1_init_20 : decode cX1_init 20 = .ok (.iload 4, 2) := by decide +kernel
theorem dX1_init_22 : decode cX1_init 22 = .ok (.putfield 19, 3) := by decide +kernel
theorem dX1_init_25 : decode cX1_init 25 = .ok (.aload_n 0, 1) := by decide +kernel
theorem dX1_init_26 : decode cX1_init 26 = .ok (.iload 5, 2) := by decide +kernel
theorem dX1_init_28 : decode cX1_init 28 = .ok (.putfield 22, 3) := by decide +kernel
theorem dX1_init_31 : decode cX1_init 31 = .ok (.aload_n 0, 1) := by decide +kernel
theorem dX1_init_32 : decode cX1_init 32 = .ok (.iload 6, 2) := by decide +kernel
theorem dX1_init_34 : decode cX1_init 34 = .ok (.putfield 25, 3) := by decide +kernel
theorem dX1_init_37 : decode cX1_init 37 = .ok (.aload_n 0, 1) := by decide +kernel
theorem dX1_init_38 : decode cX1_init 38 = .ok (.aload 7, 2) := by decide +kernel
theorem dX1_init_40 : decode cX1_init 40 = .ok (.putfield 28, 3) := by decide +kernel
theorem dX1_init_43 : decode cX1_init 43 = .ok (.return_, 1) := by decide +kernel
theorem dX2_init_0 : decode cX2_init 0 = .ok (.aload_n 0, 1) := by decide +kernel
theorem dX2_init_1 : decode cX2_init 1 = .ok (.invokespecial 3, 3) := by decide +kernel
theorem dX2_init_4 : decode cX2_init 4 = .ok (.aload_n 0, 1) := by decide +kernel
theorem dX2_init_5 : decode cX2_init 5 = .ok (.bipush 6, 2) := by decide +kernel
theorem dX2_init_7 : decode cX2_init 7 = .ok (.anewarray 9, 3) := by decide +kernel
theorem dX2_init_10 : decode cX2_init 10 = .ok (.putfield 11, 3) := by decide +kernel
theorem dX2_init_13 : decode cX2_init 13 = .ok (.aload_n 0, 1) := by decide +kernel
theorem dX2_init_14 : decode cX2_init 14 = .ok (.iconst 0, 1) := by decide +kernel
theorem dX2_init_15 : decode cX2_init 15 = .ok (.putfield 17, 3) := by decide +kernel
theorem dX2_init_18 : decode cX2_init 18 = .ok (.iconst 0, 1) := by decide +kernel
theorem dX2_init_19 : decode cX2_init 19 = .ok (.istore_n 2, 1) := by decide +kernel
theorem dX2_init_20 : decode cX2_init 20 = .ok (.iload_n 2, 1) := by decide +kernel
theorem dX2_init_21 : decode cX2_init 21 = .ok (.bipush 6, 2) := by decide +kernel
theorem dX2_init_23 : decode cX2_init 23 = .ok (.if_icmp .ge 23, 3) := by decide +kernel
theorem dX2_init_26 : decode cX2_init 26 = .ok (.aload_n 0, 1) := by decide +kernel
theorem dX2_init_27 : decode cX2_init 27 = .ok (.getfield 11, 3) := by decide +kernel
theorem dX2_init_30 : decode cX2_init 30 = .ok (.iload_n 2, 1) := by decide +kernel
theorem dX2_init_31 : decode cX2_init 31 = .ok (.new 9, 3) := by decide +kernel
theorem dX2_init_34 : decode cX2_init 34 = .ok (.dup, 1) := by decide +kernel
theorem dX2_init_35 : decode cX2_init 35 = .ok (.aload_n 1, 1) := by decide +kernel
theorem dX2_init_36 : decode cX2_init 36 = .ok (.invokespecial 21, 3) := by decide +kernel
theorem dX2_init_39 : decode cX2_init 39 = .ok (.aastore, 1) := by decide +kernel
theorem dX2_init_40 : decode cX2_init 40 = .ok (.iinc 2 1, 3) := by decide +kernel
theorem dX2_init_43 : decode cX2_init 43 = .ok (.goto (-23), 3) := by decide +kernel
theorem dX2_init_46 : decode cX2_init 46 = .ok (.return_, 1) := by decide +kernel
theorem dX2_keep_0 : decode cX2_keep 0 = .ok (.aload_n 0, 1) := by decide +kernel
theorem dX2_keep_1 : decode cX2_keep 1 = .ok (.getfield 17, 3) := by decide +kernel
theorem dX2_keep_4 : decode cX2_keep 4 = .ok (.bipush 6, 2) := by decide +kernel
theorem dX2_keep_6 : decode cX2_keep 6 = .ok (.if_icmp .lt 7, 3) := by decide +kernel
theorem dX2_keep_9 : decode cX2_keep 9 = .ok (.aload_n 0, 1) := by decide +kernel
theorem dX2_keep_10 : decode cX2_keep 10 = .ok (.invokevirtual 24, 3) := by decide +kernel
theorem dX2_keep_13 : decode cX2_keep 13 = .ok (.aload_n 0, 1) := by decide +kernel
theorem dX2_keep_14 : decode cX2_keep 14 = .ok (.getfield 11, 3) := by decide +kernel
theorem dX2_keep_17 : decode cX2_keep 17 = .ok (.aload_n 0, 1) := by decide +kernel
theorem dX2_keep_18 : decode cX2_keep 18 = .ok (.getfield 17, 3) := by decide +kernel
theorem dX2_keep_21 : decode cX2_keep 21 = .ok (.aaload, 1) := by decide +kernel
theorem dX2_keep_22 : decode cX2_keep 22 = .ok (.aload_n 1, 1) := by decide +kernel
theorem dX2_keep_23 : decode cX2_keep 23 = .ok (.invokevirtual 27, 3) := by decide +kernel
theorem dX2_keep_26 : decode cX2_keep 26 = .ok (.aload_n 0, 1) := by decide +kernel
theorem dX2_keep_27 : decode cX2_keep 27 = .ok (.dup, 1) := by decide +kernel
theorem dX2_keep_28 : decode cX2_keep 28 = .ok (.getfield 17, 3) := by decide +kernel
theorem dX2_keep_31 : decode cX2_keep 31 = .ok (.iconst 1, 1) := by decide +kernel
theorem dX2_keep_32 : decode cX2_keep 32 = .ok (.iadd, 1) := by decide +kernel
theorem dX2_keep_33 : decode cX2_keep 33 = .ok (.putfield 17, 3) := by decide +kernel
theorem dX2_keep_36 : decode cX2_keep 36 = .ok (.return_, 1) := by decide +kernel
theorem dX2_dropOldest_0 : decode cX2_dropOldest 0 = .ok (.aload_n 0, 1) := by decide +kernel
theorem dX2_dropOldest_1 : decode cX2_dropOldest 1 = .ok (.getfield 11, 3) := by decide +kernel
theorem dX2_dropOldest_4 : decode cX2_dropOldest 4 = .ok (.iconst 0, 1) := by decide +kernel
theorem dX2_dropOldest_5 : decode cX2_dropOldest 5 = .ok (.aaload, 1) := by decide +kernel
theorem dX2_dropOldest_6 : decode cX2_dropOldest 6 = .ok (.astore_n 1, 1) := by decide +kernel
theorem dX2_dropOldest_7 : decode cX2_dropOldest 7 = .ok (.iconst 1, 1) := by decide +kernel
theorem dX2_dropOldest_8 : decode cX2_dropOldest 8 = .ok (.istore_n 2, 1) := by decide +kernel
theorem dX2_dropOldest_9 : decode cX2_dropOldest 9 = .ok (.iload_n 2, 1) := by decide +kernel
theorem dX2_dropOldest_10 : decode cX2_dropOldest 10 = .ok (.bipush 6, 2) := by decide +kernel
theorem dX2_dropOldest_12 : decode cX2_dropOldest 12 = .ok (.if_icmp .ge 23, 3) := by decide +kernel
theorem dX2_dropOldest_15 : decode cX2_dropOldest 15 = .ok (.aload_n 0, 1) := by decide +kernel
theorem dX2_dropOldest_16 : decode cX2_dropOldest 16 = .ok (.getfield 11, 3) := by decide +kernel
theorem dX2_dropOldest_19 : decode cX2_dropOldest 19 = .ok (.iload_n 2, 1) := by decide +kernel
theorem dX2_dropOldest_20 : decode cX2_dropOldest 20 = .ok (.iconst 1, 1) := by decide +kernel
theorem dX2_dropOldest_21 : decode cX2_dropOldest 21 = .ok (.isub, 1) := by decide +kernel
theorem dX2_dropOldest_22 : decode cX2_dropOldest 22 = .ok (.aload_n 0, 1) := by decide +kernel
theorem dX2_dropOldest_23 : decode cX2_dropOldest 23 = .ok (.getfield 11, 3) := by decide +kernel
theorem dX2_dropOldest_26 : decode cX2_dropOldest 26 = .ok (.iload_n 2, 1) := by decide +kernel
theorem dX2_dropOldest_27 : decode cX2_dropOldest 27 = .ok (.aaload, 1) := by decide +kernel
theorem dX2_dropOldest_28 : decode cX2_dropOldest 28 = .ok (.aastore, 1) := by decide +kernel
theorem dX2_dropOldest_29 : decode cX2_dropOldest 29 = .ok (.iinc 2 1, 3) := by decide +kernel
theorem dX2_dropOldest_32 : decode cX2_dropOldest 32 = .ok (.goto (-23), 3) := by decide +kernel
theorem dX2_dropOldest_35 : decode cX2_dropOldest 35 = .ok (.aload_n 0, 1) := by decide +kernel
theorem dX2_dropOldest_36 : decode cX2_dropOldest 36 = .ok (.getfield 11, 3) := by decide +kernel
theorem dX2_dropOldest_39 : decode cX2_dropOldest 39 = .ok (.iconst 5, 1) := by decide +kernel
theorem dX2_dropOldest_40 : decode cX2_dropOldest 40 = .ok (.aload_n 1, 1) := by decide +kernel
theorem dX2_dropOldest_41 : decode cX2_dropOldest 41 = .ok (.aastore, 1) := by decide +kernel
theorem dX2_dropOldest_42 : decode cX2_dropOldest 42 = .ok (.aload_n 0, 1) := by decide +kernel
theorem dX2_dropOldest_43 : decode cX2_dropOldest 43 = .ok (.iconst 5, 1) := by decide +kernel
theorem dX2_dropOldest_44 : decode cX2_dropOldest 44 = .ok (.putfield 17, 3) := by decide +kernel
theorem dX2_dropOldest_47 : decode cX2_dropOldest 47 = .ok (.return_, 1) := by decide +kernel
theorem dX2_restore_0 : decode cX2_restore 0 = .ok (.aload_n 0, 1) := by decide +kernel
theorem dX2_restore_1 : decode cX2_restore 1 = .ok (.getfield 17, 3) := by decide +kernel
theorem dX2_restore_4 : decode cX2_restore 4 = .ok (.ifCond .le 26, 3) := by decide +kernel
theorem dX2_restore_7 : decode cX2_restore 7 = .ok (.aload_n 0, 1) := by decide +kernel
theorem dX2_restore_8 : decode cX2_restore 8 = .ok (.dup, 1) := by decide +kernel
theorem dX2_restore_9 : decode cX2_restore 9 = .ok (.getfield 17, 3) := by decide +kernel
theorem dX2_restore_12 : decode cX2_restore 12 = .ok (.iconst 1, 1) := by decide +kernel
theorem dX2_restore_13 : decode cX2_restore 13 = .ok (.isub, 1) := by decide +kernel
theorem dX2_restore_14 : decode cX2_restore 14 = .ok (.putfield 17, 3) := by decide +kernel
theorem dX2_restore_17 : decode cX2_restore 17 = .ok (.aload_n 1, 1) := by decide +kernel
theorem dX2_restore_18 : decode cX2_restore 18 = .ok (.aload_n 0, 1) := by decide +kernel
theorem dX2_restore_19 : decode cX2_restore 19 = .ok (.getfield 11, 3) := by decide +kernel
theorem dX2_restore_22 : decode cX2_restore 22 = .ok (.aload_n 0, 1) := by decide +kernel
theorem dX2_restore_23 : decode cX2_restore 23 = .ok (.getfield 17, 3) := by decide +kernel
theorem dX2_restore_26 : decode cX2_restore 26 = .ok (.aaload, 1) := by decide +kernel
theorem dX2_restore_27 : decode cX2_restore 27 = .ok (.invokevirtual 27, 3) := by decide +kernel
theorem dX2_restore_30 : decode cX2_restore 30 = .ok (.return_, 1) := by decide +kernel
theorem dX3_init_0 : decode cX3_init 0 = .ok (.aload_n 0, 1) := by decide +kernel
theorem dX3_init_1 : decode cX3_init 1 = .ok (.invokespecial 3, 3) := by decide +kernel
theorem dX3_init_4 : decode cX3_init 4 = .ok (.aload_n 0, 1) := by decide +kernel
theorem dX3_init_5 : decode cX3_init 5 = .ok (.aload_n 1, 1) := by decide +kernel
theorem dX3_init_6 : decode cX3_init 6 = .ok (.putfield 9, 3) := by decide +kernel
theorem dX3_init_9 : decode cX3_init 9 = .ok (.aload_n 0, 1) := by decide +kernel
theorem dX3_init_10 : decode cX3_init 10 = .ok (.iload_n 2, 1) := by decide +kernel
theorem dX3_init_11 : decode cX3_init 11 = .ok (.putfield 15, 3) := by decide +kernel
theorem dX3_init_14 : decode cX3_init 14 = .ok (.aload_n 0, 1) := by decide +kernel
theorem dX3_init_15 : decode cX3_init 15 = .ok (.iload_n 3, 1) := by decide +kernel
theorem dX3_init_16 : decode cX3_init 16 = .ok (.putfield 19, 3) := by decide +kernel
theorem dX3_init_19 : decode cX3_init 19 = .ok (.return_, 1) := by decide +kernel
theorem dX3_over_0 : decode cX3_over 0 = .ok (.aload_n 0, 1) := by decide +kernel
theorem dX3_over_1 : decode cX3_over 1 = .ok (.getfield 9, 3) := by decide +kernel
theorem dX3_over_4 : decode cX3_over 4 = .ok (.getfield 23, 3) := by decide +kernel
theorem dX3_over_7 : decode cX3_over 7 = .ok (.iload_n 2, 1) := by decide +kernel
theorem dX3_over_8 : decode cX3_over 8 = .ok (.iaload, 1) := by decide +kernel
theorem dX3_over_9 : decode cX3_over 9 = .ok (.istore_n 3, 1) := by decide +kernel
theorem dX3_over_10 : decode cX3_over 10 = .ok (.aload_n 0, 1) := by decide +kernel
theorem dX3_over_11 : decode cX3_over 11 = .ok (.getfield 15, 3) := by decide +kernel
theorem dX3_over_14 : decode cX3_over 14 = .ok (.tableswitch 43 0 2 #[26, 28, 34], 26) := by decide +kernel
theorem dX3_over_40 : decode cX3_over 40 = .ok (.iload_n 3, 1) := by decide +kernel
theorem dX3_over_41 : decode cX3_over 41 = .ok (.ireturn, 1) := by decide +kernel
theorem dX3_over_42 : decode cX3_over 42 = .ok (.iload_n 1, 1) := by decide +kernel
theorem dX3_over_43 : decode cX3_over 43 = .ok (.iload_n 3, 1) := by decide +kernel
theorem dX3_over_44 : decode cX3_over 44 = .ok (.invokestatic 29, 3) := by decide +kernel
theorem dX3_over_47 : decode cX3_over 47 = .ok (.ireturn, 1) := by decide +kernel
theorem dX3_over_48 : decode cX3_over 48 = .ok (.iload_n 1, 1) := by decide +kernel
theorem dX3_over_49 : decode cX3_over 49 = .ok (.bipush 100, 2) := by decide +kernel
theorem dX3_over_51 : decode cX3_over 51 = .ok (.iload_n 3, 1) := by decide +kernel
theorem dX3_over_52 : decode cX3_over 52 = .ok (.isub, 1) := by decide +kernel
theorem dX3_over_53 : decode cX3_over 53 = .ok (.invokestatic 35, 3) := by decide +kernel
theorem dX3_over_56 : decode cX3_over 56 = .ok (.ireturn, 1) := by decide +kernel
theorem dX3_over_57 : decode cX3_over 57 = .ok (.iload_n 1, 1) := by decide +kernel
theorem dX3_over_58 : decode cX3_over 58 = .ok (.iload_n 3, 1) := by decide +kernel
theorem dX3_over_59 : decode cX3_over 59 = .ok (.invokestatic 35, 3) := by decide +kernel
theorem dX3_over_62 : decode cX3_over 62 = .ok (.ireturn, 1) := by decide +kernel
theorem dX3_property_0 : decode cX3_property 0 = .ok (.iload_n 1, 1) := by decide +kernel
theorem dX3_property_1 : decode cX3_property 1 = .ok (.tableswitch 164 0 10 #[59, 70, 81, 89, 97, 105, 110, 118, 131, 139, 152], 59) := by decide +kernel
theorem dX3_property_60 : decode cX3_property 60 = .ok (.aload_n 0, 1) := by decide +kernel
theorem dX3_property_61 : decode cX3_property 61 = .ok (.getfield 9, 3) := by decide +kernel
theorem dX3_property_64 : decode cX3_property 64 = .ok (.getfield 38, 3) := by decide +kernel
theorem dX3_property_67 : decode cX3_property 67 = .ok (.bipush 16, 2) := by decide +kernel
theorem dX3_property_69 : decode cX3_property 69 = .ok (.irem, 1) := by decide +kernel
theorem dX3_property_70 : decode cX3_property 70 = .ok (.ireturn, 1) := by decide +kernel
theorem dX3_property_71 : decode cX3_property 71 = .ok (.aload_n 0, 1) := by decide +kernel
theorem dX3_property_72 : decode cX3_property 72 = .ok (.getfield 9, 3) := by decide +kernel
theorem dX3_property_75 : decode cX3_property 75 = .ok (.getfield 38, 3) := by decide +kernel
theorem dX3_property_78 : decode cX3_property 78 = .ok (.bipush 16, 2) := by decide +kernel
theorem dX3_property_80 : decode cX3_property 80 = .ok (.idiv, 1) := by decide +kernel
theorem dX3_property_81 : decode cX3_property 81 = .ok (.ireturn, 1) := by decide +kernel
theorem dX3_property_82 : decode cX3_property 82 = .ok (.aload_n 0, 1) := by decide +kernel
theorem dX3_property_83 : decode cX3_property 83 = .ok (.getfield 9, 3) := by decide +kernel
theorem dX3_property_86 : decode cX3_property 86 = .ok (.getfield 41, 3) := by decide +kernel
theorem dX3_property_89 : decode cX3_property 89 = .ok (.ireturn, 1) := by decide +kernel
theorem dX3_property_90 : decode cX3_property 90 = .ok (.aload_n 0, 1) := by decide +kernel
theorem dX3_property_91 : decode cX3_property 91 = .ok (.getfield 9, 3) := by decide +kernel
theorem dX3_property_94 : decode cX3_property 94 = .ok (.getfield 44, 3) := by decide +kernel
theorem dX3_property_97 : decode cX3_property 97 = .ok (.ireturn, 1) := by decide +kernel
theorem dX3_property_98 : decode cX3_property 98 = .ok (.aload_n 0, 1) := by decide +kernel
theorem dX3_property_99 : decode cX3_property 99 = .ok (.getfield 9, 3) := by decide +kernel
theorem dX3_property_102 : decode cX3_property 102 = .ok (.getfield 47, 3) := by decide +kernel
theorem dX3_property_105 : decode cX3_property 105 = .ok (.ireturn, 1) := by decide +kernel
theorem dX3_property_106 : decode cX3_property 106 = .ok (.aload_n 0, 1) := by decide +kernel
theorem dX3_property_107 : decode cX3_property 107 = .ok (.getfield 15, 3) := by decide +kernel
theorem dX3_property_110 : decode cX3_property 110 = .ok (.ireturn, 1) := by decide +kernel
theorem dX3_property_111 : decode cX3_property 111 = .ok (.aload_n 0, 1) := by decide +kernel
theorem dX3_property_112 : decode cX3_property 112 = .ok (.getfield 9, 3) := by decide +kernel
theorem dX3_property_115 : decode cX3_property 115 = .ok (.getfield 50, 3) := by decide +kernel
theorem dX3_property_118 : decode cX3_property 118 = .ok (.ireturn, 1) := by decide +kernel
theorem dX3_property_119 : decode cX3_property 119 = .ok (.aload_n 0, 1) := by decide +kernel
theorem dX3_property_120 : decode cX3_property 120 = .ok (.getfield 19, 3) := by decide +kernel
theorem dX3_property_123 : decode cX3_property 123 = .ok (.ifCond .eq 7, 3) := by decide +kernel
theorem dX3_property_126 : decode cX3_property 126 = .ok (.iconst 1, 1) := by decide +kernel
theorem dX3_property_127 : decode cX3_property 127 = .ok (.goto 4, 3) := by decide +kernel
theorem dX3_property_130 : decode cX3_property 130 = .ok (.iconst 0, 1) := by decide +kernel
theorem dX3_property_131 : decode cX3_property 131 = .ok (.ireturn, 1) := by decide +kernel
theorem dX3_property_132 : decode cX3_property 132 = .ok (.aload_n 0, 1) := by decide +kernel
theorem dX3_property_133 : decode cX3_property 133 = .ok (.getfield 9, 3) := by decide +kernel
theorem dX3_property_136 : decode cX3_property 136 = .ok (.getfield 53, 3) := by decide +kernel
theorem dX3_property_139 : decode cX3_property 139 = .ok (.ireturn, 1) := by decide +kernel
theorem dX3_property_140 : decode cX3_property 140 = .ok (.aload_n 0, 1) := by decide +kernel
theorem dX3_property_141 : decode cX3_property 141 = .ok (.getfield 9, 3) := by decide +kernel
theorem dX3_property_144 : decode cX3_property 144 = .ok (.getfield 23, 3) := by decide +kernel
theorem dX3_property_147 : decode cX3_property 147 = .ok (.bipush 100, 2) := by decide +kernel
theorem dX3_property_149 : decode cX3_property 149 = .ok (.invokestatic 56, 3) := by decide +kernel
theorem dX3_property_152 : decode cX3_property 152 = .ok (.ireturn, 1) := by decide +kernel
theorem dX3_property_153 : decode cX3_property 153 = .ok (.aload_n 0, 1) := by decide +kernel
theorem dX3_property_154 : decode cX3_property 154 = .ok (.getfield 9, 3) := by decide +kernel
theorem dX3_property_157 : decode cX3_property 157 = .ok (.getfield 23, 3) := by decide +kernel
theorem dX3_property_160 : decode cX3_property 160 = .ok (.iconst 1, 1) := by decide +kernel
theorem dX3_property_161 : decode cX3_property 161 = .ok (.invokestatic 56, 3) := by decide +kernel
theorem dX3_property_164 : decode cX3_property 164 = .ok (.ireturn, 1) := by decide +kernel
theorem dX3_property_165 : decode cX3_property 165 = .ok (.aload_n 0, 1) := by decide +kernel
theorem dX3_property_166 : decode cX3_property 166 = .ok (.getfield 9, 3) := by decide +kernel
theorem dX3_property_169 : decode cX3_property 169 = .ok (.getfield 23, 3) := by decide +kernel
theorem dX3_property_172 : decode cX3_property 172 = .ok (.invokestatic 60, 3) := by decide +kernel
theorem dX3_property_175 : decode cX3_property 175 = .ok (.ireturn, 1) := by decide +kernel
theorem dX4_init_0 : decode cX4_init 0 = .ok (.aload_n 0, 1) := by decide +kernel
theorem dX4_init_1 : decode cX4_init 1 = .ok (.invokespecial 3, 3) := by decide +kernel
theorem dX4_init_4 : decode cX4_init 4 = .ok (.aload_n 0, 1) := by decide +kernel
theorem dX4_init_5 : decode cX4_init 5 = .ok (.bipush 60, 2) := by decide +kernel
theorem dX4_init_7 : decode cX4_init 7 = .ok (.newarray .int, 2) := by decide +kernel
theorem dX4_init_9 : decode cX4_init 9 = .ok (.putfield 9, 3) := by decide +kernel
theorem dX4_init_12 : decode cX4_init 12 = .ok (.aload_n 0, 1) := by decide +kernel
theorem dX4_init_13 : decode cX4_init 13 = .ok (.iconst 0, 1) := by decide +kernel
theorem dX4_init_14 : decode cX4_init 14 = .ok (.putfield 15, 3) := by decide +kernel
theorem dX4_init_17 : decode cX4_init 17 = .ok (.return_, 1) := by decide +kernel
theorem dX4_add_0 : decode cX4_add 0 = .ok (.aload_n 0, 1) := by decide +kernel
theorem dX4_add_1 : decode cX4_add 1 = .ok (.getfield 15, 3) := by decide +kernel
theorem dX4_add_4 : decode cX4_add 4 = .ok (.bipush 60, 2) := by decide +kernel
theorem dX4_add_6 : decode cX4_add 6 = .ok (.if_icmp .ge 23, 3) := by decide +kernel
theorem dX4_add_9 : decode cX4_add 9 = .ok (.aload_n 0, 1) := by decide +kernel
theorem dX4_add_10 : decode cX4_add 10 = .ok (.getfield 9, 3) := by decide +kernel
theorem dX4_add_13 : decode cX4_add 13 = .ok (.aload_n 0, 1) := by decide +kernel
theorem dX4_add_14 : decode cX4_add 14 = .ok (.getfield 15, 3) := by decide +kernel
theorem dX4_add_17 : decode cX4_add 17 = .ok (.iload_n 1, 1) := by decide +kernel
theorem dX4_add_18 : decode cX4_add 18 = .ok (.iastore, 1) := by decide +kernel
theorem dX4_add_19 : decode cX4_add 19 = .ok (.aload_n 0, 1) := by decide +kernel
theorem dX4_add_20 : decode cX4_add 20 = .ok (.dup, 1) := by decide +kernel
theorem dX4_add_21 : decode cX4_add 21 = .ok (.getfield 15, 3) := by decide +kernel
theorem dX4_add_24 : decode cX4_add 24 = .ok (.iconst 1, 1) := by decide +kernel
theorem dX4_add_25 : decode cX4_add 25 = .ok (.iadd, 1) := by decide +kernel
theorem dX4_add_26 : decode cX4_add 26 = .ok (.putfield 15, 3) := by decide +kernel
theorem dX4_add_29 : decode cX4_add 29 = .ok (.return_, 1) := by decide +kernel
theorem dX4_isDigit_0 : decode cX4_isDigit 0 = .ok (.iload_n 0, 1) := by decide +kernel
theorem dX4_isDigit_1 : decode cX4_isDigit 1 = .ok (.bipush 48, 2) := by decide +kernel
theorem dX4_isDigit_3 : decode cX4_isDigit 3 = .ok (.if_icmp .lt 13, 3) := by decide +kernel
theorem dX4_isDigit_6 : decode cX4_isDigit 6 = .ok (.iload_n 0, 1) := by decide +kernel
theorem dX4_isDigit_7 : decode cX4_isDigit 7 = .ok (.bipush 57, 2) := by decide +kernel
theorem dX4_isDigit_9 : decode cX4_isDigit 9 = .ok (.if_icmp .gt 7, 3) := by decide +kernel
theorem dX4_isDigit_12 : decode cX4_isDigit 12 = .ok (.iconst 1, 1) := by decide +kernel
theorem dX4_isDigit_13 : decode cX4_isDigit 13 = .ok (.goto 4, 3) := by decide +kernel
theorem dX4_isDigit_16 : decode cX4_isDigit 16 = .ok (.iconst 0, 1) := by decide +kernel
theorem dX4_isDigit_17 : decode cX4_isDigit 17 = .ok (.ireturn, 1) := by decide +kernel
theorem dX4_placeAfter_0 : decode cX4_placeAfter 0 = .ok (.iload_n 0, 1) := by decide +kernel
theorem dX4_placeAfter_1 : decode cX4_placeAfter 1 = .ok (.iconst (-1), 1) := by decide +kernel
theorem dX4_placeAfter_2 : decode cX4_placeAfter 2 = .ok (.if_icmp .ne 18, 3) := by decide +kernel
theorem dX4_placeAfter_5 : decode cX4_placeAfter 5 = .ok (.iload_n 1, 1) := by decide +kernel
theorem dX4_placeAfter_6 : decode cX4_placeAfter 6 = .ok (.invokestatic 19, 3) := by decide +kernel
theorem dX4_placeAfter_9 : decode cX4_placeAfter 9 = .ok (.ifCond .eq 8, 3) := by decide +kernel
theorem dX4_placeAfter_12 : decode cX4_placeAfter 12 = .ok (.bipush (-2), 2) := by decide +kernel
theorem dX4_placeAfter_14 : decode cX4_placeAfter 14 = .ok (.goto 5, 3) := by decide +kernel
theorem dX4_placeAfter_17 : decode cX4_placeAfter 17 = .ok (.bipush (-3), 2) := by decide +kernel
theorem dX4_placeAfter_19 : decode cX4_placeAfter 19 = .ok (.ireturn, 1) := by decide +kernel
theorem dX4_placeAfter_20 : decode cX4_placeAfter 20 = .ok (.iload_n 0, 1) := by decide +kernel
theorem dX4_placeAfter_21 : decode cX4_placeAfter 21 = .ok (.bipush (-2), 2) := by decide +kernel
theorem dX4_placeAfter_23 : decode cX4_placeAfter 23 = .ok (.if_icmp .ne 16, 3) := by decide +kernel
theorem dX4_placeAfter_26 : decode cX4_placeAfter 26 = .ok (.iload_n 1, 1) := by decide +kernel
theorem dX4_placeAfter_27 : decode cX4_placeAfter 27 = .ok (.bipush 58, 2) := by decide +kernel
theorem dX4_placeAfter_29 : decode cX4_placeAfter 29 = .ok (.if_icmp .ne 7, 3) := by decide +kernel
theorem dX4_placeAfter_32 : decode cX4_placeAfter 32 = .ok (.iconst 0, 1) := by decide +kernel
theorem dX4_placeAfter_33 : decode cX4_placeAfter 33 = .ok (.goto 5, 3) := by decide +kernel
theorem dX4_placeAfter_36 : decode cX4_placeAfter 36 = .ok (.bipush (-3), 2) := by decide +kernel
theorem dX4_placeAfter_38 : decode cX4_placeAfter 38 = .ok (.ireturn, 1) := by decide +kernel
theorem dX4_placeAfter_39 : decode cX4_placeAfter 39 = .ok (.iload_n 0, 1) := by decide +kernel
theorem dX4_placeAfter_40 : decode cX4_placeAfter 40 = .ok (.ifCond .lt 26, 3) := by decide +kernel
theorem dX4_placeAfter_43 : decode cX4_placeAfter 43 = .ok (.iload_n 0, 1) := by decide +kernel
theorem dX4_placeAfter_44 : decode cX4_placeAfter 44 = .ok (.bipush 16, 2) := by decide +kernel
theorem dX4_placeAfter_46 : decode cX4_placeAfter 46 = .ok (.if_icmp .ge 20, 3) := by decide +kernel
theorem dX4_placeAfter_49 : decode cX4_placeAfter 49 = .ok (.iload_n 1, 1) := by decide +kernel
theorem dX4_placeAfter_50 : decode cX4_placeAfter 50 = .ok (.invokestatic 19, 3) := by decide +kernel
theorem dX4_placeAfter_53 : decode cX4_placeAfter 53 = .ok (.ifCond .ne 9, 3) := by decide +kernel
theorem dX4_placeAfter_56 : decode cX4_placeAfter 56 = .ok (.iload_n 1, 1) := by decide +kernel
theorem dX4_placeAfter_57 : decode cX4_placeAfter 57 = .ok (.bipush 46, 2) := by decide +kernel
theorem dX4_placeAfter_59 : decode cX4_placeAfter 59 = .ok (.if_icmp .ne 7, 3) := by decide +kernel
theorem dX4_placeAfter_62 : decode cX4_placeAfter 62 = .ok (.iload_n 0, 1) := by decide +kernel
theorem dX4_placeAfter_63 : decode cX4_placeAfter 63 = .ok (.iconst 1, 1) := by decide +kernel
theorem dX4_placeAfter_64 : decode cX4_placeAfter 64 = .ok (.iadd, 1) := by decide +kernel
theorem dX4_placeAfter_65 : decode cX4_placeAfter 65 = .ok (.ireturn, 1) := by decide +kernel
theorem dX4_placeAfter_66 : decode cX4_placeAfter 66 = .ok (.iload_n 0, 1) := by decide +kernel
theorem dX4_placeAfter_67 : decode cX4_placeAfter 67 = .ok (.ifCond .le 13, 3) := by decide +kernel
theorem dX4_placeAfter_70 : decode cX4_placeAfter 70 = .ok (.iload_n 1, 1) := by decide +kernel
theorem dX4_placeAfter_71 : decode cX4_placeAfter 71 = .ok (.bipush 47, 2) := by decide +kernel
theorem dX4_placeAfter_73 : decode cX4_placeAfter 73 = .ok (.if_icmp .ne 7, 3) := by decide +kernel
theorem dX4_placeAfter_76 : decode cX4_placeAfter 76 = .ok (.iconst (-1), 1) := by decide +kernel
theorem dX4_placeAfter_77 : decode cX4_placeAfter 77 = .ok (.goto 5, 3) := by decide +kernel
theorem dX4_placeAfter_80 : decode cX4_placeAfter 80 = .ok (.bipush (-3), 2) := by decide +kernel
theorem dX4_placeAfter_82 : decode cX4_placeAfter 82 = .ok (.ireturn, 1) := by decide +kernel
theorem dX4_firstWrong_0 : decode cX4_firstWrong 0 = .ok (.iconst (-1), 1) := by decide +kernel
theorem dX4_firstWrong_1 : decode cX4_firstWrong 1 = .ok (.istore_n 1, 1) := by decide +kernel
theorem dX4_firstWrong_2 : decode cX4_firstWrong 2 = .ok (.iconst 0, 1) := by decide +kernel
theorem dX4_firstWrong_3 : decode cX4_firstWrong 3 = .ok (.istore_n 2, 1) := by decide +kernel
theorem dX4_firstWrong_4 : decode cX4_firstWrong 4 = .ok (.iload_n 2, 1) := by decide +kernel
theorem dX4_firstWrong_5 : decode cX4_firstWrong 5 = .ok (.aload_n 0, 1) := by decide +kernel
theorem dX4_firstWrong_6 : decode cX4_firstWrong 6 = .ok (.getfield 15, 3) := by decide +kernel
theorem dX4_firstWrong_9 : decode cX4_firstWrong 9 = .ok (.if_icmp .ge 34, 3) := by decide +kernel
theorem dX4_firstWrong_12 : decode cX4_firstWrong 12 = .ok (.iload_n 2, 1) := by decide +kernel
theorem dX4_firstWrong_13 : decode cX4_firstWrong 13 = .ok (.bipush 60, 2) := by decide +kernel
theorem dX4_firstWrong_15 : decode cX4_firstWrong 15 = .ok (.if_icmp .ge 28, 3) := by decide +kernel
theorem dX4_firstWrong_18 : decode cX4_firstWrong 18 = .ok (.iload_n 1, 1) := by decide +kernel
theorem dX4_firstWrong_19 : decode cX4_firstWrong 19 = .ok (.aload_n 0, 1) := by decide +kernel
theorem dX4_firstWrong_20 : decode cX4_firstWrong 20 = .ok (.getfield 9, 3) := by decide +kernel
theorem dX4_firstWrong_23 : decode cX4_firstWrong 23 = .ok (.iload_n 2, 1) := by decide +kernel
theorem dX4_firstWrong_24 : decode cX4_firstWrong 24 = .ok (.iaload, 1) := by decide +kernel
theorem dX4_firstWrong_25 : decode cX4_firstWrong 25 = .ok (.invokestatic 23, 3) := by decide +kernel
theorem dX4_firstWrong_28 : decode cX4_firstWrong 28 = .ok (.istore_n 1, 1) := by decide +kernel
theorem dX4_firstWrong_29 : decode cX4_firstWrong 29 = .ok (.iload_n 1, 1) := by decide +kernel
theorem dX4_firstWrong_30 : decode cX4_firstWrong 30 = .ok (.bipush (-3), 2) := by decide +kernel
theorem dX4_firstWrong_32 : decode cX4_firstWrong 32 = .ok (.if_icmp .ne 5, 3) := by decide +kernel
theorem dX4_firstWrong_35 : decode cX4_firstWrong 35 = .ok (.iload_n 2, 1) := by decide +kernel
theorem dX4_firstWrong_36 : decode cX4_firstWrong 36 = .ok (.ireturn, 1) := by decide +kernel
theorem dX4_firstWrong_37 : decode cX4_firstWrong 37 = .ok (.iinc 2 1, 3) := by decide +kernel
theorem dX4_firstWrong_40 : decode cX4_firstWrong 40 = .ok (.goto (-36), 3) := by decide +kernel
theorem dX4_firstWrong_43 : decode cX4_firstWrong 43 = .ok (.aload_n 0, 1) := by decide +kernel
theorem dX4_firstWrong_44 : decode cX4_firstWrong 44 = .ok (.getfield 15, 3) := by decide +kernel
theorem dX4_firstWrong_47 : decode cX4_firstWrong 47 = .ok (.ireturn, 1) := by decide +kernel
theorem dX4_isComplete_0 : decode cX4_isComplete 0 = .ok (.iconst (-1), 1) := by decide +kernel
theorem dX4_isComplete_1 : decode cX4_isComplete 1 = .ok (.istore_n 1, 1) := by decide +kernel
theorem dX4_isComplete_2 : decode cX4_isComplete 2 = .ok (.iconst 0, 1) := by decide +kernel
theorem dX4_isComplete_3 : decode cX4_isComplete 3 = .ok (.istore_n 2, 1) := by decide +kernel
theorem dX4_isComplete_4 : decode cX4_isComplete 4 = .ok (.iload_n 2, 1) := by decide +kernel
theorem dX4_isComplete_5 : decode cX4_isComplete 5 = .ok (.aload_n 0, 1) := by decide +kernel
theorem dX4_isComplete_6 : decode cX4_isComplete 6 = .ok (.getfield 15, 3) := by decide +kernel
theorem dX4_isComplete_9 : decode cX4_isComplete 9 = .ok (.if_icmp .ge 26, 3) := by decide +kernel
theorem dX4_isComplete_12 : decode cX4_isComplete 12 = .ok (.iload_n 2, 1) := by decide +kernel
theorem dX4_isComplete_13 : decode cX4_isComplete 13 = .ok (.bipush 60, 2) := by decide +kernel
theorem dX4_isComplete_15 : decode cX4_isComplete 15 = .ok (.if_icmp .ge 20, 3) := by decide +kernel
theorem dX4_isComplete_18 : decode cX4_isComplete 18 = .ok (.iload_n 1, 1) := by decide +kernel
theorem dX4_isComplete_19 : decode cX4_isComplete 19 = .ok (.aload_n 0, 1) := by decide +kernel
theorem dX4_isComplete_20 : decode cX4_isComplete 20 = .ok (.getfield 9, 3) := by decide +kernel
theorem dX4_isComplete_23 : decode cX4_isComplete 23 = .ok (.iload_n 2, 1) := by decide +kernel
theorem dX4_isComplete_24 : decode cX4_isComplete 24 = .ok (.iaload, 1) := by decide +kernel
theorem dX4_isComplete_25 : decode cX4_isComplete 25 = .ok (.invokestatic 23, 3) := by decide +kernel
theorem dX4_isComplete_28 : decode cX4_isComplete 28 = .ok (.istore_n 1, 1) := by decide +kernel
theorem dX4_isComplete_29 : decode cX4_isComplete 29 = .ok (.iinc 2 1, 3) := by decide +kernel
theorem dX4_isComplete_32 : decode cX4_isComplete 32 = .ok (.goto (-28), 3) := by decide +kernel
theorem dX4_isComplete_35 : decode cX4_isComplete 35 = .ok (.iload_n 1, 1) := by decide +kernel
theorem dX4_isComplete_36 : decode cX4_isComplete 36 = .ok (.ifCond .le 7, 3) := by decide +kernel
theorem dX4_isComplete_39 : decode cX4_isComplete 39 = .ok (.iconst 1, 1) := by decide +kernel
theorem dX4_isComplete_40 : decode cX4_isComplete 40 = .ok (.goto 4, 3) := by decide +kernel
theorem dX4_isComplete_43 : decode cX4_isComplete 43 = .ok (.iconst 0, 1) := by decide +kernel
theorem dX4_isComplete_44 : decode cX4_isComplete 44 = .ok (.ireturn, 1) := by decide +kernel
theorem dX4_writeInto_0 : decode cX4_writeInto 0 = .ok (.iconst (-1), 1) := by decide +kernel
theorem dX4_writeInto_1 : decode cX4_writeInto 1 = .ok (.istore_n 2, 1) := by decide +kernel
theorem dX4_writeInto_2 : decode cX4_writeInto 2 = .ok (.iconst 0, 1) := by decide +kernel
theorem dX4_writeInto_3 : decode cX4_writeInto 3 = .ok (.istore_n 3, 1) := by decide +kernel
theorem dX4_writeInto_4 : decode cX4_writeInto 4 = .ok (.iconst 0, 1) := by decide +kernel
theorem dX4_writeInto_5 : decode cX4_writeInto 5 = .ok (.istore 4, 2) := by decide +kernel
theorem dX4_writeInto_7 : decode cX4_writeInto 7 = .ok (.iload 4, 2) := by decide +kernel
theorem dX4_writeInto_9 : decode cX4_writeInto 9 = .ok (.aload_n 0, 1) := by decide +kernel
theorem dX4_writeInto_10 : decode cX4_writeInto 10 = .ok (.getfield 15, 3) := by decide +kernel
theorem dX4_writeInto_13 : decode cX4_writeInto 13 = .ok (.if_icmp .ge 84, 3) := by decide +kernel
theorem dX4_writeInto_16 : decode cX4_writeInto 16 = .ok (.iload 4, 2) := by decide +kernel
theorem dX4_writeInto_18 : decode cX4_writeInto 18 = .ok (.bipush 60, 2) := by decide +kernel
theorem dX4_writeInto_20 : decode cX4_writeInto 20 = .ok (.if_icmp .ge 77, 3) := by decide +kernel
theorem dX4_writeInto_23 : decode cX4_writeInto 23 = .ok (.aload_n 0, 1) := by decide +kernel
theorem dX4_writeInto_24 : decode cX4_writeInto 24 = .ok (.getfield 9, 3) := by decide +kernel
theorem dX4_writeInto_27 : decode cX4_writeInto 27 = .ok (.iload 4, 2) := by decide +kernel
theorem dX4_writeInto_29 : decode cX4_writeInto 29 = .ok (.iaload, 1) := by decide +kernel
theorem dX4_writeInto_30 : decode cX4_writeInto 30 = .ok (.istore 5, 2) := by decide +kernel
theorem dX4_writeInto_32 : decode cX4_writeInto 32 = .ok (.iload_n 2, 1) := by decide +kernel
theorem dX4_writeInto_33 : decode cX4_writeInto 33 = .ok (.iconst (-1), 1) := by decide +kernel
theorem dX4_writeInto_34 : decode cX4_writeInto 34 = .ok (.if_icmp .ne 17, 3) := by decide +kernel
theorem dX4_writeInto_37 : decode cX4_writeInto 37 = .ok (.iload 5, 2) := by decide +kernel
theorem dX4_writeInto_39 : decode cX4_writeInto 39 = .ok (.invokestatic 19, 3) := by decide +kernel
theorem dX4_writeInto_42 : decode cX4_writeInto 42 = .ok (.ifCond .eq 9, 3) := by decide +kernel
theorem dX4_writeInto_45 : decode cX4_writeInto 45 = .ok (.iload 5, 2) := by decide +kernel
theorem dX4_writeInto_47 : decode cX4_writeInto 47 = .ok (.bipush 48, 2) := by decide +kernel
theorem dX4_writeInto_49 : decode cX4_writeInto 49 = .ok (.isub, 1) := by decide +kernel
theorem dX4_writeInto_50 : decode cX4_writeInto 50 = .ok (.istore_n 3, 1) := by decide +kernel
theorem dX4_writeInto_51 : decode cX4_writeInto 51 = .ok (.iload_n 2, 1) := by decide +kernel
theorem dX4_writeInto_52 : decode cX4_writeInto 52 = .ok (.ifCond .lt 32, 3) := by decide +kernel
theorem dX4_writeInto_55 : decode cX4_writeInto 55 = .ok (.iload_n 2, 1) := by decide +kernel
theorem dX4_writeInto_56 : decode cX4_writeInto 56 = .ok (.bipush 16, 2) := by decide +kernel
theorem dX4_writeInto_58 : decode cX4_writeInto 58 = .ok (.if_icmp .ge 26, 3) := by decide +kernel
theorem dX4_writeInto_61 : decode cX4_writeInto 61 = .ok (.iload 5, 2) := by decide +kernel
theorem dX4_writeInto_63 : decode cX4_writeInto 63 = .ok (.invokestatic 19, 3) := by decide +kernel
theorem dX4_writeInto_66 : decode cX4_writeInto 66 = .ok (.ifCond .eq 18, 3) := by decide +kernel
theorem dX4_writeInto_69 : decode cX4_writeInto 69 = .ok (.aload_n 1, 1) := by decide +kernel
theorem dX4_writeInto_70 : decode cX4_writeInto 70 = .ok (.iload_n 2, 1) := by decide +kernel
theorem dX4_writeInto_71 : decode cX4_writeInto 71 = .ok (.iload_n 3, 1) := by decide +kernel
theorem dX4_writeInto_72 : decode cX4_writeInto 72 = .ok (.invokestatic 27, 3) := by decide +kernel
theorem dX4_writeInto_75 : decode cX4_writeInto 75 = .ok (.bipush 11, 2) := by decide +kernel
theorem dX4_writeInto_77 : decode cX4_writeInto 77 = .ok (.iload 5, 2) := by decide +kernel
theorem dX4_writeInto_79 : decode cX4_writeInto 79 = .ok (.bipush 48, 2) := by decide +kernel
theorem dX4_writeInto_81 : decode cX4_writeInto 81 = .ok (.isub, 1) := by decide +kernel
theorem dX4_writeInto_82 : decode cX4_writeInto 82 = .ok (.imul, 1) := by decide +kernel
theorem dX4_writeInto_83 : decode cX4_writeInto 83 = .ok (.iastore, 1) := by decide +kernel
theorem dX4_writeInto_84 : decode cX4_writeInto 84 = .ok (.iload_n 2, 1) := by decide +kernel
theorem dX4_writeInto_85 : decode cX4_writeInto 85 = .ok (.iload 5, 2) := by decide +kernel
theorem dX4_writeInto_87 : decode cX4_writeInto 87 = .ok (.invokestatic 23, 3) := by decide +kernel
theorem dX4_writeInto_90 : decode cX4_writeInto 90 = .ok (.istore_n 2, 1) := by decide +kernel
theorem dX4_writeInto_91 : decode cX4_writeInto 91 = .ok (.iinc 4 1, 3) := by decide +kernel
theorem dX4_writeInto_94 : decode cX4_writeInto 94 = .ok (.goto (-87), 3) := by decide +kernel
theorem dX4_writeInto_97 : decode cX4_writeInto 97 = .ok (.return_, 1) := by decide +kernel
theorem dX5_init_0 : decode cX5_init 0 = .ok (.aload_n 0, 1) := by decide +kernel
theorem dX5_init_1 : decode cX5_init 1 = .ok (.invokespecial 3, 3) := by decide +kernel
theorem dX5_init_4 : decode cX5_init 4 = .ok (.aload_n 0, 1) := by decide +kernel
theorem dX5_init_5 : decode cX5_init 5 = .ok (.sipush 160, 3) := by decide +kernel
theorem dX5_init_8 : decode cX5_init 8 = .ok (.newarray .int, 2) := by decide +kernel
theorem dX5_init_10 : decode cX5_init 10 = .ok (.putfield 9, 3) := by decide +kernel
theorem dX5_init_13 : decode cX5_init 13 = .ok (.aload_n 0, 1) := by decide +kernel
theorem dX5_init_14 : decode cX5_init 14 = .ok (.bipush 12, 2) := by decide +kernel
theorem dX5_init_16 : decode cX5_init 16 = .ok (.anewarray 15, 3) := by decide +kernel
theorem dX5_init_19 : decode cX5_init 19 = .ok (.putfield 17, 3) := by decide +kernel
theorem dX5_init_22 : decode cX5_init 22 = .ok (.aload_n 0, 1) := by decide +kernel
theorem dX5_init_23 : decode cX5_init 23 = .ok (.iconst 0, 1) := by decide +kernel
theorem dX5_init_24 : decode cX5_init 24 = .ok (.putfield 21, 3) := by decide +kernel
theorem dX5_init_27 : decode cX5_init 27 = .ok (.iconst 0, 1) := by decide +kernel
theorem dX5_init_28 : decode cX5_init 28 = .ok (.istore_n 2, 1) := by decide +kernel
theorem dX5_init_29 : decode cX5_init 29 = .ok (.iload_n 2, 1) := by decide +kernel
theorem dX5_init_30 : decode cX5_init 30 = .ok (.sipush 160, 3) := by decide +kernel
theorem dX5_init_33 : decode cX5_init 33 = .ok (.if_icmp .ge 17, 3) := by decide +kernel
theorem dX5_init_36 : decode cX5_init 36 = .ok (.aload_n 0, 1) := by decide +kernel
theorem dX5_init_37 : decode cX5_init 37 = .ok (.getfield 9, 3) := by decide +kernel
theorem dX5_init_40 : decode cX5_init 40 = .ok (.iload_n 2, 1) := by decide +kernel
theorem dX5_init_41 : decode cX5_init 41 = .ok (.bipush 50, 2) := by decide +kernel
theorem dX5_init_43 : decode cX5_init 43 = .ok (.iastore, 1) := by decide +kernel
theorem dX5_init_44 : decode cX5_init 44 = .ok (.iinc 2 1, 3) := by decide +kernel
theorem dX5_init_47 : decode cX5_init 47 = .ok (.goto (-18), 3) := by decide +kernel
theorem dX5_init_50 : decode cX5_init 50 = .ok (.iconst 0, 1) := by decide +kernel
theorem dX5_init_51 : decode cX5_init 51 = .ok (.istore_n 2, 1) := by decide +kernel
theorem dX5_init_52 : decode cX5_init 52 = .ok (.iload_n 2, 1) := by decide +kernel
theorem dX5_init_53 : decode cX5_init 53 = .ok (.bipush 12, 2) := by decide +kernel
theorem dX5_init_55 : decode cX5_init 55 = .ok (.if_icmp .ge 16, 3) := by decide +kernel
theorem dX5_init_58 : decode cX5_init 58 = .ok (.aload_n 0, 1) := by decide +kernel
theorem dX5_init_59 : decode cX5_init 59 = .ok (.getfield 17, 3) := by decide +kernel
theorem dX5_init_62 : decode cX5_init 62 = .ok (.iload_n 2, 1) := by decide +kernel
theorem dX5_init_63 : decode cX5_init 63 = .ok (.aload_n 1, 1) := by decide +kernel
theorem dX5_init_64 : decode cX5_init 64 = .ok (.aastore, 1) := by decide +kernel
theorem dX5_init_65 : decode cX5_init 65 = .ok (.iinc 2 1, 3) := by decide +kernel
theorem dX5_init_68 : decode cX5_init 68 = .ok (.goto (-16), 3) := by decide +kernel
theorem dX5_init_71 : decode cX5_init 71 = .ok (.return_, 1) := by decide +kernel
theorem dX5_become_0 : decode cX5_become 0 = .ok (.aload_n 1, 1) := by decide +kernel
theorem dX5_become_1 : decode cX5_become 1 = .ok (.getfield 9, 3) := by decide +kernel
theorem dX5_become_4 : decode cX5_become 4 = .ok (.iconst 0, 1) := by decide +kernel
theorem dX5_become_5 : decode cX5_become 5 = .ok (.aload_n 0, 1) := by decide +kernel
theorem dX5_become_6 : decode cX5_become 6 = .ok (.getfield 9, 3) := by decide +kernel
theorem dX5_become_9 : decode cX5_become 9 = .ok (.iconst 0, 1) := by decide +kernel
theorem dX5_become_10 : decode cX5_become 10 = .ok (.sipush 160, 3) := by decide +kernel
theorem dX5_become_13 : decode cX5_become 13 = .ok (.invokestatic 25, 3) := by decide +kernel
theorem dX5_become_16 : decode cX5_become 16 = .ok (.iconst 0, 1) := by decide +kernel
theorem dX5_become_17 : decode cX5_become 17 = .ok (.istore_n 2, 1) := by decide +kernel
theorem dX5_become_18 : decode cX5_become 18 = .ok (.iload_n 2, 1) := by decide +kernel
theorem dX5_become_19 : decode cX5_become 19 = .ok (.bipush 12, 2) := by decide +kernel
theorem dX5_become_21 : decode cX5_become 21 = .ok (.if_icmp .ge 21, 3) := by decide +kernel
theorem dX5_become_24 : decode cX5_become 24 = .ok (.aload_n 0, 1) := by decide +kernel
theorem dX5_become_25 : decode cX5_become 25 = .ok (.getfield 17, 3) := by decide +kernel
theorem dX5_become_28 : decode cX5_become 28 = .ok (.iload_n 2, 1) := by decide +kernel
theorem dX5_become_29 : decode cX5_become 29 = .ok (.aload_n 1, 1) := by decide +kernel
theorem dX5_become_30 : decode cX5_become 30 = .ok (.getfield 17, 3) := by decide +kernel
theorem dX5_become_33 : decode cX5_become 33 = .ok (.iload_n 2, 1) := by decide +kernel
theorem dX5_become_34 : decode cX5_become 34 = .ok (.aaload, 1) := by decide +kernel
theorem dX5_become_35 : decode cX5_become 35 = .ok (.aastore, 1) := by decide +kernel
theorem dX5_become_36 : decode cX5_become 36 = .ok (.iinc 2 1, 3) := by decide +kernel
theorem dX5_become_39 : decode cX5_become 39 = .ok (.goto (-21), 3) := by decide +kernel
theorem dX5_become_42 : decode cX5_become 42 = .ok (.aload_n 0, 1) := by decide +kernel
theorem dX5_become_43 : decode cX5_become 43 = .ok (.aload_n 1, 1) := by decide +kernel
theorem dX5_become_44 : decode cX5_become 44 = .ok (.getfield 21, 3) := by decide +kernel
theorem dX5_become_47 : decode cX5_become 47 = .ok (.putfield 21, 3) := by decide +kernel
theorem dX5_become_50 : decode cX5_become 50 = .ok (.return_, 1) := by decide +kernel
theorem dX5_paint_0 : decode cX5_paint 0 = .ok (.aload_n 0, 1) := by decide +kernel
theorem dX5_paint_1 : decode cX5_paint 1 = .ok (.getfield 9, 3) := by decide +kernel
theorem dX5_paint_4 : decode cX5_paint 4 = .ok (.iload_n 1, 1) := by decide +kernel
theorem dX5_paint_5 : decode cX5_paint 5 = .ok (.iaload, 1) := by decide +kernel
theorem dX5_paint_6 : decode cX5_paint 6 = .ok (.iload_n 2, 1) := by decide +kernel
theorem dX5_paint_7 : decode cX5_paint 7 = .ok (.if_icmp .eq 7, 3) := by decide +kernel
theorem dX5_paint_10 : decode cX5_paint 10 = .ok (.iconst 1, 1) := by decide +kernel
theorem dX5_paint_11 : decode cX5_paint 11 = .ok (.goto 4, 3) := by decide +kernel
theorem dX5_paint_14 : decode cX5_paint 14 = .ok (.iconst 0, 1) := by decide +kernel
theorem dX5_paint_15 : decode cX5_paint 15 = .ok (.istore_n 3, 1) := by decide +kernel
theorem dX5_paint_16 : decode cX5_paint 16 = .ok (.aload_n 0, 1) := by decide +kernel
theorem dX5_paint_17 : decode cX5_paint 17 = .ok (.getfield 9, 3) := by decide +kernel
theorem dX5_paint_20 : decode cX5_paint 20 = .ok (.iload_n 1, 1) := by decide +kernel
theorem dX5_paint_21 : decode cX5_paint 21 = .ok (.iload_n 2, 1) := by decide +kernel
theorem dX5_paint_22 : decode cX5_paint 22 = .ok (.iastore, 1) := by decide +kernel
theorem dX5_paint_23 : decode cX5_paint 23 = .ok (.iload_n 3, 1) := by decide +kernel
theorem dX5_paint_24 : decode cX5_paint 24 = .ok (.ireturn, 1) := by decide +kernel
theorem dX5_addPick_0 : decode cX5_addPick 0 = .ok (.aload_n 0, 1) := by decide +kernel
theorem dX5_addPick_1 : decode cX5_addPick 1 = .ok (.getfield 21, 3) := by decide +kernel
theorem dX5_addPick_4 : decode cX5_addPick 4 = .ok (.bipush 12, 2) := by decide +kernel
theorem dX5_addPick_6 : decode cX5_addPick 6 = .ok (.if_icmp .ge 23, 3) := by decide +kernel
theorem dX5_addPick_9 : decode cX5_addPick 9 = .ok (.aload_n 0, 1) := by decide +kernel
theorem dX5_addPick_10 : decode cX5_addPick 10 = .ok (.getfield 17, 3) := by decide +kernel
theorem dX5_addPick_13 : decode cX5_addPick 13 = .ok (.aload_n 0, 1) := by decide +kernel
theorem dX5_addPick_14 : decode cX5_addPick 14 = .ok (.getfield 21, 3) := by decide +kernel
theorem dX5_addPick_17 : decode cX5_addPick 17 = .ok (.aload_n 1, 1) := by decide +kernel
theorem dX5_addPick_18 : decode cX5_addPick 18 = .ok (.aastore, 1) := by decide +kernel
theorem dX5_addPick_19 : decode cX5_addPick 19 = .ok (.aload_n 0, 1) := by decide +kernel
theorem dX5_addPick_20 : decode cX5_addPick 20 = .ok (.dup, 1) := by decide +kernel
theorem dX5_addPick_21 : decode cX5_addPick 21 = .ok (.getfield 21, 3) := by decide +kernel
theorem dX5_addPick_24 : decode cX5_addPick 24 = .ok (.iconst 1, 1) := by decide +kernel
theorem dX5_addPick_25 : decode cX5_addPick 25 = .ok (.iadd, 1) := by decide +kernel
theorem dX5_addPick_26 : decode cX5_addPick 26 = .ok (.putfield 21, 3) := by decide +kernel
theorem dX5_addPick_29 : decode cX5_addPick 29 = .ok (.return_, 1) := by decide +kernel
theorem dX5_movePick_0 : decode cX5_movePick 0 = .ok (.aload_n 0, 1) := by decide +kernel
theorem dX5_movePick_1 : decode cX5_movePick 1 = .ok (.getfield 17, 3) := by decide +kernel
theorem dX5_movePick_4 : decode cX5_movePick 4 = .ok (.iload_n 1, 1) := by decide +kernel
theorem dX5_movePick_5 : decode cX5_movePick 5 = .ok (.aaload, 1) := by decide +kernel
theorem dX5_movePick_6 : decode cX5_movePick 6 = .ok (.astore_n 3, 1) := by decide +kernel
theorem dX5_movePick_7 : decode cX5_movePick 7 = .ok (.iload_n 1, 1) := by decide +kernel
theorem dX5_movePick_8 : decode cX5_movePick 8 = .ok (.istore 4, 2) := by decide +kernel
theorem dX5_movePick_10 : decode cX5_movePick 10 = .ok (.iload 4, 2) := by decide +kernel
theorem dX5_movePick_12 : decode cX5_movePick 12 = .ok (.iload_n 2, 1) := by decide +kernel
theorem dX5_movePick_13 : decode cX5_movePick 13 = .ok (.if_icmp .ge 25, 3) := by decide +kernel
theorem dX5_movePick_16 : decode cX5_movePick 16 = .ok (.aload_n 0, 1) := by decide +kernel
theorem dX5_movePick_17 : decode cX5_movePick 17 = .ok (.getfield 17, 3) := by decide +kernel
theorem dX5_movePick_20 : decode cX5_movePick 20 = .ok (.iload 4, 2) := by decide +kernel
theorem dX5_movePick_22 : decode cX5_movePick 22 = .ok (.aload_n 0, 1) := by decide +kernel
theorem dX5_movePick_23 : decode cX5_movePick 23 = .ok (.getfield 17, 3) := by decide +kernel
theorem dX5_movePick_26 : decode cX5_movePick 26 = .ok (.iload 4, 2) := by decide +kernel
theorem dX5_movePick_28 : decode cX5_movePick 28 = .ok (.iconst 1, 1) := by decide +kernel
theorem dX5_movePick_29 : decode cX5_movePick 29 = .ok (.iadd, 1) := by decide +kernel
theorem dX5_movePick_30 : decode cX5_movePick 30 = .ok (.aaload, 1) := by decide +kernel
theorem dX5_movePick_31 : decode cX5_movePick 31 = .ok (.aastore, 1) := by decide +kernel
theorem dX5_movePick_32 : decode cX5_movePick 32 = .ok (.iinc 4 1, 3) := by decide +kernel
theorem dX5_movePick_35 : decode cX5_movePick 35 = .ok (.goto (-25), 3) := by decide +kernel
theorem dX5_movePick_38 : decode cX5_movePick 38 = .ok (.iload_n 1, 1) := by decide +kernel
theorem dX5_movePick_39 : decode cX5_movePick 39 = .ok (.istore 4, 2) := by decide +kernel
theorem dX5_movePick_41 : decode cX5_movePick 41 = .ok (.iload 4, 2) := by decide +kernel
theorem dX5_movePick_43 : decode cX5_movePick 43 = .ok (.iload_n 2, 1) := by decide +kernel
theorem dX5_movePick_44 : decode cX5_movePick 44 = .ok (.if_icmp .le 25, 3) := by decide +kernel
theorem dX5_movePick_47 : decode cX5_movePick 47 = .ok (.aload_n 0, 1) := by decide +kernel
theorem dX5_movePick_48 : decode cX5_movePick 48 = .ok (.getfield 17, 3) := by decide +kernel
theorem dX5_movePick_51 : decode cX5_movePick 51 = .ok (.iload 4, 2) := by decide +kernel
theorem dX5_movePick_53 : decode cX5_movePick 53 = .ok (.aload_n 0, 1) := by decide +kernel
theorem dX5_movePick_54 : decode cX5_movePick 54 = .ok (.getfield 17, 3) := by decide +kernel
theorem dX5_movePick_57 : decode cX5_movePick 57 = .ok (.iload 4, 2) := by decide +kernel
theorem dX5_movePick_59 : decode cX5_movePick 59 = .ok (.iconst 1, 1) := by decide +kernel
theorem dX5_movePick_60 : decode cX5_movePick 60 = .ok (.isub, 1) := by decide +kernel
theorem dX5_movePick_61 : decode cX5_movePick 61 = .ok (.aaload, 1) := by decide +kernel
theorem dX5_movePick_62 : decode cX5_movePick 62 = .ok (.aastore, 1) := by decide +kernel
theorem dX5_movePick_63 : decode cX5_movePick 63 = .ok (.iinc 4 (-1), 3) := by decide +kernel
theorem dX5_movePick_66 : decode cX5_movePick 66 = .ok (.goto (-25), 3) := by decide +kernel
theorem dX5_movePick_69 : decode cX5_movePick 69 = .ok (.aload_n 0, 1) := by decide +kernel
theorem dX5_movePick_70 : decode cX5_movePick 70 = .ok (.getfield 17, 3) := by decide +kernel
theorem dX5_movePick_73 : decode cX5_movePick 73 = .ok (.iload_n 2, 1) := by decide +kernel
theorem dX5_movePick_74 : decode cX5_movePick 74 = .ok (.aload_n 3, 1) := by decide +kernel
theorem dX5_movePick_75 : decode cX5_movePick 75 = .ok (.aastore, 1) := by decide +kernel
theorem dX5_movePick_76 : decode cX5_movePick 76 = .ok (.return_, 1) := by decide +kernel
theorem dX5_removePicksThatAreOut_0 : decode cX5_removePicksThatAreOut 0 = .ok (.iconst 0, 1) := by decide +kernel
theorem dX5_removePicksThatAreOut_1 : decode cX5_removePicksThatAreOut 1 = .ok (.istore_n 1, 1) := by decide +kernel
theorem dX5_removePicksThatAreOut_2 : decode cX5_removePicksThatAreOut 2 = .ok (.iconst 0, 1) := by decide +kernel
theorem dX5_removePicksThatAreOut_3 : decode cX5_removePicksThatAreOut 3 = .ok (.istore_n 2, 1) := by decide +kernel
theorem dX5_removePicksThatAreOut_4 : decode cX5_removePicksThatAreOut 4 = .ok (.iload_n 2, 1) := by decide +kernel
theorem dX5_removePicksThatAreOut_5 : decode cX5_removePicksThatAreOut 5 = .ok (.aload_n 0, 1) := by decide +kernel
theorem dX5_removePicksThatAreOut_6 : decode cX5_removePicksThatAreOut 6 = .ok (.getfield 21, 3) := by decide +kernel
theorem dX5_removePicksThatAreOut_9 : decode cX5_removePicksThatAreOut 9 = .ok (.if_icmp .ge 42, 3) := by decide +kernel
theorem dX5_removePicksThatAreOut_12 : decode cX5_removePicksThatAreOut 12 = .ok (.iload_n 2, 1) := by decide +kernel
theorem dX5_removePicksThatAreOut_13 : decode cX5_removePicksThatAreOut 13 = .ok (.bipush 12, 2) := by decide +kernel
theorem dX5_removePicksThatAreOut_15 : decode cX5_removePicksThatAreOut 15 = .ok (.if_icmp .ge 36, 3) := by decide +kernel
theorem dX5_removePicksThatAreOut_18 : decode cX5_removePicksThatAreOut 18 = .ok (.aload_n 0, 1) := by decide +kernel
theorem dX5_removePicksThatAreOut_19 : decode cX5_removePicksThatAreOut 19 = .ok (.getfield 17, 3) := by decide +kernel
theorem dX5_removePicksThatAreOut_22 : decode cX5_removePicksThatAreOut 22 = .ok (.iload_n 2, 1) := by decide +kernel
theorem dX5_removePicksThatAreOut_23 : decode cX5_removePicksThatAreOut 23 = .ok (.aaload, 1) := by decide +kernel
theorem dX5_removePicksThatAreOut_24 : decode cX5_removePicksThatAreOut 24 = .ok (.getfield 31, 3) := by decide +kernel
theorem dX5_removePicksThatAreOut_27 : decode cX5_removePicksThatAreOut 27 = .ok (.ifCond .eq 18, 3) := by decide +kernel
theorem dX5_removePicksThatAreOut_30 : decode cX5_removePicksThatAreOut 30 = .ok (.aload_n 0, 1) := by decide +kernel
theorem dX5_removePicksThatAreOut_31 : decode cX5_removePicksThatAreOut 31 = .ok (.getfield 17, 3) := by decide +kernel
theorem dX5_removePicksThatAreOut_34 : decode cX5_removePicksThatAreOut 34 = .ok (.iload_n 1, 1) := by decide +kernel
theorem dX5_removePicksThatAreOut_35 : decode cX5_removePicksThatAreOut 35 = .ok (.aload_n 0, 1) := by decide +kernel
theorem dX5_removePicksThatAreOut_36 : decode cX5_removePicksThatAreOut 36 = .ok (.getfield 17, 3) := by decide +kernel
theorem dX5_removePicksThatAreOut_39 : decode cX5_removePicksThatAreOut 39 = .ok (.iload_n 2, 1) := by decide +kernel
theorem dX5_removePicksThatAreOut_40 : decode cX5_removePicksThatAreOut 40 = .ok (.aaload, 1) := by decide +kernel
theorem dX5_removePicksThatAreOut_41 : decode cX5_removePicksThatAreOut 41 = .ok (.aastore, 1) := by decide +kernel
theorem dX5_removePicksThatAreOut_42 : decode cX5_removePicksThatAreOut 42 = .ok (.iinc 1 1, 3) := by decide +kernel
theorem dX5_removePicksThatAreOut_45 : decode cX5_removePicksThatAreOut 45 = .ok (.iinc 2 1, 3) := by decide +kernel
theorem dX5_removePicksThatAreOut_48 : decode cX5_removePicksThatAreOut 48 = .ok (.goto (-44), 3) := by decide +kernel
theorem dX5_removePicksThatAreOut_51 : decode cX5_removePicksThatAreOut 51 = .ok (.aload_n 0, 1) := by decide +kernel
theorem dX5_removePicksThatAreOut_52 : decode cX5_removePicksThatAreOut 52 = .ok (.getfield 21, 3) := by decide +kernel
theorem dX5_removePicksThatAreOut_55 : decode cX5_removePicksThatAreOut 55 = .ok (.iload_n 1, 1) := by decide +kernel
theorem dX5_removePicksThatAreOut_56 : decode cX5_removePicksThatAreOut 56 = .ok (.isub, 1) := by decide +kernel
theorem dX5_removePicksThatAreOut_57 : decode cX5_removePicksThatAreOut 57 = .ok (.istore_n 2, 1) := by decide +kernel
theorem dX5_removePicksThatAreOut_58 : decode cX5_removePicksThatAreOut 58 = .ok (.aload_n 0, 1) := by decide +kernel
theorem dX5_removePicksThatAreOut_59 : decode cX5_removePicksThatAreOut 59 = .ok (.iload_n 1, 1) := by decide +kernel
theorem dX5_removePicksThatAreOut_60 : decode cX5_removePicksThatAreOut 60 = .ok (.putfield 21, 3) := by decide +kernel
theorem dX5_removePicksThatAreOut_63 : decode cX5_removePicksThatAreOut 63 = .ok (.iload_n 2, 1) := by decide +kernel
theorem dX5_removePicksThatAreOut_64 : decode cX5_removePicksThatAreOut 64 = .ok (.ireturn, 1) := by decide +kernel
theorem dX5_picksThatAreIn_0 : decode cX5_picksThatAreIn 0 = .ok (.iconst 0, 1) := by decide +kernel
theorem dX5_picksThatAreIn_1 : decode cX5_picksThatAreIn 1 = .ok (.istore_n 1, 1) := by decide +kernel
theorem dX5_picksThatAreIn_2 : decode cX5_picksThatAreIn 2 = .ok (.iconst 0, 1) := by decide +kernel
theorem dX5_picksThatAreIn_3 : decode cX5_picksThatAreIn 3 = .ok (.istore_n 2, 1) := by decide +kernel
theorem dX5_picksThatAreIn_4 : decode cX5_picksThatAreIn 4 = .ok (.iload_n 2, 1) := by decide +kernel
theorem dX5_picksThatAreIn_5 : decode cX5_picksThatAreIn 5 = .ok (.aload_n 0, 1) := by decide +kernel
theorem dX5_picksThatAreIn_6 : decode cX5_picksThatAreIn 6 = .ok (.getfield 21, 3) := by decide +kernel
theorem dX5_picksThatAreIn_9 : decode cX5_picksThatAreIn 9 = .ok (.if_icmp .ge 30, 3) := by decide +kernel
theorem dX5_picksThatAreIn_12 : decode cX5_picksThatAreIn 12 = .ok (.iload_n 2, 1) := by decide +kernel
theorem dX5_picksThatAreIn_13 : decode cX5_picksThatAreIn 13 = .ok (.bipush 12, 2) := by decide +kernel
theorem dX5_picksThatAreIn_15 : decode cX5_picksThatAreIn 15 = .ok (.if_icmp .ge 24, 3) := by decide +kernel
theorem dX5_picksThatAreIn_18 : decode cX5_picksThatAreIn 18 = .ok (.aload_n 0, 1) := by decide +kernel
theorem dX5_picksThatAreIn_19 : decode cX5_picksThatAreIn 19 = .ok (.getfield 17, 3) := by decide +kernel
theorem dX5_picksThatAreIn_22 : decode cX5_picksThatAreIn 22 = .ok (.iload_n 2, 1) := by decide +kernel
theorem dX5_picksThatAreIn_23 : decode cX5_picksThatAreIn 23 = .ok (.aaload, 1) := by decide +kernel
theorem dX5_picksThatAreIn_24 : decode cX5_picksThatAreIn 24 = .ok (.getfield 31, 3) := by decide +kernel
theorem dX5_picksThatAreIn_27 : decode cX5_picksThatAreIn 27 = .ok (.ifCond .eq 6, 3) := by decide +kernel
theorem dX5_picksThatAreIn_30 : decode cX5_picksThatAreIn 30 = .ok (.iinc 1 1, 3) := by decide +kernel
theorem dX5_picksThatAreIn_33 : decode cX5_picksThatAreIn 33 = .ok (.iinc 2 1, 3) := by decide +kernel
theorem dX5_picksThatAreIn_36 : decode cX5_picksThatAreIn 36 = .ok (.goto (-32), 3) := by decide +kernel
theorem dX5_picksThatAreIn_39 : decode cX5_picksThatAreIn 39 = .ok (.iload_n 1, 1) := by decide +kernel
theorem dX5_picksThatAreIn_40 : decode cX5_picksThatAreIn 40 = .ok (.ireturn, 1) := by decide +kernel
theorem dX5_makeMask_0 : decode cX5_makeMask 0 = .ok (.iconst 0, 1) := by decide +kernel
theorem dX5_makeMask_1 : decode cX5_makeMask 1 = .ok (.istore_n 2, 1) := by decide +kernel
theorem dX5_makeMask_2 : decode cX5_makeMask 2 = .ok (.iload_n 2, 1) := by decide +kernel
theorem dX5_makeMask_3 : decode cX5_makeMask 3 = .ok (.sipush 160, 3) := by decide +kernel
theorem dX5_makeMask_6 : decode cX5_makeMask 6 = .ok (.if_icmp .ge 17, 3) := by decide +kernel
theorem dX5_makeMask_9 : decode cX5_makeMask 9 = .ok (.aload_n 1, 1) := by decide +kernel
theorem dX5_makeMask_10 : decode cX5_makeMask 10 = .ok (.iload_n 2, 1) := by decide +kernel
theorem dX5_makeMask_11 : decode cX5_makeMask 11 = .ok (.aload_n 0, 1) := by decide +kernel
theorem dX5_makeMask_12 : decode cX5_makeMask 12 = .ok (.iload_n 2, 1) := by decide +kernel
theorem dX5_makeMask_13 : decode cX5_makeMask 13 = .ok (.invokevirtual 35, 3) := by decide +kernel
theorem dX5_makeMask_16 : decode cX5_makeMask 16 = .ok (.iastore, 1) := by decide +kernel
theorem dX5_makeMask_17 : decode cX5_makeMask 17 = .ok (.iinc 2 1, 3) := by decide +kernel
theorem dX5_makeMask_20 : decode cX5_makeMask 20 = .ok (.goto (-18), 3) := by decide +kernel
theorem dX5_makeMask_23 : decode cX5_makeMask 23 = .ok (.return_, 1) := by decide +kernel
theorem dX5_maskLevel_0 : decode cX5_maskLevel 0 = .ok (.iconst 0, 1) := by decide +kernel
theorem dX5_maskLevel_1 : decode cX5_maskLevel 1 = .ok (.istore_n 2, 1) := by decide +kernel
theorem dX5_maskLevel_2 : decode cX5_maskLevel 2 = .ok (.iconst 0, 1) := by decide +kernel
theorem dX5_maskLevel_3 : decode cX5_maskLevel 3 = .ok (.istore_n 3, 1) := by decide +kernel
theorem dX5_maskLevel_4 : decode cX5_maskLevel 4 = .ok (.iload_n 3, 1) := by decide +kernel
theorem dX5_maskLevel_5 : decode cX5_maskLevel 5 = .ok (.aload_n 0, 1) := by decide +kernel
theorem dX5_maskLevel_6 : decode cX5_maskLevel 6 = .ok (.getfield 21, 3) := by decide +kernel
theorem dX5_maskLevel_9 : decode cX5_maskLevel 9 = .ok (.if_icmp .ge 39, 3) := by decide +kernel
theorem dX5_maskLevel_12 : decode cX5_maskLevel 12 = .ok (.iload_n 3, 1) := by decide +kernel
theorem dX5_maskLevel_13 : decode cX5_maskLevel 13 = .ok (.bipush 12, 2) := by decide +kernel
theorem dX5_maskLevel_15 : decode cX5_maskLevel 15 = .ok (.if_icmp .ge 33, 3) := by decide +kernel
theorem dX5_maskLevel_18 : decode cX5_maskLevel 18 = .ok (.aload_n 0, 1) := by decide +kernel
theorem dX5_maskLevel_19 : decode cX5_maskLevel 19 = .ok (.getfield 17, 3) := by decide +kernel
theorem dX5_maskLevel_22 : decode cX5_maskLevel 22 = .ok (.iload_n 3, 1) := by decide +kernel
theorem dX5_maskLevel_23 : decode cX5_maskLevel 23 = .ok (.aaload, 1) := by decide +kernel
theorem dX5_maskLevel_24 : decode cX5_maskLevel 24 = .ok (.getfield 31, 3) := by decide +kernel
theorem dX5_maskLevel_27 : decode cX5_maskLevel 27 = .ok (.ifCond .eq 15, 3) := by decide +kernel
theorem dX5_maskLevel_30 : decode cX5_maskLevel 30 = .ok (.aload_n 0, 1) := by decide +kernel
theorem dX5_maskLevel_31 : decode cX5_maskLevel 31 = .ok (.getfield 17, 3) := by decide +kernel
theorem dX5_maskLevel_34 : decode cX5_maskLevel 34 = .ok (.iload_n 3, 1) := by decide +kernel
theorem dX5_maskLevel_35 : decode cX5_maskLevel 35 = .ok (.aaload, 1) := by decide +kernel
theorem dX5_maskLevel_36 : decode cX5_maskLevel 36 = .ok (.iload_n 2, 1) := by decide +kernel
theorem dX5_maskLevel_37 : decode cX5_maskLevel 37 = .ok (.iload_n 1, 1) := by decide +kernel
theorem dX5_maskLevel_38 : decode cX5_maskLevel 38 = .ok (.invokevirtual 39, 3) := by decide +kernel
theorem dX5_maskLevel_41 : decode cX5_maskLevel 41 = .ok (.istore_n 2, 1) := by decide +kernel
theorem dX5_maskLevel_42 : decode cX5_maskLevel 42 = .ok (.iinc 3 1, 3) := by decide +kernel
theorem dX5_maskLevel_45 : decode cX5_maskLevel 45 = .ok (.goto (-41), 3) := by decide +kernel
theorem dX5_maskLevel_48 : decode cX5_maskLevel 48 = .ok (.iload_n 2, 1) := by decide +kernel
theorem dX5_maskLevel_49 : decode cX5_maskLevel 49 = .ok (.ireturn, 1) := by decide +kernel
theorem dX5_picksOver_0 : decode cX5_picksOver 0 = .ok (.iconst 0, 1) := by decide +kernel
theorem dX5_picksOver_1 : decode cX5_picksOver 1 = .ok (.istore_n 2, 1) := by decide +kernel
theorem dX5_picksOver_2 : decode cX5_picksOver 2 = .ok (.iconst 0, 1) := by decide +kernel
theorem dX5_picksOver_3 : decode cX5_picksOver 3 = .ok (.istore_n 3, 1) := by decide +kernel
theorem dX5_picksOver_4 : decode cX5_picksOver 4 = .ok (.iload_n 3, 1) := by decide +kernel
theorem dX5_picksOver_5 : decode cX5_picksOver 5 = .ok (.aload_n 0, 1) := by decide +kernel
theorem dX5_picksOver_6 : decode cX5_picksOver 6 = .ok (.getfield 21, 3) := by decide +kernel
theorem dX5_picksOver_9 : decode cX5_picksOver 9 = .ok (.if_icmp .ge 35, 3) := by decide +kernel
theorem dX5_picksOver_12 : decode cX5_picksOver 12 = .ok (.iload_n 3, 1) := by decide +kernel
theorem dX5_picksOver_13 : decode cX5_picksOver 13 = .ok (.bipush 12, 2) := by decide +kernel
theorem dX5_picksOver_15 : decode cX5_picksOver 15 = .ok (.if_icmp .ge 29, 3) := by decide +kernel
theorem dX5_picksOver_18 : decode cX5_picksOver 18 = .ok (.aload_n 0, 1) := by decide +kernel
theorem dX5_picksOver_19 : decode cX5_picksOver 19 = .ok (.getfield 17, 3) := by decide +kernel
theorem dX5_picksOver_22 : decode cX5_picksOver 22 = .ok (.iload_n 3, 1) := by decide +kernel
theorem dX5_picksOver_23 : decode cX5_picksOver 23 = .ok (.aaload, 1) := by decide +kernel
theorem dX5_picksOver_24 : decode cX5_picksOver 24 = .ok (.getfield 43, 3) := by decide +kernel
theorem dX5_picksOver_27 : decode cX5_picksOver 27 = .ok (.getfield 47, 3) := by decide +kernel
theorem dX5_picksOver_30 : decode cX5_picksOver 30 = .ok (.iload_n 1, 1) := by decide +kernel
theorem dX5_picksOver_31 : decode cX5_picksOver 31 = .ok (.iaload, 1) := by decide +kernel
theorem dX5_picksOver_32 : decode cX5_picksOver 32 = .ok (.ifCond .le 6, 3) := by decide +kernel
theorem dX5_picksOver_35 : decode cX5_picksOver 35 = .ok (.iinc 2 1, 3) := by decide +kernel
theorem dX5_picksOver_38 : decode cX5_picksOver 38 = .ok (.iinc 3 1, 3) := by decide +kernel
theorem dX5_picksOver_41 : decode cX5_picksOver 41 = .ok (.goto (-37), 3) := by decide +kernel
theorem dX5_picksOver_44 : decode cX5_picksOver 44 = .ok (.iload_n 2, 1) := by decide +kernel
theorem dX5_picksOver_45 : decode cX5_picksOver 45 = .ok (.ireturn, 1) := by decide +kernel
theorem dX5_cellProperty_0 : decode cX5_cellProperty 0 = .ok (.iload_n 2, 1) := by decide +kernel
theorem dX5_cellProperty_1 : decode cX5_cellProperty 1 = .ok (.ifCond .ne 10, 3) := by decide +kernel
theorem dX5_cellProperty_4 : decode cX5_cellProperty 4 = .ok (.aload_n 0, 1) := by decide +kernel
theorem dX5_cellProperty_5 : decode cX5_cellProperty 5 = .ok (.getfield 9, 3) := by decide +kernel
theorem dX5_cellProperty_8 : decode cX5_cellProperty 8 = .ok (.iload_n 1, 1) := by decide +kernel
theorem dX5_cellProperty_9 : decode cX5_cellProperty 9 = .ok (.iaload, 1) := by decide +kernel
theorem dX5_cellProperty_10 : decode cX5_cellProperty 10 = .ok (.ireturn, 1) := by decide +kernel
theorem dX5_cellProperty_11 : decode cX5_cellProperty 11 = .ok (.iload_n 2, 1) := by decide +kernel
theorem dX5_cellProperty_12 : decode cX5_cellProperty 12 = .ok (.iconst 1, 1) := by decide +kernel
theorem dX5_cellProperty_13 : decode cX5_cellProperty 13 = .ok (.if_icmp .ne 11, 3) := by decide +kernel
theorem dX5_cellProperty_16 : decode cX5_cellProperty 16 = .ok (.aload_n 0, 1) := by decide +kernel
theorem dX5_cellProperty_17 : decode cX5_cellProperty 17 = .ok (.iload_n 1, 1) := by decide +kernel
theorem dX5_cellProperty_18 : decode cX5_cellProperty 18 = .ok (.invokevirtual 35, 3) := by decide +kernel
theorem dX5_cellProperty_21 : decode cX5_cellProperty 21 = .ok (.goto 8, 3) := by decide +kernel
theorem dX5_cellProperty_24 : decode cX5_cellProperty 24 = .ok (.aload_n 0, 1) := by decide +kernel
theorem dX5_cellProperty_25 : decode cX5_cellProperty 25 = .ok (.iload_n 1, 1) := by decide +kernel
theorem dX5_cellProperty_26 : decode cX5_cellProperty 26 = .ok (.invokevirtual 52, 3) := by decide +kernel
theorem dX5_cellProperty_29 : decode cX5_cellProperty 29 = .ok (.ireturn, 1) := by decide +kernel
theorem dX6_init_0 : decode cX6_init 0 = .ok (.aload_n 0, 1) := by decide +kernel
theorem dX6_init_1 : decode cX6_init 1 = .ok (.invokespecial 3, 3) := by decide +kernel
theorem dX6_init_4 : decode cX6_init 4 = .ok (.new 9, 3) := by decide +kernel
theorem dX6_init_7 : decode cX6_init 7 = .ok (.dup, 1) := by decide +kernel
theorem dX6_init_8 : decode cX6_init 8 = .ok (.new 11, 3) := by decide +kernel
theorem dX6_init_11 : decode cX6_init 11 = .ok (.dup, 1) := by decide +kernel
theorem dX6_init_12 : decode cX6_init 12 = .ok (.iconst 0, 1) := by decide +kernel
theorem dX6_init_13 : decode cX6_init 13 = .ok (.iconst 0, 1) := by decide +kernel
theorem dX6_init_14 : decode cX6_init 14 = .ok (.iconst 0, 1) := by decide +kernel
theorem dX6_init_15 : decode cX6_init 15 = .ok (.iconst 0, 1) := by decide +kernel
theorem dX6_init_16 : decode cX6_init 16 = .ok (.iconst 0, 1) := by decide +kernel
theorem dX6_init_17 : decode cX6_init 17 = .ok (.iconst 0, 1) := by decide +kernel
theorem dX6_init_18 : decode cX6_init 18 = .ok (.sipush 160, 3) := by decide +kernel
theorem dX6_init_21 : decode cX6_init 21 = .ok (.newarray .int, 2) := by decide +kernel
theorem dX6_init_23 : decode cX6_init 23 = .ok (.invokespecial 13, 3) := by decide +kernel
theorem dX6_init_26 : decode cX6_init 26 = .ok (.iconst 0, 1) := by decide +kernel
theorem dX6_init_27 : decode cX6_init 27 = .ok (.iconst 0, 1) := by decide +kernel
theorem dX6_init_28 : decode cX6_init 28 = .ok (.invokespecial 16, 3) := by decide +kernel
theorem dX6_init_31 : decode cX6_init 31 = .ok (.astore_n 1, 1) := by decide +kernel
theorem dX6_init_32 : decode cX6_init 32 = .ok (.aload_n 0, 1) := by decide +kernel
theorem dX6_init_33 : decode cX6_init 33 = .ok (.new 19, 3) := by decide +kernel
theorem dX6_init_36 : decode cX6_init 36 = .ok (.dup, 1) := by decide +kernel
theorem dX6_init_37 : decode cX6_init 37 = .ok (.aload_n 1, 1) := by decide +kernel
theorem dX6_init_38 : decode cX6_init 38 = .ok (.invokespecial 21, 3) := by decide +kernel
theorem dX6_init_41 : decode cX6_init 41 = .ok (.putfield 24, 3) := by decide +kernel
theorem dX6_init_44 : decode cX6_init 44 = .ok (.aload_n 0, 1) := by decide +kernel
theorem dX6_init_45 : decode cX6_init 45 = .ok (.new 28, 3) := by decide +kernel
theorem dX6_init_48 : decode cX6_init 48 = .ok (.dup, 1) := by decide +kernel
theorem dX6_init_49 : decode cX6_init 49 = .ok (.aload_n 1, 1) := by decide +kernel
theorem dX6_init_50 : decode cX6_init 50 = .ok (.invokespecial 30, 3) := by decide +kernel
theorem dX6_init_53 : decode cX6_init 53 = .ok (.putfield 31, 3) := by decide +kernel
theorem dX6_init_56 : decode cX6_init 56 = .ok (.aload_n 0, 1) := by decide +kernel
theorem dX6_init_57 : decode cX6_init 57 = .ok (.new 35, 3) := by decide +kernel
theorem dX6_init_60 : decode cX6_init 60 = .ok (.dup, 1) := by decide +kernel
theorem dX6_init_61 : decode cX6_init 61 = .ok (.invokespecial 37, 3) := by decide +kernel
theorem dX6_init_64 : decode cX6_init 64 = .ok (.putfield 38, 3) := by decide +kernel
theorem dX6_init_67 : decode cX6_init 67 = .ok (.aload_n 0, 1) := by decide +kernel
theorem dX6_init_68 : decode cX6_init 68 = .ok (.new 42, 3) := by decide +kernel
theorem dX6_init_71 : decode cX6_init 71 = .ok (.dup, 1) := by decide +kernel
theorem dX6_init_72 : decode cX6_init 72 = .ok (.invokespecial 44, 3) := by decide +kernel
theorem dX6_init_75 : decode cX6_init 75 = .ok (.putfield 45, 3) := by decide +kernel
theorem dX6_init_78 : decode cX6_init 78 = .ok (.aload_n 0, 1) := by decide +kernel
theorem dX6_init_79 : decode cX6_init 79 = .ok (.sipush 160, 3) := by decide +kernel
theorem dX6_init_82 : decode cX6_init 82 = .ok (.newarray .int, 2) := by decide +kernel
theorem dX6_init_84 : decode cX6_init 84 = .ok (.putfield 49, 3) := by decide +kernel
theorem dX6_init_87 : decode cX6_init 87 = .ok (.aload_n 0, 1) := by decide +kernel
theorem dX6_init_88 : decode cX6_init 88 = .ok (.sipush 160, 3) := by decide +kernel
theorem dX6_init_91 : decode cX6_init 91 = .ok (.newarray .int, 2) := by decide +kernel
theorem dX6_init_93 : decode cX6_init 93 = .ok (.putfield 53, 3) := by decide +kernel
theorem dX6_init_96 : decode cX6_init 96 = .ok (.return_, 1) := by decide +kernel
theorem dX6_draw_0 : decode cX6_draw 0 = .ok (.iload_n 1, 1) := by decide +kernel
theorem dX6_draw_1 : decode cX6_draw 1 = .ok (.iload_n 2, 1) := by decide +kernel
theorem dX6_draw_2 : decode cX6_draw 2 = .ok (.invokestatic 56, 3) := by decide +kernel
theorem dX6_draw_5 : decode cX6_draw 5 = .ok (.iload_n 3, 1) := by decide +kernel
theorem dX6_draw_6 : decode cX6_draw 6 = .ok (.iload 4, 2) := by decide +kernel
theorem dX6_draw_8 : decode cX6_draw 8 = .ok (.invokestatic 56, 3) := by decide +kernel
theorem dX6_draw_11 : decode cX6_draw 11 = .ok (.iload 5, 2) := by decide +kernel
theorem dX6_draw_13 : decode cX6_draw 13 = .ok (.iconst 0, 1) := by decide +kernel
theorem dX6_draw_14 : decode cX6_draw 14 = .ok (.bipush 99, 2) := by decide +kernel
theorem dX6_draw_16 : decode cX6_draw 16 = .ok (.invokestatic 60, 3) := by decide +kernel
theorem dX6_draw_19 : decode cX6_draw 19 = .ok (.aload_n 0, 1) := by decide +kernel
theorem dX6_draw_20 : decode cX6_draw 20 = .ok (.getfield 31, 3) := by decide +kernel
theorem dX6_draw_23 : decode cX6_draw 23 = .ok (.aload_n 0, 1) := by decide +kernel
theorem dX6_draw_24 : decode cX6_draw 24 = .ok (.getfield 24, 3) := by decide +kernel
theorem dX6_draw_27 : decode cX6_draw 27 = .ok (.invokevirtual 64, 3) := by decide +kernel
theorem dX6_draw_30 : decode cX6_draw 30 = .ok (.iload_n 2, 1) := by decide +kernel
theorem dX6_draw_31 : decode cX6_draw 31 = .ok (.iload 4, 2) := by decide +kernel
theorem dX6_draw_33 : decode cX6_draw 33 = .ok (.invokestatic 68, 3) := by decide +kernel
theorem dX6_draw_36 : decode cX6_draw 36 = .ok (.istore 6, 2) := by decide +kernel
theorem dX6_draw_38 : decode cX6_draw 38 = .ok (.iload_n 1, 1) := by decide +kernel
theorem dX6_draw_39 : decode cX6_draw 39 = .ok (.iload_n 3, 1) := by decide +kernel
theorem dX6_draw_40 : decode cX6_draw 40 = .ok (.invokestatic 68, 3) := by decide +kernel
theorem dX6_draw_43 : decode cX6_draw 43 = .ok (.istore 7, 2) := by decide +kernel
theorem dX6_draw_45 : decode cX6_draw 45 = .ok (.iconst 0, 1) := by decide +kernel
theorem dX6_draw_46 : decode cX6_draw 46 = .ok (.istore 8, 2) := by decide +kernel
theorem dX6_draw_48 : decode cX6_draw 48 = .ok (.iload_n 2, 1) := by decide +kernel
theorem dX6_draw_49 : decode cX6_draw 49 = .ok (.iload 4, 2) := by decide +kernel
theorem dX6_draw_51 : decode cX6_draw 51 = .ok (.invokestatic 74, 3) := by decide +kernel
theorem dX6_draw_54 : decode cX6_draw 54 = .ok (.istore 9, 2) := by decide +kernel
theorem dX6_draw_56 : decode cX6_draw 56 = .ok (.iload 9, 2) := by decide +kernel
theorem dX6_draw_58 : decode cX6_draw 58 = .ok (.iload 6, 2) := by decide +kernel
theorem dX6_draw_60 : decode cX6_draw 60 = .ok (.if_icmp .gt 50, 3) := by decide +kernel
theorem dX6_draw_63 : decode cX6_draw 63 = .ok (.iload_n 1, 1) := by decide +kernel
theorem dX6_draw_64 : decode cX6_draw 64 = .ok (.iload_n 3, 1) := by decide +kernel
theorem dX6_draw_65 : decode cX6_draw 65 = .ok (.invokestatic 74, 3) := by decide +kernel
theorem dX6_draw_68 : decode cX6_draw 68 = .ok (.istore 10, 2) := by decide +kernel
theorem dX6_draw_70 : decode cX6_draw 70 = .ok (.iload 10, 2) := by decide +kernel
theorem dX6_draw_72 : decode cX6_draw 72 = .ok (.iload 7, 2) := by decide +kernel
theorem dX6_draw_74 : decode cX6_draw 74 = .ok (.if_icmp .gt 30, 3) := by decide +kernel
theorem dX6_draw_77 : decode cX6_draw 77 = .ok (.iload 8, 2) := by decide +kernel
theorem dX6_draw_79 : decode cX6_draw 79 = .ok (.aload_n 0, 1) := by decide +kernel
theorem dX6_draw_80 : decode cX6_draw 80 = .ok (.getfield 24, 3) := by decide +kernel
theorem dX6_draw_83 : decode cX6_draw 83 = .ok (.iload 10, 2) := by decide +kernel
theorem dX6_draw_85 : decode cX6_draw 85 = .ok (.iload 9, 2) := by decide +kernel
theorem dX6_draw_87 : decode cX6_draw 87 = .ok (.invokestatic 77, 3) := by decide +kernel
theorem dX6_draw_90 : decode cX6_draw 90 = .ok (.iload 5, 2) := by decide +kernel
theorem dX6_draw_92 : decode cX6_draw 92 = .ok (.invokevirtual 80, 3) := by decide +kernel
theorem dX6_draw_95 : decode cX6_draw 95 = .ok (.iadd, 1) := by decide +kernel
theorem dX6_draw_96 : decode cX6_draw 96 = .ok (.istore 8, 2) := by decide +kernel
theorem dX6_draw_98 : decode cX6_draw 98 = .ok (.iinc 10 1, 3) := by decide +kernel
theorem dX6_draw_101 : decode cX6_draw 101 = .ok (.goto (-31), 3) := by decide +kernel
theorem dX6_draw_104 : decode cX6_draw 104 = .ok (.iinc 9 1, 3) := by decide +kernel
theorem dX6_draw_107 : decode cX6_draw 107 = .ok (.goto (-51), 3) := by decide +kernel
theorem dX6_draw_110 : decode cX6_draw 110 = .ok (.iload 8, 2) := by decide +kernel
theorem dX6_draw_112 : decode cX6_draw 112 = .ok (.ireturn, 1) := by decide +kernel
theorem dX6_fill_0 : decode cX6_fill 0 = .ok (.iload_n 1, 1) := by decide +kernel
theorem dX6_fill_1 : decode cX6_fill 1 = .ok (.iconst 0, 1) := by decide +kernel
theorem dX6_fill_2 : decode cX6_fill 2 = .ok (.bipush 99, 2) := by decide +kernel
theorem dX6_fill_4 : decode cX6_fill 4 = .ok (.invokestatic 60, 3) := by decide +kernel
theorem dX6_fill_7 : decode cX6_fill 7 = .ok (.aload_n 0, 1) := by decide +kernel
theorem dX6_fill_8 : decode cX6_fill 8 = .ok (.getfield 31, 3) := by decide +kernel
theorem dX6_fill_11 : decode cX6_fill 11 = .ok (.aload_n 0, 1) := by decide +kernel
theorem dX6_fill_12 : decode cX6_fill 12 = .ok (.getfield 24, 3) := by decide +kernel
theorem dX6_fill_15 : decode cX6_fill 15 = .ok (.invokevirtual 64, 3) := by decide +kernel
theorem dX6_fill_18 : decode cX6_fill 18 = .ok (.aload_n 0, 1) := by decide +kernel
theorem dX6_fill_19 : decode cX6_fill 19 = .ok (.getfield 24, 3) := by decide +kernel
theorem dX6_fill_22 : decode cX6_fill 22 = .ok (.aload_n 0, 1) := by decide +kernel
theorem dX6_fill_23 : decode cX6_fill 23 = .ok (.getfield 49, 3) := by decide +kernel
theorem dX6_fill_26 : decode cX6_fill 26 = .ok (.invokevirtual 83, 3) := by decide +kernel
theorem dX6_fill_29 : decode cX6_fill 29 = .ok (.iconst 0, 1) := by decide +kernel
theorem dX6_fill_30 : decode cX6_fill 30 = .ok (.istore_n 2, 1) := by decide +kernel
theorem dX6_fill_31 : decode cX6_fill 31 = .ok (.iconst 0, 1) := by decide +kernel
theorem dX6_fill_32 : decode cX6_fill 32 = .ok (.istore_n 3, 1) := by decide +kernel
theorem dX6_fill_33 : decode cX6_fill 33 = .ok (.iload_n 3, 1) := by decide +kernel
theorem dX6_fill_34 : decode cX6_fill 34 = .ok (.sipush 160, 3) := by decide +kernel
theorem dX6_fill_37 : decode cX6_fill 37 = .ok (.if_icmp .ge 48, 3) := by decide +kernel
theorem dX6_fill_40 : decode cX6_fill 40 = .ok (.aload_n 0, 1) := by decide +kernel
theorem dX6_fill_41 : decode cX6_fill 41 = .ok (.getfield 24, 3) := by decide +kernel
theorem dX6_fill_44 : decode cX6_fill 44 = .ok (.getfield 87, 3) := by decide +kernel
theorem dX6_fill_47 : decode cX6_fill 47 = .ok (.iload_n 3, 1) := by decide +kernel
theorem dX6_fill_48 : decode cX6_fill 48 = .ok (.iaload, 1) := by decide +kernel
theorem dX6_fill_49 : decode cX6_fill 49 = .ok (.istore 4, 2) := by decide +kernel
theorem dX6_fill_51 : decode cX6_fill 51 = .ok (.iload_n 2, 1) := by decide +kernel
theorem dX6_fill_52 : decode cX6_fill 52 = .ok (.aload_n 0, 1) := by decide +kernel
theorem dX6_fill_53 : decode cX6_fill 53 = .ok (.getfield 24, 3) := by decide +kernel
theorem dX6_fill_56 : decode cX6_fill 56 = .ok (.iload_n 3, 1) := by decide +kernel
theorem dX6_fill_57 : decode cX6_fill 57 = .ok (.iload 4, 2) := by decide +kernel
theorem dX6_fill_59 : decode cX6_fill 59 = .ok (.iload_n 1, 1) := by decide +kernel
theorem dX6_fill_60 : decode cX6_fill 60 = .ok (.iload 4, 2) := by decide +kernel
theorem dX6_fill_62 : decode cX6_fill 62 = .ok (.isub, 1) := by decide +kernel
theorem dX6_fill_63 : decode cX6_fill 63 = .ok (.aload_n 0, 1) := by decide +kernel
theorem dX6_fill_64 : decode cX6_fill 64 = .ok (.getfield 49, 3) := by decide +kernel
theorem dX6_fill_67 : decode cX6_fill 67 = .ok (.iload_n 3, 1) := by decide +kernel
theorem dX6_fill_68 : decode cX6_fill 68 = .ok (.iaload, 1) := by decide +kernel
theorem dX6_fill_69 : decode cX6_fill 69 = .ok (.imul, 1) := by decide +kernel
theorem dX6_fill_70 : decode cX6_fill 70 = .ok (.bipush 100, 2) := by decide +kernel
theorem dX6_fill_72 : decode cX6_fill 72 = .ok (.idiv, 1) := by decide +kernel
theorem dX6_fill_73 : decode cX6_fill 73 = .ok (.iadd, 1) := by decide +kernel
theorem dX6_fill_74 : decode cX6_fill 74 = .ok (.invokevirtual 80, 3) := by decide +kernel
theorem dX6_fill_77 : decode cX6_fill 77 = .ok (.iadd, 1) := by decide +kernel
theorem dX6_fill_78 : decode cX6_fill 78 = .ok (.istore_n 2, 1) := by decide +kernel
theorem dX6_fill_79 : decode cX6_fill 79 = .ok (.iinc 3 1, 3) := by decide +kernel
theorem dX6_fill_82 : decode cX6_fill 82 = .ok (.goto (-49), 3) := by decide +kernel
theorem dX6_fill_85 : decode cX6_fill 85 = .ok (.iload_n 2, 1) := by decide +kernel
theorem dX6_fill_86 : decode cX6_fill 86 = .ok (.ireturn, 1) := by decide +kernel
theorem dX6_pick_0 : decode cX6_pick 0 = .ok (.iload_n 1, 1) := by decide +kernel
theorem dX6_pick_1 : decode cX6_pick 1 = .ok (.iload_n 2, 1) := by decide +kernel
theorem dX6_pick_2 : decode cX6_pick 2 = .ok (.invokestatic 56, 3) := by decide +kernel
theorem dX6_pick_5 : decode cX6_pick 5 = .ok (.iload_n 3, 1) := by decide +kernel
theorem dX6_pick_6 : decode cX6_pick 6 = .ok (.iload 4, 2) := by decide +kernel
theorem dX6_pick_8 : decode cX6_pick 8 = .ok (.iload 5, 2) := by decide +kernel
theorem dX6_pick_10 : decode cX6_pick 10 = .ok (.invokestatic 90, 3) := by decide +kernel
theorem dX6_pick_13 : decode cX6_pick 13 = .ok (.iload 6, 2) := by decide +kernel
theorem dX6_pick_15 : decode cX6_pick 15 = .ok (.iconst 0, 1) := by decide +kernel
theorem dX6_pick_16 : decode cX6_pick 16 = .ok (.bipush 43, 2) := by decide +kernel
theorem dX6_pick_18 : decode cX6_pick 18 = .ok (.invokestatic 60, 3) := by decide +kernel
theorem dX6_pick_21 : decode cX6_pick 21 = .ok (.iload 6, 2) := by decide +kernel
theorem dX6_pick_23 : decode cX6_pick 23 = .ok (.bipush 10, 2) := by decide +kernel
theorem dX6_pick_25 : decode cX6_pick 25 = .ok (.irem, 1) := by decide +kernel
theorem dX6_pick_26 : decode cX6_pick 26 = .ok (.iconst 0, 1) := by decide +kernel
theorem dX6_pick_27 : decode cX6_pick 27 = .ok (.iconst 3, 1) := by decide +kernel
theorem dX6_pick_28 : decode cX6_pick 28 = .ok (.invokestatic 60, 3) := by decide +kernel
theorem dX6_pick_31 : decode cX6_pick 31 = .ok (.aload_n 0, 1) := by decide +kernel
theorem dX6_pick_32 : decode cX6_pick 32 = .ok (.getfield 24, 3) := by decide +kernel
theorem dX6_pick_35 : decode cX6_pick 35 = .ok (.getfield 93, 3) := by decide +kernel
theorem dX6_pick_38 : decode cX6_pick 38 = .ok (.bipush 12, 2) := by decide +kernel
theorem dX6_pick_40 : decode cX6_pick 40 = .ok (.if_icmp .lt 13, 3) := by decide +kernel
theorem dX6_pick_43 : decode cX6_pick 43 = .ok (.new 97, 3) := by decide +kernel
theorem dX6_pick_46 : decode cX6_pick 46 = .ok (.dup, 1) := by decide +kernel
theorem dX6_pick_47 : decode cX6_pick 47 = .ok (.ldc 99, 2) := by decide +kernel
theorem dX6_pick_49 : decode cX6_pick 49 = .ok (.invokespecial 101, 3) := by decide +kernel
theorem dX6_pick_52 : decode cX6_pick 52 = .ok (.athrow, 1) := by decide +kernel
theorem dX6_pick_53 : decode cX6_pick 53 = .ok (.aload_n 0, 1) := by decide +kernel
theorem dX6_pick_54 : decode cX6_pick 54 = .ok (.getfield 31, 3) := by decide +kernel
theorem dX6_pick_57 : decode cX6_pick 57 = .ok (.aload_n 0, 1) := by decide +kernel
theorem dX6_pick_58 : decode cX6_pick 58 = .ok (.getfield 24, 3) := by decide +kernel
theorem dX6_pick_61 : decode cX6_pick 61 = .ok (.invokevirtual 64, 3) := by decide +kernel
theorem dX6_pick_64 : decode cX6_pick 64 = .ok (.iload_n 1, 1) := by decide +kernel
theorem dX6_pick_65 : decode cX6_pick 65 = .ok (.iload_n 2, 1) := by decide +kernel
theorem dX6_pick_66 : decode cX6_pick 66 = .ok (.invokestatic 77, 3) := by decide +kernel
theorem dX6_pick_69 : decode cX6_pick 69 = .ok (.istore 7, 2) := by decide +kernel
theorem dX6_pick_71 : decode cX6_pick 71 = .ok (.iload 6, 2) := by decide +kernel
theorem dX6_pick_73 : decode cX6_pick 73 = .ok (.bipush 10, 2) := by decide +kernel
theorem dX6_pick_75 : decode cX6_pick 75 = .ok (.idiv, 1) := by decide +kernel
theorem dX6_pick_76 : decode cX6_pick 76 = .ok (.istore 8, 2) := by decide +kernel
theorem dX6_pick_78 : decode cX6_pick 78 = .ok (.aload_n 0, 1) := by decide +kernel
theorem dX6_pick_79 : decode cX6_pick 79 = .ok (.getfield 45, 3) := by decide +kernel
theorem dX6_pick_82 : decode cX6_pick 82 = .ok (.aload_n 0, 1) := by decide +kernel
theorem dX6_pick_83 : decode cX6_pick 83 = .ok (.getfield 24, 3) := by decide +kernel
theorem dX6_pick_86 : decode cX6_pick 86 = .ok (.getfield 87, 3) := by decide +kernel
theorem dX6_pick_89 : decode cX6_pick 89 = .ok (.iload 7, 2) := by decide +kernel
theorem dX6_pick_91 : decode cX6_pick 91 = .ok (.iload_n 3, 1) := by decide +kernel
theorem dX6_pick_92 : decode cX6_pick 92 = .ok (.iload 4, 2) := by decide +kernel
theorem dX6_pick_94 : decode cX6_pick 94 = .ok (.iload 5, 2) := by decide +kernel
theorem dX6_pick_96 : decode cX6_pick 96 = .ok (.invokevirtual 104, 3) := by decide +kernel
theorem dX6_pick_99 : decode cX6_pick 99 = .ok (.istore 9, 2) := by decide +kernel
theorem dX6_pick_101 : decode cX6_pick 101 = .ok (.aload_n 0, 1) := by decide +kernel
theorem dX6_pick_102 : decode cX6_pick 102 = .ok (.getfield 45, 3) := by decide +kernel
theorem dX6_pick_105 : decode cX6_pick 105 = .ok (.iload 8, 2) := by decide +kernel
theorem dX6_pick_107 : decode cX6_pick 107 = .ok (.invokevirtual 108, 3) := by decide +kernel
theorem dX6_pick_110 : decode cX6_pick 110 = .ok (.astore 10, 2) := by decide +kernel
theorem dX6_pick_112 : decode cX6_pick 112 = .ok (.new 11, 3) := by decide +kernel
theorem dX6_pick_115 : decode cX6_pick 115 = .ok (.dup, 1) := by decide +kernel
theorem dX6_pick_116 : decode cX6_pick 116 = .ok (.iload 7, 2) := by decide +kernel
theorem dX6_pick_118 : decode cX6_pick 118 = .ok (.iload_n 3, 1) := by decide +kernel
theorem dX6_pick_119 : decode cX6_pick 119 = .ok (.iload 4, 2) := by decide +kernel
theorem dX6_pick_121 : decode cX6_pick 121 = .ok (.iload 5, 2) := by decide +kernel
theorem dX6_pick_123 : decode cX6_pick 123 = .ok (.iload 8, 2) := by decide +kernel
theorem dX6_pick_125 : decode cX6_pick 125 = .ok (.aload_n 0, 1) := by decide +kernel
theorem dX6_pick_126 : decode cX6_pick 126 = .ok (.getfield 45, 3) := by decide +kernel
theorem dX6_pick_129 : decode cX6_pick 129 = .ok (.getfield 112, 3) := by decide +kernel
theorem dX6_pick_132 : decode cX6_pick 132 = .ok (.aload 10, 2) := by decide +kernel
theorem dX6_pick_134 : decode cX6_pick 134 = .ok (.invokespecial 13, 3) := by decide +kernel
theorem dX6_pick_137 : decode cX6_pick 137 = .ok (.astore 11, 2) := by decide +kernel
theorem dX6_pick_139 : decode cX6_pick 139 = .ok (.aload_n 0, 1) := by decide +kernel
theorem dX6_pick_140 : decode cX6_pick 140 = .ok (.getfield 24, 3) := by decide +kernel
theorem dX6_pick_143 : decode cX6_pick 143 = .ok (.new 9, 3) := by decide +kernel
theorem dX6_pick_146 : decode cX6_pick 146 = .ok (.dup, 1) := by decide +kernel
theorem dX6_pick_147 : decode cX6_pick 147 = .ok (.aload 11, 2) := by decide +kernel
theorem dX6_pick_149 : decode cX6_pick 149 = .ok (.iload 6, 2) := by decide +kernel
theorem dX6_pick_151 : decode cX6_pick 151 = .ok (.bipush 10, 2) := by decide +kernel
theorem dX6_pick_153 : decode cX6_pick 153 = .ok (.irem, 1) := by decide +kernel
theorem dX6_pick_154 : decode cX6_pick 154 = .ok (.iconst 1, 1) := by decide +kernel
theorem dX6_pick_155 : decode cX6_pick 155 = .ok (.invokespecial 16, 3) := by decide +kernel
theorem dX6_pick_158 : decode cX6_pick 158 = .ok (.invokevirtual 115, 3) := by decide +kernel
theorem dX6_pick_161 : decode cX6_pick 161 = .ok (.iload 9, 2) := by decide +kernel
theorem dX6_pick_163 : decode cX6_pick 163 = .ok (.ireturn, 1) := by decide +kernel
theorem dX6_toggle_0 : decode cX6_toggle 0 = .ok (.aload_n 0, 1) := by decide +kernel
theorem dX6_toggle_1 : decode cX6_toggle 1 = .ok (.iload_n 1, 1) := by decide +kernel
theorem dX6_toggle_2 : decode cX6_toggle 2 = .ok (.invokevirtual 118, 3) := by decide +kernel
theorem dX6_toggle_5 : decode cX6_toggle 5 = .ok (.aload_n 0, 1) := by decide +kernel
theorem dX6_toggle_6 : decode cX6_toggle 6 = .ok (.getfield 31, 3) := by decide +kernel
theorem dX6_toggle_9 : decode cX6_toggle 9 = .ok (.aload_n 0, 1) := by decide +kernel
theorem dX6_toggle_10 : decode cX6_toggle 10 = .ok (.getfield 24, 3) := by decide +kernel
theorem dX6_toggle_13 : decode cX6_toggle 13 = .ok (.invokevirtual 64, 3) := by decide +kernel
theorem dX6_toggle_16 : decode cX6_toggle 16 = .ok (.aload_n 0, 1) := by decide +kernel
theorem dX6_toggle_17 : decode cX6_toggle 17 = .ok (.getfield 24, 3) := by decide +kernel
theorem dX6_toggle_20 : decode cX6_toggle 20 = .ok (.getfield 122, 3) := by decide +kernel
theorem dX6_toggle_23 : decode cX6_toggle 23 = .ok (.iload_n 1, 1) := by decide +kernel
theorem dX6_toggle_24 : decode cX6_toggle 24 = .ok (.aaload, 1) := by decide +kernel
theorem dX6_toggle_25 : decode cX6_toggle 25 = .ok (.astore_n 2, 1) := by decide +kernel
theorem dX6_toggle_26 : decode cX6_toggle 26 = .ok (.aload_n 0, 1) := by decide +kernel
theorem dX6_toggle_27 : decode cX6_toggle 27 = .ok (.getfield 24, 3) := by decide +kernel
theorem dX6_toggle_30 : decode cX6_toggle 30 = .ok (.getfield 122, 3) := by decide +kernel
theorem dX6_toggle_33 : decode cX6_toggle 33 = .ok (.iload_n 1, 1) := by decide +kernel
theorem dX6_toggle_34 : decode cX6_toggle 34 = .ok (.new 9, 3) := by decide +kernel
theorem dX6_toggle_37 : decode cX6_toggle 37 = .ok (.dup, 1) := by decide +kernel
theorem dX6_toggle_38 : decode cX6_toggle 38 = .ok (.aload_n 2, 1) := by decide +kernel
theorem dX6_toggle_39 : decode cX6_toggle 39 = .ok (.getfield 126, 3) := by decide +kernel
theorem dX6_toggle_42 : decode cX6_toggle 42 = .ok (.aload_n 2, 1) := by decide +kernel
theorem dX6_toggle_43 : decode cX6_toggle 43 = .ok (.getfield 130, 3) := by decide +kernel
theorem dX6_toggle_46 : decode cX6_toggle 46 = .ok (.aload_n 2, 1) := by decide +kernel
theorem dX6_toggle_47 : decode cX6_toggle 47 = .ok (.getfield 133, 3) := by decide +kernel
theorem dX6_toggle_50 : decode cX6_toggle 50 = .ok (.ifCond .ne 7, 3) := by decide +kernel
theorem dX6_toggle_53 : decode cX6_toggle 53 = .ok (.iconst 1, 1) := by decide +kernel
theorem dX6_toggle_54 : decode cX6_toggle 54 = .ok (.goto 4, 3) := by decide +kernel
theorem dX6_toggle_57 : decode cX6_toggle 57 = .ok (.iconst 0, 1) := by decide +kernel
theorem dX6_toggle_58 : decode cX6_toggle 58 = .ok (.invokespecial 16, 3) := by decide +kernel
theorem dX6_toggle_61 : decode cX6_toggle 61 = .ok (.aastore, 1) := by decide +kernel
theorem dX6_toggle_62 : decode cX6_toggle 62 = .ok (.aload_n 2, 1) := by decide +kernel
theorem dX6_toggle_63 : decode cX6_toggle 63 = .ok (.getfield 133, 3) := by decide +kernel
theorem dX6_toggle_66 : decode cX6_toggle 66 = .ok (.ifCond .eq 7, 3) := by decide +kernel
theorem dX6_toggle_69 : decode cX6_toggle 69 = .ok (.iconst 0, 1) := by decide +kernel
theorem dX6_toggle_70 : decode cX6_toggle 70 = .ok (.goto 4, 3) := by decide +kernel
theorem dX6_toggle_73 : decode cX6_toggle 73 = .ok (.iconst 1, 1) := by decide +kernel
theorem dX6_toggle_74 : decode cX6_toggle 74 = .ok (.ireturn, 1) := by decide +kernel
theorem dX6_setKind_0 : decode cX6_setKind 0 = .ok (.aload_n 0, 1) := by decide +kernel
theorem dX6_setKind_1 : decode cX6_setKind 1 = .ok (.iload_n 1, 1) := by decide +kernel
theorem dX6_setKind_2 : decode cX6_setKind 2 = .ok (.invokevirtual 118, 3) := by decide +kernel
theorem dX6_setKind_5 : decode cX6_setKind 5 = .ok (.iload_n 2, 1) := by decide +kernel
theorem dX6_setKind_6 : decode cX6_setKind 6 = .ok (.iconst 0, 1) := by decide +kernel
theorem dX6_setKind_7 : decode cX6_setKind 7 = .ok (.iconst 3, 1) := by decide +kernel
theorem dX6_setKind_8 : decode cX6_setKind 8 = .ok (.invokestatic 60, 3) := by decide +kernel
theorem dX6_setKind_11 : decode cX6_setKind 11 = .ok (.aload_n 0, 1) := by decide +kernel
theorem dX6_setKind_12 : decode cX6_setKind 12 = .ok (.getfield 31, 3) := by decide +kernel
theorem dX6_setKind_15 : decode cX6_setKind 15 = .ok (.aload_n 0, 1) := by decide +kernel
theorem dX6_setKind_16 : decode cX6_setKind 16 = .ok (.getfield 24, 3) := by decide +kernel
theorem dX6_setKind_19 : decode cX6_setKind 19 = .ok (.invokevirtual 64, 3) := by decide +kernel
theorem dX6_setKind_22 : decode cX6_setKind 22 = .ok (.aload_n 0, 1) := by decide +kernel
theorem dX6_setKind_23 : decode cX6_setKind 23 = .ok (.getfield 24, 3) := by decide +kernel
theorem dX6_setKind_26 : decode cX6_setKind 26 = .ok (.getfield 122, 3) := by decide +kernel
theorem dX6_setKind_29 : decode cX6_setKind 29 = .ok (.iload_n 1, 1) := by decide +kernel
theorem dX6_setKind_30 : decode cX6_setKind 30 = .ok (.aaload, 1) := by decide +kernel
theorem dX6_setKind_31 : decode cX6_setKind 31 = .ok (.astore_n 3, 1) := by decide +kernel
theorem dX6_setKind_32 : decode cX6_setKind 32 = .ok (.aload_n 0, 1) := by decide +kernel
theorem dX6_setKind_33 : decode cX6_setKind 33 = .ok (.getfield 24, 3) := by decide +kernel
theorem dX6_setKind_36 : decode cX6_setKind 36 = .ok (.getfield 122, 3) := by decide +kernel
theorem dX6_setKind_39 : decode cX6_setKind 39 = .ok (.iload_n 1, 1) := by decide +kernel
theorem dX6_setKind_40 : decode cX6_setKind 40 = .ok (.new 9, 3) := by decide +kernel
theorem dX6_setKind_43 : decode cX6_setKind 43 = .ok (.dup, 1) := by decide +kernel
theorem dX6_setKind_44 : decode cX6_setKind 44 = .ok (.aload_n 3, 1) := by decide +kernel
theorem dX6_setKind_45 : decode cX6_setKind 45 = .ok (.getfield 126, 3) := by decide +kernel
theorem dX6_setKind_48 : decode cX6_setKind 48 = .ok (.iload_n 2, 1) := by decide +kernel
theorem dX6_setKind_49 : decode cX6_setKind 49 = .ok (.aload_n 3, 1) := by decide +kernel
theorem dX6_setKind_50 : decode cX6_setKind 50 = .ok (.getfield 133, 3) := by decide +kernel
theorem dX6_setKind_53 : decode cX6_setKind 53 = .ok (.invokespecial 16, 3) := by decide +kernel
theorem dX6_setKind_56 : decode cX6_setKind 56 = .ok (.aastore, 1) := by decide +kernel
theorem dX6_setKind_57 : decode cX6_setKind 57 = .ok (.aload_n 3, 1) := by decide +kernel
theorem dX6_setKind_58 : decode cX6_setKind 58 = .ok (.getfield 130, 3) := by decide +kernel
theorem dX6_setKind_61 : decode cX6_setKind 61 = .ok (.ireturn, 1) := by decide +kernel
theorem dX6_reorder_0 : decode cX6_reorder 0 = .ok (.aload_n 0, 1) := by decide +kernel
theorem dX6_reorder_1 : decode cX6_reorder 1 = .ok (.iload_n 1, 1) := by decide +kernel
theorem dX6_reorder_2 : decode cX6_reorder 2 = .ok (.invokevirtual 118, 3) := by decide +kernel
theorem dX6_reorder_5 : decode cX6_reorder 5 = .ok (.aload_n 0, 1) := by decide +kernel
theorem dX6_reorder_6 : decode cX6_reorder 6 = .ok (.iload_n 2, 1) := by decide +kernel
theorem dX6_reorder_7 : decode cX6_reorder 7 = .ok (.invokevirtual 118, 3) := by decide +kernel
theorem dX6_reorder_10 : decode cX6_reorder 10 = .ok (.aload_n 0, 1) := by decide +kernel
theorem dX6_reorder_11 : decode cX6_reorder 11 = .ok (.getfield 31, 3) := by decide +kernel
theorem dX6_reorder_14 : decode cX6_reorder 14 = .ok (.aload_n 0, 1) := by decide +kernel
theorem dX6_reorder_15 : decode cX6_reorder 15 = .ok (.getfield 24, 3) := by decide +kernel
theorem dX6_reorder_18 : decode cX6_reorder 18 = .ok (.invokevirtual 64, 3) := by decide +kernel
theorem dX6_reorder_21 : decode cX6_reorder 21 = .ok (.aload_n 0, 1) := by decide +kernel
theorem dX6_reorder_22 : decode cX6_reorder 22 = .ok (.getfield 24, 3) := by decide +kernel
theorem dX6_reorder_25 : decode cX6_reorder 25 = .ok (.aload_n 0, 1) := by decide +kernel
theorem dX6_reorder_26 : decode cX6_reorder 26 = .ok (.getfield 53, 3) := by decide +kernel
theorem dX6_reorder_29 : decode cX6_reorder 29 = .ok (.invokevirtual 83, 3) := by decide +kernel
theorem dX6_reorder_32 : decode cX6_reorder 32 = .ok (.aload_n 0, 1) := by decide +kernel
theorem dX6_reorder_33 : decode cX6_reorder 33 = .ok (.getfield 24, 3) := by decide +kernel
theorem dX6_reorder_36 : decode cX6_reorder 36 = .ok (.iload_n 1, 1) := by decide +kernel
theorem dX6_reorder_37 : decode cX6_reorder 37 = .ok (.iload_n 2, 1) := by decide +kernel
theorem dX6_reorder_38 : decode cX6_reorder 38 = .ok (.invokevirtual 137, 3) := by decide +kernel
theorem dX6_reorder_41 : decode cX6_reorder 41 = .ok (.aload_n 0, 1) := by decide +kernel
theorem dX6_reorder_42 : decode cX6_reorder 42 = .ok (.getfield 24, 3) := by decide +kernel
theorem dX6_reorder_45 : decode cX6_reorder 45 = .ok (.aload_n 0, 1) := by decide +kernel
theorem dX6_reorder_46 : decode cX6_reorder 46 = .ok (.getfield 49, 3) := by decide +kernel
theorem dX6_reorder_49 : decode cX6_reorder 49 = .ok (.invokevirtual 83, 3) := by decide +kernel
theorem dX6_reorder_52 : decode cX6_reorder 52 = .ok (.aload_n 0, 1) := by decide +kernel
theorem dX6_reorder_53 : decode cX6_reorder 53 = .ok (.getfield 53, 3) := by decide +kernel
theorem dX6_reorder_56 : decode cX6_reorder 56 = .ok (.aload_n 0, 1) := by decide +kernel
theorem dX6_reorder_57 : decode cX6_reorder 57 = .ok (.getfield 49, 3) := by decide +kernel
theorem dX6_reorder_60 : decode cX6_reorder 60 = .ok (.invokestatic 140, 3) := by decide +kernel
theorem dX6_reorder_63 : decode cX6_reorder 63 = .ok (.ireturn, 1) := by decide +kernel
theorem dX6_clean_0 : decode cX6_clean 0 = .ok (.aload_n 0, 1) := by decide +kernel
theorem dX6_clean_1 : decode cX6_clean 1 = .ok (.getfield 31, 3) := by decide +kernel
theorem dX6_clean_4 : decode cX6_clean 4 = .ok (.aload_n 0, 1) := by decide +kernel
theorem dX6_clean_5 : decode cX6_clean 5 = .ok (.getfield 24, 3) := by decide +kernel
theorem dX6_clean_8 : decode cX6_clean 8 = .ok (.invokevirtual 64, 3) := by decide +kernel
theorem dX6_clean_11 : decode cX6_clean 11 = .ok (.aload_n 0, 1) := by decide +kernel
theorem dX6_clean_12 : decode cX6_clean 12 = .ok (.getfield 24, 3) := by decide +kernel
theorem dX6_clean_15 : decode cX6_clean 15 = .ok (.invokevirtual 144, 3) := by decide +kernel
theorem dX6_clean_18 : decode cX6_clean 18 = .ok (.ireturn, 1) := by decide +kernel
theorem dX6_append_0 : decode cX6_append 0 = .ok (.iload_n 1, 1) := by decide +kernel
theorem dX6_append_1 : decode cX6_append 1 = .ok (.bipush 33, 2) := by decide +kernel
theorem dX6_append_3 : decode cX6_append 3 = .ok (.bipush 126, 2) := by decide +kernel
theorem dX6_append_5 : decode cX6_append 5 = .ok (.invokestatic 60, 3) := by decide +kernel
theorem dX6_append_8 : decode cX6_append 8 = .ok (.aload_n 0, 1) := by decide +kernel
theorem dX6_append_9 : decode cX6_append 9 = .ok (.getfield 38, 3) := by decide +kernel
theorem dX6_append_12 : decode cX6_append 12 = .ok (.getfield 148, 3) := by decide +kernel
theorem dX6_append_15 : decode cX6_append 15 = .ok (.bipush 60, 2) := by decide +kernel
theorem dX6_append_17 : decode cX6_append 17 = .ok (.if_icmp .lt 13, 3) := by decide +kernel
theorem dX6_append_20 : decode cX6_append 20 = .ok (.new 97, 3) := by decide +kernel
theorem dX6_append_23 : decode cX6_append 23 = .ok (.dup, 1) := by decide +kernel
theorem dX6_append_24 : decode cX6_append 24 = .ok (.ldc 151, 2) := by decide +kernel
theorem dX6_append_26 : decode cX6_append 26 = .ok (.invokespecial 101, 3) := by decide +kernel
theorem dX6_append_29 : decode cX6_append 29 = .ok (.athrow, 1) := by decide +kernel
theorem dX6_append_30 : decode cX6_append 30 = .ok (.aload_n 0, 1) := by decide +kernel
theorem dX6_append_31 : decode cX6_append 31 = .ok (.getfield 38, 3) := by decide +kernel
theorem dX6_append_34 : decode cX6_append 34 = .ok (.iload_n 1, 1) := by decide +kernel
theorem dX6_append_35 : decode cX6_append 35 = .ok (.invokevirtual 153, 3) := by decide +kernel
theorem dX6_append_38 : decode cX6_append 38 = .ok (.aload_n 0, 1) := by decide +kernel
theorem dX6_append_39 : decode cX6_append 39 = .ok (.getfield 38, 3) := by decide +kernel
theorem dX6_append_42 : decode cX6_append 42 = .ok (.getfield 148, 3) := by decide +kernel
theorem dX6_append_45 : decode cX6_append 45 = .ok (.ireturn, 1) := by decide +kernel
theorem dX6_clearBuffer_0 : decode cX6_clearBuffer 0 = .ok (.aload_n 0, 1) := by decide +kernel
theorem dX6_clearBuffer_1 : decode cX6_clearBuffer 1 = .ok (.getfield 38, 3) := by decide +kernel
theorem dX6_clearBuffer_4 : decode cX6_clearBuffer 4 = .ok (.getfield 148, 3) := by decide +kernel
theorem dX6_clearBuffer_7 : decode cX6_clearBuffer 7 = .ok (.istore_n 1, 1) := by decide +kernel
theorem dX6_clearBuffer_8 : decode cX6_clearBuffer 8 = .ok (.aload_n 0, 1) := by decide +kernel
theorem dX6_clearBuffer_9 : decode cX6_clearBuffer 9 = .ok (.getfield 38, 3) := by decide +kernel
theorem dX6_clearBuffer_12 : decode cX6_clearBuffer 12 = .ok (.iconst 0, 1) := by decide +kernel
theorem dX6_clearBuffer_13 : decode cX6_clearBuffer 13 = .ok (.putfield 148, 3) := by decide +kernel
theorem dX6_clearBuffer_16 : decode cX6_clearBuffer 16 = .ok (.iload_n 1, 1) := by decide +kernel
theorem dX6_clearBuffer_17 : decode cX6_clearBuffer 17 = .ok (.ireturn, 1) := by decide +kernel
theorem dX6_firstError_0 : decode cX6_firstError 0 = .ok (.aload_n 0, 1) := by decide +kernel
theorem dX6_firstError_1 : decode cX6_firstError 1 = .ok (.getfield 38, 3) := by decide +kernel
theorem dX6_firstError_4 : decode cX6_firstError 4 = .ok (.invokevirtual 156, 3) := by decide +kernel
theorem dX6_firstError_7 : decode cX6_firstError 7 = .ok (.ireturn, 1) := by decide +kernel
theorem dX6_load_0 : decode cX6_load 0 = .ok (.aload_n 0, 1) := by decide +kernel
theorem dX6_load_1 : decode cX6_load 1 = .ok (.getfield 38, 3) := by decide +kernel
theorem dX6_load_4 : decode cX6_load 4 = .ok (.invokevirtual 159, 3) := by decide +kernel
theorem dX6_load_7 : decode cX6_load 7 = .ok (.ifCond .ne 13, 3) := by decide +kernel
theorem dX6_load_10 : decode cX6_load 10 = .ok (.new 163, 3) := by decide +kernel
theorem dX6_load_13 : decode cX6_load 13 = .ok (.dup, 1) := by decide +kernel
theorem dX6_load_14 : decode cX6_load 14 = .ok (.ldc 165, 2) := by decide +kernel
theorem dX6_load_16 : decode cX6_load 16 = .ok (.invokespecial 167, 3) := by decide +kernel
theorem dX6_load_19 : decode cX6_load 19 = .ok (.athrow, 1) := by decide +kernel
theorem dX6_load_20 : decode cX6_load 20 = .ok (.aload_n 0, 1) := by decide +kernel
theorem dX6_load_21 : decode cX6_load 21 = .ok (.getfield 31, 3) := by decide +kernel
theorem dX6_load_24 : decode cX6_load 24 = .ok (.aload_n 0, 1) := by decide +kernel
theorem dX6_load_25 : decode cX6_load 25 = .ok (.getfield 24, 3) := by decide +kernel
theorem dX6_load_28 : decode cX6_load 28 = .ok (.invokevirtual 64, 3) := by decide +kernel
theorem dX6_load_31 : decode cX6_load 31 = .ok (.aload_n 0, 1) := by decide +kernel
theorem dX6_load_32 : decode cX6_load 32 = .ok (.getfield 24, 3) := by decide +kernel
theorem dX6_load_35 : decode cX6_load 35 = .ok (.getfield 87, 3) := by decide +kernel
theorem dX6_load_38 : decode cX6_load 38 = .ok (.iconst 0, 1) := by decide +kernel
theorem dX6_load_39 : decode cX6_load 39 = .ok (.aload_n 0, 1) := by decide +kernel
theorem dX6_load_40 : decode cX6_load 40 = .ok (.getfield 53, 3) := by decide +kernel
theorem dX6_load_43 : decode cX6_load 43 = .ok (.iconst 0, 1) := by decide +kernel
theorem dX6_load_44 : decode cX6_load 44 = .ok (.sipush 160, 3) := by decide +kernel
theorem dX6_load_47 : decode cX6_load 47 = .ok (.invokestatic 168, 3) := by decide +kernel
theorem dX6_load_50 : decode cX6_load 50 = .ok (.aload_n 0, 1) := by decide +kernel
theorem dX6_load_51 : decode cX6_load 51 = .ok (.getfield 38, 3) := by decide +kernel
theorem dX6_load_54 : decode cX6_load 54 = .ok (.aload_n 0, 1) := by decide +kernel
theorem dX6_load_55 : decode cX6_load 55 = .ok (.getfield 24, 3) := by decide +kernel
theorem dX6_load_58 : decode cX6_load 58 = .ok (.getfield 87, 3) := by decide +kernel
theorem dX6_load_61 : decode cX6_load 61 = .ok (.invokevirtual 174, 3) := by decide +kernel
theorem dX6_load_64 : decode cX6_load 64 = .ok (.aload_n 0, 1) := by decide +kernel
theorem dX6_load_65 : decode cX6_load 65 = .ok (.getfield 38, 3) := by decide +kernel
theorem dX6_load_68 : decode cX6_load 68 = .ok (.iconst 0, 1) := by decide +kernel
theorem dX6_load_69 : decode cX6_load 69 = .ok (.putfield 148, 3) := by decide +kernel
theorem dX6_load_72 : decode cX6_load 72 = .ok (.aload_n 0, 1) := by decide +kernel
theorem dX6_load_73 : decode cX6_load 73 = .ok (.getfield 53, 3) := by decide +kernel
theorem dX6_load_76 : decode cX6_load 76 = .ok (.aload_n 0, 1) := by decide +kernel
theorem dX6_load_77 : decode cX6_load 77 = .ok (.getfield 24, 3) := by decide +kernel
theorem dX6_load_80 : decode cX6_load 80 = .ok (.getfield 87, 3) := by decide +kernel
theorem dX6_load_83 : decode cX6_load 83 = .ok (.invokestatic 140, 3) := by decide +kernel
theorem dX6_load_86 : decode cX6_load 86 = .ok (.ireturn, 1) := by decide +kernel
theorem dX6_undo_0 : decode cX6_undo 0 = .ok (.aload_n 0, 1) := by decide +kernel
theorem dX6_undo_1 : decode cX6_undo 1 = .ok (.getfield 31, 3) := by decide +kernel
theorem dX6_undo_4 : decode cX6_undo 4 = .ok (.getfield 177, 3) := by decide +kernel
theorem dX6_undo_7 : decode cX6_undo 7 = .ok (.ifCond .gt 13, 3) := by decide +kernel
theorem dX6_undo_10 : decode cX6_undo 10 = .ok (.new 97, 3) := by decide +kernel
theorem dX6_undo_13 : decode cX6_undo 13 = .ok (.dup, 1) := by decide +kernel
theorem dX6_undo_14 : decode cX6_undo 14 = .ok (.ldc 180, 2) := by decide +kernel
theorem dX6_undo_16 : decode cX6_undo 16 = .ok (.invokespecial 101, 3) := by decide +kernel
theorem dX6_undo_19 : decode cX6_undo 19 = .ok (.athrow, 1) := by decide +kernel
theorem dX6_undo_20 : decode cX6_undo 20 = .ok (.aload_n 0, 1) := by decide +kernel
theorem dX6_undo_21 : decode cX6_undo 21 = .ok (.getfield 31, 3) := by decide +kernel
theorem dX6_undo_24 : decode cX6_undo 24 = .ok (.aload_n 0, 1) := by decide +kernel
theorem dX6_undo_25 : decode cX6_undo 25 = .ok (.getfield 24, 3) := by decide +kernel
theorem dX6_undo_28 : decode cX6_undo 28 = .ok (.invokevirtual 182, 3) := by decide +kernel
theorem dX6_undo_31 : decode cX6_undo 31 = .ok (.aload_n 0, 1) := by decide +kernel
theorem dX6_undo_32 : decode cX6_undo 32 = .ok (.getfield 31, 3) := by decide +kernel
theorem dX6_undo_35 : decode cX6_undo 35 = .ok (.getfield 177, 3) := by decide +kernel
theorem dX6_undo_38 : decode cX6_undo 38 = .ok (.ireturn, 1) := by decide +kernel
theorem dX6_cell_0 : decode cX6_cell 0 = .ok (.iload_n 1, 1) := by decide +kernel
theorem dX6_cell_1 : decode cX6_cell 1 = .ok (.iload_n 2, 1) := by decide +kernel
theorem dX6_cell_2 : decode cX6_cell 2 = .ok (.invokestatic 56, 3) := by decide +kernel
theorem dX6_cell_5 : decode cX6_cell 5 = .ok (.iload_n 3, 1) := by decide +kernel
theorem dX6_cell_6 : decode cX6_cell 6 = .ok (.iconst 0, 1) := by decide +kernel
theorem dX6_cell_7 : decode cX6_cell 7 = .ok (.iconst 2, 1) := by decide +kernel
theorem dX6_cell_8 : decode cX6_cell 8 = .ok (.invokestatic 60, 3) := by decide +kernel
theorem dX6_cell_11 : decode cX6_cell 11 = .ok (.aload_n 0, 1) := by decide +kernel
theorem dX6_cell_12 : decode cX6_cell 12 = .ok (.getfield 24, 3) := by decide +kernel
theorem dX6_cell_15 : decode cX6_cell 15 = .ok (.iload_n 1, 1) := by decide +kernel
theorem dX6_cell_16 : decode cX6_cell 16 = .ok (.iload_n 2, 1) := by decide +kernel
theorem dX6_cell_17 : decode cX6_cell 17 = .ok (.invokestatic 77, 3) := by decide +kernel
theorem dX6_cell_20 : decode cX6_cell 20 = .ok (.iload_n 3, 1) := by decide +kernel
theorem dX6_cell_21 : decode cX6_cell 21 = .ok (.invokevirtual 185, 3) := by decide +kernel
theorem dX6_cell_24 : decode cX6_cell 24 = .ok (.ireturn, 1) := by decide +kernel
theorem dX6_picked_0 : decode cX6_picked 0 = .ok (.aload_n 0, 1) := by decide +kernel
theorem dX6_picked_1 : decode cX6_picked 1 = .ok (.iload_n 1, 1) := by decide +kernel
theorem dX6_picked_2 : decode cX6_picked 2 = .ok (.invokevirtual 118, 3) := by decide +kernel
theorem dX6_picked_5 : decode cX6_picked 5 = .ok (.iload_n 2, 1) := by decide +kernel
theorem dX6_picked_6 : decode cX6_picked 6 = .ok (.iconst 0, 1) := by decide +kernel
theorem dX6_picked_7 : decode cX6_picked 7 = .ok (.bipush 11, 2) := by decide +kernel
theorem dX6_picked_9 : decode cX6_picked 9 = .ok (.invokestatic 60, 3) := by decide +kernel
theorem dX6_picked_12 : decode cX6_picked 12 = .ok (.aload_n 0, 1) := by decide +kernel
theorem dX6_picked_13 : decode cX6_picked 13 = .ok (.getfield 24, 3) := by decide +kernel
theorem dX6_picked_16 : decode cX6_picked 16 = .ok (.getfield 122, 3) := by decide +kernel
theorem dX6_picked_19 : decode cX6_picked 19 = .ok (.iload_n 1, 1) := by decide +kernel
theorem dX6_picked_20 : decode cX6_picked 20 = .ok (.aaload, 1) := by decide +kernel
theorem dX6_picked_21 : decode cX6_picked 21 = .ok (.iload_n 2, 1) := by decide +kernel
theorem dX6_picked_22 : decode cX6_picked 22 = .ok (.invokevirtual 188, 3) := by decide +kernel
theorem dX6_picked_25 : decode cX6_picked 25 = .ok (.ireturn, 1) := by decide +kernel
theorem dX6_level_0 : decode cX6_level 0 = .ok (.aload_n 0, 1) := by decide +kernel
theorem dX6_level_1 : decode cX6_level 1 = .ok (.iload_n 1, 1) := by decide +kernel
theorem dX6_level_2 : decode cX6_level 2 = .ok (.invokevirtual 118, 3) := by decide +kernel
theorem dX6_level_5 : decode cX6_level 5 = .ok (.iload_n 2, 1) := by decide +kernel
theorem dX6_level_6 : decode cX6_level 6 = .ok (.iload_n 3, 1) := by decide +kernel
theorem dX6_level_7 : decode cX6_level 7 = .ok (.invokestatic 56, 3) := by decide +kernel
theorem dX6_level_10 : decode cX6_level 10 = .ok (.aload_n 0, 1) := by decide +kernel
theorem dX6_level_11 : decode cX6_level 11 = .ok (.getfield 24, 3) := by decide +kernel
theorem dX6_level_14 : decode cX6_level 14 = .ok (.getfield 122, 3) := by decide +kernel
theorem dX6_level_17 : decode cX6_level 17 = .ok (.iload_n 1, 1) := by decide +kernel
theorem dX6_level_18 : decode cX6_level 18 = .ok (.aaload, 1) := by decide +kernel
theorem dX6_level_19 : decode cX6_level 19 = .ok (.getfield 126, 3) := by decide +kernel
theorem dX6_level_22 : decode cX6_level 22 = .ok (.getfield 192, 3) := by decide +kernel
theorem dX6_level_25 : decode cX6_level 25 = .ok (.iload_n 2, 1) := by decide +kernel
theorem dX6_level_26 : decode cX6_level 26 = .ok (.iload_n 3, 1) := by decide +kernel
theorem dX6_level_27 : decode cX6_level 27 = .ok (.invokestatic 77, 3) := by decide +kernel
theorem dX6_level_30 : decode cX6_level 30 = .ok (.iaload, 1) := by decide +kernel
theorem dX6_level_31 : decode cX6_level 31 = .ok (.ireturn, 1) := by decide +kernel
theorem dX6_count_0 : decode cX6_count 0 = .ok (.iload_n 1, 1) := by decide +kernel
theorem dX6_count_1 : decode cX6_count 1 = .ok (.iconst 0, 1) := by decide +kernel
theorem dX6_count_2 : decode cX6_count 2 = .ok (.bipush 8, 2) := by decide +kernel
theorem dX6_count_4 : decode cX6_count 4 = .ok (.invokestatic 60, 3) := by decide +kernel
theorem dX6_count_7 : decode cX6_count 7 = .ok (.aload_n 0, 1) := by decide +kernel
theorem dX6_count_8 : decode cX6_count 8 = .ok (.iload_n 1, 1) := by decide +kernel
theorem dX6_count_9 : decode cX6_count 9 = .ok (.invokevirtual 195, 3) := by decide +kernel
theorem dX6_count_12 : decode cX6_count 12 = .ok (.ireturn, 1) := by decide +kernel
theorem dX6_areaOf_0 : decode cX6_areaOf 0 = .ok (.iload_n 1, 1) := by decide +kernel
theorem dX6_areaOf_1 : decode cX6_areaOf 1 = .ok (.iload_n 2, 1) := by decide +kernel
theorem dX6_areaOf_2 : decode cX6_areaOf 2 = .ok (.invokestatic 56, 3) := by decide +kernel
theorem dX6_areaOf_5 : decode cX6_areaOf 5 = .ok (.iload_n 3, 1) := by decide +kernel
theorem dX6_areaOf_6 : decode cX6_areaOf 6 = .ok (.iload 4, 2) := by decide +kernel
theorem dX6_areaOf_8 : decode cX6_areaOf 8 = .ok (.iload 5, 2) := by decide +kernel
theorem dX6_areaOf_10 : decode cX6_areaOf 10 = .ok (.invokestatic 90, 3) := by decide +kernel
theorem dX6_areaOf_13 : decode cX6_areaOf 13 = .ok (.aload_n 0, 1) := by decide +kernel
theorem dX6_areaOf_14 : decode cX6_areaOf 14 = .ok (.getfield 45, 3) := by decide +kernel
theorem dX6_areaOf_17 : decode cX6_areaOf 17 = .ok (.aload_n 0, 1) := by decide +kernel
theorem dX6_areaOf_18 : decode cX6_areaOf 18 = .ok (.getfield 24, 3) := by decide +kernel
theorem dX6_areaOf_21 : decode cX6_areaOf 21 = .ok (.getfield 87, 3) := by decide +kernel
theorem dX6_areaOf_24 : decode cX6_areaOf 24 = .ok (.iload_n 1, 1) := by decide +kernel
theorem dX6_areaOf_25 : decode cX6_areaOf 25 = .ok (.iload_n 2, 1) := by decide +kernel
theorem dX6_areaOf_26 : decode cX6_areaOf 26 = .ok (.invokestatic 77, 3) := by decide +kernel
theorem dX6_areaOf_29 : decode cX6_areaOf 29 = .ok (.iload_n 3, 1) := by decide +kernel
theorem dX6_areaOf_30 : decode cX6_areaOf 30 = .ok (.iload 4, 2) := by decide +kernel
theorem dX6_areaOf_32 : decode cX6_areaOf 32 = .ok (.iload 5, 2) := by decide +kernel
theorem dX6_areaOf_34 : decode cX6_areaOf 34 = .ok (.invokevirtual 104, 3) := by decide +kernel
theorem dX6_areaOf_37 : decode cX6_areaOf 37 = .ok (.ireturn, 1) := by decide +kernel
theorem dX6_leastLikeness_0 : decode cX6_leastLikeness 0 = .ok (.iload_n 1, 1) := by decide +kernel
theorem dX6_leastLikeness_1 : decode cX6_leastLikeness 1 = .ok (.iload_n 2, 1) := by decide +kernel
theorem dX6_leastLikeness_2 : decode cX6_leastLikeness 2 = .ok (.invokestatic 56, 3) := by decide +kernel
theorem dX6_leastLikeness_5 : decode cX6_leastLikeness 5 = .ok (.iload_n 3, 1) := by decide +kernel
theorem dX6_leastLikeness_6 : decode cX6_leastLikeness 6 = .ok (.iload 4, 2) := by decide +kernel
theorem dX6_leastLikeness_8 : decode cX6_leastLikeness 8 = .ok (.invokestatic 56, 3) := by decide +kernel
theorem dX6_leastLikeness_11 : decode cX6_leastLikeness 11 = .ok (.iconst 0, 1) := by decide +kernel
theorem dX6_leastLikeness_12 : decode cX6_leastLikeness 12 = .ok (.iload 5, 2) := by decide +kernel
theorem dX6_leastLikeness_14 : decode cX6_leastLikeness 14 = .ok (.iload 6, 2) := by decide +kernel
theorem dX6_leastLikeness_16 : decode cX6_leastLikeness 16 = .ok (.invokestatic 90, 3) := by decide +kernel
theorem dX6_leastLikeness_19 : decode cX6_leastLikeness 19 = .ok (.aload_n 0, 1) := by decide +kernel
theorem dX6_leastLikeness_20 : decode cX6_leastLikeness 20 = .ok (.getfield 45, 3) := by decide +kernel
theorem dX6_leastLikeness_23 : decode cX6_leastLikeness 23 = .ok (.aload_n 0, 1) := by decide +kernel
theorem dX6_leastLikeness_24 : decode cX6_leastLikeness 24 = .ok (.getfield 24, 3) := by decide +kernel
theorem dX6_leastLikeness_27 : decode cX6_leastLikeness 27 = .ok (.getfield 87, 3) := by decide +kernel
theorem dX6_leastLikeness_30 : decode cX6_leastLikeness 30 = .ok (.iload_n 1, 1) := by decide +kernel
theorem dX6_leastLikeness_31 : decode cX6_leastLikeness 31 = .ok (.iload_n 2, 1) := by decide +kernel
theorem dX6_leastLikeness_32 : decode cX6_leastLikeness 32 = .ok (.invokestatic 77, 3) := by decide +kernel
theorem dX6_leastLikeness_35 : decode cX6_leastLikeness 35 = .ok (.iload_n 3, 1) := by decide +kernel
theorem dX6_leastLikeness_36 : decode cX6_leastLikeness 36 = .ok (.iload 4, 2) := by decide +kernel
theorem dX6_leastLikeness_38 : decode cX6_leastLikeness 38 = .ok (.invokestatic 77, 3) := by decide +kernel
theorem dX6_leastLikeness_41 : decode cX6_leastLikeness 41 = .ok (.iload 5, 2) := by decide +kernel
theorem dX6_leastLikeness_43 : decode cX6_leastLikeness 43 = .ok (.iload 6, 2) := by decide +kernel
theorem dX6_leastLikeness_45 : decode cX6_leastLikeness 45 = .ok (.invokevirtual 198, 3) := by decide +kernel
theorem dX6_leastLikeness_48 : decode cX6_leastLikeness 48 = .ok (.ireturn, 1) := by decide +kernel
theorem dX6_partingGap_0 : decode cX6_partingGap 0 = .ok (.iload_n 1, 1) := by decide +kernel
theorem dX6_partingGap_1 : decode cX6_partingGap 1 = .ok (.iload_n 2, 1) := by decide +kernel
theorem dX6_partingGap_2 : decode cX6_partingGap 2 = .ok (.invokestatic 56, 3) := by decide +kernel
theorem dX6_partingGap_5 : decode cX6_partingGap 5 = .ok (.iload_n 3, 1) := by decide +kernel
theorem dX6_partingGap_6 : decode cX6_partingGap 6 = .ok (.iload 4, 2) := by decide +kernel
theorem dX6_partingGap_8 : decode cX6_partingGap 8 = .ok (.invokestatic 56, 3) := by decide +kernel
theorem dX6_partingGap_11 : decode cX6_partingGap 11 = .ok (.iload 5, 2) := by decide +kernel
theorem dX6_partingGap_13 : decode cX6_partingGap 13 = .ok (.iconst 0, 1) := by decide +kernel
theorem dX6_partingGap_14 : decode cX6_partingGap 14 = .ok (.iconst 0, 1) := by decide +kernel
theorem dX6_partingGap_15 : decode cX6_partingGap 15 = .ok (.invokestatic 90, 3) := by decide +kernel
theorem dX6_partingGap_18 : decode cX6_partingGap 18 = .ok (.aload_n 0, 1) := by decide +kernel
theorem dX6_partingGap_19 : decode cX6_partingGap 19 = .ok (.getfield 45, 3) := by decide +kernel
theorem dX6_partingGap_22 : decode cX6_partingGap 22 = .ok (.aload_n 0, 1) := by decide +kernel
theorem dX6_partingGap_23 : decode cX6_partingGap 23 = .ok (.getfield 24, 3) := by decide +kernel
theorem dX6_partingGap_26 : decode cX6_partingGap 26 = .ok (.getfield 87, 3) := by decide +kernel
theorem dX6_partingGap_29 : decode cX6_partingGap 29 = .ok (.iload_n 1, 1) := by decide +kernel
theorem dX6_partingGap_30 : decode cX6_partingGap 30 = .ok (.iload_n 2, 1) := by decide +kernel
theorem dX6_partingGap_31 : decode cX6_partingGap 31 = .ok (.invokestatic 77, 3) := by decide +kernel
theorem dX6_partingGap_34 : decode cX6_partingGap 34 = .ok (.iload_n 3, 1) := by decide +kernel
theorem dX6_partingGap_35 : decode cX6_partingGap 35 = .ok (.iload 4, 2) := by decide +kernel
theorem dX6_partingGap_37 : decode cX6_partingGap 37 = .ok (.invokestatic 77, 3) := by decide +kernel
theorem dX6_partingGap_40 : decode cX6_partingGap 40 = .ok (.iload 5, 2) := by decide +kernel
theorem dX6_partingGap_42 : decode cX6_partingGap 42 = .ok (.invokevirtual 201, 3) := by decide +kernel
theorem dX6_partingGap_45 : decode cX6_partingGap 45 = .ok (.ireturn, 1) := by decide +kernel
theorem dX6_areas_0 : decode cX6_areas 0 = .ok (.iload_n 1, 1) := by decide +kernel
theorem dX6_areas_1 : decode cX6_areas 1 = .ok (.iconst 0, 1) := by decide +kernel
theorem dX6_areas_2 : decode cX6_areas 2 = .ok (.iconst 0, 1) := by decide +kernel
theorem dX6_areas_3 : decode cX6_areas 3 = .ok (.invokestatic 90, 3) := by decide +kernel
theorem dX6_areas_6 : decode cX6_areas 6 = .ok (.aload_n 0, 1) := by decide +kernel
theorem dX6_areas_7 : decode cX6_areas 7 = .ok (.getfield 45, 3) := by decide +kernel
theorem dX6_areas_10 : decode cX6_areas 10 = .ok (.aload_n 0, 1) := by decide +kernel
theorem dX6_areas_11 : decode cX6_areas 11 = .ok (.getfield 24, 3) := by decide +kernel
theorem dX6_areas_14 : decode cX6_areas 14 = .ok (.getfield 87, 3) := by decide +kernel
theorem dX6_areas_17 : decode cX6_areas 17 = .ok (.iload_n 1, 1) := by decide +kernel
theorem dX6_areas_18 : decode cX6_areas 18 = .ok (.invokevirtual 205, 3) := by decide +kernel
theorem dX6_areas_21 : decode cX6_areas 21 = .ok (.ireturn, 1) := by decide +kernel
theorem dX6_coverage_0 : decode cX6_coverage 0 = .ok (.aload_n 0, 1) := by decide +kernel
theorem dX6_coverage_1 : decode cX6_coverage 1 = .ok (.iconst 4, 1) := by decide +kernel
theorem dX6_coverage_2 : decode cX6_coverage 2 = .ok (.invokevirtual 195, 3) := by decide +kernel
theorem dX6_coverage_5 : decode cX6_coverage 5 = .ok (.i2d, 1) := by decide +kernel
theorem dX6_coverage_6 : decode cX6_coverage 6 = .ok (.ldc2_w 209, 3) := by decide +kernel
theorem dX6_coverage_9 : decode cX6_coverage 9 = .ok (.ddiv, 1) := by decide +kernel
theorem dX6_coverage_10 : decode cX6_coverage 10 = .ok (.dreturn, 1) := by decide +kernel
theorem dX6_digest_0 : decode cX6_digest 0 = .ok (.ldc2_w 211, 3) := by decide +kernel
theorem dX6_digest_3 : decode cX6_digest 3 = .ok (.lstore_n 1, 1) := by decide +kernel
theorem dX6_digest_4 : decode cX6_digest 4 = .ok (.iconst 0, 1) := by decide +kernel
theorem dX6_digest_5 : decode cX6_digest 5 = .ok (.istore_n 3, 1) := by decide +kernel
theorem dX6_digest_6 : decode cX6_digest 6 = .ok (.iload_n 3, 1) := by decide +kernel
theorem dX6_digest_7 : decode cX6_digest 7 = .ok (.bipush 8, 2) := by decide +kernel
theorem dX6_digest_9 : decode cX6_digest 9 = .ok (.if_icmp .gt 20, 3) := by decide +kernel
theorem dX6_digest_12 : decode cX6_digest 12 = .ok (.lload_n 1, 1) := by decide +kernel
theorem dX6_digest_13 : decode cX6_digest 13 = .ok (.aload_n 0, 1) := by decide +kernel
theorem dX6_digest_14 : decode cX6_digest 14 = .ok (.iload_n 3, 1) := by decide +kernel
theorem dX6_digest_15 : decode cX6_digest 15 = .ok (.invokevirtual 195, 3) := by decide +kernel
theorem dX6_digest_18 : decode cX6_digest 18 = .ok (.i2l, 1) := by decide +kernel
theorem dX6_digest_19 : decode cX6_digest 19 = .ok (.invokestatic 213, 3) := by decide +kernel
theorem dX6_digest_22 : decode cX6_digest 22 = .ok (.lstore_n 1, 1) := by decide +kernel
theorem dX6_digest_23 : decode cX6_digest 23 = .ok (.iinc 3 1, 3) := by decide +kernel
theorem dX6_digest_26 : decode cX6_digest 26 = .ok (.goto (-20), 3) := by decide +kernel
theorem dX6_digest_29 : decode cX6_digest 29 = .ok (.aload_n 0, 1) := by decide +kernel
theorem dX6_digest_30 : decode cX6_digest 30 = .ok (.lload_n 1, 1) := by decide +kernel
theorem dX6_digest_31 : decode cX6_digest 31 = .ok (.invokevirtual 217, 3) := by decide +kernel
theorem dX6_digest_34 : decode cX6_digest 34 = .ok (.lstore_n 1, 1) := by decide +kernel
theorem dX6_digest_35 : decode cX6_digest 35 = .ok (.aload_n 0, 1) := by decide +kernel
theorem dX6_digest_36 : decode cX6_digest 36 = .ok (.lload_n 1, 1) := by decide +kernel
theorem dX6_digest_37 : decode cX6_digest 37 = .ok (.invokevirtual 221, 3) := by decide +kernel
theorem dX6_digest_40 : decode cX6_digest 40 = .ok (.lstore_n 1, 1) := by decide +kernel
theorem dX6_digest_41 : decode cX6_digest 41 = .ok (.lload_n 1, 1) := by decide +kernel
theorem dX6_digest_42 : decode cX6_digest 42 = .ok (.aload_n 0, 1) := by decide +kernel
theorem dX6_digest_43 : decode cX6_digest 43 = .ok (.getfield 45, 3) := by decide +kernel
theorem dX6_digest_46 : decode cX6_digest 46 = .ok (.aload_n 0, 1) := by decide +kernel
theorem dX6_digest_47 : decode cX6_digest 47 = .ok (.getfield 24, 3) := by decide +kernel
theorem dX6_digest_50 : decode cX6_digest 50 = .ok (.getfield 87, 3) := by decide +kernel
theorem dX6_digest_53 : decode cX6_digest 53 = .ok (.iconst 0, 1) := by decide +kernel
theorem dX6_digest_54 : decode cX6_digest 54 = .ok (.invokevirtual 205, 3) := by decide +kernel
theorem dX6_digest_57 : decode cX6_digest 57 = .ok (.i2l, 1) := by decide +kernel
theorem dX6_digest_58 : decode cX6_digest 58 = .ok (.invokestatic 213, 3) := by decide +kernel
theorem dX6_digest_61 : decode cX6_digest 61 = .ok (.lstore_n 1, 1) := by decide +kernel
theorem dX6_digest_62 : decode cX6_digest 62 = .ok (.lload_n 1, 1) := by decide +kernel
theorem dX6_digest_63 : decode cX6_digest 63 = .ok (.aload_n 0, 1) := by decide +kernel
theorem dX6_digest_64 : decode cX6_digest 64 = .ok (.getfield 45, 3) := by decide +kernel
theorem dX6_digest_67 : decode cX6_digest 67 = .ok (.aload_n 0, 1) := by decide +kernel
theorem dX6_digest_68 : decode cX6_digest 68 = .ok (.getfield 24, 3) := by decide +kernel
theorem dX6_digest_71 : decode cX6_digest 71 = .ok (.getfield 87, 3) := by decide +kernel
theorem dX6_digest_74 : decode cX6_digest 74 = .ok (.bipush 10, 2) := by decide +kernel
theorem dX6_digest_76 : decode cX6_digest 76 = .ok (.invokevirtual 205, 3) := by decide +kernel
theorem dX6_digest_79 : decode cX6_digest 79 = .ok (.i2l, 1) := by decide +kernel
theorem dX6_digest_80 : decode cX6_digest 80 = .ok (.invokestatic 213, 3) := by decide +kernel
theorem dX6_digest_83 : decode cX6_digest 83 = .ok (.lstore_n 1, 1) := by decide +kernel
theorem dX6_digest_84 : decode cX6_digest 84 = .ok (.iconst 0, 1) := by decide +kernel
theorem dX6_digest_85 : decode cX6_digest 85 = .ok (.istore_n 3, 1) := by decide +kernel
theorem dX6_digest_86 : decode cX6_digest 86 = .ok (.iload_n 3, 1) := by decide +kernel
theorem dX6_digest_87 : decode cX6_digest 87 = .ok (.iconst 5, 1) := by decide +kernel
theorem dX6_digest_88 : decode cX6_digest 88 = .ok (.if_icmp .gt 34, 3) := by decide +kernel
theorem dX6_digest_91 : decode cX6_digest 91 = .ok (.lload_n 1, 1) := by decide +kernel
theorem dX6_digest_92 : decode cX6_digest 92 = .ok (.aload_n 0, 1) := by decide +kernel
theorem dX6_digest_93 : decode cX6_digest 93 = .ok (.getfield 45, 3) := by decide +kernel
theorem dX6_digest_96 : decode cX6_digest 96 = .ok (.aload_n 0, 1) := by decide +kernel
theorem dX6_digest_97 : decode cX6_digest 97 = .ok (.getfield 24, 3) := by decide +kernel
theorem dX6_digest_100 : decode cX6_digest 100 = .ok (.getfield 87, 3) := by decide +kernel
theorem dX6_digest_103 : decode cX6_digest 103 = .ok (.iconst 0, 1) := by decide +kernel
theorem dX6_digest_104 : decode cX6_digest 104 = .ok (.bipush 11, 2) := by decide +kernel
theorem dX6_digest_106 : decode cX6_digest 106 = .ok (.iconst 0, 1) := by decide +kernel
theorem dX6_digest_107 : decode cX6_digest 107 = .ok (.iload_n 3, 1) := by decide +kernel
theorem dX6_digest_108 : decode cX6_digest 108 = .ok (.invokevirtual 104, 3) := by decide +kernel
theorem dX6_digest_111 : decode cX6_digest 111 = .ok (.i2l, 1) := by decide +kernel
theorem dX6_digest_112 : decode cX6_digest 112 = .ok (.invokestatic 213, 3) := by decide +kernel
theorem dX6_digest_115 : decode cX6_digest 115 = .ok (.lstore_n 1, 1) := by decide +kernel
theorem dX6_digest_116 : decode cX6_digest 116 = .ok (.iinc 3 1, 3) := by decide +kernel
theorem dX6_digest_119 : decode cX6_digest 119 = .ok (.goto (-33), 3) := by decide +kernel
theorem dX6_digest_122 : decode cX6_digest 122 = .ok (.lload_n 1, 1) := by decide +kernel
theorem dX6_digest_123 : decode cX6_digest 123 = .ok (.aload_n 0, 1) := by decide +kernel
theorem dX6_digest_124 : decode cX6_digest 124 = .ok (.invokevirtual 224, 3) := by decide +kernel
theorem dX6_digest_127 : decode cX6_digest 127 = .ok (.invokestatic 228, 3) := by decide +kernel
theorem dX6_digest_130 : decode cX6_digest 130 = .ok (.invokestatic 213, 3) := by decide +kernel
theorem dX6_digest_133 : decode cX6_digest 133 = .ok (.lstore_n 1, 1) := by decide +kernel
theorem dX6_digest_134 : decode cX6_digest 134 = .ok (.lload_n 1, 1) := by decide +kernel
theorem dX6_digest_135 : decode cX6_digest 135 = .ok (.aload_n 0, 1) := by decide +kernel
theorem dX6_digest_136 : decode cX6_digest 136 = .ok (.getfield 38, 3) := by decide +kernel
theorem dX6_digest_139 : decode cX6_digest 139 = .ok (.getfield 148, 3) := by decide +kernel
theorem dX6_digest_142 : decode cX6_digest 142 = .ok (.i2l, 1) := by decide +kernel
theorem dX6_digest_143 : decode cX6_digest 143 = .ok (.invokestatic 213, 3) := by decide +kernel
theorem dX6_digest_146 : decode cX6_digest 146 = .ok (.lstore_n 1, 1) := by decide +kernel
theorem dX6_digest_147 : decode cX6_digest 147 = .ok (.iconst 0, 1) := by decide +kernel
theorem dX6_digest_148 : decode cX6_digest 148 = .ok (.istore_n 3, 1) := by decide +kernel
theorem dX6_digest_149 : decode cX6_digest 149 = .ok (.iload_n 3, 1) := by decide +kernel
theorem dX6_digest_150 : decode cX6_digest 150 = .ok (.aload_n 0, 1) := by decide +kernel
theorem dX6_digest_151 : decode cX6_digest 151 = .ok (.getfield 38, 3) := by decide +kernel
theorem dX6_digest_154 : decode cX6_digest 154 = .ok (.getfield 148, 3) := by decide +kernel
theorem dX6_digest_157 : decode cX6_digest 157 = .ok (.if_icmp .ge 30, 3) := by decide +kernel
theorem dX6_digest_160 : decode cX6_digest 160 = .ok (.iload_n 3, 1) := by decide +kernel
theorem dX6_digest_161 : decode cX6_digest 161 = .ok (.bipush 60, 2) := by decide +kernel
theorem dX6_digest_163 : decode cX6_digest 163 = .ok (.if_icmp .ge 24, 3) := by decide +kernel
theorem dX6_digest_166 : decode cX6_digest 166 = .ok (.lload_n 1, 1) := by decide +kernel
theorem dX6_digest_167 : decode cX6_digest 167 = .ok (.aload_n 0, 1) := by decide +kernel
theorem dX6_digest_168 : decode cX6_digest 168 = .ok (.getfield 38, 3) := by decide +kernel
theorem dX6_digest_171 : decode cX6_digest 171 = .ok (.getfield 232, 3) := by decide +kernel
theorem dX6_digest_174 : decode cX6_digest 174 = .ok (.iload_n 3, 1) := by decide +kernel
theorem dX6_digest_175 : decode cX6_digest 175 = .ok (.iaload, 1) := by decide +kernel
theorem dX6_digest_176 : decode cX6_digest 176 = .ok (.i2l, 1) := by decide +kernel
theorem dX6_digest_177 : decode cX6_digest 177 = .ok (.invokestatic 213, 3) := by decide +kernel
theorem dX6_digest_180 : decode cX6_digest 180 = .ok (.lstore_n 1, 1) := by decide +kernel
theorem dX6_digest_181 : decode cX6_digest 181 = .ok (.iinc 3 1, 3) := by decide +kernel
theorem dX6_digest_184 : decode cX6_digest 184 = .ok (.goto (-35), 3) := by decide +kernel
theorem dX6_digest_187 : decode cX6_digest 187 = .ok (.lload_n 1, 1) := by decide +kernel
theorem dX6_digest_188 : decode cX6_digest 188 = .ok (.lreturn, 1) := by decide +kernel
theorem dX6_mixCells_0 : decode cX6_mixCells 0 = .ok (.lload_n 1, 1) := by decide +kernel
theorem dX6_mixCells_1 : decode cX6_mixCells 1 = .ok (.lstore_n 3, 1) := by decide +kernel
theorem dX6_mixCells_2 : decode cX6_mixCells 2 = .ok (.iconst 0, 1) := by decide +kernel
theorem dX6_mixCells_3 : decode cX6_mixCells 3 = .ok (.istore 5, 2) := by decide +kernel
theorem dX6_mixCells_5 : decode cX6_mixCells 5 = .ok (.iload 5, 2) := by decide +kernel
theorem dX6_mixCells_7 : decode cX6_mixCells 7 = .ok (.sipush 160, 3) := by decide +kernel
theorem dX6_mixCells_10 : decode cX6_mixCells 10 = .ok (.if_icmp .ge 41, 3) := by decide +kernel
theorem dX6_mixCells_13 : decode cX6_mixCells 13 = .ok (.iconst 0, 1) := by decide +kernel
theorem dX6_mixCells_14 : decode cX6_mixCells 14 = .ok (.istore 6, 2) := by decide +kernel
theorem dX6_mixCells_16 : decode cX6_mixCells 16 = .ok (.iload 6, 2) := by decide +kernel
theorem dX6_mixCells_18 : decode cX6_mixCells 18 = .ok (.iconst 2, 1) := by decide +kernel
theorem dX6_mixCells_19 : decode cX6_mixCells 19 = .ok (.if_icmp .gt 26, 3) := by decide +kernel
theorem dX6_mixCells_22 : decode cX6_mixCells 22 = .ok (.lload_n 3, 1) := by decide +kernel
theorem dX6_mixCells_23 : decode cX6_mixCells 23 = .ok (.aload_n 0, 1) := by decide +kernel
theorem dX6_mixCells_24 : decode cX6_mixCells 24 = .ok (.getfield 24, 3) := by decide +kernel
theorem dX6_mixCells_27 : decode cX6_mixCells 27 = .ok (.iload 5, 2) := by decide +kernel
theorem dX6_mixCells_29 : decode cX6_mixCells 29 = .ok (.iload 6, 2) := by decide +kernel
theorem dX6_mixCells_31 : decode cX6_mixCells 31 = .ok (.invokevirtual 185, 3) := by decide +kernel
theorem dX6_mixCells_34 : decode cX6_mixCells 34 = .ok (.i2l, 1) := by decide +kernel
theorem dX6_mixCells_35 : decode cX6_mixCells 35 = .ok (.invokestatic 213, 3) := by decide +kernel
theorem dX6_mixCells_38 : decode cX6_mixCells 38 = .ok (.lstore_n 3, 1) := by decide +kernel
theorem dX6_mixCells_39 : decode cX6_mixCells 39 = .ok (.iinc 6 1, 3) := by decide +kernel
theorem dX6_mixCells_42 : decode cX6_mixCells 42 = .ok (.goto (-26), 3) := by decide +kernel
theorem dX6_mixCells_45 : decode cX6_mixCells 45 = .ok (.iinc 5 1, 3) := by decide +kernel
theorem dX6_mixCells_48 : decode cX6_mixCells 48 = .ok (.goto (-43), 3) := by decide +kernel
theorem dX6_mixCells_51 : decode cX6_mixCells 51 = .ok (.lload_n 3, 1) := by decide +kernel
theorem dX6_mixCells_52 : decode cX6_mixCells 52 = .ok (.lreturn, 1) := by decide +kernel
theorem dX6_mixPicks_0 : decode cX6_mixPicks 0 = .ok (.lload_n 1, 1) := by decide +kernel
theorem dX6_mixPicks_1 : decode cX6_mixPicks 1 = .ok (.lstore_n 3, 1) := by decide +kernel
theorem dX6_mixPicks_2 : decode cX6_mixPicks 2 = .ok (.iconst 0, 1) := by decide +kernel
theorem dX6_mixPicks_3 : decode cX6_mixPicks 3 = .ok (.istore 5, 2) := by decide +kernel
theorem dX6_mixPicks_5 : decode cX6_mixPicks 5 = .ok (.iload 5, 2) := by decide +kernel
theorem dX6_mixPicks_7 : decode cX6_mixPicks 7 = .ok (.aload_n 0, 1) := by decide +kernel
theorem dX6_mixPicks_8 : decode cX6_mixPicks 8 = .ok (.getfield 24, 3) := by decide +kernel
theorem dX6_mixPicks_11 : decode cX6_mixPicks 11 = .ok (.getfield 93, 3) := by decide +kernel
theorem dX6_mixPicks_14 : decode cX6_mixPicks 14 = .ok (.if_icmp .ge 53, 3) := by decide +kernel
theorem dX6_mixPicks_17 : decode cX6_mixPicks 17 = .ok (.iload 5, 2) := by decide +kernel
theorem dX6_mixPicks_19 : decode cX6_mixPicks 19 = .ok (.bipush 12, 2) := by decide +kernel
theorem dX6_mixPicks_21 : decode cX6_mixPicks 21 = .ok (.if_icmp .ge 46, 3) := by decide +kernel
theorem dX6_mixPicks_24 : decode cX6_mixPicks 24 = .ok (.iconst 0, 1) := by decide +kernel
theorem dX6_mixPicks_25 : decode cX6_mixPicks 25 = .ok (.istore 6, 2) := by decide +kernel
theorem dX6_mixPicks_27 : decode cX6_mixPicks 27 = .ok (.iload 6, 2) := by decide +kernel
theorem dX6_mixPicks_29 : decode cX6_mixPicks 29 = .ok (.bipush 11, 2) := by decide +kernel
theorem dX6_mixPicks_31 : decode cX6_mixPicks 31 = .ok (.if_icmp .gt 30, 3) := by decide +kernel
theorem dX6_mixPicks_34 : decode cX6_mixPicks 34 = .ok (.lload_n 3, 1) := by decide +kernel
theorem dX6_mixPicks_35 : decode cX6_mixPicks 35 = .ok (.aload_n 0, 1) := by decide +kernel
theorem dX6_mixPicks_36 : decode cX6_mixPicks 36 = .ok (.getfield 24, 3) := by decide +kernel
theorem dX6_mixPicks_39 : decode cX6_mixPicks 39 = .ok (.getfield 122, 3) := by decide +kernel
theorem dX6_mixPicks_42 : decode cX6_mixPicks 42 = .ok (.iload 5, 2) := by decide +kernel
theorem dX6_mixPicks_44 : decode cX6_mixPicks 44 = .ok (.aaload, 1) := by decide +kernel
theorem dX6_mixPicks_45 : decode cX6_mixPicks 45 = .ok (.iload 6, 2) := by decide +kernel
theorem dX6_mixPicks_47 : decode cX6_mixPicks 47 = .ok (.invokevirtual 188, 3) := by decide +kernel
theorem dX6_mixPicks_50 : decode cX6_mixPicks 50 = .ok (.i2l, 1) := by decide +kernel
theorem dX6_mixPicks_51 : decode cX6_mixPicks 51 = .ok (.invokestatic 213, 3) := by decide +kernel
theorem dX6_mixPicks_54 : decode cX6_mixPicks 54 = .ok (.lstore_n 3, 1) := by decide +kernel
theorem dX6_mixPicks_55 : decode cX6_mixPicks 55 = .ok (.iinc 6 1, 3) := by decide +kernel
theorem dX6_mixPicks_58 : decode cX6_mixPicks 58 = .ok (.goto (-31), 3) := by decide +kernel
theorem dX6_mixPicks_61 : decode cX6_mixPicks 61 = .ok (.iinc 5 1, 3) := by decide +kernel
theorem dX6_mixPicks_64 : decode cX6_mixPicks 64 = .ok (.goto (-59), 3) := by decide +kernel
theorem dX6_mixPicks_67 : decode cX6_mixPicks 67 = .ok (.lload_n 3, 1) := by decide +kernel
theorem dX6_mixPicks_68 : decode cX6_mixPicks 68 = .ok (.lreturn, 1) := by decide +kernel
theorem dX6_mix_0 : decode cX6_mix 0 = .ok (.ldc2_w 235, 3) := by decide +kernel
theorem dX6_mix_3 : decode cX6_mix 3 = .ok (.lload_n 0, 1) := by decide +kernel
theorem dX6_mix_4 : decode cX6_mix 4 = .ok (.lmul, 1) := by decide +kernel
theorem dX6_mix_5 : decode cX6_mix 5 = .ok (.lload_n 2, 1) := by decide +kernel
theorem dX6_mix_6 : decode cX6_mix 6 = .ok (.ladd, 1) := by decide +kernel
theorem dX6_mix_7 : decode cX6_mix 7 = .ok (.lreturn, 1) := by decide +kernel
theorem dX6_bitsOf_0 : decode cX6_bitsOf 0 = .ok (.dload_n 0, 1) := by decide +kernel
theorem dX6_bitsOf_1 : decode cX6_bitsOf 1 = .ok (.dconst 0, 1) := by decide +kernel
theorem dX6_bitsOf_2 : decode cX6_bitsOf 2 = .ok (.dcmp .g, 1) := by decide +kernel
theorem dX6_bitsOf_3 : decode cX6_bitsOf 3 = .ok (.ifCond .gt 5, 3) := by decide +kernel
theorem dX6_bitsOf_6 : decode cX6_bitsOf 6 = .ok (.lconst 0, 1) := by decide +kernel
theorem dX6_bitsOf_7 : decode cX6_bitsOf 7 = .ok (.lreturn, 1) := by decide +kernel
theorem dX6_bitsOf_8 : decode cX6_bitsOf 8 = .ok (.dload_n 0, 1) := by decide +kernel
theorem dX6_bitsOf_9 : decode cX6_bitsOf 9 = .ok (.dstore_n 2, 1) := by decide +kernel
theorem dX6_bitsOf_10 : decode cX6_bitsOf 10 = .ok (.ldc2_w 237, 3) := by decide +kernel
theorem dX6_bitsOf_13 : decode cX6_bitsOf 13 = .ok (.lstore 4, 2) := by decide +kernel
theorem dX6_bitsOf_15 : decode cX6_bitsOf 15 = .ok (.iconst 0, 1) := by decide +kernel
theorem dX6_bitsOf_16 : decode cX6_bitsOf 16 = .ok (.istore 6, 2) := by decide +kernel
theorem dX6_bitsOf_18 : decode cX6_bitsOf 18 = .ok (.iload 6, 2) := by decide +kernel
theorem dX6_bitsOf_20 : decode cX6_bitsOf 20 = .ok (.bipush 64, 2) := by decide +kernel
theorem dX6_bitsOf_22 : decode cX6_bitsOf 22 = .ok (.if_icmp .ge 27, 3) := by decide +kernel
theorem dX6_bitsOf_25 : decode cX6_bitsOf 25 = .ok (.dload_n 2, 1) := by decide +kernel
theorem dX6_bitsOf_26 : decode cX6_bitsOf 26 = .ok (.dconst 1, 1) := by decide +kernel
theorem dX6_bitsOf_27 : decode cX6_bitsOf 27 = .ok (.dcmp .g, 1) := by decide +kernel
theorem dX6_bitsOf_28 : decode cX6_bitsOf 28 = .ok (.ifCond .ge 21, 3) := by decide +kernel
theorem dX6_bitsOf_31 : decode cX6_bitsOf 31 = .ok (.dload_n 2, 1) := by decide +kernel
theorem dX6_bitsOf_32 : decode cX6_bitsOf 32 = .ok (.ldc2_w 239, 3) := by decide +kernel
theorem dX6_bitsOf_35 : decode cX6_bitsOf 35 = .ok (.dmul, 1) := by decide +kernel
theorem dX6_bitsOf_36 : decode cX6_bitsOf 36 = .ok (.dstore_n 2, 1) := by decide +kernel
theorem dX6_bitsOf_37 : decode cX6_bitsOf 37 = .ok (.lload 4, 2) := by decide +kernel
theorem dX6_bitsOf_39 : decode cX6_bitsOf 39 = .ok (.lconst 1, 1) := by decide +kernel
theorem dX6_bitsOf_40 : decode cX6_bitsOf 40 = .ok (.lsub, 1) := by decide +kernel
theorem dX6_bitsOf_41 : decode cX6_bitsOf 41 = .ok (.lstore 4, 2) := by decide +kernel
theorem dX6_bitsOf_43 : decode cX6_bitsOf 43 = .ok (.iinc 6 1, 3) := by decide +kernel
theorem dX6_bitsOf_46 : decode cX6_bitsOf 46 = .ok (.goto (-28), 3) := by decide +kernel
theorem dX6_bitsOf_49 : decode cX6_bitsOf 49 = .ok (.lload 4, 2) := by decide +kernel
theorem dX6_bitsOf_51 : decode cX6_bitsOf 51 = .ok (.bipush 52, 2) := by decide +kernel
theorem dX6_bitsOf_53 : decode cX6_bitsOf 53 = .ok (.lshl, 1) := by decide +kernel
theorem dX6_bitsOf_54 : decode cX6_bitsOf 54 = .ok (.dload_n 2, 1) := by decide +kernel
theorem dX6_bitsOf_55 : decode cX6_bitsOf 55 = .ok (.dconst 1, 1) := by decide +kernel
theorem dX6_bitsOf_56 : decode cX6_bitsOf 56 = .ok (.dsub, 1) := by decide +kernel
theorem dX6_bitsOf_57 : decode cX6_bitsOf 57 = .ok (.ldc2_w 241, 3) := by decide +kernel
theorem dX6_bitsOf_60 : decode cX6_bitsOf 60 = .ok (.dmul, 1) := by decide +kernel
theorem dX6_bitsOf_61 : decode cX6_bitsOf 61 = .ok (.d2l, 1) := by decide +kernel
theorem dX6_bitsOf_62 : decode cX6_bitsOf 62 = .ok (.ladd, 1) := by decide +kernel
theorem dX6_bitsOf_63 : decode cX6_bitsOf 63 = .ok (.lreturn, 1) := by decide +kernel
theorem dX6_number_0 : decode cX6_number 0 = .ok (.iload_n 1, 1) := by decide +kernel
theorem dX6_number_1 : decode cX6_number 1 = .ok (.tableswitch 97 0 8 #[51, 59, 97, 97, 97, 97, 67, 78, 89], 51) := by decide +kernel
theorem dX6_number_52 : decode cX6_number 52 = .ok (.aload_n 0, 1) := by decide +kernel
theorem dX6_number_53 : decode cX6_number 53 = .ok (.getfield 24, 3) := by decide +kernel
theorem dX6_number_56 : decode cX6_number 56 = .ok (.getfield 93, 3) := by decide +kernel
theorem dX6_number_59 : decode cX6_number 59 = .ok (.ireturn, 1) := by decide +kernel
theorem dX6_number_60 : decode cX6_number 60 = .ok (.aload_n 0, 1) := by decide +kernel
theorem dX6_number_61 : decode cX6_number 61 = .ok (.getfield 24, 3) := by decide +kernel
theorem dX6_number_64 : decode cX6_number 64 = .ok (.invokevirtual 243, 3) := by decide +kernel
theorem dX6_number_67 : decode cX6_number 67 = .ok (.ireturn, 1) := by decide +kernel
theorem dX6_number_68 : decode cX6_number 68 = .ok (.aload_n 0, 1) := by decide +kernel
theorem dX6_number_69 : decode cX6_number 69 = .ok (.getfield 24, 3) := by decide +kernel
theorem dX6_number_72 : decode cX6_number 72 = .ok (.getfield 87, 3) := by decide +kernel
theorem dX6_number_75 : decode cX6_number 75 = .ok (.invokestatic 246, 3) := by decide +kernel
theorem dX6_number_78 : decode cX6_number 78 = .ok (.ireturn, 1) := by decide +kernel
theorem dX6_number_79 : decode cX6_number 79 = .ok (.aload_n 0, 1) := by decide +kernel
theorem dX6_number_80 : decode cX6_number 80 = .ok (.getfield 24, 3) := by decide +kernel
theorem dX6_number_83 : decode cX6_number 83 = .ok (.getfield 87, 3) := by decide +kernel
theorem dX6_number_86 : decode cX6_number 86 = .ok (.invokestatic 250, 3) := by decide +kernel
theorem dX6_number_89 : decode cX6_number 89 = .ok (.ireturn, 1) := by decide +kernel
theorem dX6_number_90 : decode cX6_number 90 = .ok (.aload_n 0, 1) := by decide +kernel
theorem dX6_number_91 : decode cX6_number 91 = .ok (.getfield 31, 3) := by decide +kernel
theorem dX6_number_94 : decode cX6_number 94 = .ok (.getfield 177, 3) := by decide +kernel
theorem dX6_number_97 : decode cX6_number 97 = .ok (.ireturn, 1) := by decide +kernel
theorem dX6_number_98 : decode cX6_number 98 = .ok (.aload_n 0, 1) := by decide +kernel
theorem dX6_number_99 : decode cX6_number 99 = .ok (.getfield 24, 3) := by decide +kernel
theorem dX6_number_102 : decode cX6_number 102 = .ok (.aload_n 0, 1) := by decide +kernel
theorem dX6_number_103 : decode cX6_number 103 = .ok (.getfield 49, 3) := by decide +kernel
theorem dX6_number_106 : decode cX6_number 106 = .ok (.invokevirtual 83, 3) := by decide +kernel
theorem dX6_number_109 : decode cX6_number 109 = .ok (.aload_n 0, 1) := by decide +kernel
theorem dX6_number_110 : decode cX6_number 110 = .ok (.iload_n 1, 1) := by decide +kernel
theorem dX6_number_111 : decode cX6_number 111 = .ok (.invokevirtual 253, 3) := by decide +kernel
theorem dX6_number_114 : decode cX6_number 114 = .ok (.ireturn, 1) := by decide +kernel
theorem dX6_maskNumber_0 : decode cX6_maskNumber 0 = .ok (.iload_n 1, 1) := by decide +kernel
theorem dX6_maskNumber_1 : decode cX6_maskNumber 1 = .ok (.tableswitch 54 2 4 #[27, 37, 46], 27) := by decide +kernel
theorem dX6_maskNumber_28 : decode cX6_maskNumber 28 = .ok (.aload_n 0, 1) := by decide +kernel
theorem dX6_maskNumber_29 : decode cX6_maskNumber 29 = .ok (.getfield 49, 3) := by decide +kernel
theorem dX6_maskNumber_32 : decode cX6_maskNumber 32 = .ok (.bipush 100, 2) := by decide +kernel
theorem dX6_maskNumber_34 : decode cX6_maskNumber 34 = .ok (.invokestatic 256, 3) := by decide +kernel
theorem dX6_maskNumber_37 : decode cX6_maskNumber 37 = .ok (.ireturn, 1) := by decide +kernel
theorem dX6_maskNumber_38 : decode cX6_maskNumber 38 = .ok (.aload_n 0, 1) := by decide +kernel
theorem dX6_maskNumber_39 : decode cX6_maskNumber 39 = .ok (.getfield 49, 3) := by decide +kernel
theorem dX6_maskNumber_42 : decode cX6_maskNumber 42 = .ok (.iconst 1, 1) := by decide +kernel
theorem dX6_maskNumber_43 : decode cX6_maskNumber 43 = .ok (.invokestatic 256, 3) := by decide +kernel
theorem dX6_maskNumber_46 : decode cX6_maskNumber 46 = .ok (.ireturn, 1) := by decide +kernel
theorem dX6_maskNumber_47 : decode cX6_maskNumber 47 = .ok (.aload_n 0, 1) := by decide +kernel
theorem dX6_maskNumber_48 : decode cX6_maskNumber 48 = .ok (.getfield 49, 3) := by decide +kernel
theorem dX6_maskNumber_51 : decode cX6_maskNumber 51 = .ok (.invokestatic 246, 3) := by decide +kernel
theorem dX6_maskNumber_54 : decode cX6_maskNumber 54 = .ok (.ireturn, 1) := by decide +kernel
theorem dX6_maskNumber_55 : decode cX6_maskNumber 55 = .ok (.aload_n 0, 1) := by decide +kernel
theorem dX6_maskNumber_56 : decode cX6_maskNumber 56 = .ok (.getfield 49, 3) := by decide +kernel
theorem dX6_maskNumber_59 : decode cX6_maskNumber 59 = .ok (.invokestatic 259, 3) := by decide +kernel
theorem dX6_maskNumber_62 : decode cX6_maskNumber 62 = .ok (.ireturn, 1) := by decide +kernel
theorem dX6_edgeLength_0 : decode cX6_edgeLength 0 = .ok (.iconst 0, 1) := by decide +kernel
theorem dX6_edgeLength_1 : decode cX6_edgeLength 1 = .ok (.istore_n 1, 1) := by decide +kernel
theorem dX6_edgeLength_2 : decode cX6_edgeLength 2 = .ok (.iconst 0, 1) := by decide +kernel
theorem dX6_edgeLength_3 : decode cX6_edgeLength 3 = .ok (.istore_n 2, 1) := by decide +kernel
theorem dX6_edgeLength_4 : decode cX6_edgeLength 4 = .ok (.iload_n 2, 1) := by decide +kernel
theorem dX6_edgeLength_5 : decode cX6_edgeLength 5 = .ok (.sipush 160, 3) := by decide +kernel
theorem dX6_edgeLength_8 : decode cX6_edgeLength 8 = .ok (.if_icmp .ge 25, 3) := by decide +kernel
theorem dX6_edgeLength_11 : decode cX6_edgeLength 11 = .ok (.aload_n 0, 1) := by decide +kernel
theorem dX6_edgeLength_12 : decode cX6_edgeLength 12 = .ok (.iload_n 2, 1) := by decide +kernel
theorem dX6_edgeLength_13 : decode cX6_edgeLength 13 = .ok (.iaload, 1) := by decide +kernel
theorem dX6_edgeLength_14 : decode cX6_edgeLength 14 = .ok (.bipush 50, 2) := by decide +kernel
theorem dX6_edgeLength_16 : decode cX6_edgeLength 16 = .ok (.if_icmp .lt 11, 3) := by decide +kernel
theorem dX6_edgeLength_19 : decode cX6_edgeLength 19 = .ok (.iload_n 1, 1) := by decide +kernel
theorem dX6_edgeLength_20 : decode cX6_edgeLength 20 = .ok (.aload_n 0, 1) := by decide +kernel
theorem dX6_edgeLength_21 : decode cX6_edgeLength 21 = .ok (.iload_n 2, 1) := by decide +kernel
theorem dX6_edgeLength_22 : decode cX6_edgeLength 22 = .ok (.invokestatic 262, 3) := by decide +kernel
theorem dX6_edgeLength_25 : decode cX6_edgeLength 25 = .ok (.iadd, 1) := by decide +kernel
theorem dX6_edgeLength_26 : decode cX6_edgeLength 26 = .ok (.istore_n 1, 1) := by decide +kernel
theorem dX6_edgeLength_27 : decode cX6_edgeLength 27 = .ok (.iinc 2 1, 3) := by decide +kernel
theorem dX6_edgeLength_30 : decode cX6_edgeLength 30 = .ok (.goto (-26), 3) := by decide +kernel
theorem dX6_edgeLength_33 : decode cX6_edgeLength 33 = .ok (.iload_n 1, 1) := by decide +kernel
theorem dX6_edgeLength_34 : decode cX6_edgeLength 34 = .ok (.ireturn, 1) := by decide +kernel
theorem dX6_openSides_0 : decode cX6_openSides 0 = .ok (.iconst 0, 1) := by decide +kernel
theorem dX6_openSides_1 : decode cX6_openSides 1 = .ok (.istore_n 2, 1) := by decide +kernel
theorem dX6_openSides_2 : decode cX6_openSides 2 = .ok (.iconst 0, 1) := by decide +kernel
theorem dX6_openSides_3 : decode cX6_openSides 3 = .ok (.istore_n 3, 1) := by decide +kernel
theorem dX6_openSides_4 : decode cX6_openSides 4 = .ok (.iload_n 3, 1) := by decide +kernel
theorem dX6_openSides_5 : decode cX6_openSides 5 = .ok (.iconst 4, 1) := by decide +kernel
theorem dX6_openSides_6 : decode cX6_openSides 6 = .ok (.if_icmp .ge 33, 3) := by decide +kernel
theorem dX6_openSides_9 : decode cX6_openSides 9 = .ok (.iload_n 1, 1) := by decide +kernel
theorem dX6_openSides_10 : decode cX6_openSides 10 = .ok (.iload_n 3, 1) := by decide +kernel
theorem dX6_openSides_11 : decode cX6_openSides 11 = .ok (.invokestatic 265, 3) := by decide +kernel
theorem dX6_openSides_14 : decode cX6_openSides 14 = .ok (.istore 4, 2) := by decide +kernel
theorem dX6_openSides_16 : decode cX6_openSides 16 = .ok (.iload 4, 2) := by decide +kernel
theorem dX6_openSides_18 : decode cX6_openSides 18 = .ok (.ifCond .lt 12, 3) := by decide +kernel
theorem dX6_openSides_21 : decode cX6_openSides 21 = .ok (.aload_n 0, 1) := by decide +kernel
theorem dX6_openSides_22 : decode cX6_openSides 22 = .ok (.iload 4, 2) := by decide +kernel
theorem dX6_openSides_24 : decode cX6_openSides 24 = .ok (.iaload, 1) := by decide +kernel
theorem dX6_openSides_25 : decode cX6_openSides 25 = .ok (.bipush 50, 2) := by decide +kernel
theorem dX6_openSides_27 : decode cX6_openSides 27 = .ok (.if_icmp .ge 6, 3) := by decide +kernel
theorem dX6_openSides_30 : decode cX6_openSides 30 = .ok (.iinc 2 1, 3) := by decide +kernel
theorem dX6_openSides_33 : decode cX6_openSides 33 = .ok (.iinc 3 1, 3) := by decide +kernel
theorem dX6_openSides_36 : decode cX6_openSides 36 = .ok (.goto (-32), 3) := by decide +kernel
theorem dX6_openSides_39 : decode cX6_openSides 39 = .ok (.iload_n 2, 1) := by decide +kernel
theorem dX6_openSides_40 : decode cX6_openSides 40 = .ok (.ireturn, 1) := by decide +kernel
theorem dX6_atLeast_0 : decode cX6_atLeast 0 = .ok (.iconst 0, 1) := by decide +kernel
theorem dX6_atLeast_1 : decode cX6_atLeast 1 = .ok (.istore_n 2, 1) := by decide +kernel
theorem dX6_atLeast_2 : decode cX6_atLeast 2 = .ok (.iconst 0, 1) := by decide +kernel
theorem dX6_atLeast_3 : decode cX6_atLeast 3 = .ok (.istore_n 3, 1) := by decide +kernel
theorem dX6_atLeast_4 : decode cX6_atLeast 4 = .ok (.iload_n 3, 1) := by decide +kernel
theorem dX6_atLeast_5 : decode cX6_atLeast 5 = .ok (.sipush 160, 3) := by decide +kernel
theorem dX6_atLeast_8 : decode cX6_atLeast 8 = .ok (.if_icmp .ge 19, 3) := by decide +kernel
theorem dX6_atLeast_11 : decode cX6_atLeast 11 = .ok (.aload_n 0, 1) := by decide +kernel
theorem dX6_atLeast_12 : decode cX6_atLeast 12 = .ok (.iload_n 3, 1) := by decide +kernel
theorem dX6_atLeast_13 : decode cX6_atLeast 13 = .ok (.iaload, 1) := by decide +kernel
theorem dX6_atLeast_14 : decode cX6_atLeast 14 = .ok (.iload_n 1, 1) := by decide +kernel
theorem dX6_atLeast_15 : decode cX6_atLeast 15 = .ok (.if_icmp .lt 6, 3) := by decide +kernel
theorem dX6_atLeast_18 : decode cX6_atLeast 18 = .ok (.iinc 2 1, 3) := by decide +kernel
theorem dX6_atLeast_21 : decode cX6_atLeast 21 = .ok (.iinc 3 1, 3) := by decide +kernel
theorem dX6_atLeast_24 : decode cX6_atLeast 24 = .ok (.goto (-20), 3) := by decide +kernel
theorem dX6_atLeast_27 : decode cX6_atLeast 27 = .ok (.iload_n 2, 1) := by decide +kernel
theorem dX6_atLeast_28 : decode cX6_atLeast 28 = .ok (.ireturn, 1) := by decide +kernel
theorem dX6_sum_0 : decode cX6_sum 0 = .ok (.iconst 0, 1) := by decide +kernel
theorem dX6_sum_1 : decode cX6_sum 1 = .ok (.istore_n 1, 1) := by decide +kernel
theorem dX6_sum_2 : decode cX6_sum 2 = .ok (.iconst 0, 1) := by decide +kernel
theorem dX6_sum_3 : decode cX6_sum 3 = .ok (.istore_n 2, 1) := by decide +kernel
theorem dX6_sum_4 : decode cX6_sum 4 = .ok (.iload_n 2, 1) := by decide +kernel
theorem dX6_sum_5 : decode cX6_sum 5 = .ok (.sipush 160, 3) := by decide +kernel
theorem dX6_sum_8 : decode cX6_sum 8 = .ok (.if_icmp .ge 15, 3) := by decide +kernel
theorem dX6_sum_11 : decode cX6_sum 11 = .ok (.iload_n 1, 1) := by decide +kernel
theorem dX6_sum_12 : decode cX6_sum 12 = .ok (.aload_n 0, 1) := by decide +kernel
theorem dX6_sum_13 : decode cX6_sum 13 = .ok (.iload_n 2, 1) := by decide +kernel
theorem dX6_sum_14 : decode cX6_sum 14 = .ok (.iaload, 1) := by decide +kernel
theorem dX6_sum_15 : decode cX6_sum 15 = .ok (.iadd, 1) := by decide +kernel
theorem dX6_sum_16 : decode cX6_sum 16 = .ok (.istore_n 1, 1) := by decide +kernel
theorem dX6_sum_17 : decode cX6_sum 17 = .ok (.iinc 2 1, 3) := by decide +kernel
theorem dX6_sum_20 : decode cX6_sum 20 = .ok (.goto (-16), 3) := by decide +kernel
theorem dX6_sum_23 : decode cX6_sum 23 = .ok (.iload_n 1, 1) := by decide +kernel
theorem dX6_sum_24 : decode cX6_sum 24 = .ok (.ireturn, 1) := by decide +kernel
theorem dX6_differences_0 : decode cX6_differences 0 = .ok (.iconst 0, 1) := by decide +kernel
theorem dX6_differences_1 : decode cX6_differences 1 = .ok (.istore_n 2, 1) := by decide +kernel
theorem dX6_differences_2 : decode cX6_differences 2 = .ok (.iconst 0, 1) := by decide +kernel
theorem dX6_differences_3 : decode cX6_differences 3 = .ok (.istore_n 3, 1) := by decide +kernel
theorem dX6_differences_4 : decode cX6_differences 4 = .ok (.iload_n 3, 1) := by decide +kernel
theorem dX6_differences_5 : decode cX6_differences 5 = .ok (.sipush 160, 3) := by decide +kernel
theorem dX6_differences_8 : decode cX6_differences 8 = .ok (.if_icmp .ge 21, 3) := by decide +kernel
theorem dX6_differences_11 : decode cX6_differences 11 = .ok (.aload_n 0, 1) := by decide +kernel
theorem dX6_differences_12 : decode cX6_differences 12 = .ok (.iload_n 3, 1) := by decide +kernel
theorem dX6_differences_13 : decode cX6_differences 13 = .ok (.iaload, 1) := by decide +kernel
theorem dX6_differences_14 : decode cX6_differences 14 = .ok (.aload_n 1, 1) := by decide +kernel
theorem dX6_differences_15 : decode cX6_differences 15 = .ok (.iload_n 3, 1) := by decide +kernel
theorem dX6_differences_16 : decode cX6_differences 16 = .ok (.iaload, 1) := by decide +kernel
theorem dX6_differences_17 : decode cX6_differences 17 = .ok (.if_icmp .eq 6, 3) := by decide +kernel
theorem dX6_differences_20 : decode cX6_differences 20 = .ok (.iinc 2 1, 3) := by decide +kernel
theorem dX6_differences_23 : decode cX6_differences 23 = .ok (.iinc 3 1, 3) := by decide +kernel
theorem dX6_differences_26 : decode cX6_differences 26 = .ok (.goto (-22), 3) := by decide +kernel
theorem dX6_differences_29 : decode cX6_differences 29 = .ok (.iload_n 2, 1) := by decide +kernel
theorem dX6_differences_30 : decode cX6_differences 30 = .ok (.ireturn, 1) := by decide +kernel
theorem dX6_differentShades_0 : decode cX6_differentShades 0 = .ok (.lconst 0, 1) := by decide +kernel
theorem dX6_differentShades_1 : decode cX6_differentShades 1 = .ok (.lstore_n 1, 1) := by decide +kernel
theorem dX6_differentShades_2 : decode cX6_differentShades 2 = .ok (.lconst 0, 1) := by decide +kernel
theorem dX6_differentShades_3 : decode cX6_differentShades 3 = .ok (.lstore_n 3, 1) := by decide +kernel
theorem dX6_differentShades_4 : decode cX6_differentShades 4 = .ok (.iconst 0, 1) := by decide +kernel
theorem dX6_differentShades_5 : decode cX6_differentShades 5 = .ok (.istore 5, 2) := by decide +kernel
theorem dX6_differentShades_7 : decode cX6_differentShades 7 = .ok (.iload 5, 2) := by decide +kernel
theorem dX6_differentShades_9 : decode cX6_differentShades 9 = .ok (.sipush 160, 3) := by decide +kernel
theorem dX6_differentShades_12 : decode cX6_differentShades 12 = .ok (.if_icmp .ge 42, 3) := by decide +kernel
theorem dX6_differentShades_15 : decode cX6_differentShades 15 = .ok (.aload_n 0, 1) := by decide +kernel
theorem dX6_differentShades_16 : decode cX6_differentShades 16 = .ok (.iload 5, 2) := by decide +kernel
theorem dX6_differentShades_18 : decode cX6_differentShades 18 = .ok (.iaload, 1) := by decide +kernel
theorem dX6_differentShades_19 : decode cX6_differentShades 19 = .ok (.istore 6, 2) := by decide +kernel
theorem dX6_differentShades_21 : decode cX6_differentShades 21 = .ok (.iload 6, 2) := by decide +kernel
theorem dX6_differentShades_23 : decode cX6_differentShades 23 = .ok (.bipush 50, 2) := by decide +kernel
theorem dX6_differentShades_25 : decode cX6_differentShades 25 = .ok (.if_icmp .ge 13, 3) := by decide +kernel
theorem dX6_differentShades_28 : decode cX6_differentShades 28 = .ok (.lload_n 1, 1) := by decide +kernel
theorem dX6_differentShades_29 : decode cX6_differentShades 29 = .ok (.lconst 1, 1) := by decide +kernel
theorem dX6_differentShades_30 : decode cX6_differentShades 30 = .ok (.iload 6, 2) := by decide +kernel
theorem dX6_differentShades_32 : decode cX6_differentShades 32 = .ok (.lshl, 1) := by decide +kernel
theorem dX6_differentShades_33 : decode cX6_differentShades 33 = .ok (.lor, 1) := by decide +kernel
theorem dX6_differentShades_34 : decode cX6_differentShades 34 = .ok (.lstore_n 1, 1) := by decide +kernel
theorem dX6_differentShades_35 : decode cX6_differentShades 35 = .ok (.goto 13, 3) := by decide +kernel
theorem dX6_differentShades_38 : decode cX6_differentShades 38 = .ok (.lload_n 3, 1) := by decide +kernel
theorem dX6_differentShades_39 : decode cX6_differentShades 39 = .ok (.lconst 1, 1) := by decide +kernel
theorem dX6_differentShades_40 : decode cX6_differentShades 40 = .ok (.iload 6, 2) := by decide +kernel
theorem dX6_differentShades_42 : decode cX6_differentShades 42 = .ok (.bipush 50, 2) := by decide +kernel
theorem dX6_differentShades_44 : decode cX6_differentShades 44 = .ok (.isub, 1) := by decide +kernel
theorem dX6_differentShades_45 : decode cX6_differentShades 45 = .ok (.lshl, 1) := by decide +kernel
theorem dX6_differentShades_46 : decode cX6_differentShades 46 = .ok (.lor, 1) := by decide +kernel
theorem dX6_differentShades_47 : decode cX6_differentShades 47 = .ok (.lstore_n 3, 1) := by decide +kernel
theorem dX6_differentShades_48 : decode cX6_differentShades 48 = .ok (.iinc 5 1, 3) := by decide +kernel
theorem dX6_differentShades_51 : decode cX6_differentShades 51 = .ok (.goto (-44), 3) := by decide +kernel
theorem dX6_differentShades_54 : decode cX6_differentShades 54 = .ok (.lload_n 1, 1) := by decide +kernel
theorem dX6_differentShades_55 : decode cX6_differentShades 55 = .ok (.invokestatic 268, 3) := by decide +kernel
theorem dX6_differentShades_58 : decode cX6_differentShades 58 = .ok (.lload_n 3, 1) := by decide +kernel
theorem dX6_differentShades_59 : decode cX6_differentShades 59 = .ok (.invokestatic 268, 3) := by decide +kernel
theorem dX6_differentShades_62 : decode cX6_differentShades 62 = .ok (.iadd, 1) := by decide +kernel
theorem dX6_differentShades_63 : decode cX6_differentShades 63 = .ok (.ireturn, 1) := by decide +kernel
theorem dX6_isCell_0 : decode cX6_isCell 0 = .ok (.iload_n 0, 1) := by decide +kernel
theorem dX6_isCell_1 : decode cX6_isCell 1 = .ok (.ifCond .lt 23, 3) := by decide +kernel
theorem dX6_isCell_4 : decode cX6_isCell 4 = .ok (.iload_n 0, 1) := by decide +kernel
theorem dX6_isCell_5 : decode cX6_isCell 5 = .ok (.bipush 16, 2) := by decide +kernel
theorem dX6_isCell_7 : decode cX6_isCell 7 = .ok (.if_icmp .ge 17, 3) := by decide +kernel
theorem dX6_isCell_10 : decode cX6_isCell 10 = .ok (.iload_n 1, 1) := by decide +kernel
theorem dX6_isCell_11 : decode cX6_isCell 11 = .ok (.ifCond .lt 13, 3) := by decide +kernel
theorem dX6_isCell_14 : decode cX6_isCell 14 = .ok (.iload_n 1, 1) := by decide +kernel
theorem dX6_isCell_15 : decode cX6_isCell 15 = .ok (.bipush 10, 2) := by decide +kernel
theorem dX6_isCell_17 : decode cX6_isCell 17 = .ok (.if_icmp .ge 7, 3) := by decide +kernel
theorem dX6_isCell_20 : decode cX6_isCell 20 = .ok (.iconst 1, 1) := by decide +kernel
theorem dX6_isCell_21 : decode cX6_isCell 21 = .ok (.goto 4, 3) := by decide +kernel
theorem dX6_isCell_24 : decode cX6_isCell 24 = .ok (.iconst 0, 1) := by decide +kernel
theorem dX6_isCell_25 : decode cX6_isCell 25 = .ok (.ireturn, 1) := by decide +kernel
theorem dX6_cellAt_0 : decode cX6_cellAt 0 = .ok (.iload_n 1, 1) := by decide +kernel
theorem dX6_cellAt_1 : decode cX6_cellAt 1 = .ok (.bipush 16, 2) := by decide +kernel
theorem dX6_cellAt_3 : decode cX6_cellAt 3 = .ok (.imul, 1) := by decide +kernel
theorem dX6_cellAt_4 : decode cX6_cellAt 4 = .ok (.iload_n 0, 1) := by decide +kernel
theorem dX6_cellAt_5 : decode cX6_cellAt 5 = .ok (.iadd, 1) := by decide +kernel
theorem dX6_cellAt_6 : decode cX6_cellAt 6 = .ok (.ireturn, 1) := by decide +kernel
theorem dX6_neighbor_0 : decode cX6_neighbor 0 = .ok (.iload_n 0, 1) := by decide +kernel
theorem dX6_neighbor_1 : decode cX6_neighbor 1 = .ok (.bipush 16, 2) := by decide +kernel
theorem dX6_neighbor_3 : decode cX6_neighbor 3 = .ok (.irem, 1) := by decide +kernel
theorem dX6_neighbor_4 : decode cX6_neighbor 4 = .ok (.iload_n 1, 1) := by decide +kernel
theorem dX6_neighbor_5 : decode cX6_neighbor 5 = .ok (.ifCond .ne 7, 3) := by decide +kernel
theorem dX6_neighbor_8 : decode cX6_neighbor 8 = .ok (.iconst (-1), 1) := by decide +kernel
theorem dX6_neighbor_9 : decode cX6_neighbor 9 = .ok (.goto 13, 3) := by decide +kernel
theorem dX6_neighbor_12 : decode cX6_neighbor 12 = .ok (.iload_n 1, 1) := by decide +kernel
theorem dX6_neighbor_13 : decode cX6_neighbor 13 = .ok (.iconst 1, 1) := by decide +kernel
theorem dX6_neighbor_14 : decode cX6_neighbor 14 = .ok (.if_icmp .ne 7, 3) := by decide +kernel
theorem dX6_neighbor_17 : decode cX6_neighbor 17 = .ok (.iconst 1, 1) := by decide +kernel
theorem dX6_neighbor_18 : decode cX6_neighbor 18 = .ok (.goto 4, 3) := by decide +kernel
theorem dX6_neighbor_21 : decode cX6_neighbor 21 = .ok (.iconst 0, 1) := by decide +kernel
theorem dX6_neighbor_22 : decode cX6_neighbor 22 = .ok (.iadd, 1) := by decide +kernel
theorem dX6_neighbor_23 : decode cX6_neighbor 23 = .ok (.istore_n 2, 1) := by decide +kernel
theorem dX6_neighbor_24 : decode cX6_neighbor 24 = .ok (.iload_n 0, 1) := by decide +kernel
theorem dX6_neighbor_25 : decode cX6_neighbor 25 = .ok (.bipush 16, 2) := by decide +kernel
theorem dX6_neighbor_27 : decode cX6_neighbor 27 = .ok (.idiv, 1) := by decide +kernel
theorem dX6_neighbor_28 : decode cX6_neighbor 28 = .ok (.iload_n 1, 1) := by decide +kernel
theorem dX6_neighbor_29 : decode cX6_neighbor 29 = .ok (.iconst 2, 1) := by decide +kernel
theorem dX6_neighbor_30 : decode cX6_neighbor 30 = .ok (.if_icmp .ne 7, 3) := by decide +kernel
theorem dX6_neighbor_33 : decode cX6_neighbor 33 = .ok (.iconst (-1), 1) := by decide +kernel
theorem dX6_neighbor_34 : decode cX6_neighbor 34 = .ok (.goto 13, 3) := by decide +kernel
theorem dX6_neighbor_37 : decode cX6_neighbor 37 = .ok (.iload_n 1, 1) := by decide +kernel
theorem dX6_neighbor_38 : decode cX6_neighbor 38 = .ok (.iconst 3, 1) := by decide +kernel
theorem dX6_neighbor_39 : decode cX6_neighbor 39 = .ok (.if_icmp .ne 7, 3) := by decide +kernel
theorem dX6_neighbor_42 : decode cX6_neighbor 42 = .ok (.iconst 1, 1) := by decide +kernel
theorem dX6_neighbor_43 : decode cX6_neighbor 43 = .ok (.goto 4, 3) := by decide +kernel
theorem dX6_neighbor_46 : decode cX6_neighbor 46 = .ok (.iconst 0, 1) := by decide +kernel
theorem dX6_neighbor_47 : decode cX6_neighbor 47 = .ok (.iadd, 1) := by decide +kernel
theorem dX6_neighbor_48 : decode cX6_neighbor 48 = .ok (.istore_n 3, 1) := by decide +kernel
theorem dX6_neighbor_49 : decode cX6_neighbor 49 = .ok (.iload_n 2, 1) := by decide +kernel
theorem dX6_neighbor_50 : decode cX6_neighbor 50 = .ok (.iload_n 3, 1) := by decide +kernel
theorem dX6_neighbor_51 : decode cX6_neighbor 51 = .ok (.invokestatic 274, 3) := by decide +kernel
theorem dX6_neighbor_54 : decode cX6_neighbor 54 = .ok (.ifCond .eq 11, 3) := by decide +kernel
theorem dX6_neighbor_57 : decode cX6_neighbor 57 = .ok (.iload_n 2, 1) := by decide +kernel
theorem dX6_neighbor_58 : decode cX6_neighbor 58 = .ok (.iload_n 3, 1) := by decide +kernel
theorem dX6_neighbor_59 : decode cX6_neighbor 59 = .ok (.invokestatic 77, 3) := by decide +kernel
theorem dX6_neighbor_62 : decode cX6_neighbor 62 = .ok (.goto 4, 3) := by decide +kernel
theorem dX6_neighbor_65 : decode cX6_neighbor 65 = .ok (.iconst (-1), 1) := by decide +kernel
theorem dX6_neighbor_66 : decode cX6_neighbor 66 = .ok (.ireturn, 1) := by decide +kernel
theorem dX6_needCell_0 : decode cX6_needCell 0 = .ok (.iload_n 0, 1) := by decide +kernel
theorem dX6_needCell_1 : decode cX6_needCell 1 = .ok (.iload_n 1, 1) := by decide +kernel
theorem dX6_needCell_2 : decode cX6_needCell 2 = .ok (.invokestatic 274, 3) := by decide +kernel
theorem dX6_needCell_5 : decode cX6_needCell 5 = .ok (.ifCond .ne 14, 3) := by decide +kernel
theorem dX6_needCell_8 : decode cX6_needCell 8 = .ok (.new 278, 3) := by decide +kernel
theorem dX6_needCell_11 : decode cX6_needCell 11 = .ok (.dup, 1) := by decide +kernel
theorem dX6_needCell_12 : decode cX6_needCell 12 = .ok (.ldc_w 280, 3) := by decide +kernel
theorem dX6_needCell_15 : decode cX6_needCell 15 = .ok (.invokespecial 282, 3) := by decide +kernel
theorem dX6_needCell_18 : decode cX6_needCell 18 = .ok (.athrow, 1) := by decide +kernel
theorem dX6_needCell_19 : decode cX6_needCell 19 = .ok (.return_, 1) := by decide +kernel
theorem dX6_needPick_0 : decode cX6_needPick 0 = .ok (.iload_n 1, 1) := by decide +kernel
theorem dX6_needPick_1 : decode cX6_needPick 1 = .ok (.ifCond .lt 20, 3) := by decide +kernel
theorem dX6_needPick_4 : decode cX6_needPick 4 = .ok (.iload_n 1, 1) := by decide +kernel
theorem dX6_needPick_5 : decode cX6_needPick 5 = .ok (.aload_n 0, 1) := by decide +kernel
theorem dX6_needPick_6 : decode cX6_needPick 6 = .ok (.getfield 24, 3) := by decide +kernel
theorem dX6_needPick_9 : decode cX6_needPick 9 = .ok (.getfield 93, 3) := by decide +kernel
theorem dX6_needPick_12 : decode cX6_needPick 12 = .ok (.if_icmp .ge 9, 3) := by decide +kernel
theorem dX6_needPick_15 : decode cX6_needPick 15 = .ok (.iload_n 1, 1) := by decide +kernel
theorem dX6_needPick_16 : decode cX6_needPick 16 = .ok (.bipush 12, 2) := by decide +kernel
theorem dX6_needPick_18 : decode cX6_needPick 18 = .ok (.if_icmp .lt 14, 3) := by decide +kernel
theorem dX6_needPick_21 : decode cX6_needPick 21 = .ok (.new 278, 3) := by decide +kernel
theorem dX6_needPick_24 : decode cX6_needPick 24 = .ok (.dup, 1) := by decide +kernel
theorem dX6_needPick_25 : decode cX6_needPick 25 = .ok (.ldc_w 283, 3) := by decide +kernel
theorem dX6_needPick_28 : decode cX6_needPick 28 = .ok (.invokespecial 282, 3) := by decide +kernel
theorem dX6_needPick_31 : decode cX6_needPick 31 = .ok (.athrow, 1) := by decide +kernel
theorem dX6_needPick_32 : decode cX6_needPick 32 = .ok (.return_, 1) := by decide +kernel
theorem dX6_needRange_0 : decode cX6_needRange 0 = .ok (.iload_n 0, 1) := by decide +kernel
theorem dX6_needRange_1 : decode cX6_needRange 1 = .ok (.iload_n 1, 1) := by decide +kernel
theorem dX6_needRange_2 : decode cX6_needRange 2 = .ok (.if_icmp .lt 8, 3) := by decide +kernel
theorem dX6_needRange_5 : decode cX6_needRange 5 = .ok (.iload_n 0, 1) := by decide +kernel
theorem dX6_needRange_6 : decode cX6_needRange 6 = .ok (.iload_n 2, 1) := by decide +kernel
theorem dX6_needRange_7 : decode cX6_needRange 7 = .ok (.if_icmp .le 14, 3) := by decide +kernel
theorem dX6_needRange_10 : decode cX6_needRange 10 = .ok (.new 163, 3) := by decide +kernel
theorem dX6_needRange_13 : decode cX6_needRange 13 = .ok (.dup, 1) := by decide +kernel
theorem dX6_needRange_14 : decode cX6_needRange 14 = .ok (.ldc_w 285, 3) := by decide +kernel
theorem dX6_needRange_17 : decode cX6_needRange 17 = .ok (.invokespecial 167, 3) := by decide +kernel
theorem dX6_needRange_20 : decode cX6_needRange 20 = .ok (.athrow, 1) := by decide +kernel
theorem dX6_needRange_21 : decode cX6_needRange 21 = .ok (.return_, 1) := by decide +kernel
theorem dX6_needSearch_0 : decode cX6_needSearch 0 = .ok (.iload_n 0, 1) := by decide +kernel
theorem dX6_needSearch_1 : decode cX6_needSearch 1 = .ok (.iconst 0, 1) := by decide +kernel
theorem dX6_needSearch_2 : decode cX6_needSearch 2 = .ok (.bipush 99, 2) := by decide +kernel
theorem dX6_needSearch_4 : decode cX6_needSearch 4 = .ok (.invokestatic 60, 3) := by decide +kernel
theorem dX6_needSearch_7 : decode cX6_needSearch 7 = .ok (.iload_n 1, 1) := by decide +kernel
theorem dX6_needSearch_8 : decode cX6_needSearch 8 = .ok (.iconst 0, 1) := by decide +kernel
theorem dX6_needSearch_9 : decode cX6_needSearch 9 = .ok (.iconst 1, 1) := by decide +kernel
theorem dX6_needSearch_10 : decode cX6_needSearch 10 = .ok (.invokestatic 60, 3) := by decide +kernel
theorem dX6_needSearch_13 : decode cX6_needSearch 13 = .ok (.iload_n 2, 1) := by decide +kernel
theorem dX6_needSearch_14 : decode cX6_needSearch 14 = .ok (.iconst 0, 1) := by decide +kernel
theorem dX6_needSearch_15 : decode cX6_needSearch 15 = .ok (.iconst 5, 1) := by decide +kernel
theorem dX6_needSearch_16 : decode cX6_needSearch 16 = .ok (.invokestatic 60, 3) := by decide +kernel
theorem dX6_needSearch_19 : decode cX6_needSearch 19 = .ok (.return_, 1) := by decide +kernel
theorem dX7_init_0 : decode cX7_init 0 = .ok (.aload_n 0, 1) := by decide +kernel
theorem dX7_init_1 : decode cX7_init 1 = .ok (.invokespecial 1, 3) := by decide +kernel
theorem dX7_init_4 : decode cX7_init 4 = .ok (.aload_n 0, 1) := by decide +kernel
theorem dX7_init_5 : decode cX7_init 5 = .ok (.sipush 2189, 3) := by decide +kernel
theorem dX7_init_8 : decode cX7_init 8 = .ok (.newarray .int, 2) := by decide +kernel
theorem dX7_init_10 : decode cX7_init 10 = .ok (.putfield 7, 3) := by decide +kernel
theorem dX7_init_13 : decode cX7_init 13 = .ok (.aload_n 0, 1) := by decide +kernel
theorem dX7_init_14 : decode cX7_init 14 = .ok (.sipush 13134, 3) := by decide +kernel
theorem dX7_init_17 : decode cX7_init 17 = .ok (.newarray .int, 2) := by decide +kernel
theorem dX7_init_19 : decode cX7_init 19 = .ok (.putfield 13, 3) := by decide +kernel
theorem dX7_init_22 : decode cX7_init 22 = .ok (.aload_n 0, 1) := by decide +kernel
theorem dX7_init_23 : decode cX7_init 23 = .ok (.bipush 60, 2) := by decide +kernel
theorem dX7_init_25 : decode cX7_init 25 = .ok (.newarray .int, 2) := by decide +kernel
theorem dX7_init_27 : decode cX7_init 27 = .ok (.putfield 16, 3) := by decide +kernel
theorem dX7_init_30 : decode cX7_init 30 = .ok (.aload_n 0, 1) := by decide +kernel
theorem dX7_init_31 : decode cX7_init 31 = .ok (.sipush 160, 3) := by decide +kernel
theorem dX7_init_34 : decode cX7_init 34 = .ok (.newarray .boolean, 2) := by decide +kernel
theorem dX7_init_36 : decode cX7_init 36 = .ok (.putfield 19, 3) := by decide +kernel
theorem dX7_init_39 : decode cX7_init 39 = .ok (.aload_n 0, 1) := by decide +kernel
theorem dX7_init_40 : decode cX7_init 40 = .ok (.sipush 160, 3) := by decide +kernel
theorem dX7_init_43 : decode cX7_init 43 = .ok (.newarray .boolean, 2) := by decide +kernel
theorem dX7_init_45 : decode cX7_init 45 = .ok (.putfield 23, 3) := by decide +kernel
theorem dX7_init_48 : decode cX7_init 48 = .ok (.aload_n 0, 1) := by decide +kernel
theorem dX7_init_49 : decode cX7_init 49 = .ok (.sipush 160, 3) := by decide +kernel
theorem dX7_init_52 : decode cX7_init 52 = .ok (.newarray .int, 2) := by decide +kernel
theorem dX7_init_54 : decode cX7_init 54 = .ok (.putfield 26, 3) := by decide +kernel
theorem dX7_init_57 : decode cX7_init 57 = .ok (.aload_n 0, 1) := by decide +kernel
theorem dX7_init_58 : decode cX7_init 58 = .ok (.sipush 160, 3) := by decide +kernel
theorem dX7_init_61 : decode cX7_init 61 = .ok (.newarray .boolean, 2) := by decide +kernel
theorem dX7_init_63 : decode cX7_init 63 = .ok (.putfield 29, 3) := by decide +kernel
theorem dX7_init_66 : decode cX7_init 66 = .ok (.aload_n 0, 1) := by decide +kernel
theorem dX7_init_67 : decode cX7_init 67 = .ok (.sipush 160, 3) := by decide +kernel
theorem dX7_init_70 : decode cX7_init 70 = .ok (.newarray .int, 2) := by decide +kernel
theorem dX7_init_72 : decode cX7_init 72 = .ok (.putfield 32, 3) := by decide +kernel
theorem dX7_init_75 : decode cX7_init 75 = .ok (.aload_n 0, 1) := by decide +kernel
theorem dX7_init_76 : decode cX7_init 76 = .ok (.sipush 160, 3) := by decide +kernel
theorem dX7_init_79 : decode cX7_init 79 = .ok (.newarray .int, 2) := by decide +kernel
theorem dX7_init_81 : decode cX7_init 81 = .ok (.putfield 35, 3) := by decide +kernel
theorem dX7_init_84 : decode cX7_init 84 = .ok (.iconst 0, 1) := by decide +kernel
theorem dX7_init_85 : decode cX7_init 85 = .ok (.istore_n 1, 1) := by decide +kernel
theorem dX7_init_86 : decode cX7_init 86 = .ok (.iload_n 1, 1) := by decide +kernel
theorem dX7_init_87 : decode cX7_init 87 = .ok (.sipush 160, 3) := by decide +kernel
theorem dX7_init_90 : decode cX7_init 90 = .ok (.if_icmp .ge 17, 3) := by decide +kernel
theorem dX7_init_93 : decode cX7_init 93 = .ok (.aload_n 0, 1) := by decide +kernel
theorem dX7_init_94 : decode cX7_init 94 = .ok (.getfield 7, 3) := by decide +kernel
theorem dX7_init_97 : decode cX7_init 97 = .ok (.iload_n 1, 1) := by decide +kernel
theorem dX7_init_98 : decode cX7_init 98 = .ok (.bipush 50, 2) := by decide +kernel
theorem dX7_init_100 : decode cX7_init 100 = .ok (.iastore, 1) := by decide +kernel
theorem dX7_init_101 : decode cX7_init 101 = .ok (.iinc 1 1, 3) := by decide +kernel
theorem dX7_init_104 : decode cX7_init 104 = .ok (.goto (-18), 3) := by decide +kernel
theorem dX7_init_107 : decode cX7_init 107 = .ok (.return_, 1) := by decide +kernel
theorem dX7_thrown_0 : decode cX7_thrown 0 = .ok (.aload_n 0, 1) := by decide +kernel
theorem dX7_thrown_1 : decode cX7_thrown 1 = .ok (.getfield 38, 3) := by decide +kernel
theorem dX7_thrown_4 : decode cX7_thrown 4 = .ok (.ireturn, 1) := by decide +kernel
theorem dX7_within_0 : decode cX7_within 0 = .ok (.iload_n 0, 1) := by decide +kernel
theorem dX7_within_1 : decode cX7_within 1 = .ok (.iload_n 1, 1) := by decide +kernel
theorem dX7_within_2 : decode cX7_within 2 = .ok (.if_icmp .lt 12, 3) := by decide +kernel
theorem dX7_within_5 : decode cX7_within 5 = .ok (.iload_n 0, 1) := by decide +kernel
theorem dX7_within_6 : decode cX7_within 6 = .ok (.iload_n 2, 1) := by decide +kernel
theorem dX7_within_7 : decode cX7_within 7 = .ok (.if_icmp .gt 7, 3) := by decide +kernel
theorem dX7_within_10 : decode cX7_within 10 = .ok (.iconst 1, 1) := by decide +kernel
theorem dX7_within_11 : decode cX7_within 11 = .ok (.goto 4, 3) := by decide +kernel
theorem dX7_within_14 : decode cX7_within 14 = .ok (.iconst 0, 1) := by decide +kernel
theorem dX7_within_15 : decode cX7_within 15 = .ok (.ireturn, 1) := by decide +kernel
theorem dX7_size_0 : decode cX7_size 0 = .ok (.iload_n 0, 1) := by decide +kernel
theorem dX7_size_1 : decode cX7_size 1 = .ok (.ifCond .ge 8, 3) := by decide +kernel
theorem dX7_size_4 : decode cX7_size 4 = .ok (.iload_n 0, 1) := by decide +kernel
theorem dX7_size_5 : decode cX7_size 5 = .ok (.ineg, 1) := by decide +kernel
theorem dX7_size_6 : decode cX7_size 6 = .ok (.goto 4, 3) := by decide +kernel
theorem dX7_size_9 : decode cX7_size 9 = .ok (.iload_n 0, 1) := by decide +kernel
theorem dX7_size_10 : decode cX7_size 10 = .ok (.ireturn, 1) := by decide +kernel
theorem dX7_isCell_0 : decode cX7_isCell 0 = .ok (.iload_n 0, 1) := by decide +kernel
theorem dX7_isCell_1 : decode cX7_isCell 1 = .ok (.iconst 0, 1) := by decide +kernel
theorem dX7_isCell_2 : decode cX7_isCell 2 = .ok (.bipush 15, 2) := by decide +kernel
theorem dX7_isCell_4 : decode cX7_isCell 4 = .ok (.invokestatic 42, 3) := by decide +kernel
theorem dX7_isCell_7 : decode cX7_isCell 7 = .ok (.ifCond .eq 17, 3) := by decide +kernel
theorem dX7_isCell_10 : decode cX7_isCell 10 = .ok (.iload_n 1, 1) := by decide +kernel
theorem dX7_isCell_11 : decode cX7_isCell 11 = .ok (.iconst 0, 1) := by decide +kernel
theorem dX7_isCell_12 : decode cX7_isCell 12 = .ok (.bipush 9, 2) := by decide +kernel
theorem dX7_isCell_14 : decode cX7_isCell 14 = .ok (.invokestatic 42, 3) := by decide +kernel
theorem dX7_isCell_17 : decode cX7_isCell 17 = .ok (.ifCond .eq 7, 3) := by decide +kernel
theorem dX7_isCell_20 : decode cX7_isCell 20 = .ok (.iconst 1, 1) := by decide +kernel
theorem dX7_isCell_21 : decode cX7_isCell 21 = .ok (.goto 4, 3) := by decide +kernel
theorem dX7_isCell_24 : decode cX7_isCell 24 = .ok (.iconst 0, 1) := by decide +kernel
theorem dX7_isCell_25 : decode cX7_isCell 25 = .ok (.ireturn, 1) := by decide +kernel
theorem dX7_isPick_0 : decode cX7_isPick 0 = .ok (.iload_n 1, 1) := by decide +kernel
theorem dX7_isPick_1 : decode cX7_isPick 1 = .ok (.iconst 0, 1) := by decide +kernel
theorem dX7_isPick_2 : decode cX7_isPick 2 = .ok (.aload_n 0, 1) := by decide +kernel
theorem dX7_isPick_3 : decode cX7_isPick 3 = .ok (.getfield 7, 3) := by decide +kernel
theorem dX7_isPick_6 : decode cX7_isPick 6 = .ok (.sipush 160, 3) := by decide +kernel
theorem dX7_isPick_9 : decode cX7_isPick 9 = .ok (.iaload, 1) := by decide +kernel
theorem dX7_isPick_10 : decode cX7_isPick 10 = .ok (.iconst 1, 1) := by decide +kernel
theorem dX7_isPick_11 : decode cX7_isPick 11 = .ok (.isub, 1) := by decide +kernel
theorem dX7_isPick_12 : decode cX7_isPick 12 = .ok (.invokestatic 42, 3) := by decide +kernel
theorem dX7_isPick_15 : decode cX7_isPick 15 = .ok (.ireturn, 1) := by decide +kernel
theorem dX7_of_0 : decode cX7_of 0 = .ok (.aload_n 0, 1) := by decide +kernel
theorem dX7_of_1 : decode cX7_of 1 = .ok (.getfield 7, 3) := by decide +kernel
theorem dX7_of_4 : decode cX7_of 4 = .ok (.sipush 161, 3) := by decide +kernel
theorem dX7_of_7 : decode cX7_of 7 = .ok (.sipush 169, 3) := by decide +kernel
theorem dX7_of_10 : decode cX7_of 10 = .ok (.iload_n 1, 1) := by decide +kernel
theorem dX7_of_11 : decode cX7_of 11 = .ok (.imul, 1) := by decide +kernel
theorem dX7_of_12 : decode cX7_of 12 = .ok (.iadd, 1) := by decide +kernel
theorem dX7_of_13 : decode cX7_of 13 = .ok (.iload_n 2, 1) := by decide +kernel
theorem dX7_of_14 : decode cX7_of 14 = .ok (.iadd, 1) := by decide +kernel
theorem dX7_of_15 : decode cX7_of 15 = .ok (.iaload, 1) := by decide +kernel
theorem dX7_of_16 : decode cX7_of 16 = .ok (.ireturn, 1) := by decide +kernel
theorem dX7_levelOf_0 : decode cX7_levelOf 0 = .ok (.aload_n 0, 1) := by decide +kernel
theorem dX7_levelOf_1 : decode cX7_levelOf 1 = .ok (.iload_n 1, 1) := by decide +kernel
theorem dX7_levelOf_2 : decode cX7_levelOf 2 = .ok (.bipush 9, 2) := by decide +kernel
theorem dX7_levelOf_4 : decode cX7_levelOf 4 = .ok (.iload_n 2, 1) := by decide +kernel
theorem dX7_levelOf_5 : decode cX7_levelOf 5 = .ok (.iadd, 1) := by decide +kernel
theorem dX7_levelOf_6 : decode cX7_levelOf 6 = .ok (.invokevirtual 46, 3) := by decide +kernel
theorem dX7_levelOf_9 : decode cX7_levelOf 9 = .ok (.ireturn, 1) := by decide +kernel
theorem dX7_layAlike_0 : decode cX7_layAlike 0 = .ok (.iconst 0, 1) := by decide +kernel
theorem dX7_layAlike_1 : decode cX7_layAlike 1 = .ok (.istore 4, 2) := by decide +kernel
theorem dX7_layAlike_3 : decode cX7_layAlike 3 = .ok (.iload 4, 2) := by decide +kernel
theorem dX7_layAlike_5 : decode cX7_layAlike 5 = .ok (.sipush 160, 3) := by decide +kernel
theorem dX7_layAlike_8 : decode cX7_layAlike 8 = .ok (.if_icmp .ge 46, 3) := by decide +kernel
theorem dX7_layAlike_11 : decode cX7_layAlike 11 = .ok (.aload_n 0, 1) := by decide +kernel
theorem dX7_layAlike_12 : decode cX7_layAlike 12 = .ok (.getfield 19, 3) := by decide +kernel
theorem dX7_layAlike_15 : decode cX7_layAlike 15 = .ok (.iload 4, 2) := by decide +kernel
theorem dX7_layAlike_17 : decode cX7_layAlike 17 = .ok (.iload_n 3, 1) := by decide +kernel
theorem dX7_layAlike_18 : decode cX7_layAlike 18 = .ok (.ifCond .ne 28, 3) := by decide +kernel
theorem dX7_layAlike_21 : decode cX7_layAlike 21 = .ok (.aload_n 0, 1) := by decide +kernel
theorem dX7_layAlike_22 : decode cX7_layAlike 22 = .ok (.getfield 7, 3) := by decide +kernel
theorem dX7_layAlike_25 : decode cX7_layAlike 25 = .ok (.iload 4, 2) := by decide +kernel
theorem dX7_layAlike_27 : decode cX7_layAlike 27 = .ok (.iaload, 1) := by decide +kernel
theorem dX7_layAlike_28 : decode cX7_layAlike 28 = .ok (.aload_n 0, 1) := by decide +kernel
theorem dX7_layAlike_29 : decode cX7_layAlike 29 = .ok (.getfield 7, 3) := by decide +kernel
theorem dX7_layAlike_32 : decode cX7_layAlike 32 = .ok (.iload_n 1, 1) := by decide +kernel
theorem dX7_layAlike_33 : decode cX7_layAlike 33 = .ok (.iaload, 1) := by decide +kernel
theorem dX7_layAlike_34 : decode cX7_layAlike 34 = .ok (.isub, 1) := by decide +kernel
theorem dX7_layAlike_35 : decode cX7_layAlike 35 = .ok (.invokestatic 50, 3) := by decide +kernel
theorem dX7_layAlike_38 : decode cX7_layAlike 38 = .ok (.iload_n 2, 1) := by decide +kernel
theorem dX7_layAlike_39 : decode cX7_layAlike 39 = .ok (.if_icmp .gt 7, 3) := by decide +kernel
theorem dX7_layAlike_42 : decode cX7_layAlike 42 = .ok (.iconst 1, 1) := by decide +kernel
theorem dX7_layAlike_43 : decode cX7_layAlike 43 = .ok (.goto 4, 3) := by decide +kernel
theorem dX7_layAlike_46 : decode cX7_layAlike 46 = .ok (.iconst 0, 1) := by decide +kernel
theorem dX7_layAlike_47 : decode cX7_layAlike 47 = .ok (.bastore, 1) := by decide +kernel
theorem dX7_layAlike_48 : decode cX7_layAlike 48 = .ok (.iinc 4 1, 3) := by decide +kernel
theorem dX7_layAlike_51 : decode cX7_layAlike 51 = .ok (.goto (-48), 3) := by decide +kernel
theorem dX7_layAlike_54 : decode cX7_layAlike 54 = .ok (.iload_n 3, 1) := by decide +kernel
theorem dX7_layAlike_55 : decode cX7_layAlike 55 = .ok (.iconst 1, 1) := by decide +kernel
theorem dX7_layAlike_56 : decode cX7_layAlike 56 = .ok (.if_icmp .ne 9, 3) := by decide +kernel
theorem dX7_layAlike_59 : decode cX7_layAlike 59 = .ok (.aload_n 0, 1) := by decide +kernel
theorem dX7_layAlike_60 : decode cX7_layAlike 60 = .ok (.iload_n 1, 1) := by decide +kernel
theorem dX7_layAlike_61 : decode cX7_layAlike 61 = .ok (.iload_n 2, 1) := by decide +kernel
theorem dX7_layAlike_62 : decode cX7_layAlike 62 = .ok (.invokevirtual 54, 3) := by decide +kernel
theorem dX7_layAlike_65 : decode cX7_layAlike 65 = .ok (.return_, 1) := by decide +kernel
theorem dX7_reach_0 : decode cX7_reach 0 = .ok (.iconst 1, 1) := by decide +kernel
theorem dX7_reach_1 : decode cX7_reach 1 = .ok (.istore_n 3, 1) := by decide +kernel
theorem dX7_reach_2 : decode cX7_reach 2 = .ok (.aload_n 0, 1) := by decide +kernel
theorem dX7_reach_3 : decode cX7_reach 3 = .ok (.getfield 26, 3) := by decide +kernel
theorem dX7_reach_6 : decode cX7_reach 6 = .ok (.iconst 0, 1) := by decide +kernel
theorem dX7_reach_7 : decode cX7_reach 7 = .ok (.iload_n 1, 1) := by decide +kernel
theorem dX7_reach_8 : decode cX7_reach 8 = .ok (.iastore, 1) := by decide +kernel
theorem dX7_reach_9 : decode cX7_reach 9 = .ok (.aload_n 0, 1) := by decide +kernel
theorem dX7_reach_10 : decode cX7_reach 10 = .ok (.getfield 19, 3) := by decide +kernel
theorem dX7_reach_13 : decode cX7_reach 13 = .ok (.iload_n 1, 1) := by decide +kernel
theorem dX7_reach_14 : decode cX7_reach 14 = .ok (.iconst 1, 1) := by decide +kernel
theorem dX7_reach_15 : decode cX7_reach 15 = .ok (.bastore, 1) := by decide +kernel
theorem dX7_reach_16 : decode cX7_reach 16 = .ok (.iconst 0, 1) := by decide +kernel
theorem dX7_reach_17 : decode cX7_reach 17 = .ok (.istore 4, 2) := by decide +kernel
theorem dX7_reach_19 : decode cX7_reach 19 = .ok (.iload 4, 2) := by decide +kernel
theorem dX7_reach_21 : decode cX7_reach 21 = .ok (.iload_n 3, 1) := by decide +kernel
theorem dX7_reach_22 : decode cX7_reach 22 = .ok (.if_icmp .ge 97, 3) := by decide +kernel
theorem dX7_reach_25 : decode cX7_reach 25 = .ok (.aload_n 0, 1) := by decide +kernel
theorem dX7_reach_26 : decode cX7_reach 26 = .ok (.getfield 26, 3) := by decide +kernel
theorem dX7_reach_29 : decode cX7_reach 29 = .ok (.iload 4, 2) := by decide +kernel
theorem dX7_reach_31 : decode cX7_reach 31 = .ok (.iaload, 1) := by decide +kernel
theorem dX7_reach_32 : decode cX7_reach 32 = .ok (.istore 5, 2) := by decide +kernel
theorem dX7_reach_34 : decode cX7_reach 34 = .ok (.iconst 0, 1) := by decide +kernel
theorem dX7_reach_35 : decode cX7_reach 35 = .ok (.istore 6, 2) := by decide +kernel
theorem dX7_reach_37 : decode cX7_reach 37 = .ok (.iload 6, 2) := by decide +kernel
theorem dX7_reach_39 : decode cX7_reach 39 = .ok (.sipush 160, 3) := by decide +kernel
theorem dX7_reach_42 : decode cX7_reach 42 = .ok (.if_icmp .ge 71, 3) := by decide +kernel
theorem dX7_reach_45 : decode cX7_reach 45 = .ok (.aload_n 0, 1) := by decide +kernel
theorem dX7_reach_46 : decode cX7_reach 46 = .ok (.getfield 19, 3) := by decide +kernel
theorem dX7_reach_49 : decode cX7_reach 49 = .ok (.iload 6, 2) := by decide +kernel
theorem dX7_reach_51 : decode cX7_reach 51 = .ok (.baload, 1) := by decide +kernel
theorem dX7_reach_52 : decode cX7_reach 52 = .ok (.ifCond .ne 55, 3) := by decide +kernel
theorem dX7_reach_55 : decode cX7_reach 55 = .ok (.iload 5, 2) := by decide +kernel
theorem dX7_reach_57 : decode cX7_reach 57 = .ok (.iload 6, 2) := by decide +kernel
theorem dX7_reach_59 : decode cX7_reach 59 = .ok (.invokestatic 58, 3) := by decide +kernel
theorem dX7_reach_62 : decode cX7_reach 62 = .ok (.iconst 1, 1) := by decide +kernel
theorem dX7_reach_63 : decode cX7_reach 63 = .ok (.if_icmp .ne 44, 3) := by decide +kernel
theorem dX7_reach_66 : decode cX7_reach 66 = .ok (.aload_n 0, 1) := by decide +kernel
theorem dX7_reach_67 : decode cX7_reach 67 = .ok (.getfield 7, 3) := by decide +kernel
theorem dX7_reach_70 : decode cX7_reach 70 = .ok (.iload 5, 2) := by decide +kernel
theorem dX7_reach_72 : decode cX7_reach 72 = .ok (.iaload, 1) := by decide +kernel
theorem dX7_reach_73 : decode cX7_reach 73 = .ok (.aload_n 0, 1) := by decide +kernel
theorem dX7_reach_74 : decode cX7_reach 74 = .ok (.getfield 7, 3) := by decide +kernel
theorem dX7_reach_77 : decode cX7_reach 77 = .ok (.iload 6, 2) := by decide +kernel
theorem dX7_reach_79 : decode cX7_reach 79 = .ok (.iaload, 1) := by decide +kernel
theorem dX7_reach_80 : decode cX7_reach 80 = .ok (.isub, 1) := by decide +kernel
theorem dX7_reach_81 : decode cX7_reach 81 = .ok (.invokestatic 50, 3) := by decide +kernel
theorem dX7_reach_84 : decode cX7_reach 84 = .ok (.iload_n 2, 1) := by decide +kernel
theorem dX7_reach_85 : decode cX7_reach 85 = .ok (.if_icmp .gt 22, 3) := by decide +kernel
theorem dX7_reach_88 : decode cX7_reach 88 = .ok (.aload_n 0, 1) := by decide +kernel
theorem dX7_reach_89 : decode cX7_reach 89 = .ok (.getfield 19, 3) := by decide +kernel
theorem dX7_reach_92 : decode cX7_reach 92 = .ok (.iload 6, 2) := by decide +kernel
theorem dX7_reach_94 : decode cX7_reach 94 = .ok (.iconst 1, 1) := by decide +kernel
theorem dX7_reach_95 : decode cX7_reach 95 = .ok (.bastore, 1) := by decide +kernel
theorem dX7_reach_96 : decode cX7_reach 96 = .ok (.aload_n 0, 1) := by decide +kernel
theorem dX7_reach_97 : decode cX7_reach 97 = .ok (.getfield 26, 3) := by decide +kernel
theorem dX7_reach_100 : decode cX7_reach 100 = .ok (.iload_n 3, 1) := by decide +kernel
theorem dX7_reach_101 : decode cX7_reach 101 = .ok (.iload 6, 2) := by decide +kernel
theorem dX7_reach_103 : decode cX7_reach 103 = .ok (.iastore, 1) := by decide +kernel
theorem dX7_reach_104 : decode cX7_reach 104 = .ok (.iinc 3 1, 3) := by decide +kernel
theorem dX7_reach_107 : decode cX7_reach 107 = .ok (.iinc 6 1, 3) := by decide +kernel
theorem dX7_reach_110 : decode cX7_reach 110 = .ok (.goto (-73), 3) := by decide +kernel
theorem dX7_reach_113 : decode cX7_reach 113 = .ok (.iinc 4 1, 3) := by decide +kernel
theorem dX7_reach_116 : decode cX7_reach 116 = .ok (.goto (-97), 3) := by decide +kernel
theorem dX7_reach_119 : decode cX7_reach 119 = .ok (.return_, 1) := by decide +kernel
theorem dX7_steps_0 : decode cX7_steps 0 = .ok (.iload_n 0, 1) := by decide +kernel
theorem dX7_steps_1 : decode cX7_steps 1 = .ok (.bipush 16, 2) := by decide +kernel
theorem dX7_steps_3 : decode cX7_steps 3 = .ok (.irem, 1) := by decide +kernel
theorem dX7_steps_4 : decode cX7_steps 4 = .ok (.iload_n 1, 1) := by decide +kernel
theorem dX7_steps_5 : decode cX7_steps 5 = .ok (.bipush 16, 2) := by decide +kernel
theorem dX7_steps_7 : decode cX7_steps 7 = .ok (.irem, 1) := by decide +kernel
theorem dX7_steps_8 : decode cX7_steps 8 = .ok (.isub, 1) := by decide +kernel
theorem dX7_steps_9 : decode cX7_steps 9 = .ok (.invokestatic 50, 3) := by decide +kernel
theorem dX7_steps_12 : decode cX7_steps 12 = .ok (.iload_n 0, 1) := by decide +kernel
theorem dX7_steps_13 : decode cX7_steps 13 = .ok (.bipush 16, 2) := by decide +kernel
theorem dX7_steps_15 : decode cX7_steps 15 = .ok (.idiv, 1) := by decide +kernel
theorem dX7_steps_16 : decode cX7_steps 16 = .ok (.iload_n 1, 1) := by decide +kernel
theorem dX7_steps_17 : decode cX7_steps 17 = .ok (.bipush 16, 2) := by decide +kernel
theorem dX7_steps_19 : decode cX7_steps 19 = .ok (.idiv, 1) := by decide +kernel
theorem dX7_steps_20 : decode cX7_steps 20 = .ok (.isub, 1) := by decide +kernel
theorem dX7_steps_21 : decode cX7_steps 21 = .ok (.invokestatic 50, 3) := by decide +kernel
theorem dX7_steps_24 : decode cX7_steps 24 = .ok (.iadd, 1) := by decide +kernel
theorem dX7_steps_25 : decode cX7_steps 25 = .ok (.ireturn, 1) := by decide +kernel
theorem dX7_far_0 : decode cX7_far 0 = .ok (.iload_n 0, 1) := by decide +kernel
theorem dX7_far_1 : decode cX7_far 1 = .ok (.bipush 16, 2) := by decide +kernel
theorem dX7_far_3 : decode cX7_far 3 = .ok (.irem, 1) := by decide +kernel
theorem dX7_far_4 : decode cX7_far 4 = .ok (.iload_n 1, 1) := by decide +kernel
theorem dX7_far_5 : decode cX7_far 5 = .ok (.bipush 16, 2) := by decide +kernel
theorem dX7_far_7 : decode cX7_far 7 = .ok (.irem, 1) := by decide +kernel
theorem dX7_far_8 : decode cX7_far 8 = .ok (.isub, 1) := by decide +kernel
theorem dX7_far_9 : decode cX7_far 9 = .ok (.invokestatic 50, 3) := by decide +kernel
theorem dX7_far_12 : decode cX7_far 12 = .ok (.istore_n 2, 1) := by decide +kernel
theorem dX7_far_13 : decode cX7_far 13 = .ok (.iload_n 0, 1) := by decide +kernel
theorem dX7_far_14 : decode cX7_far 14 = .ok (.bipush 16, 2) := by decide +kernel
theorem dX7_far_16 : decode cX7_far 16 = .ok (.idiv, 1) := by decide +kernel
theorem dX7_far_17 : decode cX7_far 17 = .ok (.iload_n 1, 1) := by decide +kernel
theorem dX7_far_18 : decode cX7_far 18 = .ok (.bipush 16, 2) := by decide +kernel
theorem dX7_far_20 : decode cX7_far 20 = .ok (.idiv, 1) := by decide +kernel
theorem dX7_far_21 : decode cX7_far 21 = .ok (.isub, 1) := by decide +kernel
theorem dX7_far_22 : decode cX7_far 22 = .ok (.invokestatic 50, 3) := by decide +kernel
theorem dX7_far_25 : decode cX7_far 25 = .ok (.istore_n 3, 1) := by decide +kernel
theorem dX7_far_26 : decode cX7_far 26 = .ok (.iload_n 2, 1) := by decide +kernel
theorem dX7_far_27 : decode cX7_far 27 = .ok (.iload_n 3, 1) := by decide +kernel
theorem dX7_far_28 : decode cX7_far 28 = .ok (.if_icmp .le 7, 3) := by decide +kernel
theorem dX7_far_31 : decode cX7_far 31 = .ok (.iload_n 2, 1) := by decide +kernel
theorem dX7_far_32 : decode cX7_far 32 = .ok (.goto 4, 3) := by decide +kernel
theorem dX7_far_35 : decode cX7_far 35 = .ok (.iload_n 3, 1) := by decide +kernel
theorem dX7_far_36 : decode cX7_far 36 = .ok (.ireturn, 1) := by decide +kernel
theorem dX7_hasSquare_0 : decode cX7_hasSquare 0 = .ok (.iload_n 1, 1) := by decide +kernel
theorem dX7_hasSquare_1 : decode cX7_hasSquare 1 = .ok (.bipush 16, 2) := by decide +kernel
theorem dX7_hasSquare_3 : decode cX7_hasSquare 3 = .ok (.irem, 1) := by decide +kernel
theorem dX7_hasSquare_4 : decode cX7_hasSquare 4 = .ok (.istore_n 3, 1) := by decide +kernel
theorem dX7_hasSquare_5 : decode cX7_hasSquare 5 = .ok (.iload_n 1, 1) := by decide +kernel
theorem dX7_hasSquare_6 : decode cX7_hasSquare 6 = .ok (.bipush 16, 2) := by decide +kernel
theorem dX7_hasSquare_8 : decode cX7_hasSquare 8 = .ok (.idiv, 1) := by decide +kernel
theorem dX7_hasSquare_9 : decode cX7_hasSquare 9 = .ok (.istore 4, 2) := by decide +kernel
theorem dX7_hasSquare_11 : decode cX7_hasSquare 11 = .ok (.iload_n 3, 1) := by decide +kernel
theorem dX7_hasSquare_12 : decode cX7_hasSquare 12 = .ok (.iload_n 2, 1) := by decide +kernel
theorem dX7_hasSquare_13 : decode cX7_hasSquare 13 = .ok (.iadd, 1) := by decide +kernel
theorem dX7_hasSquare_14 : decode cX7_hasSquare 14 = .ok (.bipush 16, 2) := by decide +kernel
theorem dX7_hasSquare_16 : decode cX7_hasSquare 16 = .ok (.if_icmp .ge 16, 3) := by decide +kernel
theorem dX7_hasSquare_19 : decode cX7_hasSquare 19 = .ok (.iload 4, 2) := by decide +kernel
theorem dX7_hasSquare_21 : decode cX7_hasSquare 21 = .ok (.iload_n 2, 1) := by decide +kernel
theorem dX7_hasSquare_22 : decode cX7_hasSquare 22 = .ok (.iadd, 1) := by decide +kernel
theorem dX7_hasSquare_23 : decode cX7_hasSquare 23 = .ok (.bipush 10, 2) := by decide +kernel
theorem dX7_hasSquare_25 : decode cX7_hasSquare 25 = .ok (.if_icmp .ge 7, 3) := by decide +kernel
theorem dX7_hasSquare_28 : decode cX7_hasSquare 28 = .ok (.iconst 1, 1) := by decide +kernel
theorem dX7_hasSquare_29 : decode cX7_hasSquare 29 = .ok (.goto 4, 3) := by decide +kernel
theorem dX7_hasSquare_32 : decode cX7_hasSquare 32 = .ok (.iconst 0, 1) := by decide +kernel
theorem dX7_hasSquare_33 : decode cX7_hasSquare 33 = .ok (.istore 5, 2) := by decide +kernel
theorem dX7_hasSquare_35 : decode cX7_hasSquare 35 = .ok (.iconst 0, 1) := by decide +kernel
theorem dX7_hasSquare_36 : decode cX7_hasSquare 36 = .ok (.istore 6, 2) := by decide +kernel
theorem dX7_hasSquare_38 : decode cX7_hasSquare 38 = .ok (.iload 6, 2) := by decide +kernel
theorem dX7_hasSquare_40 : decode cX7_hasSquare 40 = .ok (.iload_n 2, 1) := by decide +kernel
theorem dX7_hasSquare_41 : decode cX7_hasSquare 41 = .ok (.iconst 1, 1) := by decide +kernel
theorem dX7_hasSquare_42 : decode cX7_hasSquare 42 = .ok (.iadd, 1) := by decide +kernel
theorem dX7_hasSquare_43 : decode cX7_hasSquare 43 = .ok (.iload_n 2, 1) := by decide +kernel
theorem dX7_hasSquare_44 : decode cX7_hasSquare 44 = .ok (.iconst 1, 1) := by decide +kernel
theorem dX7_hasSquare_45 : decode cX7_hasSquare 45 = .ok (.iadd, 1) := by decide +kernel
theorem dX7_hasSquare_46 : decode cX7_hasSquare 46 = .ok (.imul, 1) := by decide +kernel
theorem dX7_hasSquare_47 : decode cX7_hasSquare 47 = .ok (.if_icmp .ge 42, 3) := by decide +kernel
theorem dX7_hasSquare_50 : decode cX7_hasSquare 50 = .ok (.iload 5, 2) := by decide +kernel
theorem dX7_hasSquare_52 : decode cX7_hasSquare 52 = .ok (.ifCond .eq 37, 3) := by decide +kernel
theorem dX7_hasSquare_55 : decode cX7_hasSquare 55 = .ok (.aload_n 0, 1) := by decide +kernel
theorem dX7_hasSquare_56 : decode cX7_hasSquare 56 = .ok (.getfield 19, 3) := by decide +kernel
theorem dX7_hasSquare_59 : decode cX7_hasSquare 59 = .ok (.bipush 16, 2) := by decide +kernel
theorem dX7_hasSquare_61 : decode cX7_hasSquare 61 = .ok (.iload 4, 2) := by decide +kernel
theorem dX7_hasSquare_63 : decode cX7_hasSquare 63 = .ok (.iload 6, 2) := by decide +kernel
theorem dX7_hasSquare_65 : decode cX7_hasSquare 65 = .ok (.iload_n 2, 1) := by decide +kernel
theorem dX7_hasSquare_66 : decode cX7_hasSquare 66 = .ok (.iconst 1, 1) := by decide +kernel
theorem dX7_hasSquare_67 : decode cX7_hasSquare 67 = .ok (.iadd, 1) := by decide +kernel
theorem dX7_hasSquare_68 : decode cX7_hasSquare 68 = .ok (.idiv, 1) := by decide +kernel
theorem dX7_hasSquare_69 : decode cX7_hasSquare 69 = .ok (.iadd, 1) := by decide +kernel
theorem dX7_hasSquare_70 : decode cX7_hasSquare 70 = .ok (.imul, 1) := by decide +kernel
theorem dX7_hasSquare_71 : decode cX7_hasSquare 71 = .ok (.iload_n 3, 1) := by decide +kernel
theorem dX7_hasSquare_72 : decode cX7_hasSquare 72 = .ok (.iadd, 1) := by decide +kernel
theorem dX7_hasSquare_73 : decode cX7_hasSquare 73 = .ok (.iload 6, 2) := by decide +kernel
theorem dX7_hasSquare_75 : decode cX7_hasSquare 75 = .ok (.iload_n 2, 1) := by decide +kernel
theorem dX7_hasSquare_76 : decode cX7_hasSquare 76 = .ok (.iconst 1, 1) := by decide +kernel
theorem dX7_hasSquare_77 : decode cX7_hasSquare 77 = .ok (.iadd, 1) := by decide +kernel
theorem dX7_hasSquare_78 : decode cX7_hasSquare 78 = .ok (.irem, 1) := by decide +kernel
theorem dX7_hasSquare_79 : decode cX7_hasSquare 79 = .ok (.iadd, 1) := by decide +kernel
theorem dX7_hasSquare_80 : decode cX7_hasSquare 80 = .ok (.baload, 1) := by decide +kernel
theorem dX7_hasSquare_81 : decode cX7_hasSquare 81 = .ok (.istore 5, 2) := by decide +kernel
theorem dX7_hasSquare_83 : decode cX7_hasSquare 83 = .ok (.iinc 6 1, 3) := by decide +kernel
theorem dX7_hasSquare_86 : decode cX7_hasSquare 86 = .ok (.goto (-48), 3) := by decide +kernel
theorem dX7_hasSquare_89 : decode cX7_hasSquare 89 = .ok (.iload 5, 2) := by decide +kernel
theorem dX7_hasSquare_91 : decode cX7_hasSquare 91 = .ok (.ireturn, 1) := by decide +kernel
theorem dX7_liesIn_0 : decode cX7_liesIn 0 = .ok (.iload_n 0, 1) := by decide +kernel
theorem dX7_liesIn_1 : decode cX7_liesIn 1 = .ok (.bipush 16, 2) := by decide +kernel
theorem dX7_liesIn_3 : decode cX7_liesIn 3 = .ok (.irem, 1) := by decide +kernel
theorem dX7_liesIn_4 : decode cX7_liesIn 4 = .ok (.iload_n 1, 1) := by decide +kernel
theorem dX7_liesIn_5 : decode cX7_liesIn 5 = .ok (.bipush 16, 2) := by decide +kernel
theorem dX7_liesIn_7 : decode cX7_liesIn 7 = .ok (.irem, 1) := by decide +kernel
theorem dX7_liesIn_8 : decode cX7_liesIn 8 = .ok (.isub, 1) := by decide +kernel
theorem dX7_liesIn_9 : decode cX7_liesIn 9 = .ok (.iconst 0, 1) := by decide +kernel
theorem dX7_liesIn_10 : decode cX7_liesIn 10 = .ok (.iload_n 2, 1) := by decide +kernel
theorem dX7_liesIn_11 : decode cX7_liesIn 11 = .ok (.invokestatic 42, 3) := by decide +kernel
theorem dX7_liesIn_14 : decode cX7_liesIn 14 = .ok (.ifCond .eq 24, 3) := by decide +kernel
theorem dX7_liesIn_17 : decode cX7_liesIn 17 = .ok (.iload_n 0, 1) := by decide +kernel
theorem dX7_liesIn_18 : decode cX7_liesIn 18 = .ok (.bipush 16, 2) := by decide +kernel
theorem dX7_liesIn_20 : decode cX7_liesIn 20 = .ok (.idiv, 1) := by decide +kernel
theorem dX7_liesIn_21 : decode cX7_liesIn 21 = .ok (.iload_n 1, 1) := by decide +kernel
theorem dX7_liesIn_22 : decode cX7_liesIn 22 = .ok (.bipush 16, 2) := by decide +kernel
theorem dX7_liesIn_24 : decode cX7_liesIn 24 = .ok (.idiv, 1) := by decide +kernel
theorem dX7_liesIn_25 : decode cX7_liesIn 25 = .ok (.isub, 1) := by decide +kernel
theorem dX7_liesIn_26 : decode cX7_liesIn 26 = .ok (.iconst 0, 1) := by decide +kernel
theorem dX7_liesIn_27 : decode cX7_liesIn 27 = .ok (.iload_n 2, 1) := by decide +kernel
theorem dX7_liesIn_28 : decode cX7_liesIn 28 = .ok (.invokestatic 42, 3) := by decide +kernel
theorem dX7_liesIn_31 : decode cX7_liesIn 31 = .ok (.ifCond .eq 7, 3) := by decide +kernel
theorem dX7_liesIn_34 : decode cX7_liesIn 34 = .ok (.iconst 1, 1) := by decide +kernel
theorem dX7_liesIn_35 : decode cX7_liesIn 35 = .ok (.goto 4, 3) := by decide +kernel
theorem dX7_liesIn_38 : decode cX7_liesIn 38 = .ok (.iconst 0, 1) := by decide +kernel
theorem dX7_liesIn_39 : decode cX7_liesIn 39 = .ok (.ireturn, 1) := by decide +kernel
theorem dX7_laySquares_0 : decode cX7_laySquares 0 = .ok (.iconst 0, 1) := by decide +kernel
theorem dX7_laySquares_1 : decode cX7_laySquares 1 = .ok (.istore_n 2, 1) := by decide +kernel
theorem dX7_laySquares_2 : decode cX7_laySquares 2 = .ok (.iload_n 2, 1) := by decide +kernel
theorem dX7_laySquares_3 : decode cX7_laySquares 3 = .ok (.sipush 160, 3) := by decide +kernel
theorem dX7_laySquares_6 : decode cX7_laySquares 6 = .ok (.if_icmp .ge 21, 3) := by decide +kernel
theorem dX7_laySquares_9 : decode cX7_laySquares 9 = .ok (.aload_n 0, 1) := by decide +kernel
theorem dX7_laySquares_10 : decode cX7_laySquares 10 = .ok (.getfield 29, 3) := by decide +kernel
theorem dX7_laySquares_13 : decode cX7_laySquares 13 = .ok (.iload_n 2, 1) := by decide +kernel
theorem dX7_laySquares_14 : decode cX7_laySquares 14 = .ok (.aload_n 0, 1) := by decide +kernel
theorem dX7_laySquares_15 : decode cX7_laySquares 15 = .ok (.iload_n 2, 1) := by decide +kernel
theorem dX7_laySquares_16 : decode cX7_laySquares 16 = .ok (.iload_n 1, 1) := by decide +kernel
theorem dX7_laySquares_17 : decode cX7_laySquares 17 = .ok (.invokevirtual 61, 3) := by decide +kernel
theorem dX7_laySquares_20 : decode cX7_laySquares 20 = .ok (.bastore, 1) := by decide +kernel
theorem dX7_laySquares_21 : decode cX7_laySquares 21 = .ok (.iinc 2 1, 3) := by decide +kernel
theorem dX7_laySquares_24 : decode cX7_laySquares 24 = .ok (.goto (-22), 3) := by decide +kernel
theorem dX7_laySquares_27 : decode cX7_laySquares 27 = .ok (.return_, 1) := by decide +kernel
theorem dX7_liesInAny_0 : decode cX7_liesInAny 0 = .ok (.iconst 0, 1) := by decide +kernel
theorem dX7_liesInAny_1 : decode cX7_liesInAny 1 = .ok (.istore_n 3, 1) := by decide +kernel
theorem dX7_liesInAny_2 : decode cX7_liesInAny 2 = .ok (.iconst 0, 1) := by decide +kernel
theorem dX7_liesInAny_3 : decode cX7_liesInAny 3 = .ok (.istore 4, 2) := by decide +kernel
theorem dX7_liesInAny_5 : decode cX7_liesInAny 5 = .ok (.iload 4, 2) := by decide +kernel
theorem dX7_liesInAny_7 : decode cX7_liesInAny 7 = .ok (.sipush 160, 3) := by decide +kernel
theorem dX7_liesInAny_10 : decode cX7_liesInAny 10 = .ok (.if_icmp .ge 39, 3) := by decide +kernel
theorem dX7_liesInAny_13 : decode cX7_liesInAny 13 = .ok (.iload_n 3, 1) := by decide +kernel
theorem dX7_liesInAny_14 : decode cX7_liesInAny 14 = .ok (.ifCond .ne 23, 3) := by decide +kernel
theorem dX7_liesInAny_17 : decode cX7_liesInAny 17 = .ok (.aload_n 0, 1) := by decide +kernel
theorem dX7_liesInAny_18 : decode cX7_liesInAny 18 = .ok (.getfield 29, 3) := by decide +kernel
theorem dX7_liesInAny_21 : decode cX7_liesInAny 21 = .ok (.iload 4, 2) := by decide +kernel
theorem dX7_liesInAny_23 : decode cX7_liesInAny 23 = .ok (.baload, 1) := by decide +kernel
theorem dX7_liesInAny_24 : decode cX7_liesInAny 24 = .ok (.ifCond .eq 17, 3) := by decide +kernel
theorem dX7_liesInAny_27 : decode cX7_liesInAny 27 = .ok (.iload_n 1, 1) := by decide +kernel
theorem dX7_liesInAny_28 : decode cX7_liesInAny 28 = .ok (.iload 4, 2) := by decide +kernel
theorem dX7_liesInAny_30 : decode cX7_liesInAny 30 = .ok (.iload_n 2, 1) := by decide +kernel
theorem dX7_liesInAny_31 : decode cX7_liesInAny 31 = .ok (.invokestatic 65, 3) := by decide +kernel
theorem dX7_liesInAny_34 : decode cX7_liesInAny 34 = .ok (.ifCond .eq 7, 3) := by decide +kernel
theorem dX7_liesInAny_37 : decode cX7_liesInAny 37 = .ok (.iconst 1, 1) := by decide +kernel
theorem dX7_liesInAny_38 : decode cX7_liesInAny 38 = .ok (.goto 4, 3) := by decide +kernel
theorem dX7_liesInAny_41 : decode cX7_liesInAny 41 = .ok (.iconst 0, 1) := by decide +kernel
theorem dX7_liesInAny_42 : decode cX7_liesInAny 42 = .ok (.istore_n 3, 1) := by decide +kernel
theorem dX7_liesInAny_43 : decode cX7_liesInAny 43 = .ok (.iinc 4 1, 3) := by decide +kernel
theorem dX7_liesInAny_46 : decode cX7_liesInAny 46 = .ok (.goto (-41), 3) := by decide +kernel
theorem dX7_liesInAny_49 : decode cX7_liesInAny 49 = .ok (.iload_n 3, 1) := by decide +kernel
theorem dX7_liesInAny_50 : decode cX7_liesInAny 50 = .ok (.ireturn, 1) := by decide +kernel
theorem dX7_layArea_0 : decode cX7_layArea 0 = .ok (.aload_n 0, 1) := by decide +kernel
theorem dX7_layArea_1 : decode cX7_layArea 1 = .ok (.iload_n 1, 1) := by decide +kernel
theorem dX7_layArea_2 : decode cX7_layArea 2 = .ok (.iload_n 2, 1) := by decide +kernel
theorem dX7_layArea_3 : decode cX7_layArea 3 = .ok (.iload_n 3, 1) := by decide +kernel
theorem dX7_layArea_4 : decode cX7_layArea 4 = .ok (.invokevirtual 68, 3) := by decide +kernel
theorem dX7_layArea_7 : decode cX7_layArea 7 = .ok (.aload_n 0, 1) := by decide +kernel
theorem dX7_layArea_8 : decode cX7_layArea 8 = .ok (.iload 4, 2) := by decide +kernel
theorem dX7_layArea_10 : decode cX7_layArea 10 = .ok (.putfield 72, 3) := by decide +kernel
theorem dX7_layArea_13 : decode cX7_layArea 13 = .ok (.aload_n 0, 1) := by decide +kernel
theorem dX7_layArea_14 : decode cX7_layArea 14 = .ok (.aload_n 0, 1) := by decide +kernel
theorem dX7_layArea_15 : decode cX7_layArea 15 = .ok (.getfield 72, 3) := by decide +kernel
theorem dX7_layArea_18 : decode cX7_layArea 18 = .ok (.invokevirtual 75, 3) := by decide +kernel
theorem dX7_layArea_21 : decode cX7_layArea 21 = .ok (.aload_n 0, 1) := by decide +kernel
theorem dX7_layArea_22 : decode cX7_layArea 22 = .ok (.iload_n 1, 1) := by decide +kernel
theorem dX7_layArea_23 : decode cX7_layArea 23 = .ok (.aload_n 0, 1) := by decide +kernel
theorem dX7_layArea_24 : decode cX7_layArea 24 = .ok (.getfield 72, 3) := by decide +kernel
theorem dX7_layArea_27 : decode cX7_layArea 27 = .ok (.invokevirtual 79, 3) := by decide +kernel
theorem dX7_layArea_30 : decode cX7_layArea 30 = .ok (.ifCond .ne 24, 3) := by decide +kernel
theorem dX7_layArea_33 : decode cX7_layArea 33 = .ok (.aload_n 0, 1) := by decide +kernel
theorem dX7_layArea_34 : decode cX7_layArea 34 = .ok (.dup, 1) := by decide +kernel
theorem dX7_layArea_35 : decode cX7_layArea 35 = .ok (.getfield 72, 3) := by decide +kernel
theorem dX7_layArea_38 : decode cX7_layArea 38 = .ok (.iconst 1, 1) := by decide +kernel
theorem dX7_layArea_39 : decode cX7_layArea 39 = .ok (.isub, 1) := by decide +kernel
theorem dX7_layArea_40 : decode cX7_layArea 40 = .ok (.putfield 72, 3) := by decide +kernel
theorem dX7_layArea_43 : decode cX7_layArea 43 = .ok (.aload_n 0, 1) := by decide +kernel
theorem dX7_layArea_44 : decode cX7_layArea 44 = .ok (.aload_n 0, 1) := by decide +kernel
theorem dX7_layArea_45 : decode cX7_layArea 45 = .ok (.getfield 72, 3) := by decide +kernel
theorem dX7_layArea_48 : decode cX7_layArea 48 = .ok (.invokevirtual 75, 3) := by decide +kernel
theorem dX7_layArea_51 : decode cX7_layArea 51 = .ok (.goto (-30), 3) := by decide +kernel
theorem dX7_layArea_54 : decode cX7_layArea 54 = .ok (.iconst 0, 1) := by decide +kernel
theorem dX7_layArea_55 : decode cX7_layArea 55 = .ok (.istore 5, 2) := by decide +kernel
theorem dX7_layArea_57 : decode cX7_layArea 57 = .ok (.iload 5, 2) := by decide +kernel
theorem dX7_layArea_59 : decode cX7_layArea 59 = .ok (.sipush 160, 3) := by decide +kernel
theorem dX7_layArea_62 : decode cX7_layArea 62 = .ok (.if_icmp .ge 17, 3) := by decide +kernel
theorem dX7_layArea_65 : decode cX7_layArea 65 = .ok (.aload_n 0, 1) := by decide +kernel
theorem dX7_layArea_66 : decode cX7_layArea 66 = .ok (.getfield 23, 3) := by decide +kernel
theorem dX7_layArea_69 : decode cX7_layArea 69 = .ok (.iload 5, 2) := by decide +kernel
theorem dX7_layArea_71 : decode cX7_layArea 71 = .ok (.iconst 0, 1) := by decide +kernel
theorem dX7_layArea_72 : decode cX7_layArea 72 = .ok (.bastore, 1) := by decide +kernel
theorem dX7_layArea_73 : decode cX7_layArea 73 = .ok (.iinc 5 1, 3) := by decide +kernel
theorem dX7_layArea_76 : decode cX7_layArea 76 = .ok (.goto (-19), 3) := by decide +kernel
theorem dX7_layArea_79 : decode cX7_layArea 79 = .ok (.iconst 0, 1) := by decide +kernel
theorem dX7_layArea_80 : decode cX7_layArea 80 = .ok (.istore 5, 2) := by decide +kernel
theorem dX7_layArea_82 : decode cX7_layArea 82 = .ok (.iconst 0, 1) := by decide +kernel
theorem dX7_layArea_83 : decode cX7_layArea 83 = .ok (.istore 6, 2) := by decide +kernel
theorem dX7_layArea_85 : decode cX7_layArea 85 = .ok (.iload 6, 2) := by decide +kernel
theorem dX7_layArea_87 : decode cX7_layArea 87 = .ok (.sipush 160, 3) := by decide +kernel
theorem dX7_layArea_90 : decode cX7_layArea 90 = .ok (.if_icmp .ge 52, 3) := by decide +kernel
theorem dX7_layArea_93 : decode cX7_layArea 93 = .ok (.aload_n 0, 1) := by decide +kernel
theorem dX7_layArea_94 : decode cX7_layArea 94 = .ok (.getfield 29, 3) := by decide +kernel
theorem dX7_layArea_97 : decode cX7_layArea 97 = .ok (.iload 6, 2) := by decide +kernel
theorem dX7_layArea_99 : decode cX7_layArea 99 = .ok (.baload, 1) := by decide +kernel
theorem dX7_layArea_100 : decode cX7_layArea 100 = .ok (.ifCond .eq 36, 3) := by decide +kernel
theorem dX7_layArea_103 : decode cX7_layArea 103 = .ok (.iload_n 1, 1) := by decide +kernel
theorem dX7_layArea_104 : decode cX7_layArea 104 = .ok (.iload 6, 2) := by decide +kernel
theorem dX7_layArea_106 : decode cX7_layArea 106 = .ok (.aload_n 0, 1) := by decide +kernel
theorem dX7_layArea_107 : decode cX7_layArea 107 = .ok (.getfield 72, 3) := by decide +kernel
theorem dX7_layArea_110 : decode cX7_layArea 110 = .ok (.invokestatic 65, 3) := by decide +kernel
theorem dX7_layArea_113 : decode cX7_layArea 113 = .ok (.ifCond .eq 23, 3) := by decide +kernel
theorem dX7_layArea_116 : decode cX7_layArea 116 = .ok (.aload_n 0, 1) := by decide +kernel
theorem dX7_layArea_117 : decode cX7_layArea 117 = .ok (.getfield 26, 3) := by decide +kernel
theorem dX7_layArea_120 : decode cX7_layArea 120 = .ok (.iload 5, 2) := by decide +kernel
theorem dX7_layArea_122 : decode cX7_layArea 122 = .ok (.iload 6, 2) := by decide +kernel
theorem dX7_layArea_124 : decode cX7_layArea 124 = .ok (.iastore, 1) := by decide +kernel
theorem dX7_layArea_125 : decode cX7_layArea 125 = .ok (.iinc 5 1, 3) := by decide +kernel
theorem dX7_layArea_128 : decode cX7_layArea 128 = .ok (.aload_n 0, 1) := by decide +kernel
theorem dX7_layArea_129 : decode cX7_layArea 129 = .ok (.getfield 29, 3) := by decide +kernel
theorem dX7_layArea_132 : decode cX7_layArea 132 = .ok (.iload 6, 2) := by decide +kernel
theorem dX7_layArea_134 : decode cX7_layArea 134 = .ok (.iconst 0, 1) := by decide +kernel
theorem dX7_layArea_135 : decode cX7_layArea 135 = .ok (.bastore, 1) := by decide +kernel
theorem dX7_layArea_136 : decode cX7_layArea 136 = .ok (.iinc 6 1, 3) := by decide +kernel
theorem dX7_layArea_139 : decode cX7_layArea 139 = .ok (.goto (-54), 3) := by decide +kernel
theorem dX7_layArea_142 : decode cX7_layArea 142 = .ok (.iconst 0, 1) := by decide +kernel
theorem dX7_layArea_143 : decode cX7_layArea 143 = .ok (.istore 6, 2) := by decide +kernel
theorem dX7_layArea_145 : decode cX7_layArea 145 = .ok (.iload 6, 2) := by decide +kernel
theorem dX7_layArea_147 : decode cX7_layArea 147 = .ok (.iload 5, 2) := by decide +kernel
theorem dX7_layArea_149 : decode cX7_layArea 149 = .ok (.if_icmp .ge 136, 3) := by decide +kernel
theorem dX7_layArea_152 : decode cX7_layArea 152 = .ok (.aload_n 0, 1) := by decide +kernel
theorem dX7_layArea_153 : decode cX7_layArea 153 = .ok (.getfield 26, 3) := by decide +kernel
theorem dX7_layArea_156 : decode cX7_layArea 156 = .ok (.iload 6, 2) := by decide +kernel
theorem dX7_layArea_158 : decode cX7_layArea 158 = .ok (.iaload, 1) := by decide +kernel
theorem dX7_layArea_159 : decode cX7_layArea 159 = .ok (.istore 7, 2) := by decide +kernel
theorem dX7_layArea_161 : decode cX7_layArea 161 = .ok (.iconst 0, 1) := by decide +kernel
theorem dX7_layArea_162 : decode cX7_layArea 162 = .ok (.istore 8, 2) := by decide +kernel
theorem dX7_layArea_164 : decode cX7_layArea 164 = .ok (.iload 8, 2) := by decide +kernel
theorem dX7_layArea_166 : decode cX7_layArea 166 = .ok (.sipush 160, 3) := by decide +kernel
theorem dX7_layArea_169 : decode cX7_layArea 169 = .ok (.if_icmp .ge 110, 3) := by decide +kernel
theorem dX7_layArea_172 : decode cX7_layArea 172 = .ok (.aload_n 0, 1) := by decide +kernel
theorem dX7_layArea_173 : decode cX7_layArea 173 = .ok (.getfield 23, 3) := by decide +kernel
theorem dX7_layArea_176 : decode cX7_layArea 176 = .ok (.iload 8, 2) := by decide +kernel
theorem dX7_layArea_178 : decode cX7_layArea 178 = .ok (.aload_n 0, 1) := by decide +kernel
theorem dX7_layArea_179 : decode cX7_layArea 179 = .ok (.getfield 23, 3) := by decide +kernel
theorem dX7_layArea_182 : decode cX7_layArea 182 = .ok (.iload 8, 2) := by decide +kernel
theorem dX7_layArea_184 : decode cX7_layArea 184 = .ok (.baload, 1) := by decide +kernel
theorem dX7_layArea_185 : decode cX7_layArea 185 = .ok (.ifCond .ne 17, 3) := by decide +kernel
theorem dX7_layArea_188 : decode cX7_layArea 188 = .ok (.iload 8, 2) := by decide +kernel
theorem dX7_layArea_190 : decode cX7_layArea 190 = .ok (.iload 7, 2) := by decide +kernel
theorem dX7_layArea_192 : decode cX7_layArea 192 = .ok (.aload_n 0, 1) := by decide +kernel
theorem dX7_layArea_193 : decode cX7_layArea 193 = .ok (.getfield 72, 3) := by decide +kernel
theorem dX7_layArea_196 : decode cX7_layArea 196 = .ok (.invokestatic 65, 3) := by decide +kernel
theorem dX7_layArea_199 : decode cX7_layArea 199 = .ok (.ifCond .eq 7, 3) := by decide +kernel
theorem dX7_layArea_202 : decode cX7_layArea 202 = .ok (.iconst 1, 1) := by decide +kernel
theorem dX7_layArea_203 : decode cX7_layArea 203 = .ok (.goto 4, 3) := by decide +kernel
theorem dX7_layArea_206 : decode cX7_layArea 206 = .ok (.iconst 0, 1) := by decide +kernel
theorem dX7_layArea_207 : decode cX7_layArea 207 = .ok (.bastore, 1) := by decide +kernel
theorem dX7_layArea_208 : decode cX7_layArea 208 = .ok (.aload_n 0, 1) := by decide +kernel
theorem dX7_layArea_209 : decode cX7_layArea 209 = .ok (.getfield 29, 3) := by decide +kernel
theorem dX7_layArea_212 : decode cX7_layArea 212 = .ok (.iload 8, 2) := by decide +kernel
theorem dX7_layArea_214 : decode cX7_layArea 214 = .ok (.baload, 1) := by decide +kernel
theorem dX7_layArea_215 : decode cX7_layArea 215 = .ok (.ifCond .eq 58, 3) := by decide +kernel
theorem dX7_layArea_218 : decode cX7_layArea 218 = .ok (.aload_n 0, 1) := by decide +kernel
theorem dX7_layArea_219 : decode cX7_layArea 219 = .ok (.getfield 72, 3) := by decide +kernel
theorem dX7_layArea_222 : decode cX7_layArea 222 = .ok (.ifCond .ne 17, 3) := by decide +kernel
theorem dX7_layArea_225 : decode cX7_layArea 225 = .ok (.iload 7, 2) := by decide +kernel
theorem dX7_layArea_227 : decode cX7_layArea 227 = .ok (.iload 8, 2) := by decide +kernel
theorem dX7_layArea_229 : decode cX7_layArea 229 = .ok (.invokestatic 58, 3) := by decide +kernel
theorem dX7_layArea_232 : decode cX7_layArea 232 = .ok (.iconst 1, 1) := by decide +kernel
theorem dX7_layArea_233 : decode cX7_layArea 233 = .ok (.if_icmp .ne 40, 3) := by decide +kernel
theorem dX7_layArea_236 : decode cX7_layArea 236 = .ok (.goto 17, 3) := by decide +kernel
theorem dX7_layArea_239 : decode cX7_layArea 239 = .ok (.iload 7, 2) := by decide +kernel
theorem dX7_layArea_241 : decode cX7_layArea 241 = .ok (.iload 8, 2) := by decide +kernel
theorem dX7_layArea_243 : decode cX7_layArea 243 = .ok (.invokestatic 82, 3) := by decide +kernel
theorem dX7_layArea_246 : decode cX7_layArea 246 = .ok (.aload_n 0, 1) := by decide +kernel
theorem dX7_layArea_247 : decode cX7_layArea 247 = .ok (.getfield 72, 3) := by decide +kernel
theorem dX7_layArea_250 : decode cX7_layArea 250 = .ok (.if_icmp .gt 23, 3) := by decide +kernel
theorem dX7_layArea_253 : decode cX7_layArea 253 = .ok (.aload_n 0, 1) := by decide +kernel
theorem dX7_layArea_254 : decode cX7_layArea 254 = .ok (.getfield 26, 3) := by decide +kernel
theorem dX7_layArea_257 : decode cX7_layArea 257 = .ok (.iload 5, 2) := by decide +kernel
theorem dX7_layArea_259 : decode cX7_layArea 259 = .ok (.iload 8, 2) := by decide +kernel
theorem dX7_layArea_261 : decode cX7_layArea 261 = .ok (.iastore, 1) := by decide +kernel
theorem dX7_layArea_262 : decode cX7_layArea 262 = .ok (.iinc 5 1, 3) := by decide +kernel
theorem dX7_layArea_265 : decode cX7_layArea 265 = .ok (.aload_n 0, 1) := by decide +kernel
theorem dX7_layArea_266 : decode cX7_layArea 266 = .ok (.getfield 29, 3) := by decide +kernel
theorem dX7_layArea_269 : decode cX7_layArea 269 = .ok (.iload 8, 2) := by decide +kernel
theorem dX7_layArea_271 : decode cX7_layArea 271 = .ok (.iconst 0, 1) := by decide +kernel
theorem dX7_layArea_272 : decode cX7_layArea 272 = .ok (.bastore, 1) := by decide +kernel
theorem dX7_layArea_273 : decode cX7_layArea 273 = .ok (.iinc 8 1, 3) := by decide +kernel
theorem dX7_layArea_276 : decode cX7_layArea 276 = .ok (.goto (-112), 3) := by decide +kernel
theorem dX7_layArea_279 : decode cX7_layArea 279 = .ok (.iinc 6 1, 3) := by decide +kernel
theorem dX7_layArea_282 : decode cX7_layArea 282 = .ok (.goto (-137), 3) := by decide +kernel
theorem dX7_layArea_285 : decode cX7_layArea 285 = .ok (.return_, 1) := by decide +kernel
theorem dX7_areaSize_0 : decode cX7_areaSize 0 = .ok (.iconst 0, 1) := by decide +kernel
theorem dX7_areaSize_1 : decode cX7_areaSize 1 = .ok (.istore_n 1, 1) := by decide +kernel
theorem dX7_areaSize_2 : decode cX7_areaSize 2 = .ok (.iconst 0, 1) := by decide +kernel
theorem dX7_areaSize_3 : decode cX7_areaSize 3 = .ok (.istore_n 2, 1) := by decide +kernel
theorem dX7_areaSize_4 : decode cX7_areaSize 4 = .ok (.iload_n 2, 1) := by decide +kernel
theorem dX7_areaSize_5 : decode cX7_areaSize 5 = .ok (.sipush 160, 3) := by decide +kernel
theorem dX7_areaSize_8 : decode cX7_areaSize 8 = .ok (.if_icmp .ge 26, 3) := by decide +kernel
theorem dX7_areaSize_11 : decode cX7_areaSize 11 = .ok (.iload_n 1, 1) := by decide +kernel
theorem dX7_areaSize_12 : decode cX7_areaSize 12 = .ok (.aload_n 0, 1) := by decide +kernel
theorem dX7_areaSize_13 : decode cX7_areaSize 13 = .ok (.getfield 23, 3) := by decide +kernel
theorem dX7_areaSize_16 : decode cX7_areaSize 16 = .ok (.iload_n 2, 1) := by decide +kernel
theorem dX7_areaSize_17 : decode cX7_areaSize 17 = .ok (.baload, 1) := by decide +kernel
theorem dX7_areaSize_18 : decode cX7_areaSize 18 = .ok (.ifCond .eq 7, 3) := by decide +kernel
theorem dX7_areaSize_21 : decode cX7_areaSize 21 = .ok (.iconst 1, 1) := by decide +kernel
theorem dX7_areaSize_22 : decode cX7_areaSize 22 = .ok (.goto 4, 3) := by decide +kernel
theorem dX7_areaSize_25 : decode cX7_areaSize 25 = .ok (.iconst 0, 1) := by decide +kernel
theorem dX7_areaSize_26 : decode cX7_areaSize 26 = .ok (.iadd, 1) := by decide +kernel
theorem dX7_areaSize_27 : decode cX7_areaSize 27 = .ok (.istore_n 1, 1) := by decide +kernel
theorem dX7_areaSize_28 : decode cX7_areaSize 28 = .ok (.iinc 2 1, 3) := by decide +kernel
theorem dX7_areaSize_31 : decode cX7_areaSize 31 = .ok (.goto (-27), 3) := by decide +kernel
theorem dX7_areaSize_34 : decode cX7_areaSize 34 = .ok (.iload_n 1, 1) := by decide +kernel
theorem dX7_areaSize_35 : decode cX7_areaSize 35 = .ok (.ireturn, 1) := by decide +kernel
theorem dX7_softLevel_0 : decode cX7_softLevel 0 = .ok (.iload_n 2, 1) := by decide +kernel
theorem dX7_softLevel_1 : decode cX7_softLevel 1 = .ok (.iconst 1, 1) := by decide +kernel
theorem dX7_softLevel_2 : decode cX7_softLevel 2 = .ok (.iadd, 1) := by decide +kernel
theorem dX7_softLevel_3 : decode cX7_softLevel 3 = .ok (.istore_n 3, 1) := by decide +kernel
theorem dX7_softLevel_4 : decode cX7_softLevel 4 = .ok (.iconst 0, 1) := by decide +kernel
theorem dX7_softLevel_5 : decode cX7_softLevel 5 = .ok (.istore 4, 2) := by decide +kernel
theorem dX7_softLevel_7 : decode cX7_softLevel 7 = .ok (.iload 4, 2) := by decide +kernel
theorem dX7_softLevel_9 : decode cX7_softLevel 9 = .ok (.sipush 160, 3) := by decide +kernel
theorem dX7_softLevel_12 : decode cX7_softLevel 12 = .ok (.if_icmp .ge 40, 3) := by decide +kernel
theorem dX7_softLevel_15 : decode cX7_softLevel 15 = .ok (.aload_n 0, 1) := by decide +kernel
theorem dX7_softLevel_16 : decode cX7_softLevel 16 = .ok (.getfield 23, 3) := by decide +kernel
theorem dX7_softLevel_19 : decode cX7_softLevel 19 = .ok (.iload 4, 2) := by decide +kernel
theorem dX7_softLevel_21 : decode cX7_softLevel 21 = .ok (.baload, 1) := by decide +kernel
theorem dX7_softLevel_22 : decode cX7_softLevel 22 = .ok (.ifCond .eq 22, 3) := by decide +kernel
theorem dX7_softLevel_25 : decode cX7_softLevel 25 = .ok (.iload_n 1, 1) := by decide +kernel
theorem dX7_softLevel_26 : decode cX7_softLevel 26 = .ok (.iload 4, 2) := by decide +kernel
theorem dX7_softLevel_28 : decode cX7_softLevel 28 = .ok (.invokestatic 82, 3) := by decide +kernel
theorem dX7_softLevel_31 : decode cX7_softLevel 31 = .ok (.iload_n 3, 1) := by decide +kernel
theorem dX7_softLevel_32 : decode cX7_softLevel 32 = .ok (.if_icmp .ge 12, 3) := by decide +kernel
theorem dX7_softLevel_35 : decode cX7_softLevel 35 = .ok (.iload_n 1, 1) := by decide +kernel
theorem dX7_softLevel_36 : decode cX7_softLevel 36 = .ok (.iload 4, 2) := by decide +kernel
theorem dX7_softLevel_38 : decode cX7_softLevel 38 = .ok (.invokestatic 82, 3) := by decide +kernel
theorem dX7_softLevel_41 : decode cX7_softLevel 41 = .ok (.goto 4, 3) := by decide +kernel
theorem dX7_softLevel_44 : decode cX7_softLevel 44 = .ok (.iload_n 3, 1) := by decide +kernel
theorem dX7_softLevel_45 : decode cX7_softLevel 45 = .ok (.istore_n 3, 1) := by decide +kernel
theorem dX7_softLevel_46 : decode cX7_softLevel 46 = .ok (.iinc 4 1, 3) := by decide +kernel
theorem dX7_softLevel_49 : decode cX7_softLevel 49 = .ok (.goto (-42), 3) := by decide +kernel
theorem dX7_softLevel_52 : decode cX7_softLevel 52 = .ok (.bipush 100, 2) := by decide +kernel
theorem dX7_softLevel_54 : decode cX7_softLevel 54 = .ok (.iload_n 2, 1) := by decide +kernel
theorem dX7_softLevel_55 : decode cX7_softLevel 55 = .ok (.iconst 1, 1) := by decide +kernel
theorem dX7_softLevel_56 : decode cX7_softLevel 56 = .ok (.iadd, 1) := by decide +kernel
theorem dX7_softLevel_57 : decode cX7_softLevel 57 = .ok (.iload_n 3, 1) := by decide +kernel
theorem dX7_softLevel_58 : decode cX7_softLevel 58 = .ok (.isub, 1) := by decide +kernel
theorem dX7_softLevel_59 : decode cX7_softLevel 59 = .ok (.imul, 1) := by decide +kernel
theorem dX7_softLevel_60 : decode cX7_softLevel 60 = .ok (.iload_n 2, 1) := by decide +kernel
theorem dX7_softLevel_61 : decode cX7_softLevel 61 = .ok (.iconst 1, 1) := by decide +kernel
theorem dX7_softLevel_62 : decode cX7_softLevel 62 = .ok (.iadd, 1) := by decide +kernel
theorem dX7_softLevel_63 : decode cX7_softLevel 63 = .ok (.idiv, 1) := by decide +kernel
theorem dX7_softLevel_64 : decode cX7_softLevel 64 = .ok (.ireturn, 1) := by decide +kernel
theorem dX7_layMask_0 : decode cX7_layMask 0 = .ok (.iconst 0, 1) := by decide +kernel
theorem dX7_layMask_1 : decode cX7_layMask 1 = .ok (.istore_n 1, 1) := by decide +kernel
theorem dX7_layMask_2 : decode cX7_layMask 2 = .ok (.iload_n 1, 1) := by decide +kernel
theorem dX7_layMask_3 : decode cX7_layMask 3 = .ok (.sipush 160, 3) := by decide +kernel
theorem dX7_layMask_6 : decode cX7_layMask 6 = .ok (.if_icmp .ge 16, 3) := by decide +kernel
theorem dX7_layMask_9 : decode cX7_layMask 9 = .ok (.aload_n 0, 1) := by decide +kernel
theorem dX7_layMask_10 : decode cX7_layMask 10 = .ok (.getfield 32, 3) := by decide +kernel
theorem dX7_layMask_13 : decode cX7_layMask 13 = .ok (.iload_n 1, 1) := by decide +kernel
theorem dX7_layMask_14 : decode cX7_layMask 14 = .ok (.iconst 0, 1) := by decide +kernel
theorem dX7_layMask_15 : decode cX7_layMask 15 = .ok (.iastore, 1) := by decide +kernel
theorem dX7_layMask_16 : decode cX7_layMask 16 = .ok (.iinc 1 1, 3) := by decide +kernel
theorem dX7_layMask_19 : decode cX7_layMask 19 = .ok (.goto (-17), 3) := by decide +kernel
theorem dX7_layMask_22 : decode cX7_layMask 22 = .ok (.iconst 0, 1) := by decide +kernel
theorem dX7_layMask_23 : decode cX7_layMask 23 = .ok (.istore_n 1, 1) := by decide +kernel
theorem dX7_layMask_24 : decode cX7_layMask 24 = .ok (.iload_n 1, 1) := by decide +kernel
theorem dX7_layMask_25 : decode cX7_layMask 25 = .ok (.aload_n 0, 1) := by decide +kernel
theorem dX7_layMask_26 : decode cX7_layMask 26 = .ok (.getfield 7, 3) := by decide +kernel
theorem dX7_layMask_29 : decode cX7_layMask 29 = .ok (.sipush 160, 3) := by decide +kernel
theorem dX7_layMask_32 : decode cX7_layMask 32 = .ok (.iaload, 1) := by decide +kernel
theorem dX7_layMask_33 : decode cX7_layMask 33 = .ok (.if_icmp .ge 128, 3) := by decide +kernel
theorem dX7_layMask_36 : decode cX7_layMask 36 = .ok (.iconst 0, 1) := by decide +kernel
theorem dX7_layMask_37 : decode cX7_layMask 37 = .ok (.istore_n 2, 1) := by decide +kernel
theorem dX7_layMask_38 : decode cX7_layMask 38 = .ok (.iload_n 2, 1) := by decide +kernel
theorem dX7_layMask_39 : decode cX7_layMask 39 = .ok (.sipush 160, 3) := by decide +kernel
theorem dX7_layMask_42 : decode cX7_layMask 42 = .ok (.if_icmp .ge 113, 3) := by decide +kernel
theorem dX7_layMask_45 : decode cX7_layMask 45 = .ok (.aload_n 0, 1) := by decide +kernel
theorem dX7_layMask_46 : decode cX7_layMask 46 = .ok (.iload_n 1, 1) := by decide +kernel
theorem dX7_layMask_47 : decode cX7_layMask 47 = .ok (.bipush 7, 2) := by decide +kernel
theorem dX7_layMask_49 : decode cX7_layMask 49 = .ok (.invokevirtual 46, 3) := by decide +kernel
theorem dX7_layMask_52 : decode cX7_layMask 52 = .ok (.iconst 1, 1) := by decide +kernel
theorem dX7_layMask_53 : decode cX7_layMask 53 = .ok (.if_icmp .ne 102, 3) := by decide +kernel
theorem dX7_layMask_56 : decode cX7_layMask 56 = .ok (.aload_n 0, 1) := by decide +kernel
theorem dX7_layMask_57 : decode cX7_layMask 57 = .ok (.iload_n 1, 1) := by decide +kernel
theorem dX7_layMask_58 : decode cX7_layMask 58 = .ok (.iload_n 2, 1) := by decide +kernel
theorem dX7_layMask_59 : decode cX7_layMask 59 = .ok (.invokevirtual 85, 3) := by decide +kernel
theorem dX7_layMask_62 : decode cX7_layMask 62 = .ok (.istore_n 3, 1) := by decide +kernel
theorem dX7_layMask_63 : decode cX7_layMask 63 = .ok (.bipush 100, 2) := by decide +kernel
theorem dX7_layMask_65 : decode cX7_layMask 65 = .ok (.iload_n 3, 1) := by decide +kernel
theorem dX7_layMask_66 : decode cX7_layMask 66 = .ok (.isub, 1) := by decide +kernel
theorem dX7_layMask_67 : decode cX7_layMask 67 = .ok (.istore 4, 2) := by decide +kernel
theorem dX7_layMask_69 : decode cX7_layMask 69 = .ok (.aload_n 0, 1) := by decide +kernel
theorem dX7_layMask_70 : decode cX7_layMask 70 = .ok (.iload_n 1, 1) := by decide +kernel
theorem dX7_layMask_71 : decode cX7_layMask 71 = .ok (.iconst 5, 1) := by decide +kernel
theorem dX7_layMask_72 : decode cX7_layMask 72 = .ok (.invokevirtual 46, 3) := by decide +kernel
theorem dX7_layMask_75 : decode cX7_layMask 75 = .ok (.istore 5, 2) := by decide +kernel
theorem dX7_layMask_77 : decode cX7_layMask 77 = .ok (.iload 5, 2) := by decide +kernel
theorem dX7_layMask_79 : decode cX7_layMask 79 = .ok (.ifCond .eq 35, 3) := by decide +kernel
theorem dX7_layMask_82 : decode cX7_layMask 82 = .ok (.iload 5, 2) := by decide +kernel
theorem dX7_layMask_84 : decode cX7_layMask 84 = .ok (.iconst 1, 1) := by decide +kernel
theorem dX7_layMask_85 : decode cX7_layMask 85 = .ok (.if_icmp .ne 13, 3) := by decide +kernel
theorem dX7_layMask_88 : decode cX7_layMask 88 = .ok (.iload_n 3, 1) := by decide +kernel
theorem dX7_layMask_89 : decode cX7_layMask 89 = .ok (.aload_n 0, 1) := by decide +kernel
theorem dX7_layMask_90 : decode cX7_layMask 90 = .ok (.getfield 32, 3) := by decide +kernel
theorem dX7_layMask_93 : decode cX7_layMask 93 = .ok (.iload_n 2, 1) := by decide +kernel
theorem dX7_layMask_94 : decode cX7_layMask 94 = .ok (.iaload, 1) := by decide +kernel
theorem dX7_layMask_95 : decode cX7_layMask 95 = .ok (.if_icmp .gt 19, 3) := by decide +kernel
theorem dX7_layMask_98 : decode cX7_layMask 98 = .ok (.iload 5, 2) := by decide +kernel
theorem dX7_layMask_100 : decode cX7_layMask 100 = .ok (.iconst 3, 1) := by decide +kernel
theorem dX7_layMask_101 : decode cX7_layMask 101 = .ok (.if_icmp .ne 23, 3) := by decide +kernel
theorem dX7_layMask_104 : decode cX7_layMask 104 = .ok (.iload_n 3, 1) := by decide +kernel
theorem dX7_layMask_105 : decode cX7_layMask 105 = .ok (.aload_n 0, 1) := by decide +kernel
theorem dX7_layMask_106 : decode cX7_layMask 106 = .ok (.getfield 32, 3) := by decide +kernel
theorem dX7_layMask_109 : decode cX7_layMask 109 = .ok (.iload_n 2, 1) := by decide +kernel
theorem dX7_layMask_110 : decode cX7_layMask 110 = .ok (.iaload, 1) := by decide +kernel
theorem dX7_layMask_111 : decode cX7_layMask 111 = .ok (.if_icmp .ge 13, 3) := by decide +kernel
theorem dX7_layMask_114 : decode cX7_layMask 114 = .ok (.aload_n 0, 1) := by decide +kernel
theorem dX7_layMask_115 : decode cX7_layMask 115 = .ok (.getfield 32, 3) := by decide +kernel
theorem dX7_layMask_118 : decode cX7_layMask 118 = .ok (.iload_n 2, 1) := by decide +kernel
theorem dX7_layMask_119 : decode cX7_layMask 119 = .ok (.iload_n 3, 1) := by decide +kernel
theorem dX7_layMask_120 : decode cX7_layMask 120 = .ok (.iastore, 1) := by decide +kernel
theorem dX7_layMask_121 : decode cX7_layMask 121 = .ok (.goto 28, 3) := by decide +kernel
theorem dX7_layMask_124 : decode cX7_layMask 124 = .ok (.iload 5, 2) := by decide +kernel
theorem dX7_layMask_126 : decode cX7_layMask 126 = .ok (.iconst 2, 1) := by decide +kernel
theorem dX7_layMask_127 : decode cX7_layMask 127 = .ok (.if_icmp .ne 22, 3) := by decide +kernel
theorem dX7_layMask_130 : decode cX7_layMask 130 = .ok (.iload 4, 2) := by decide +kernel
theorem dX7_layMask_132 : decode cX7_layMask 132 = .ok (.aload_n 0, 1) := by decide +kernel
theorem dX7_layMask_133 : decode cX7_layMask 133 = .ok (.getfield 32, 3) := by decide +kernel
theorem dX7_layMask_136 : decode cX7_layMask 136 = .ok (.iload_n 2, 1) := by decide +kernel
theorem dX7_layMask_137 : decode cX7_layMask 137 = .ok (.iaload, 1) := by decide +kernel
theorem dX7_layMask_138 : decode cX7_layMask 138 = .ok (.if_icmp .ge 11, 3) := by decide +kernel
theorem dX7_layMask_141 : decode cX7_layMask 141 = .ok (.aload_n 0, 1) := by decide +kernel
theorem dX7_layMask_142 : decode cX7_layMask 142 = .ok (.getfield 32, 3) := by decide +kernel
theorem dX7_layMask_145 : decode cX7_layMask 145 = .ok (.iload_n 2, 1) := by decide +kernel
theorem dX7_layMask_146 : decode cX7_layMask 146 = .ok (.iload 4, 2) := by decide +kernel
theorem dX7_layMask_148 : decode cX7_layMask 148 = .ok (.iastore, 1) := by decide +kernel
theorem dX7_layMask_149 : decode cX7_layMask 149 = .ok (.iinc 2 1, 3) := by decide +kernel
theorem dX7_layMask_152 : decode cX7_layMask 152 = .ok (.goto (-114), 3) := by decide +kernel
theorem dX7_layMask_155 : decode cX7_layMask 155 = .ok (.iinc 1 1, 3) := by decide +kernel
theorem dX7_layMask_158 : decode cX7_layMask 158 = .ok (.goto (-134), 3) := by decide +kernel
theorem dX7_layMask_161 : decode cX7_layMask 161 = .ok (.return_, 1) := by decide +kernel
theorem dX7_save_0 : decode cX7_save 0 = .ok (.aload_n 0, 1) := by decide +kernel
theorem dX7_save_1 : decode cX7_save 1 = .ok (.getfield 88, 3) := by decide +kernel
theorem dX7_save_4 : decode cX7_save 4 = .ok (.bipush 6, 2) := by decide +kernel
theorem dX7_save_6 : decode cX7_save 6 = .ok (.if_icmp .ne 46, 3) := by decide +kernel
theorem dX7_save_9 : decode cX7_save 9 = .ok (.sipush 2189, 3) := by decide +kernel
theorem dX7_save_12 : decode cX7_save 12 = .ok (.istore_n 1, 1) := by decide +kernel
theorem dX7_save_13 : decode cX7_save 13 = .ok (.iload_n 1, 1) := by decide +kernel
theorem dX7_save_14 : decode cX7_save 14 = .ok (.sipush 13134, 3) := by decide +kernel
theorem dX7_save_17 : decode cX7_save 17 = .ok (.if_icmp .ge 25, 3) := by decide +kernel
theorem dX7_save_20 : decode cX7_save 20 = .ok (.aload_n 0, 1) := by decide +kernel
theorem dX7_save_21 : decode cX7_save 21 = .ok (.getfield 13, 3) := by decide +kernel
theorem dX7_save_24 : decode cX7_save 24 = .ok (.iload_n 1, 1) := by decide +kernel
theorem dX7_save_25 : decode cX7_save 25 = .ok (.sipush 2189, 3) := by decide +kernel
theorem dX7_save_28 : decode cX7_save 28 = .ok (.isub, 1) := by decide +kernel
theorem dX7_save_29 : decode cX7_save 29 = .ok (.aload_n 0, 1) := by decide +kernel
theorem dX7_save_30 : decode cX7_save 30 = .ok (.getfield 13, 3) := by decide +kernel
theorem dX7_save_33 : decode cX7_save 33 = .ok (.iload_n 1, 1) := by decide +kernel
theorem dX7_save_34 : decode cX7_save 34 = .ok (.iaload, 1) := by decide +kernel
theorem dX7_save_35 : decode cX7_save 35 = .ok (.iastore, 1) := by decide +kernel
theorem dX7_save_36 : decode cX7_save 36 = .ok (.iinc 1 1, 3) := by decide +kernel
theorem dX7_save_39 : decode cX7_save 39 = .ok (.goto (-26), 3) := by decide +kernel
theorem dX7_save_42 : decode cX7_save 42 = .ok (.aload_n 0, 1) := by decide +kernel
theorem dX7_save_43 : decode cX7_save 43 = .ok (.dup, 1) := by decide +kernel
theorem dX7_save_44 : decode cX7_save 44 = .ok (.getfield 88, 3) := by decide +kernel
theorem dX7_save_47 : decode cX7_save 47 = .ok (.iconst 1, 1) := by decide +kernel
theorem dX7_save_48 : decode cX7_save 48 = .ok (.isub, 1) := by decide +kernel
theorem dX7_save_49 : decode cX7_save 49 = .ok (.putfield 88, 3) := by decide +kernel
theorem dX7_save_52 : decode cX7_save 52 = .ok (.iconst 0, 1) := by decide +kernel
theorem dX7_save_53 : decode cX7_save 53 = .ok (.istore_n 1, 1) := by decide +kernel
theorem dX7_save_54 : decode cX7_save 54 = .ok (.iload_n 1, 1) := by decide +kernel
theorem dX7_save_55 : decode cX7_save 55 = .ok (.sipush 2189, 3) := by decide +kernel
theorem dX7_save_58 : decode cX7_save 58 = .ok (.if_icmp .ge 30, 3) := by decide +kernel
theorem dX7_save_61 : decode cX7_save 61 = .ok (.aload_n 0, 1) := by decide +kernel
theorem dX7_save_62 : decode cX7_save 62 = .ok (.getfield 13, 3) := by decide +kernel
theorem dX7_save_65 : decode cX7_save 65 = .ok (.sipush 2189, 3) := by decide +kernel
theorem dX7_save_68 : decode cX7_save 68 = .ok (.aload_n 0, 1) := by decide +kernel
theorem dX7_save_69 : decode cX7_save 69 = .ok (.getfield 88, 3) := by decide +kernel
theorem dX7_save_72 : decode cX7_save 72 = .ok (.imul, 1) := by decide +kernel
theorem dX7_save_73 : decode cX7_save 73 = .ok (.iload_n 1, 1) := by decide +kernel
theorem dX7_save_74 : decode cX7_save 74 = .ok (.iadd, 1) := by decide +kernel
theorem dX7_save_75 : decode cX7_save 75 = .ok (.aload_n 0, 1) := by decide +kernel
theorem dX7_save_76 : decode cX7_save 76 = .ok (.getfield 7, 3) := by decide +kernel
theorem dX7_save_79 : decode cX7_save 79 = .ok (.iload_n 1, 1) := by decide +kernel
theorem dX7_save_80 : decode cX7_save 80 = .ok (.iaload, 1) := by decide +kernel
theorem dX7_save_81 : decode cX7_save 81 = .ok (.iastore, 1) := by decide +kernel
theorem dX7_save_82 : decode cX7_save 82 = .ok (.iinc 1 1, 3) := by decide +kernel
theorem dX7_save_85 : decode cX7_save 85 = .ok (.goto (-31), 3) := by decide +kernel
theorem dX7_save_88 : decode cX7_save 88 = .ok (.aload_n 0, 1) := by decide +kernel
theorem dX7_save_89 : decode cX7_save 89 = .ok (.dup, 1) := by decide +kernel
theorem dX7_save_90 : decode cX7_save 90 = .ok (.getfield 88, 3) := by decide +kernel
theorem dX7_save_93 : decode cX7_save 93 = .ok (.iconst 1, 1) := by decide +kernel
theorem dX7_save_94 : decode cX7_save 94 = .ok (.iadd, 1) := by decide +kernel
theorem dX7_save_95 : decode cX7_save 95 = .ok (.putfield 88, 3) := by decide +kernel
theorem dX7_save_98 : decode cX7_save 98 = .ok (.return_, 1) := by decide +kernel
theorem dX7_undo_0 : decode cX7_undo 0 = .ok (.aload_n 0, 1) := by decide +kernel
theorem dX7_undo_1 : decode cX7_undo 1 = .ok (.aload_n 0, 1) := by decide +kernel
theorem dX7_undo_2 : decode cX7_undo 2 = .ok (.getfield 88, 3) := by decide +kernel
theorem dX7_undo_5 : decode cX7_undo 5 = .ok (.ifCond .le 7, 3) := by decide +kernel
theorem dX7_undo_8 : decode cX7_undo 8 = .ok (.iconst 0, 1) := by decide +kernel
theorem dX7_undo_9 : decode cX7_undo 9 = .ok (.goto 4, 3) := by decide +kernel
theorem dX7_undo_12 : decode cX7_undo 12 = .ok (.iconst 1, 1) := by decide +kernel
theorem dX7_undo_13 : decode cX7_undo 13 = .ok (.putfield 38, 3) := by decide +kernel
theorem dX7_undo_16 : decode cX7_undo 16 = .ok (.aload_n 0, 1) := by decide +kernel
theorem dX7_undo_17 : decode cX7_undo 17 = .ok (.getfield 38, 3) := by decide +kernel
theorem dX7_undo_20 : decode cX7_undo 20 = .ok (.ifCond .le 5, 3) := by decide +kernel
theorem dX7_undo_23 : decode cX7_undo 23 = .ok (.iconst 0, 1) := by decide +kernel
theorem dX7_undo_24 : decode cX7_undo 24 = .ok (.ireturn, 1) := by decide +kernel
theorem dX7_undo_25 : decode cX7_undo 25 = .ok (.aload_n 0, 1) := by decide +kernel
theorem dX7_undo_26 : decode cX7_undo 26 = .ok (.dup, 1) := by decide +kernel
theorem dX7_undo_27 : decode cX7_undo 27 = .ok (.getfield 88, 3) := by decide +kernel
theorem dX7_undo_30 : decode cX7_undo 30 = .ok (.iconst 1, 1) := by decide +kernel
theorem dX7_undo_31 : decode cX7_undo 31 = .ok (.isub, 1) := by decide +kernel
theorem dX7_undo_32 : decode cX7_undo 32 = .ok (.putfield 88, 3) := by decide +kernel
theorem dX7_undo_35 : decode cX7_undo 35 = .ok (.iconst 0, 1) := by decide +kernel
theorem dX7_undo_36 : decode cX7_undo 36 = .ok (.istore_n 1, 1) := by decide +kernel
theorem dX7_undo_37 : decode cX7_undo 37 = .ok (.iload_n 1, 1) := by decide +kernel
theorem dX7_undo_38 : decode cX7_undo 38 = .ok (.sipush 2189, 3) := by decide +kernel
theorem dX7_undo_41 : decode cX7_undo 41 = .ok (.if_icmp .ge 30, 3) := by decide +kernel
theorem dX7_undo_44 : decode cX7_undo 44 = .ok (.aload_n 0, 1) := by decide +kernel
theorem dX7_undo_45 : decode cX7_undo 45 = .ok (.getfield 7, 3) := by decide +kernel
theorem dX7_undo_48 : decode cX7_undo 48 = .ok (.iload_n 1, 1) := by decide +kernel
theorem dX7_undo_49 : decode cX7_undo 49 = .ok (.aload_n 0, 1) := by decide +kernel
theorem dX7_undo_50 : decode cX7_undo 50 = .ok (.getfield 13, 3) := by decide +kernel
theorem dX7_undo_53 : decode cX7_undo 53 = .ok (.sipush 2189, 3) := by decide +kernel
theorem dX7_undo_56 : decode cX7_undo 56 = .ok (.aload_n 0, 1) := by decide +kernel
theorem dX7_undo_57 : decode cX7_undo 57 = .ok (.getfield 88, 3) := by decide +kernel
theorem dX7_undo_60 : decode cX7_undo 60 = .ok (.imul, 1) := by decide +kernel
theorem dX7_undo_61 : decode cX7_undo 61 = .ok (.iload_n 1, 1) := by decide +kernel
theorem dX7_undo_62 : decode cX7_undo 62 = .ok (.iadd, 1) := by decide +kernel
theorem dX7_undo_63 : decode cX7_undo 63 = .ok (.iaload, 1) := by decide +kernel
theorem dX7_undo_64 : decode cX7_undo 64 = .ok (.iastore, 1) := by decide +kernel
theorem dX7_undo_65 : decode cX7_undo 65 = .ok (.iinc 1 1, 3) := by decide +kernel
theorem dX7_undo_68 : decode cX7_undo 68 = .ok (.goto (-31), 3) := by decide +kernel
theorem dX7_undo_71 : decode cX7_undo 71 = .ok (.aload_n 0, 1) := by decide +kernel
theorem dX7_undo_72 : decode cX7_undo 72 = .ok (.getfield 88, 3) := by decide +kernel
theorem dX7_undo_75 : decode cX7_undo 75 = .ok (.ireturn, 1) := by decide +kernel
theorem dX7_altered_0 : decode cX7_altered 0 = .ok (.iconst 0, 1) := by decide +kernel
theorem dX7_altered_1 : decode cX7_altered 1 = .ok (.istore_n 1, 1) := by decide +kernel
theorem dX7_altered_2 : decode cX7_altered 2 = .ok (.iconst 0, 1) := by decide +kernel
theorem dX7_altered_3 : decode cX7_altered 3 = .ok (.istore_n 2, 1) := by decide +kernel
theorem dX7_altered_4 : decode cX7_altered 4 = .ok (.iload_n 2, 1) := by decide +kernel
theorem dX7_altered_5 : decode cX7_altered 5 = .ok (.sipush 160, 3) := by decide +kernel
theorem dX7_altered_8 : decode cX7_altered 8 = .ok (.if_icmp .ge 43, 3) := by decide +kernel
theorem dX7_altered_11 : decode cX7_altered 11 = .ok (.iload_n 1, 1) := by decide +kernel
theorem dX7_altered_12 : decode cX7_altered 12 = .ok (.aload_n 0, 1) := by decide +kernel
theorem dX7_altered_13 : decode cX7_altered 13 = .ok (.getfield 7, 3) := by decide +kernel
theorem dX7_altered_16 : decode cX7_altered 16 = .ok (.iload_n 2, 1) := by decide +kernel
theorem dX7_altered_17 : decode cX7_altered 17 = .ok (.iaload, 1) := by decide +kernel
theorem dX7_altered_18 : decode cX7_altered 18 = .ok (.aload_n 0, 1) := by decide +kernel
theorem dX7_altered_19 : decode cX7_altered 19 = .ok (.getfield 13, 3) := by decide +kernel
theorem dX7_altered_22 : decode cX7_altered 22 = .ok (.sipush 2189, 3) := by decide +kernel
theorem dX7_altered_25 : decode cX7_altered 25 = .ok (.aload_n 0, 1) := by decide +kernel
theorem dX7_altered_26 : decode cX7_altered 26 = .ok (.getfield 88, 3) := by decide +kernel
theorem dX7_altered_29 : decode cX7_altered 29 = .ok (.iconst 1, 1) := by decide +kernel
theorem dX7_altered_30 : decode cX7_altered 30 = .ok (.isub, 1) := by decide +kernel
theorem dX7_altered_31 : decode cX7_altered 31 = .ok (.imul, 1) := by decide +kernel
theorem dX7_altered_32 : decode cX7_altered 32 = .ok (.iload_n 2, 1) := by decide +kernel
theorem dX7_altered_33 : decode cX7_altered 33 = .ok (.iadd, 1) := by decide +kernel
theorem dX7_altered_34 : decode cX7_altered 34 = .ok (.iaload, 1) := by decide +kernel
theorem dX7_altered_35 : decode cX7_altered 35 = .ok (.if_icmp .eq 7, 3) := by decide +kernel
theorem dX7_altered_38 : decode cX7_altered 38 = .ok (.iconst 1, 1) := by decide +kernel
theorem dX7_altered_39 : decode cX7_altered 39 = .ok (.goto 4, 3) := by decide +kernel
theorem dX7_altered_42 : decode cX7_altered 42 = .ok (.iconst 0, 1) := by decide +kernel
theorem dX7_altered_43 : decode cX7_altered 43 = .ok (.iadd, 1) := by decide +kernel
theorem dX7_altered_44 : decode cX7_altered 44 = .ok (.istore_n 1, 1) := by decide +kernel
theorem dX7_altered_45 : decode cX7_altered 45 = .ok (.iinc 2 1, 3) := by decide +kernel
theorem dX7_altered_48 : decode cX7_altered 48 = .ok (.goto (-44), 3) := by decide +kernel
theorem dX7_altered_51 : decode cX7_altered 51 = .ok (.iload_n 1, 1) := by decide +kernel
theorem dX7_altered_52 : decode cX7_altered 52 = .ok (.ireturn, 1) := by decide +kernel
theorem dX7_isShade_0 : decode cX7_isShade 0 = .ok (.iload_n 0, 1) := by decide +kernel
theorem dX7_isShade_1 : decode cX7_isShade 1 = .ok (.iconst 0, 1) := by decide +kernel
theorem dX7_isShade_2 : decode cX7_isShade 2 = .ok (.bipush 99, 2) := by decide +kernel
theorem dX7_isShade_4 : decode cX7_isShade 4 = .ok (.invokestatic 42, 3) := by decide +kernel
theorem dX7_isShade_7 : decode cX7_isShade 7 = .ok (.ireturn, 1) := by decide +kernel
theorem dX7_draw_0 : decode cX7_draw 0 = .ok (.aload_n 0, 1) := by decide +kernel
theorem dX7_draw_1 : decode cX7_draw 1 = .ok (.iload_n 1, 1) := by decide +kernel
theorem dX7_draw_2 : decode cX7_draw 2 = .ok (.iload_n 2, 1) := by decide +kernel
theorem dX7_draw_3 : decode cX7_draw 3 = .ok (.invokestatic 91, 3) := by decide +kernel
theorem dX7_draw_6 : decode cX7_draw 6 = .ok (.ifCond .eq 12, 3) := by decide +kernel
theorem dX7_draw_9 : decode cX7_draw 9 = .ok (.iload_n 3, 1) := by decide +kernel
theorem dX7_draw_10 : decode cX7_draw 10 = .ok (.iload 4, 2) := by decide +kernel
theorem dX7_draw_12 : decode cX7_draw 12 = .ok (.invokestatic 91, 3) := by decide +kernel
theorem dX7_draw_15 : decode cX7_draw 15 = .ok (.ifCond .ne 7, 3) := by decide +kernel
theorem dX7_draw_18 : decode cX7_draw 18 = .ok (.iconst 1, 1) := by decide +kernel
theorem dX7_draw_19 : decode cX7_draw 19 = .ok (.goto 16, 3) := by decide +kernel
theorem dX7_draw_22 : decode cX7_draw 22 = .ok (.iload 5, 2) := by decide +kernel
theorem dX7_draw_24 : decode cX7_draw 24 = .ok (.invokestatic 94, 3) := by decide +kernel
theorem dX7_draw_27 : decode cX7_draw 27 = .ok (.ifCond .eq 7, 3) := by decide +kernel
theorem dX7_draw_30 : decode cX7_draw 30 = .ok (.iconst 0, 1) := by decide +kernel
theorem dX7_draw_31 : decode cX7_draw 31 = .ok (.goto 4, 3) := by decide +kernel
theorem dX7_draw_34 : decode cX7_draw 34 = .ok (.iconst 2, 1) := by decide +kernel
theorem dX7_draw_35 : decode cX7_draw 35 = .ok (.putfield 38, 3) := by decide +kernel
theorem dX7_draw_38 : decode cX7_draw 38 = .ok (.aload_n 0, 1) := by decide +kernel
theorem dX7_draw_39 : decode cX7_draw 39 = .ok (.getfield 38, 3) := by decide +kernel
theorem dX7_draw_42 : decode cX7_draw 42 = .ok (.ifCond .le 5, 3) := by decide +kernel
theorem dX7_draw_45 : decode cX7_draw 45 = .ok (.iconst 0, 1) := by decide +kernel
theorem dX7_draw_46 : decode cX7_draw 46 = .ok (.ireturn, 1) := by decide +kernel
theorem dX7_draw_47 : decode cX7_draw 47 = .ok (.aload_n 0, 1) := by decide +kernel
theorem dX7_draw_48 : decode cX7_draw 48 = .ok (.invokevirtual 98, 3) := by decide +kernel
theorem dX7_draw_51 : decode cX7_draw 51 = .ok (.iconst 0, 1) := by decide +kernel
theorem dX7_draw_52 : decode cX7_draw 52 = .ok (.istore 6, 2) := by decide +kernel
theorem dX7_draw_54 : decode cX7_draw 54 = .ok (.iload 6, 2) := by decide +kernel
theorem dX7_draw_56 : decode cX7_draw 56 = .ok (.sipush 160, 3) := by decide +kernel
theorem dX7_draw_59 : decode cX7_draw 59 = .ok (.if_icmp .ge 108, 3) := by decide +kernel
theorem dX7_draw_62 : decode cX7_draw 62 = .ok (.iload 6, 2) := by decide +kernel
theorem dX7_draw_64 : decode cX7_draw 64 = .ok (.bipush 16, 2) := by decide +kernel
theorem dX7_draw_66 : decode cX7_draw 66 = .ok (.irem, 1) := by decide +kernel
theorem dX7_draw_67 : decode cX7_draw 67 = .ok (.istore 7, 2) := by decide +kernel
theorem dX7_draw_69 : decode cX7_draw 69 = .ok (.iload 6, 2) := by decide +kernel
theorem dX7_draw_71 : decode cX7_draw 71 = .ok (.bipush 16, 2) := by decide +kernel
theorem dX7_draw_73 : decode cX7_draw 73 = .ok (.idiv, 1) := by decide +kernel
theorem dX7_draw_74 : decode cX7_draw 74 = .ok (.istore 8, 2) := by decide +kernel
theorem dX7_draw_76 : decode cX7_draw 76 = .ok (.iload 7, 2) := by decide +kernel
theorem dX7_draw_78 : decode cX7_draw 78 = .ok (.iload_n 1, 1) := by decide +kernel
theorem dX7_draw_79 : decode cX7_draw 79 = .ok (.iload_n 3, 1) := by decide +kernel
theorem dX7_draw_80 : decode cX7_draw 80 = .ok (.invokestatic 42, 3) := by decide +kernel
theorem dX7_draw_83 : decode cX7_draw 83 = .ok (.ifCond .ne 13, 3) := by decide +kernel
theorem dX7_draw_86 : decode cX7_draw 86 = .ok (.iload 7, 2) := by decide +kernel
theorem dX7_draw_88 : decode cX7_draw 88 = .ok (.iload_n 3, 1) := by decide +kernel
theorem dX7_draw_89 : decode cX7_draw 89 = .ok (.iload_n 1, 1) := by decide +kernel
theorem dX7_draw_90 : decode cX7_draw 90 = .ok (.invokestatic 42, 3) := by decide +kernel
theorem dX7_draw_93 : decode cX7_draw 93 = .ok (.ifCond .eq 7, 3) := by decide +kernel
theorem dX7_draw_96 : decode cX7_draw 96 = .ok (.iconst 1, 1) := by decide +kernel
theorem dX7_draw_97 : decode cX7_draw 97 = .ok (.goto 4, 3) := by decide +kernel
theorem dX7_draw_100 : decode cX7_draw 100 = .ok (.iconst 0, 1) := by decide +kernel
theorem dX7_draw_101 : decode cX7_draw 101 = .ok (.istore 9, 2) := by decide +kernel
theorem dX7_draw_103 : decode cX7_draw 103 = .ok (.iload 8, 2) := by decide +kernel
theorem dX7_draw_105 : decode cX7_draw 105 = .ok (.iload_n 2, 1) := by decide +kernel
theorem dX7_draw_106 : decode cX7_draw 106 = .ok (.iload 4, 2) := by decide +kernel
theorem dX7_draw_108 : decode cX7_draw 108 = .ok (.invokestatic 42, 3) := by decide +kernel
theorem dX7_draw_111 : decode cX7_draw 111 = .ok (.ifCond .ne 14, 3) := by decide +kernel
theorem dX7_draw_114 : decode cX7_draw 114 = .ok (.iload 8, 2) := by decide +kernel
theorem dX7_draw_116 : decode cX7_draw 116 = .ok (.iload 4, 2) := by decide +kernel
theorem dX7_draw_118 : decode cX7_draw 118 = .ok (.iload_n 2, 1) := by decide +kernel
theorem dX7_draw_119 : decode cX7_draw 119 = .ok (.invokestatic 42, 3) := by decide +kernel
theorem dX7_draw_122 : decode cX7_draw 122 = .ok (.ifCond .eq 7, 3) := by decide +kernel
theorem dX7_draw_125 : decode cX7_draw 125 = .ok (.iconst 1, 1) := by decide +kernel
theorem dX7_draw_126 : decode cX7_draw 126 = .ok (.goto 4, 3) := by decide +kernel
theorem dX7_draw_129 : decode cX7_draw 129 = .ok (.iconst 0, 1) := by decide +kernel
theorem dX7_draw_130 : decode cX7_draw 130 = .ok (.istore 10, 2) := by decide +kernel
theorem dX7_draw_132 : decode cX7_draw 132 = .ok (.aload_n 0, 1) := by decide +kernel
theorem dX7_draw_133 : decode cX7_draw 133 = .ok (.getfield 7, 3) := by decide +kernel
theorem dX7_draw_136 : decode cX7_draw 136 = .ok (.iload 6, 2) := by decide +kernel
theorem dX7_draw_138 : decode cX7_draw 138 = .ok (.iload 9, 2) := by decide +kernel
theorem dX7_draw_140 : decode cX7_draw 140 = .ok (.ifCond .eq 13, 3) := by decide +kernel
theorem dX7_draw_143 : decode cX7_draw 143 = .ok (.iload 10, 2) := by decide +kernel
theorem dX7_draw_145 : decode cX7_draw 145 = .ok (.ifCond .eq 8, 3) := by decide +kernel
theorem dX7_draw_148 : decode cX7_draw 148 = .ok (.iload 5, 2) := by decide +kernel
theorem dX7_draw_150 : decode cX7_draw 150 = .ok (.goto 10, 3) := by decide +kernel
theorem dX7_draw_153 : decode cX7_draw 153 = .ok (.aload_n 0, 1) := by decide +kernel
theorem dX7_draw_154 : decode cX7_draw 154 = .ok (.getfield 7, 3) := by decide +kernel
theorem dX7_draw_157 : decode cX7_draw 157 = .ok (.iload 6, 2) := by decide +kernel
theorem dX7_draw_159 : decode cX7_draw 159 = .ok (.iaload, 1) := by decide +kernel
theorem dX7_draw_160 : decode cX7_draw 160 = .ok (.iastore, 1) := by decide +kernel
theorem dX7_draw_161 : decode cX7_draw 161 = .ok (.iinc 6 1, 3) := by decide +kernel
theorem dX7_draw_164 : decode cX7_draw 164 = .ok (.goto (-110), 3) := by decide +kernel
theorem dX7_draw_167 : decode cX7_draw 167 = .ok (.aload_n 0, 1) := by decide +kernel
theorem dX7_draw_168 : decode cX7_draw 168 = .ok (.invokevirtual 101, 3) := by decide +kernel
theorem dX7_draw_171 : decode cX7_draw 171 = .ok (.ireturn, 1) := by decide +kernel
theorem dX7_fill_0 : decode cX7_fill 0 = .ok (.aload_n 0, 1) := by decide +kernel
theorem dX7_fill_1 : decode cX7_fill 1 = .ok (.iload_n 1, 1) := by decide +kernel
theorem dX7_fill_2 : decode cX7_fill 2 = .ok (.invokestatic 94, 3) := by decide +kernel
theorem dX7_fill_5 : decode cX7_fill 5 = .ok (.ifCond .eq 7, 3) := by decide +kernel
theorem dX7_fill_8 : decode cX7_fill 8 = .ok (.iconst 0, 1) := by decide +kernel
theorem dX7_fill_9 : decode cX7_fill 9 = .ok (.goto 4, 3) := by decide +kernel
theorem dX7_fill_12 : decode cX7_fill 12 = .ok (.iconst 1, 1) := by decide +kernel
theorem dX7_fill_13 : decode cX7_fill 13 = .ok (.putfield 38, 3) := by decide +kernel
theorem dX7_fill_16 : decode cX7_fill 16 = .ok (.aload_n 0, 1) := by decide +kernel
theorem dX7_fill_17 : decode cX7_fill 17 = .ok (.getfield 38, 3) := by decide +kernel
theorem dX7_fill_20 : decode cX7_fill 20 = .ok (.ifCond .le 5, 3) := by decide +kernel
theorem dX7_fill_23 : decode cX7_fill 23 = .ok (.iconst 0, 1) := by decide +kernel
theorem dX7_fill_24 : decode cX7_fill 24 = .ok (.ireturn, 1) := by decide +kernel
theorem dX7_fill_25 : decode cX7_fill 25 = .ok (.aload_n 0, 1) := by decide +kernel
theorem dX7_fill_26 : decode cX7_fill 26 = .ok (.invokevirtual 98, 3) := by decide +kernel
theorem dX7_fill_29 : decode cX7_fill 29 = .ok (.aload_n 0, 1) := by decide +kernel
theorem dX7_fill_30 : decode cX7_fill 30 = .ok (.invokevirtual 105, 3) := by decide +kernel
theorem dX7_fill_33 : decode cX7_fill 33 = .ok (.iconst 0, 1) := by decide +kernel
theorem dX7_fill_34 : decode cX7_fill 34 = .ok (.istore_n 2, 1) := by decide +kernel
theorem dX7_fill_35 : decode cX7_fill 35 = .ok (.iload_n 2, 1) := by decide +kernel
theorem dX7_fill_36 : decode cX7_fill 36 = .ok (.sipush 160, 3) := by decide +kernel
theorem dX7_fill_39 : decode cX7_fill 39 = .ok (.if_icmp .ge 36, 3) := by decide +kernel
theorem dX7_fill_42 : decode cX7_fill 42 = .ok (.aload_n 0, 1) := by decide +kernel
theorem dX7_fill_43 : decode cX7_fill 43 = .ok (.getfield 7, 3) := by decide +kernel
theorem dX7_fill_46 : decode cX7_fill 46 = .ok (.iload_n 2, 1) := by decide +kernel
theorem dX7_fill_47 : decode cX7_fill 47 = .ok (.dup2, 1) := by decide +kernel
theorem dX7_fill_48 : decode cX7_fill 48 = .ok (.iaload, 1) := by decide +kernel
theorem dX7_fill_49 : decode cX7_fill 49 = .ok (.iload_n 1, 1) := by decide +kernel
theorem dX7_fill_50 : decode cX7_fill 50 = .ok (.aload_n 0, 1) := by decide +kernel
theorem dX7_fill_51 : decode cX7_fill 51 = .ok (.getfield 7, 3) := by decide +kernel
theorem dX7_fill_54 : decode cX7_fill 54 = .ok (.iload_n 2, 1) := by decide +kernel
theorem dX7_fill_55 : decode cX7_fill 55 = .ok (.iaload, 1) := by decide +kernel
theorem dX7_fill_56 : decode cX7_fill 56 = .ok (.isub, 1) := by decide +kernel
theorem dX7_fill_57 : decode cX7_fill 57 = .ok (.aload_n 0, 1) := by decide +kernel
theorem dX7_fill_58 : decode cX7_fill 58 = .ok (.getfield 32, 3) := by decide +kernel
theorem dX7_fill_61 : decode cX7_fill 61 = .ok (.iload_n 2, 1) := by decide +kernel
theorem dX7_fill_62 : decode cX7_fill 62 = .ok (.iaload, 1) := by decide +kernel
theorem dX7_fill_63 : decode cX7_fill 63 = .ok (.imul, 1) := by decide +kernel
theorem dX7_fill_64 : decode cX7_fill 64 = .ok (.bipush 100, 2) := by decide +kernel
theorem dX7_fill_66 : decode cX7_fill 66 = .ok (.idiv, 1) := by decide +kernel
theorem dX7_fill_67 : decode cX7_fill 67 = .ok (.iadd, 1) := by decide +kernel
theorem dX7_fill_68 : decode cX7_fill 68 = .ok (.iastore, 1) := by decide +kernel
theorem dX7_fill_69 : decode cX7_fill 69 = .ok (.iinc 2 1, 3) := by decide +kernel
theorem dX7_fill_72 : decode cX7_fill 72 = .ok (.goto (-37), 3) := by decide +kernel
theorem dX7_fill_75 : decode cX7_fill 75 = .ok (.aload_n 0, 1) := by decide +kernel
theorem dX7_fill_76 : decode cX7_fill 76 = .ok (.invokevirtual 101, 3) := by decide +kernel
theorem dX7_fill_79 : decode cX7_fill 79 = .ok (.ireturn, 1) := by decide +kernel
theorem dX7_isAsked_0 : decode cX7_isAsked 0 = .ok (.iload_n 0, 1) := by decide +kernel
theorem dX7_isAsked_1 : decode cX7_isAsked 1 = .ok (.invokestatic 94, 3) := by decide +kernel
theorem dX7_isAsked_4 : decode cX7_isAsked 4 = .ok (.ifCond .eq 25, 3) := by decide +kernel
theorem dX7_isAsked_7 : decode cX7_isAsked 7 = .ok (.iload_n 1, 1) := by decide +kernel
theorem dX7_isAsked_8 : decode cX7_isAsked 8 = .ok (.iconst 0, 1) := by decide +kernel
theorem dX7_isAsked_9 : decode cX7_isAsked 9 = .ok (.iconst 1, 1) := by decide +kernel
theorem dX7_isAsked_10 : decode cX7_isAsked 10 = .ok (.invokestatic 42, 3) := by decide +kernel
theorem dX7_isAsked_13 : decode cX7_isAsked 13 = .ok (.ifCond .eq 16, 3) := by decide +kernel
theorem dX7_isAsked_16 : decode cX7_isAsked 16 = .ok (.iload_n 2, 1) := by decide +kernel
theorem dX7_isAsked_17 : decode cX7_isAsked 17 = .ok (.iconst 0, 1) := by decide +kernel
theorem dX7_isAsked_18 : decode cX7_isAsked 18 = .ok (.iconst 5, 1) := by decide +kernel
theorem dX7_isAsked_19 : decode cX7_isAsked 19 = .ok (.invokestatic 42, 3) := by decide +kernel
theorem dX7_isAsked_22 : decode cX7_isAsked 22 = .ok (.ifCond .eq 7, 3) := by decide +kernel
theorem dX7_isAsked_25 : decode cX7_isAsked 25 = .ok (.iconst 1, 1) := by decide +kernel
theorem dX7_isAsked_26 : decode cX7_isAsked 26 = .ok (.goto 4, 3) := by decide +kernel
theorem dX7_isAsked_29 : decode cX7_isAsked 29 = .ok (.iconst 0, 1) := by decide +kernel
theorem dX7_isAsked_30 : decode cX7_isAsked 30 = .ok (.ireturn, 1) := by decide +kernel
theorem dX7_pick_0 : decode cX7_pick 0 = .ok (.iload_n 3, 1) := by decide +kernel
theorem dX7_pick_1 : decode cX7_pick 1 = .ok (.iload 4, 2) := by decide +kernel
theorem dX7_pick_3 : decode cX7_pick 3 = .ok (.iload 5, 2) := by decide +kernel
theorem dX7_pick_5 : decode cX7_pick 5 = .ok (.invokestatic 108, 3) := by decide +kernel
theorem dX7_pick_8 : decode cX7_pick 8 = .ok (.ifCond .eq 27, 3) := by decide +kernel
theorem dX7_pick_11 : decode cX7_pick 11 = .ok (.iload 6, 2) := by decide +kernel
theorem dX7_pick_13 : decode cX7_pick 13 = .ok (.iconst 0, 1) := by decide +kernel
theorem dX7_pick_14 : decode cX7_pick 14 = .ok (.bipush 43, 2) := by decide +kernel
theorem dX7_pick_16 : decode cX7_pick 16 = .ok (.invokestatic 42, 3) := by decide +kernel
theorem dX7_pick_19 : decode cX7_pick 19 = .ok (.ifCond .eq 16, 3) := by decide +kernel
theorem dX7_pick_22 : decode cX7_pick 22 = .ok (.iload 6, 2) := by decide +kernel
theorem dX7_pick_24 : decode cX7_pick 24 = .ok (.bipush 10, 2) := by decide +kernel
theorem dX7_pick_26 : decode cX7_pick 26 = .ok (.irem, 1) := by decide +kernel
theorem dX7_pick_27 : decode cX7_pick 27 = .ok (.iconst 4, 1) := by decide +kernel
theorem dX7_pick_28 : decode cX7_pick 28 = .ok (.if_icmp .ge 7, 3) := by decide +kernel
theorem dX7_pick_31 : decode cX7_pick 31 = .ok (.iconst 1, 1) := by decide +kernel
theorem dX7_pick_32 : decode cX7_pick 32 = .ok (.goto 4, 3) := by decide +kernel
theorem dX7_pick_35 : decode cX7_pick 35 = .ok (.iconst 0, 1) := by decide +kernel
theorem dX7_pick_36 : decode cX7_pick 36 = .ok (.istore 7, 2) := by decide +kernel
theorem dX7_pick_38 : decode cX7_pick 38 = .ok (.aload_n 0, 1) := by decide +kernel
theorem dX7_pick_39 : decode cX7_pick 39 = .ok (.iload_n 1, 1) := by decide +kernel
theorem dX7_pick_40 : decode cX7_pick 40 = .ok (.iload_n 2, 1) := by decide +kernel
theorem dX7_pick_41 : decode cX7_pick 41 = .ok (.invokestatic 91, 3) := by decide +kernel
theorem dX7_pick_44 : decode cX7_pick 44 = .ok (.ifCond .ne 7, 3) := by decide +kernel
theorem dX7_pick_47 : decode cX7_pick 47 = .ok (.iconst 1, 1) := by decide +kernel
theorem dX7_pick_48 : decode cX7_pick 48 = .ok (.goto 30, 3) := by decide +kernel
theorem dX7_pick_51 : decode cX7_pick 51 = .ok (.iload 7, 2) := by decide +kernel
theorem dX7_pick_53 : decode cX7_pick 53 = .ok (.ifCond .ne 7, 3) := by decide +kernel
theorem dX7_pick_56 : decode cX7_pick 56 = .ok (.iconst 2, 1) := by decide +kernel
theorem dX7_pick_57 : decode cX7_pick 57 = .ok (.goto 21, 3) := by decide +kernel
theorem dX7_pick_60 : decode cX7_pick 60 = .ok (.aload_n 0, 1) := by decide +kernel
theorem dX7_pick_61 : decode cX7_pick 61 = .ok (.getfield 7, 3) := by decide +kernel
theorem dX7_pick_64 : decode cX7_pick 64 = .ok (.sipush 160, 3) := by decide +kernel
theorem dX7_pick_67 : decode cX7_pick 67 = .ok (.iaload, 1) := by decide +kernel
theorem dX7_pick_68 : decode cX7_pick 68 = .ok (.bipush 12, 2) := by decide +kernel
theorem dX7_pick_70 : decode cX7_pick 70 = .ok (.if_icmp .ne 7, 3) := by decide +kernel
theorem dX7_pick_73 : decode cX7_pick 73 = .ok (.iconst 3, 1) := by decide +kernel
theorem dX7_pick_74 : decode cX7_pick 74 = .ok (.goto 4, 3) := by decide +kernel
theorem dX7_pick_77 : decode cX7_pick 77 = .ok (.iconst 0, 1) := by decide +kernel
theorem dX7_pick_78 : decode cX7_pick 78 = .ok (.putfield 38, 3) := by decide +kernel
theorem dX7_pick_81 : decode cX7_pick 81 = .ok (.aload_n 0, 1) := by decide +kernel
theorem dX7_pick_82 : decode cX7_pick 82 = .ok (.getfield 38, 3) := by decide +kernel
theorem dX7_pick_85 : decode cX7_pick 85 = .ok (.ifCond .le 5, 3) := by decide +kernel
theorem dX7_pick_88 : decode cX7_pick 88 = .ok (.iconst 0, 1) := by decide +kernel
theorem dX7_pick_89 : decode cX7_pick 89 = .ok (.ireturn, 1) := by decide +kernel
theorem dX7_pick_90 : decode cX7_pick 90 = .ok (.aload_n 0, 1) := by decide +kernel
theorem dX7_pick_91 : decode cX7_pick 91 = .ok (.invokevirtual 98, 3) := by decide +kernel
theorem dX7_pick_94 : decode cX7_pick 94 = .ok (.aload_n 0, 1) := by decide +kernel
theorem dX7_pick_95 : decode cX7_pick 95 = .ok (.bipush 16, 2) := by decide +kernel
theorem dX7_pick_97 : decode cX7_pick 97 = .ok (.iload_n 2, 1) := by decide +kernel
theorem dX7_pick_98 : decode cX7_pick 98 = .ok (.imul, 1) := by decide +kernel
theorem dX7_pick_99 : decode cX7_pick 99 = .ok (.iload_n 1, 1) := by decide +kernel
theorem dX7_pick_100 : decode cX7_pick 100 = .ok (.iadd, 1) := by decide +kernel
theorem dX7_pick_101 : decode cX7_pick 101 = .ok (.iload_n 3, 1) := by decide +kernel
theorem dX7_pick_102 : decode cX7_pick 102 = .ok (.iload 4, 2) := by decide +kernel
theorem dX7_pick_104 : decode cX7_pick 104 = .ok (.iload 5, 2) := by decide +kernel
theorem dX7_pick_106 : decode cX7_pick 106 = .ok (.invokevirtual 111, 3) := by decide +kernel
theorem dX7_pick_109 : decode cX7_pick 109 = .ok (.sipush 161, 3) := by decide +kernel
theorem dX7_pick_112 : decode cX7_pick 112 = .ok (.sipush 169, 3) := by decide +kernel
theorem dX7_pick_115 : decode cX7_pick 115 = .ok (.aload_n 0, 1) := by decide +kernel
theorem dX7_pick_116 : decode cX7_pick 116 = .ok (.getfield 7, 3) := by decide +kernel
theorem dX7_pick_119 : decode cX7_pick 119 = .ok (.sipush 160, 3) := by decide +kernel
theorem dX7_pick_122 : decode cX7_pick 122 = .ok (.iaload, 1) := by decide +kernel
theorem dX7_pick_123 : decode cX7_pick 123 = .ok (.imul, 1) := by decide +kernel
theorem dX7_pick_124 : decode cX7_pick 124 = .ok (.iadd, 1) := by decide +kernel
theorem dX7_pick_125 : decode cX7_pick 125 = .ok (.istore 8, 2) := by decide +kernel
theorem dX7_pick_127 : decode cX7_pick 127 = .ok (.aload_n 0, 1) := by decide +kernel
theorem dX7_pick_128 : decode cX7_pick 128 = .ok (.getfield 7, 3) := by decide +kernel
theorem dX7_pick_131 : decode cX7_pick 131 = .ok (.iload 8, 2) := by decide +kernel
theorem dX7_pick_133 : decode cX7_pick 133 = .ok (.iload_n 1, 1) := by decide +kernel
theorem dX7_pick_134 : decode cX7_pick 134 = .ok (.iastore, 1) := by decide +kernel
theorem dX7_pick_135 : decode cX7_pick 135 = .ok (.aload_n 0, 1) := by decide +kernel
theorem dX7_pick_136 : decode cX7_pick 136 = .ok (.getfield 7, 3) := by decide +kernel
theorem dX7_pick_139 : decode cX7_pick 139 = .ok (.iload 8, 2) := by decide +kernel
theorem dX7_pick_141 : decode cX7_pick 141 = .ok (.iconst 1, 1) := by decide +kernel
theorem dX7_pick_142 : decode cX7_pick 142 = .ok (.iadd, 1) := by decide +kernel
theorem dX7_pick_143 : decode cX7_pick 143 = .ok (.iload_n 2, 1) := by decide +kernel
theorem dX7_pick_144 : decode cX7_pick 144 = .ok (.iastore, 1) := by decide +kernel
theorem dX7_pick_145 : decode cX7_pick 145 = .ok (.aload_n 0, 1) := by decide +kernel
theorem dX7_pick_146 : decode cX7_pick 146 = .ok (.getfield 7, 3) := by decide +kernel
theorem dX7_pick_149 : decode cX7_pick 149 = .ok (.iload 8, 2) := by decide +kernel
theorem dX7_pick_151 : decode cX7_pick 151 = .ok (.iconst 2, 1) := by decide +kernel
theorem dX7_pick_152 : decode cX7_pick 152 = .ok (.iadd, 1) := by decide +kernel
theorem dX7_pick_153 : decode cX7_pick 153 = .ok (.iload_n 3, 1) := by decide +kernel
theorem dX7_pick_154 : decode cX7_pick 154 = .ok (.iastore, 1) := by decide +kernel
theorem dX7_pick_155 : decode cX7_pick 155 = .ok (.aload_n 0, 1) := by decide +kernel
theorem dX7_pick_156 : decode cX7_pick 156 = .ok (.getfield 7, 3) := by decide +kernel
theorem dX7_pick_159 : decode cX7_pick 159 = .ok (.iload 8, 2) := by decide +kernel
theorem dX7_pick_161 : decode cX7_pick 161 = .ok (.iconst 3, 1) := by decide +kernel
theorem dX7_pick_162 : decode cX7_pick 162 = .ok (.iadd, 1) := by decide +kernel
theorem dX7_pick_163 : decode cX7_pick 163 = .ok (.iload 4, 2) := by decide +kernel
theorem dX7_pick_165 : decode cX7_pick 165 = .ok (.iastore, 1) := by decide +kernel
theorem dX7_pick_166 : decode cX7_pick 166 = .ok (.aload_n 0, 1) := by decide +kernel
theorem dX7_pick_167 : decode cX7_pick 167 = .ok (.getfield 7, 3) := by decide +kernel
theorem dX7_pick_170 : decode cX7_pick 170 = .ok (.iload 8, 2) := by decide +kernel
theorem dX7_pick_172 : decode cX7_pick 172 = .ok (.iconst 4, 1) := by decide +kernel
theorem dX7_pick_173 : decode cX7_pick 173 = .ok (.iadd, 1) := by decide +kernel
theorem dX7_pick_174 : decode cX7_pick 174 = .ok (.iload 5, 2) := by decide +kernel
theorem dX7_pick_176 : decode cX7_pick 176 = .ok (.iastore, 1) := by decide +kernel
theorem dX7_pick_177 : decode cX7_pick 177 = .ok (.aload_n 0, 1) := by decide +kernel
theorem dX7_pick_178 : decode cX7_pick 178 = .ok (.getfield 7, 3) := by decide +kernel
theorem dX7_pick_181 : decode cX7_pick 181 = .ok (.iload 8, 2) := by decide +kernel
theorem dX7_pick_183 : decode cX7_pick 183 = .ok (.iconst 5, 1) := by decide +kernel
theorem dX7_pick_184 : decode cX7_pick 184 = .ok (.iadd, 1) := by decide +kernel
theorem dX7_pick_185 : decode cX7_pick 185 = .ok (.iload 6, 2) := by decide +kernel
theorem dX7_pick_187 : decode cX7_pick 187 = .ok (.bipush 10, 2) := by decide +kernel
theorem dX7_pick_189 : decode cX7_pick 189 = .ok (.irem, 1) := by decide +kernel
theorem dX7_pick_190 : decode cX7_pick 190 = .ok (.iastore, 1) := by decide +kernel
theorem dX7_pick_191 : decode cX7_pick 191 = .ok (.aload_n 0, 1) := by decide +kernel
theorem dX7_pick_192 : decode cX7_pick 192 = .ok (.getfield 7, 3) := by decide +kernel
theorem dX7_pick_195 : decode cX7_pick 195 = .ok (.iload 8, 2) := by decide +kernel
theorem dX7_pick_197 : decode cX7_pick 197 = .ok (.bipush 6, 2) := by decide +kernel
theorem dX7_pick_199 : decode cX7_pick 199 = .ok (.iadd, 1) := by decide +kernel
theorem dX7_pick_200 : decode cX7_pick 200 = .ok (.iload 6, 2) := by decide +kernel
theorem dX7_pick_202 : decode cX7_pick 202 = .ok (.bipush 10, 2) := by decide +kernel
theorem dX7_pick_204 : decode cX7_pick 204 = .ok (.idiv, 1) := by decide +kernel
theorem dX7_pick_205 : decode cX7_pick 205 = .ok (.iastore, 1) := by decide +kernel
theorem dX7_pick_206 : decode cX7_pick 206 = .ok (.aload_n 0, 1) := by decide +kernel
theorem dX7_pick_207 : decode cX7_pick 207 = .ok (.getfield 7, 3) := by decide +kernel
theorem dX7_pick_210 : decode cX7_pick 210 = .ok (.iload 8, 2) := by decide +kernel
theorem dX7_pick_212 : decode cX7_pick 212 = .ok (.bipush 7, 2) := by decide +kernel
theorem dX7_pick_214 : decode cX7_pick 214 = .ok (.iadd, 1) := by decide +kernel
theorem dX7_pick_215 : decode cX7_pick 215 = .ok (.iconst 1, 1) := by decide +kernel
theorem dX7_pick_216 : decode cX7_pick 216 = .ok (.iastore, 1) := by decide +kernel
theorem dX7_pick_217 : decode cX7_pick 217 = .ok (.aload_n 0, 1) := by decide +kernel
theorem dX7_pick_218 : decode cX7_pick 218 = .ok (.getfield 7, 3) := by decide +kernel
theorem dX7_pick_221 : decode cX7_pick 221 = .ok (.iload 8, 2) := by decide +kernel
theorem dX7_pick_223 : decode cX7_pick 223 = .ok (.bipush 8, 2) := by decide +kernel
theorem dX7_pick_225 : decode cX7_pick 225 = .ok (.iadd, 1) := by decide +kernel
theorem dX7_pick_226 : decode cX7_pick 226 = .ok (.aload_n 0, 1) := by decide +kernel
theorem dX7_pick_227 : decode cX7_pick 227 = .ok (.getfield 72, 3) := by decide +kernel
theorem dX7_pick_230 : decode cX7_pick 230 = .ok (.iastore, 1) := by decide +kernel
theorem dX7_pick_231 : decode cX7_pick 231 = .ok (.iconst 0, 1) := by decide +kernel
theorem dX7_pick_232 : decode cX7_pick 232 = .ok (.istore 9, 2) := by decide +kernel
theorem dX7_pick_234 : decode cX7_pick 234 = .ok (.iload 9, 2) := by decide +kernel
theorem dX7_pick_236 : decode cX7_pick 236 = .ok (.sipush 160, 3) := by decide +kernel
theorem dX7_pick_239 : decode cX7_pick 239 = .ok (.if_icmp .ge 33, 3) := by decide +kernel
theorem dX7_pick_242 : decode cX7_pick 242 = .ok (.aload_n 0, 1) := by decide +kernel
theorem dX7_pick_243 : decode cX7_pick 243 = .ok (.getfield 7, 3) := by decide +kernel
theorem dX7_pick_246 : decode cX7_pick 246 = .ok (.iload 8, 2) := by decide +kernel
theorem dX7_pick_248 : decode cX7_pick 248 = .ok (.bipush 9, 2) := by decide +kernel
theorem dX7_pick_250 : decode cX7_pick 250 = .ok (.iadd, 1) := by decide +kernel
theorem dX7_pick_251 : decode cX7_pick 251 = .ok (.iload 9, 2) := by decide +kernel
theorem dX7_pick_253 : decode cX7_pick 253 = .ok (.iadd, 1) := by decide +kernel
theorem dX7_pick_254 : decode cX7_pick 254 = .ok (.aload_n 0, 1) := by decide +kernel
theorem dX7_pick_255 : decode cX7_pick 255 = .ok (.iload 9, 2) := by decide +kernel
theorem dX7_pick_257 : decode cX7_pick 257 = .ok (.iload 6, 2) := by decide +kernel
theorem dX7_pick_259 : decode cX7_pick 259 = .ok (.bipush 10, 2) := by decide +kernel
theorem dX7_pick_261 : decode cX7_pick 261 = .ok (.idiv, 1) := by decide +kernel
theorem dX7_pick_262 : decode cX7_pick 262 = .ok (.invokevirtual 115, 3) := by decide +kernel
theorem dX7_pick_265 : decode cX7_pick 265 = .ok (.iastore, 1) := by decide +kernel
theorem dX7_pick_266 : decode cX7_pick 266 = .ok (.iinc 9 1, 3) := by decide +kernel
theorem dX7_pick_269 : decode cX7_pick 269 = .ok (.goto (-35), 3) := by decide +kernel
theorem dX7_pick_272 : decode cX7_pick 272 = .ok (.aload_n 0, 1) := by decide +kernel
theorem dX7_pick_273 : decode cX7_pick 273 = .ok (.getfield 7, 3) := by decide +kernel
theorem dX7_pick_276 : decode cX7_pick 276 = .ok (.sipush 160, 3) := by decide +kernel
theorem dX7_pick_279 : decode cX7_pick 279 = .ok (.dup2, 1) := by decide +kernel
theorem dX7_pick_280 : decode cX7_pick 280 = .ok (.iaload, 1) := by decide +kernel
theorem dX7_pick_281 : decode cX7_pick 281 = .ok (.iconst 1, 1) := by decide +kernel
theorem dX7_pick_282 : decode cX7_pick 282 = .ok (.iadd, 1) := by decide +kernel
theorem dX7_pick_283 : decode cX7_pick 283 = .ok (.iastore, 1) := by decide +kernel
theorem dX7_pick_284 : decode cX7_pick 284 = .ok (.aload_n 0, 1) := by decide +kernel
theorem dX7_pick_285 : decode cX7_pick 285 = .ok (.invokevirtual 118, 3) := by decide +kernel
theorem dX7_pick_288 : decode cX7_pick 288 = .ok (.ireturn, 1) := by decide +kernel
theorem dX7_toggle_0 : decode cX7_toggle 0 = .ok (.aload_n 0, 1) := by decide +kernel
theorem dX7_toggle_1 : decode cX7_toggle 1 = .ok (.aload_n 0, 1) := by decide +kernel
theorem dX7_toggle_2 : decode cX7_toggle 2 = .ok (.iload_n 1, 1) := by decide +kernel
theorem dX7_toggle_3 : decode cX7_toggle 3 = .ok (.invokevirtual 121, 3) := by decide +kernel
theorem dX7_toggle_6 : decode cX7_toggle 6 = .ok (.ifCond .eq 7, 3) := by decide +kernel
theorem dX7_toggle_9 : decode cX7_toggle 9 = .ok (.iconst 0, 1) := by decide +kernel
theorem dX7_toggle_10 : decode cX7_toggle 10 = .ok (.goto 4, 3) := by decide +kernel
theorem dX7_toggle_13 : decode cX7_toggle 13 = .ok (.iconst 1, 1) := by decide +kernel
theorem dX7_toggle_14 : decode cX7_toggle 14 = .ok (.putfield 38, 3) := by decide +kernel
theorem dX7_toggle_17 : decode cX7_toggle 17 = .ok (.aload_n 0, 1) := by decide +kernel
theorem dX7_toggle_18 : decode cX7_toggle 18 = .ok (.getfield 38, 3) := by decide +kernel
theorem dX7_toggle_21 : decode cX7_toggle 21 = .ok (.ifCond .le 5, 3) := by decide +kernel
theorem dX7_toggle_24 : decode cX7_toggle 24 = .ok (.iconst 0, 1) := by decide +kernel
theorem dX7_toggle_25 : decode cX7_toggle 25 = .ok (.ireturn, 1) := by decide +kernel
theorem dX7_toggle_26 : decode cX7_toggle 26 = .ok (.aload_n 0, 1) := by decide +kernel
theorem dX7_toggle_27 : decode cX7_toggle 27 = .ok (.invokevirtual 98, 3) := by decide +kernel
theorem dX7_toggle_30 : decode cX7_toggle 30 = .ok (.aload_n 0, 1) := by decide +kernel
theorem dX7_toggle_31 : decode cX7_toggle 31 = .ok (.getfield 7, 3) := by decide +kernel
theorem dX7_toggle_34 : decode cX7_toggle 34 = .ok (.sipush 161, 3) := by decide +kernel
theorem dX7_toggle_37 : decode cX7_toggle 37 = .ok (.sipush 169, 3) := by decide +kernel
theorem dX7_toggle_40 : decode cX7_toggle 40 = .ok (.iload_n 1, 1) := by decide +kernel
theorem dX7_toggle_41 : decode cX7_toggle 41 = .ok (.imul, 1) := by decide +kernel
theorem dX7_toggle_42 : decode cX7_toggle 42 = .ok (.iadd, 1) := by decide +kernel
theorem dX7_toggle_43 : decode cX7_toggle 43 = .ok (.bipush 7, 2) := by decide +kernel
theorem dX7_toggle_45 : decode cX7_toggle 45 = .ok (.iadd, 1) := by decide +kernel
theorem dX7_toggle_46 : decode cX7_toggle 46 = .ok (.iconst 1, 1) := by decide +kernel
theorem dX7_toggle_47 : decode cX7_toggle 47 = .ok (.aload_n 0, 1) := by decide +kernel
theorem dX7_toggle_48 : decode cX7_toggle 48 = .ok (.iload_n 1, 1) := by decide +kernel
theorem dX7_toggle_49 : decode cX7_toggle 49 = .ok (.bipush 7, 2) := by decide +kernel
theorem dX7_toggle_51 : decode cX7_toggle 51 = .ok (.invokevirtual 46, 3) := by decide +kernel
theorem dX7_toggle_54 : decode cX7_toggle 54 = .ok (.isub, 1) := by decide +kernel
theorem dX7_toggle_55 : decode cX7_toggle 55 = .ok (.iastore, 1) := by decide +kernel
theorem dX7_toggle_56 : decode cX7_toggle 56 = .ok (.aload_n 0, 1) := by decide +kernel
theorem dX7_toggle_57 : decode cX7_toggle 57 = .ok (.iload_n 1, 1) := by decide +kernel
theorem dX7_toggle_58 : decode cX7_toggle 58 = .ok (.bipush 7, 2) := by decide +kernel
theorem dX7_toggle_60 : decode cX7_toggle 60 = .ok (.invokevirtual 46, 3) := by decide +kernel
theorem dX7_toggle_63 : decode cX7_toggle 63 = .ok (.ireturn, 1) := by decide +kernel
theorem dX7_setKind_0 : decode cX7_setKind 0 = .ok (.aload_n 0, 1) := by decide +kernel
theorem dX7_setKind_1 : decode cX7_setKind 1 = .ok (.aload_n 0, 1) := by decide +kernel
theorem dX7_setKind_2 : decode cX7_setKind 2 = .ok (.iload_n 1, 1) := by decide +kernel
theorem dX7_setKind_3 : decode cX7_setKind 3 = .ok (.invokevirtual 121, 3) := by decide +kernel
theorem dX7_setKind_6 : decode cX7_setKind 6 = .ok (.ifCond .ne 7, 3) := by decide +kernel
theorem dX7_setKind_9 : decode cX7_setKind 9 = .ok (.iconst 1, 1) := by decide +kernel
theorem dX7_setKind_10 : decode cX7_setKind 10 = .ok (.goto 17, 3) := by decide +kernel
theorem dX7_setKind_13 : decode cX7_setKind 13 = .ok (.iload_n 2, 1) := by decide +kernel
theorem dX7_setKind_14 : decode cX7_setKind 14 = .ok (.iconst 0, 1) := by decide +kernel
theorem dX7_setKind_15 : decode cX7_setKind 15 = .ok (.iconst 3, 1) := by decide +kernel
theorem dX7_setKind_16 : decode cX7_setKind 16 = .ok (.invokestatic 42, 3) := by decide +kernel
theorem dX7_setKind_19 : decode cX7_setKind 19 = .ok (.ifCond .eq 7, 3) := by decide +kernel
theorem dX7_setKind_22 : decode cX7_setKind 22 = .ok (.iconst 0, 1) := by decide +kernel
theorem dX7_setKind_23 : decode cX7_setKind 23 = .ok (.goto 4, 3) := by decide +kernel
theorem dX7_setKind_26 : decode cX7_setKind 26 = .ok (.iconst 2, 1) := by decide +kernel
theorem dX7_setKind_27 : decode cX7_setKind 27 = .ok (.putfield 38, 3) := by decide +kernel
theorem dX7_setKind_30 : decode cX7_setKind 30 = .ok (.aload_n 0, 1) := by decide +kernel
theorem dX7_setKind_31 : decode cX7_setKind 31 = .ok (.getfield 38, 3) := by decide +kernel
theorem dX7_setKind_34 : decode cX7_setKind 34 = .ok (.ifCond .le 5, 3) := by decide +kernel
theorem dX7_setKind_37 : decode cX7_setKind 37 = .ok (.iconst 0, 1) := by decide +kernel
theorem dX7_setKind_38 : decode cX7_setKind 38 = .ok (.ireturn, 1) := by decide +kernel
theorem dX7_setKind_39 : decode cX7_setKind 39 = .ok (.aload_n 0, 1) := by decide +kernel
theorem dX7_setKind_40 : decode cX7_setKind 40 = .ok (.invokevirtual 98, 3) := by decide +kernel
theorem dX7_setKind_43 : decode cX7_setKind 43 = .ok (.aload_n 0, 1) := by decide +kernel
theorem dX7_setKind_44 : decode cX7_setKind 44 = .ok (.iload_n 1, 1) := by decide +kernel
theorem dX7_setKind_45 : decode cX7_setKind 45 = .ok (.iconst 5, 1) := by decide +kernel
theorem dX7_setKind_46 : decode cX7_setKind 46 = .ok (.invokevirtual 46, 3) := by decide +kernel
theorem dX7_setKind_49 : decode cX7_setKind 49 = .ok (.istore_n 3, 1) := by decide +kernel
theorem dX7_setKind_50 : decode cX7_setKind 50 = .ok (.aload_n 0, 1) := by decide +kernel
theorem dX7_setKind_51 : decode cX7_setKind 51 = .ok (.getfield 7, 3) := by decide +kernel
theorem dX7_setKind_54 : decode cX7_setKind 54 = .ok (.sipush 161, 3) := by decide +kernel
theorem dX7_setKind_57 : decode cX7_setKind 57 = .ok (.sipush 169, 3) := by decide +kernel
theorem dX7_setKind_60 : decode cX7_setKind 60 = .ok (.iload_n 1, 1) := by decide +kernel
theorem dX7_setKind_61 : decode cX7_setKind 61 = .ok (.imul, 1) := by decide +kernel
theorem dX7_setKind_62 : decode cX7_setKind 62 = .ok (.iadd, 1) := by decide +kernel
theorem dX7_setKind_63 : decode cX7_setKind 63 = .ok (.iconst 5, 1) := by decide +kernel
theorem dX7_setKind_64 : decode cX7_setKind 64 = .ok (.iadd, 1) := by decide +kernel
theorem dX7_setKind_65 : decode cX7_setKind 65 = .ok (.iload_n 2, 1) := by decide +kernel
theorem dX7_setKind_66 : decode cX7_setKind 66 = .ok (.iastore, 1) := by decide +kernel
theorem dX7_setKind_67 : decode cX7_setKind 67 = .ok (.iload_n 3, 1) := by decide +kernel
theorem dX7_setKind_68 : decode cX7_setKind 68 = .ok (.ireturn, 1) := by decide +kernel
theorem dX7_exchange_0 : decode cX7_exchange 0 = .ok (.iconst 0, 1) := by decide +kernel
theorem dX7_exchange_1 : decode cX7_exchange 1 = .ok (.istore_n 2, 1) := by decide +kernel
theorem dX7_exchange_2 : decode cX7_exchange 2 = .ok (.iload_n 2, 1) := by decide +kernel
theorem dX7_exchange_3 : decode cX7_exchange 3 = .ok (.sipush 169, 3) := by decide +kernel
theorem dX7_exchange_6 : decode cX7_exchange 6 = .ok (.if_icmp .ge 61, 3) := by decide +kernel
theorem dX7_exchange_9 : decode cX7_exchange 9 = .ok (.aload_n 0, 1) := by decide +kernel
theorem dX7_exchange_10 : decode cX7_exchange 10 = .ok (.iload_n 1, 1) := by decide +kernel
theorem dX7_exchange_11 : decode cX7_exchange 11 = .ok (.iload_n 2, 1) := by decide +kernel
theorem dX7_exchange_12 : decode cX7_exchange 12 = .ok (.invokevirtual 46, 3) := by decide +kernel
theorem dX7_exchange_15 : decode cX7_exchange 15 = .ok (.istore_n 3, 1) := by decide +kernel
theorem dX7_exchange_16 : decode cX7_exchange 16 = .ok (.aload_n 0, 1) := by decide +kernel
theorem dX7_exchange_17 : decode cX7_exchange 17 = .ok (.getfield 7, 3) := by decide +kernel
theorem dX7_exchange_20 : decode cX7_exchange 20 = .ok (.sipush 161, 3) := by decide +kernel
theorem dX7_exchange_23 : decode cX7_exchange 23 = .ok (.sipush 169, 3) := by decide +kernel
theorem dX7_exchange_26 : decode cX7_exchange 26 = .ok (.iload_n 1, 1) := by decide +kernel
theorem dX7_exchange_27 : decode cX7_exchange 27 = .ok (.imul, 1) := by decide +kernel
theorem dX7_exchange_28 : decode cX7_exchange 28 = .ok (.iadd, 1) := by decide +kernel
theorem dX7_exchange_29 : decode cX7_exchange 29 = .ok (.iload_n 2, 1) := by decide +kernel
theorem dX7_exchange_30 : decode cX7_exchange 30 = .ok (.iadd, 1) := by decide +kernel
theorem dX7_exchange_31 : decode cX7_exchange 31 = .ok (.aload_n 0, 1) := by decide +kernel
theorem dX7_exchange_32 : decode cX7_exchange 32 = .ok (.iload_n 1, 1) := by decide +kernel
theorem dX7_exchange_33 : decode cX7_exchange 33 = .ok (.iconst 1, 1) := by decide +kernel
theorem dX7_exchange_34 : decode cX7_exchange 34 = .ok (.iadd, 1) := by decide +kernel
theorem dX7_exchange_35 : decode cX7_exchange 35 = .ok (.iload_n 2, 1) := by decide +kernel
theorem dX7_exchange_36 : decode cX7_exchange 36 = .ok (.invokevirtual 46, 3) := by decide +kernel
theorem dX7_exchange_39 : decode cX7_exchange 39 = .ok (.iastore, 1) := by decide +kernel
theorem dX7_exchange_40 : decode cX7_exchange 40 = .ok (.aload_n 0, 1) := by decide +kernel
theorem dX7_exchange_41 : decode cX7_exchange 41 = .ok (.getfield 7, 3) := by decide +kernel
theorem dX7_exchange_44 : decode cX7_exchange 44 = .ok (.sipush 161, 3) := by decide +kernel
theorem dX7_exchange_47 : decode cX7_exchange 47 = .ok (.sipush 169, 3) := by decide +kernel
theorem dX7_exchange_50 : decode cX7_exchange 50 = .ok (.iload_n 1, 1) := by decide +kernel
theorem dX7_exchange_51 : decode cX7_exchange 51 = .ok (.imul, 1) := by decide +kernel
theorem dX7_exchange_52 : decode cX7_exchange 52 = .ok (.iadd, 1) := by decide +kernel
theorem dX7_exchange_53 : decode cX7_exchange 53 = .ok (.sipush 169, 3) := by decide +kernel
theorem dX7_exchange_56 : decode cX7_exchange 56 = .ok (.iadd, 1) := by decide +kernel
theorem dX7_exchange_57 : decode cX7_exchange 57 = .ok (.iload_n 2, 1) := by decide +kernel
theorem dX7_exchange_58 : decode cX7_exchange 58 = .ok (.iadd, 1) := by decide +kernel
theorem dX7_exchange_59 : decode cX7_exchange 59 = .ok (.iload_n 3, 1) := by decide +kernel
theorem dX7_exchange_60 : decode cX7_exchange 60 = .ok (.iastore, 1) := by decide +kernel
theorem dX7_exchange_61 : decode cX7_exchange 61 = .ok (.iinc 2 1, 3) := by decide +kernel
theorem dX7_exchange_64 : decode cX7_exchange 64 = .ok (.goto (-62), 3) := by decide +kernel
theorem dX7_exchange_67 : decode cX7_exchange 67 = .ok (.return_, 1) := by decide +kernel
theorem dX7_reorder_0 : decode cX7_reorder 0 = .ok (.aload_n 0, 1) := by decide +kernel
theorem dX7_reorder_1 : decode cX7_reorder 1 = .ok (.aload_n 0, 1) := by decide +kernel
theorem dX7_reorder_2 : decode cX7_reorder 2 = .ok (.iload_n 1, 1) := by decide +kernel
theorem dX7_reorder_3 : decode cX7_reorder 3 = .ok (.invokevirtual 121, 3) := by decide +kernel
theorem dX7_reorder_6 : decode cX7_reorder 6 = .ok (.ifCond .eq 15, 3) := by decide +kernel
theorem dX7_reorder_9 : decode cX7_reorder 9 = .ok (.aload_n 0, 1) := by decide +kernel
theorem dX7_reorder_10 : decode cX7_reorder 10 = .ok (.iload_n 2, 1) := by decide +kernel
theorem dX7_reorder_11 : decode cX7_reorder 11 = .ok (.invokevirtual 121, 3) := by decide +kernel
theorem dX7_reorder_14 : decode cX7_reorder 14 = .ok (.ifCond .eq 7, 3) := by decide +kernel
theorem dX7_reorder_17 : decode cX7_reorder 17 = .ok (.iconst 0, 1) := by decide +kernel
theorem dX7_reorder_18 : decode cX7_reorder 18 = .ok (.goto 4, 3) := by decide +kernel
theorem dX7_reorder_21 : decode cX7_reorder 21 = .ok (.iconst 1, 1) := by decide +kernel
theorem dX7_reorder_22 : decode cX7_reorder 22 = .ok (.putfield 38, 3) := by decide +kernel
theorem dX7_reorder_25 : decode cX7_reorder 25 = .ok (.aload_n 0, 1) := by decide +kernel
theorem dX7_reorder_26 : decode cX7_reorder 26 = .ok (.getfield 38, 3) := by decide +kernel
theorem dX7_reorder_29 : decode cX7_reorder 29 = .ok (.ifCond .le 5, 3) := by decide +kernel
theorem dX7_reorder_32 : decode cX7_reorder 32 = .ok (.iconst 0, 1) := by decide +kernel
theorem dX7_reorder_33 : decode cX7_reorder 33 = .ok (.ireturn, 1) := by decide +kernel
theorem dX7_reorder_34 : decode cX7_reorder 34 = .ok (.aload_n 0, 1) := by decide +kernel
theorem dX7_reorder_35 : decode cX7_reorder 35 = .ok (.invokevirtual 98, 3) := by decide +kernel
theorem dX7_reorder_38 : decode cX7_reorder 38 = .ok (.aload_n 0, 1) := by decide +kernel
theorem dX7_reorder_39 : decode cX7_reorder 39 = .ok (.invokevirtual 105, 3) := by decide +kernel
theorem dX7_reorder_42 : decode cX7_reorder 42 = .ok (.iconst 0, 1) := by decide +kernel
theorem dX7_reorder_43 : decode cX7_reorder 43 = .ok (.istore_n 3, 1) := by decide +kernel
theorem dX7_reorder_44 : decode cX7_reorder 44 = .ok (.iload_n 3, 1) := by decide +kernel
theorem dX7_reorder_45 : decode cX7_reorder 45 = .ok (.sipush 160, 3) := by decide +kernel
theorem dX7_reorder_48 : decode cX7_reorder 48 = .ok (.if_icmp .ge 21, 3) := by decide +kernel
theorem dX7_reorder_51 : decode cX7_reorder 51 = .ok (.aload_n 0, 1) := by decide +kernel
theorem dX7_reorder_52 : decode cX7_reorder 52 = .ok (.getfield 35, 3) := by decide +kernel
theorem dX7_reorder_55 : decode cX7_reorder 55 = .ok (.iload_n 3, 1) := by decide +kernel
theorem dX7_reorder_56 : decode cX7_reorder 56 = .ok (.aload_n 0, 1) := by decide +kernel
theorem dX7_reorder_57 : decode cX7_reorder 57 = .ok (.getfield 32, 3) := by decide +kernel
theorem dX7_reorder_60 : decode cX7_reorder 60 = .ok (.iload_n 3, 1) := by decide +kernel
theorem dX7_reorder_61 : decode cX7_reorder 61 = .ok (.iaload, 1) := by decide +kernel
theorem dX7_reorder_62 : decode cX7_reorder 62 = .ok (.iastore, 1) := by decide +kernel
theorem dX7_reorder_63 : decode cX7_reorder 63 = .ok (.iinc 3 1, 3) := by decide +kernel
theorem dX7_reorder_66 : decode cX7_reorder 66 = .ok (.goto (-22), 3) := by decide +kernel
theorem dX7_reorder_69 : decode cX7_reorder 69 = .ok (.iload_n 1, 1) := by decide +kernel
theorem dX7_reorder_70 : decode cX7_reorder 70 = .ok (.istore_n 3, 1) := by decide +kernel
theorem dX7_reorder_71 : decode cX7_reorder 71 = .ok (.iload_n 3, 1) := by decide +kernel
theorem dX7_reorder_72 : decode cX7_reorder 72 = .ok (.iload_n 2, 1) := by decide +kernel
theorem dX7_reorder_73 : decode cX7_reorder 73 = .ok (.if_icmp .ge 14, 3) := by decide +kernel
theorem dX7_reorder_76 : decode cX7_reorder 76 = .ok (.aload_n 0, 1) := by decide +kernel
theorem dX7_reorder_77 : decode cX7_reorder 77 = .ok (.iload_n 3, 1) := by decide +kernel
theorem dX7_reorder_78 : decode cX7_reorder 78 = .ok (.invokevirtual 124, 3) := by decide +kernel
theorem dX7_reorder_81 : decode cX7_reorder 81 = .ok (.iinc 3 1, 3) := by decide +kernel
theorem dX7_reorder_84 : decode cX7_reorder 84 = .ok (.goto (-13), 3) := by decide +kernel
theorem dX7_reorder_87 : decode cX7_reorder 87 = .ok (.iload_n 1, 1) := by decide +kernel
theorem dX7_reorder_88 : decode cX7_reorder 88 = .ok (.istore_n 3, 1) := by decide +kernel
theorem dX7_reorder_89 : decode cX7_reorder 89 = .ok (.iload_n 3, 1) := by decide +kernel
theorem dX7_reorder_90 : decode cX7_reorder 90 = .ok (.iload_n 2, 1) := by decide +kernel
theorem dX7_reorder_91 : decode cX7_reorder 91 = .ok (.if_icmp .le 16, 3) := by decide +kernel
theorem dX7_reorder_94 : decode cX7_reorder 94 = .ok (.aload_n 0, 1) := by decide +kernel
theorem dX7_reorder_95 : decode cX7_reorder 95 = .ok (.iload_n 3, 1) := by decide +kernel
theorem dX7_reorder_96 : decode cX7_reorder 96 = .ok (.iconst 1, 1) := by decide +kernel
theorem dX7_reorder_97 : decode cX7_reorder 97 = .ok (.isub, 1) := by decide +kernel
theorem dX7_reorder_98 : decode cX7_reorder 98 = .ok (.invokevirtual 124, 3) := by decide +kernel
theorem dX7_reorder_101 : decode cX7_reorder 101 = .ok (.iinc 3 (-1), 3) := by decide +kernel
theorem dX7_reorder_104 : decode cX7_reorder 104 = .ok (.goto (-15), 3) := by decide +kernel
theorem dX7_reorder_107 : decode cX7_reorder 107 = .ok (.aload_n 0, 1) := by decide +kernel
theorem dX7_reorder_108 : decode cX7_reorder 108 = .ok (.invokevirtual 105, 3) := by decide +kernel
theorem dX7_reorder_111 : decode cX7_reorder 111 = .ok (.iconst 0, 1) := by decide +kernel
theorem dX7_reorder_112 : decode cX7_reorder 112 = .ok (.istore_n 3, 1) := by decide +kernel
theorem dX7_reorder_113 : decode cX7_reorder 113 = .ok (.iconst 0, 1) := by decide +kernel
theorem dX7_reorder_114 : decode cX7_reorder 114 = .ok (.istore 4, 2) := by decide +kernel
theorem dX7_reorder_116 : decode cX7_reorder 116 = .ok (.iload 4, 2) := by decide +kernel
theorem dX7_reorder_118 : decode cX7_reorder 118 = .ok (.sipush 160, 3) := by decide +kernel
theorem dX7_reorder_121 : decode cX7_reorder 121 = .ok (.if_icmp .ge 34, 3) := by decide +kernel
theorem dX7_reorder_124 : decode cX7_reorder 124 = .ok (.iload_n 3, 1) := by decide +kernel
theorem dX7_reorder_125 : decode cX7_reorder 125 = .ok (.aload_n 0, 1) := by decide +kernel
theorem dX7_reorder_126 : decode cX7_reorder 126 = .ok (.getfield 32, 3) := by decide +kernel
theorem dX7_reorder_129 : decode cX7_reorder 129 = .ok (.iload 4, 2) := by decide +kernel
theorem dX7_reorder_131 : decode cX7_reorder 131 = .ok (.iaload, 1) := by decide +kernel
theorem dX7_reorder_132 : decode cX7_reorder 132 = .ok (.aload_n 0, 1) := by decide +kernel
theorem dX7_reorder_133 : decode cX7_reorder 133 = .ok (.getfield 35, 3) := by decide +kernel
theorem dX7_reorder_136 : decode cX7_reorder 136 = .ok (.iload 4, 2) := by decide +kernel
theorem dX7_reorder_138 : decode cX7_reorder 138 = .ok (.iaload, 1) := by decide +kernel
theorem dX7_reorder_139 : decode cX7_reorder 139 = .ok (.if_icmp .eq 7, 3) := by decide +kernel
theorem dX7_reorder_142 : decode cX7_reorder 142 = .ok (.iconst 1, 1) := by decide +kernel
theorem dX7_reorder_143 : decode cX7_reorder 143 = .ok (.goto 4, 3) := by decide +kernel
theorem dX7_reorder_146 : decode cX7_reorder 146 = .ok (.iconst 0, 1) := by decide +kernel
theorem dX7_reorder_147 : decode cX7_reorder 147 = .ok (.iadd, 1) := by decide +kernel
theorem dX7_reorder_148 : decode cX7_reorder 148 = .ok (.istore_n 3, 1) := by decide +kernel
theorem dX7_reorder_149 : decode cX7_reorder 149 = .ok (.iinc 4 1, 3) := by decide +kernel
theorem dX7_reorder_152 : decode cX7_reorder 152 = .ok (.goto (-36), 3) := by decide +kernel
theorem dX7_reorder_155 : decode cX7_reorder 155 = .ok (.iload_n 3, 1) := by decide +kernel
theorem dX7_reorder_156 : decode cX7_reorder 156 = .ok (.ireturn, 1) := by decide +kernel
theorem dX7_clean_0 : decode cX7_clean 0 = .ok (.aload_n 0, 1) := by decide +kernel
theorem dX7_clean_1 : decode cX7_clean 1 = .ok (.iconst 0, 1) := by decide +kernel
theorem dX7_clean_2 : decode cX7_clean 2 = .ok (.putfield 38, 3) := by decide +kernel
theorem dX7_clean_5 : decode cX7_clean 5 = .ok (.aload_n 0, 1) := by decide +kernel
theorem dX7_clean_6 : decode cX7_clean 6 = .ok (.invokevirtual 98, 3) := by decide +kernel
theorem dX7_clean_9 : decode cX7_clean 9 = .ok (.iconst 0, 1) := by decide +kernel
theorem dX7_clean_10 : decode cX7_clean 10 = .ok (.istore_n 1, 1) := by decide +kernel
theorem dX7_clean_11 : decode cX7_clean 11 = .ok (.aload_n 0, 1) := by decide +kernel
theorem dX7_clean_12 : decode cX7_clean 12 = .ok (.getfield 7, 3) := by decide +kernel
theorem dX7_clean_15 : decode cX7_clean 15 = .ok (.sipush 160, 3) := by decide +kernel
theorem dX7_clean_18 : decode cX7_clean 18 = .ok (.iaload, 1) := by decide +kernel
theorem dX7_clean_19 : decode cX7_clean 19 = .ok (.istore_n 2, 1) := by decide +kernel
theorem dX7_clean_20 : decode cX7_clean 20 = .ok (.iconst 0, 1) := by decide +kernel
theorem dX7_clean_21 : decode cX7_clean 21 = .ok (.istore_n 3, 1) := by decide +kernel
theorem dX7_clean_22 : decode cX7_clean 22 = .ok (.iload_n 3, 1) := by decide +kernel
theorem dX7_clean_23 : decode cX7_clean 23 = .ok (.iload_n 2, 1) := by decide +kernel
theorem dX7_clean_24 : decode cX7_clean 24 = .ok (.if_icmp .ge 64, 3) := by decide +kernel
theorem dX7_clean_27 : decode cX7_clean 27 = .ok (.aload_n 0, 1) := by decide +kernel
theorem dX7_clean_28 : decode cX7_clean 28 = .ok (.iload_n 3, 1) := by decide +kernel
theorem dX7_clean_29 : decode cX7_clean 29 = .ok (.bipush 7, 2) := by decide +kernel
theorem dX7_clean_31 : decode cX7_clean 31 = .ok (.invokevirtual 46, 3) := by decide +kernel
theorem dX7_clean_34 : decode cX7_clean 34 = .ok (.iconst 1, 1) := by decide +kernel
theorem dX7_clean_35 : decode cX7_clean 35 = .ok (.if_icmp .ne 47, 3) := by decide +kernel
theorem dX7_clean_38 : decode cX7_clean 38 = .ok (.iconst 0, 1) := by decide +kernel
theorem dX7_clean_39 : decode cX7_clean 39 = .ok (.istore 4, 2) := by decide +kernel
theorem dX7_clean_41 : decode cX7_clean 41 = .ok (.iload 4, 2) := by decide +kernel
theorem dX7_clean_43 : decode cX7_clean 43 = .ok (.sipush 169, 3) := by decide +kernel
theorem dX7_clean_46 : decode cX7_clean 46 = .ok (.if_icmp .ge 33, 3) := by decide +kernel
theorem dX7_clean_49 : decode cX7_clean 49 = .ok (.aload_n 0, 1) := by decide +kernel
theorem dX7_clean_50 : decode cX7_clean 50 = .ok (.getfield 7, 3) := by decide +kernel
theorem dX7_clean_53 : decode cX7_clean 53 = .ok (.sipush 161, 3) := by decide +kernel
theorem dX7_clean_56 : decode cX7_clean 56 = .ok (.sipush 169, 3) := by decide +kernel
theorem dX7_clean_59 : decode cX7_clean 59 = .ok (.iload_n 1, 1) := by decide +kernel
theorem dX7_clean_60 : decode cX7_clean 60 = .ok (.imul, 1) := by decide +kernel
theorem dX7_clean_61 : decode cX7_clean 61 = .ok (.iadd, 1) := by decide +kernel
theorem dX7_clean_62 : decode cX7_clean 62 = .ok (.iload 4, 2) := by decide +kernel
theorem dX7_clean_64 : decode cX7_clean 64 = .ok (.iadd, 1) := by decide +kernel
theorem dX7_clean_65 : decode cX7_clean 65 = .ok (.aload_n 0, 1) := by decide +kernel
theorem dX7_clean_66 : decode cX7_clean 66 = .ok (.iload_n 3, 1) := by decide +kernel
theorem dX7_clean_67 : decode cX7_clean 67 = .ok (.iload 4, 2) := by decide +kernel
theorem dX7_clean_69 : decode cX7_clean 69 = .ok (.invokevirtual 46, 3) := by decide +kernel
theorem dX7_clean_72 : decode cX7_clean 72 = .ok (.iastore, 1) := by decide +kernel
theorem dX7_clean_73 : decode cX7_clean 73 = .ok (.iinc 4 1, 3) := by decide +kernel
theorem dX7_clean_76 : decode cX7_clean 76 = .ok (.goto (-35), 3) := by decide +kernel
theorem dX7_clean_79 : decode cX7_clean 79 = .ok (.iinc 1 1, 3) := by decide +kernel
theorem dX7_clean_82 : decode cX7_clean 82 = .ok (.iinc 3 1, 3) := by decide +kernel
theorem dX7_clean_85 : decode cX7_clean 85 = .ok (.goto (-63), 3) := by decide +kernel
theorem dX7_clean_88 : decode cX7_clean 88 = .ok (.aload_n 0, 1) := by decide +kernel
theorem dX7_clean_89 : decode cX7_clean 89 = .ok (.getfield 7, 3) := by decide +kernel
theorem dX7_clean_92 : decode cX7_clean 92 = .ok (.sipush 160, 3) := by decide +kernel
theorem dX7_clean_95 : decode cX7_clean 95 = .ok (.iload_n 1, 1) := by decide +kernel
theorem dX7_clean_96 : decode cX7_clean 96 = .ok (.iastore, 1) := by decide +kernel
theorem dX7_clean_97 : decode cX7_clean 97 = .ok (.iload_n 2, 1) := by decide +kernel
theorem dX7_clean_98 : decode cX7_clean 98 = .ok (.iload_n 1, 1) := by decide +kernel
theorem dX7_clean_99 : decode cX7_clean 99 = .ok (.isub, 1) := by decide +kernel
theorem dX7_clean_100 : decode cX7_clean 100 = .ok (.ireturn, 1) := by decide +kernel
theorem dX7_append_0 : decode cX7_append 0 = .ok (.aload_n 0, 1) := by decide +kernel
theorem dX7_append_1 : decode cX7_append 1 = .ok (.iload_n 1, 1) := by decide +kernel
theorem dX7_append_2 : decode cX7_append 2 = .ok (.bipush 33, 2) := by decide +kernel
theorem dX7_append_4 : decode cX7_append 4 = .ok (.bipush 126, 2) := by decide +kernel
theorem dX7_append_6 : decode cX7_append 6 = .ok (.invokestatic 42, 3) := by decide +kernel
theorem dX7_append_9 : decode cX7_append 9 = .ok (.ifCond .ne 7, 3) := by decide +kernel
theorem dX7_append_12 : decode cX7_append 12 = .ok (.iconst 1, 1) := by decide +kernel
theorem dX7_append_13 : decode cX7_append 13 = .ok (.goto 17, 3) := by decide +kernel
theorem dX7_append_16 : decode cX7_append 16 = .ok (.aload_n 0, 1) := by decide +kernel
theorem dX7_append_17 : decode cX7_append 17 = .ok (.getfield 127, 3) := by decide +kernel
theorem dX7_append_20 : decode cX7_append 20 = .ok (.bipush 60, 2) := by decide +kernel
theorem dX7_append_22 : decode cX7_append 22 = .ok (.if_icmp .ne 7, 3) := by decide +kernel
theorem dX7_append_25 : decode cX7_append 25 = .ok (.iconst 2, 1) := by decide +kernel
theorem dX7_append_26 : decode cX7_append 26 = .ok (.goto 4, 3) := by decide +kernel
theorem dX7_append_29 : decode cX7_append 29 = .ok (.iconst 0, 1) := by decide +kernel
theorem dX7_append_30 : decode cX7_append 30 = .ok (.putfield 38, 3) := by decide +kernel
theorem dX7_append_33 : decode cX7_append 33 = .ok (.aload_n 0, 1) := by decide +kernel
theorem dX7_append_34 : decode cX7_append 34 = .ok (.getfield 38, 3) := by decide +kernel
theorem dX7_append_37 : decode cX7_append 37 = .ok (.ifCond .le 5, 3) := by decide +kernel
theorem dX7_append_40 : decode cX7_append 40 = .ok (.iconst 0, 1) := by decide +kernel
theorem dX7_append_41 : decode cX7_append 41 = .ok (.ireturn, 1) := by decide +kernel
theorem dX7_append_42 : decode cX7_append 42 = .ok (.aload_n 0, 1) := by decide +kernel
theorem dX7_append_43 : decode cX7_append 43 = .ok (.getfield 16, 3) := by decide +kernel
theorem dX7_append_46 : decode cX7_append 46 = .ok (.aload_n 0, 1) := by decide +kernel
theorem dX7_append_47 : decode cX7_append 47 = .ok (.getfield 127, 3) := by decide +kernel
theorem dX7_append_50 : decode cX7_append 50 = .ok (.iload_n 1, 1) := by decide +kernel
theorem dX7_append_51 : decode cX7_append 51 = .ok (.iastore, 1) := by decide +kernel
theorem dX7_append_52 : decode cX7_append 52 = .ok (.aload_n 0, 1) := by decide +kernel
theorem dX7_append_53 : decode cX7_append 53 = .ok (.dup, 1) := by decide +kernel
theorem dX7_append_54 : decode cX7_append 54 = .ok (.getfield 127, 3) := by decide +kernel
theorem dX7_append_57 : decode cX7_append 57 = .ok (.iconst 1, 1) := by decide +kernel
theorem dX7_append_58 : decode cX7_append 58 = .ok (.iadd, 1) := by decide +kernel
theorem dX7_append_59 : decode cX7_append 59 = .ok (.putfield 127, 3) := by decide +kernel
theorem dX7_append_62 : decode cX7_append 62 = .ok (.aload_n 0, 1) := by decide +kernel
theorem dX7_append_63 : decode cX7_append 63 = .ok (.getfield 127, 3) := by decide +kernel
theorem dX7_append_66 : decode cX7_append 66 = .ok (.ireturn, 1) := by decide +kernel
theorem dX7_clearBuffer_0 : decode cX7_clearBuffer 0 = .ok (.aload_n 0, 1) := by decide +kernel
theorem dX7_clearBuffer_1 : decode cX7_clearBuffer 1 = .ok (.iconst 0, 1) := by decide +kernel
theorem dX7_clearBuffer_2 : decode cX7_clearBuffer 2 = .ok (.putfield 38, 3) := by decide +kernel
theorem dX7_clearBuffer_5 : decode cX7_clearBuffer 5 = .ok (.aload_n 0, 1) := by decide +kernel
theorem dX7_clearBuffer_6 : decode cX7_clearBuffer 6 = .ok (.getfield 127, 3) := by decide +kernel
theorem dX7_clearBuffer_9 : decode cX7_clearBuffer 9 = .ok (.istore_n 1, 1) := by decide +kernel
theorem dX7_clearBuffer_10 : decode cX7_clearBuffer 10 = .ok (.aload_n 0, 1) := by decide +kernel
theorem dX7_clearBuffer_11 : decode cX7_clearBuffer 11 = .ok (.iconst 0, 1) := by decide +kernel
theorem dX7_clearBuffer_12 : decode cX7_clearBuffer 12 = .ok (.putfield 127, 3) := by decide +kernel
theorem dX7_clearBuffer_15 : decode cX7_clearBuffer 15 = .ok (.iload_n 1, 1) := by decide +kernel
theorem dX7_clearBuffer_16 : decode cX7_clearBuffer 16 = .ok (.ireturn, 1) := by decide +kernel
theorem dX7_takes_0 : decode cX7_takes 0 = .ok (.iload_n 1, 1) := by decide +kernel
theorem dX7_takes_1 : decode cX7_takes 1 = .ok (.bipush 48, 2) := by decide +kernel
theorem dX7_takes_3 : decode cX7_takes 3 = .ok (.bipush 57, 2) := by decide +kernel
theorem dX7_takes_5 : decode cX7_takes 5 = .ok (.invokestatic 42, 3) := by decide +kernel
theorem dX7_takes_8 : decode cX7_takes 8 = .ok (.istore_n 2, 1) := by decide +kernel
theorem dX7_takes_9 : decode cX7_takes 9 = .ok (.aload_n 0, 1) := by decide +kernel
theorem dX7_takes_10 : decode cX7_takes 10 = .ok (.getfield 130, 3) := by decide +kernel
theorem dX7_takes_13 : decode cX7_takes 13 = .ok (.iconst 2, 1) := by decide +kernel
theorem dX7_takes_14 : decode cX7_takes 14 = .ok (.if_icmp .ge 51, 3) := by decide +kernel
theorem dX7_takes_17 : decode cX7_takes 17 = .ok (.aload_n 0, 1) := by decide +kernel
theorem dX7_takes_18 : decode cX7_takes 18 = .ok (.getfield 130, 3) := by decide +kernel
theorem dX7_takes_21 : decode cX7_takes 21 = .ok (.ifCond .ne 7, 3) := by decide +kernel
theorem dX7_takes_24 : decode cX7_takes 24 = .ok (.iload_n 2, 1) := by decide +kernel
theorem dX7_takes_25 : decode cX7_takes 25 = .ok (.goto 14, 3) := by decide +kernel
theorem dX7_takes_28 : decode cX7_takes 28 = .ok (.iload_n 1, 1) := by decide +kernel
theorem dX7_takes_29 : decode cX7_takes 29 = .ok (.bipush 58, 2) := by decide +kernel
theorem dX7_takes_31 : decode cX7_takes 31 = .ok (.if_icmp .ne 7, 3) := by decide +kernel
theorem dX7_takes_34 : decode cX7_takes 34 = .ok (.iconst 1, 1) := by decide +kernel
theorem dX7_takes_35 : decode cX7_takes 35 = .ok (.goto 4, 3) := by decide +kernel
theorem dX7_takes_38 : decode cX7_takes 38 = .ok (.iconst 0, 1) := by decide +kernel
theorem dX7_takes_39 : decode cX7_takes 39 = .ok (.istore_n 3, 1) := by decide +kernel
theorem dX7_takes_40 : decode cX7_takes 40 = .ok (.aload_n 0, 1) := by decide +kernel
theorem dX7_takes_41 : decode cX7_takes 41 = .ok (.dup, 1) := by decide +kernel
theorem dX7_takes_42 : decode cX7_takes 42 = .ok (.getfield 130, 3) := by decide +kernel
theorem dX7_takes_45 : decode cX7_takes 45 = .ok (.iload_n 3, 1) := by decide +kernel
theorem dX7_takes_46 : decode cX7_takes 46 = .ok (.ifCond .eq 7, 3) := by decide +kernel
theorem dX7_takes_49 : decode cX7_takes 49 = .ok (.iconst 1, 1) := by decide +kernel
theorem dX7_takes_50 : decode cX7_takes 50 = .ok (.goto 4, 3) := by decide +kernel
theorem dX7_takes_53 : decode cX7_takes 53 = .ok (.iconst 0, 1) := by decide +kernel
theorem dX7_takes_54 : decode cX7_takes 54 = .ok (.iadd, 1) := by decide +kernel
theorem dX7_takes_55 : decode cX7_takes 55 = .ok (.putfield 130, 3) := by decide +kernel
theorem dX7_takes_58 : decode cX7_takes 58 = .ok (.aload_n 0, 1) := by decide +kernel
theorem dX7_takes_59 : decode cX7_takes 59 = .ok (.iconst 0, 1) := by decide +kernel
theorem dX7_takes_60 : decode cX7_takes 60 = .ok (.putfield 133, 3) := by decide +kernel
theorem dX7_takes_63 : decode cX7_takes 63 = .ok (.iload_n 3, 1) := by decide +kernel
theorem dX7_takes_64 : decode cX7_takes 64 = .ok (.ireturn, 1) := by decide +kernel
theorem dX7_takes_65 : decode cX7_takes 65 = .ok (.iload_n 1, 1) := by decide +kernel
theorem dX7_takes_66 : decode cX7_takes 66 = .ok (.bipush 47, 2) := by decide +kernel
theorem dX7_takes_68 : decode cX7_takes 68 = .ok (.if_icmp .ne 17, 3) := by decide +kernel
theorem dX7_takes_71 : decode cX7_takes 71 = .ok (.aload_n 0, 1) := by decide +kernel
theorem dX7_takes_72 : decode cX7_takes 72 = .ok (.getfield 133, 3) := by decide +kernel
theorem dX7_takes_75 : decode cX7_takes 75 = .ok (.ifCond .le 10, 3) := by decide +kernel
theorem dX7_takes_78 : decode cX7_takes 78 = .ok (.aload_n 0, 1) := by decide +kernel
theorem dX7_takes_79 : decode cX7_takes 79 = .ok (.iconst 0, 1) := by decide +kernel
theorem dX7_takes_80 : decode cX7_takes 80 = .ok (.putfield 130, 3) := by decide +kernel
theorem dX7_takes_83 : decode cX7_takes 83 = .ok (.iconst 1, 1) := by decide +kernel
theorem dX7_takes_84 : decode cX7_takes 84 = .ok (.ireturn, 1) := by decide +kernel
theorem dX7_takes_85 : decode cX7_takes 85 = .ok (.iload_n 2, 1) := by decide +kernel
theorem dX7_takes_86 : decode cX7_takes 86 = .ok (.ifCond .ne 9, 3) := by decide +kernel
theorem dX7_takes_89 : decode cX7_takes 89 = .ok (.iload_n 1, 1) := by decide +kernel
theorem dX7_takes_90 : decode cX7_takes 90 = .ok (.bipush 46, 2) := by decide +kernel
theorem dX7_takes_92 : decode cX7_takes 92 = .ok (.if_icmp .ne 16, 3) := by decide +kernel
theorem dX7_takes_95 : decode cX7_takes 95 = .ok (.aload_n 0, 1) := by decide +kernel
theorem dX7_takes_96 : decode cX7_takes 96 = .ok (.getfield 133, 3) := by decide +kernel
theorem dX7_takes_99 : decode cX7_takes 99 = .ok (.bipush 16, 2) := by decide +kernel
theorem dX7_takes_101 : decode cX7_takes 101 = .ok (.if_icmp .ge 7, 3) := by decide +kernel
theorem dX7_takes_104 : decode cX7_takes 104 = .ok (.iconst 1, 1) := by decide +kernel
theorem dX7_takes_105 : decode cX7_takes 105 = .ok (.goto 4, 3) := by decide +kernel
theorem dX7_takes_108 : decode cX7_takes 108 = .ok (.iconst 0, 1) := by decide +kernel
theorem dX7_takes_109 : decode cX7_takes 109 = .ok (.istore_n 3, 1) := by decide +kernel
theorem dX7_takes_110 : decode cX7_takes 110 = .ok (.aload_n 0, 1) := by decide +kernel
theorem dX7_takes_111 : decode cX7_takes 111 = .ok (.dup, 1) := by decide +kernel
theorem dX7_takes_112 : decode cX7_takes 112 = .ok (.getfield 133, 3) := by decide +kernel
theorem dX7_takes_115 : decode cX7_takes 115 = .ok (.iload_n 3, 1) := by decide +kernel
theorem dX7_takes_116 : decode cX7_takes 116 = .ok (.ifCond .eq 7, 3) := by decide +kernel
theorem dX7_takes_119 : decode cX7_takes 119 = .ok (.iconst 1, 1) := by decide +kernel
theorem dX7_takes_120 : decode cX7_takes 120 = .ok (.goto 4, 3) := by decide +kernel
theorem dX7_takes_123 : decode cX7_takes 123 = .ok (.iconst 0, 1) := by decide +kernel
theorem dX7_takes_124 : decode cX7_takes 124 = .ok (.iadd, 1) := by decide +kernel
theorem dX7_takes_125 : decode cX7_takes 125 = .ok (.putfield 133, 3) := by decide +kernel
theorem dX7_takes_128 : decode cX7_takes 128 = .ok (.iload_n 3, 1) := by decide +kernel
theorem dX7_takes_129 : decode cX7_takes 129 = .ok (.ireturn, 1) := by decide +kernel
theorem dX7_readText_0 : decode cX7_readText 0 = .ok (.aload_n 0, 1) := by decide +kernel
theorem dX7_readText_1 : decode cX7_readText 1 = .ok (.iconst 0, 1) := by decide +kernel
theorem dX7_readText_2 : decode cX7_readText 2 = .ok (.putfield 130, 3) := by decide +kernel
theorem dX7_readText_5 : decode cX7_readText 5 = .ok (.aload_n 0, 1) := by decide +kernel
theorem dX7_readText_6 : decode cX7_readText 6 = .ok (.iconst 0, 1) := by decide +kernel
theorem dX7_readText_7 : decode cX7_readText 7 = .ok (.putfield 133, 3) := by decide +kernel
theorem dX7_readText_10 : decode cX7_readText 10 = .ok (.iconst 0, 1) := by decide +kernel
theorem dX7_readText_11 : decode cX7_readText 11 = .ok (.istore_n 1, 1) := by decide +kernel
theorem dX7_readText_12 : decode cX7_readText 12 = .ok (.iload_n 1, 1) := by decide +kernel
theorem dX7_readText_13 : decode cX7_readText 13 = .ok (.aload_n 0, 1) := by decide +kernel
theorem dX7_readText_14 : decode cX7_readText 14 = .ok (.getfield 127, 3) := by decide +kernel
theorem dX7_readText_17 : decode cX7_readText 17 = .ok (.if_icmp .ge 22, 3) := by decide +kernel
theorem dX7_readText_20 : decode cX7_readText 20 = .ok (.aload_n 0, 1) := by decide +kernel
theorem dX7_readText_21 : decode cX7_readText 21 = .ok (.aload_n 0, 1) := by decide +kernel
theorem dX7_readText_22 : decode cX7_readText 22 = .ok (.getfield 16, 3) := by decide +kernel
theorem dX7_readText_25 : decode cX7_readText 25 = .ok (.iload_n 1, 1) := by decide +kernel
theorem dX7_readText_26 : decode cX7_readText 26 = .ok (.iaload, 1) := by decide +kernel
theorem dX7_readText_27 : decode cX7_readText 27 = .ok (.invokevirtual 136, 3) := by decide +kernel
theorem dX7_readText_30 : decode cX7_readText 30 = .ok (.ifCond .eq 9, 3) := by decide +kernel
theorem dX7_readText_33 : decode cX7_readText 33 = .ok (.iinc 1 1, 3) := by decide +kernel
theorem dX7_readText_36 : decode cX7_readText 36 = .ok (.goto (-24), 3) := by decide +kernel
theorem dX7_readText_39 : decode cX7_readText 39 = .ok (.iload_n 1, 1) := by decide +kernel
theorem dX7_readText_40 : decode cX7_readText 40 = .ok (.ireturn, 1) := by decide +kernel
theorem dX7_firstError_0 : decode cX7_firstError 0 = .ok (.aload_n 0, 1) := by decide +kernel
theorem dX7_firstError_1 : decode cX7_firstError 1 = .ok (.iconst 0, 1) := by decide +kernel
theorem dX7_firstError_2 : decode cX7_firstError 2 = .ok (.putfield 38, 3) := by decide +kernel
theorem dX7_firstError_5 : decode cX7_firstError 5 = .ok (.aload_n 0, 1) := by decide +kernel
theorem dX7_firstError_6 : decode cX7_firstError 6 = .ok (.invokevirtual 139, 3) := by decide +kernel
theorem dX7_firstError_9 : decode cX7_firstError 9 = .ok (.ireturn, 1) := by decide +kernel
theorem dX7_load_0 : decode cX7_load 0 = .ok (.aload_n 0, 1) := by decide +kernel
theorem dX7_load_1 : decode cX7_load 1 = .ok (.invokevirtual 139, 3) := by decide +kernel
theorem dX7_load_4 : decode cX7_load 4 = .ok (.aload_n 0, 1) := by decide +kernel
theorem dX7_load_5 : decode cX7_load 5 = .ok (.getfield 127, 3) := by decide +kernel
theorem dX7_load_8 : decode cX7_load 8 = .ok (.if_icmp .ne 22, 3) := by decide +kernel
theorem dX7_load_11 : decode cX7_load 11 = .ok (.aload_n 0, 1) := by decide +kernel
theorem dX7_load_12 : decode cX7_load 12 = .ok (.getfield 130, 3) := by decide +kernel
theorem dX7_load_15 : decode cX7_load 15 = .ok (.iconst 2, 1) := by decide +kernel
theorem dX7_load_16 : decode cX7_load 16 = .ok (.if_icmp .ne 14, 3) := by decide +kernel
theorem dX7_load_19 : decode cX7_load 19 = .ok (.aload_n 0, 1) := by decide +kernel
theorem dX7_load_20 : decode cX7_load 20 = .ok (.getfield 133, 3) := by decide +kernel
theorem dX7_load_23 : decode cX7_load 23 = .ok (.ifCond .le 7, 3) := by decide +kernel
theorem dX7_load_26 : decode cX7_load 26 = .ok (.iconst 1, 1) := by decide +kernel
theorem dX7_load_27 : decode cX7_load 27 = .ok (.goto 4, 3) := by decide +kernel
theorem dX7_load_30 : decode cX7_load 30 = .ok (.iconst 0, 1) := by decide +kernel
theorem dX7_load_31 : decode cX7_load 31 = .ok (.istore_n 1, 1) := by decide +kernel
theorem dX7_load_32 : decode cX7_load 32 = .ok (.aload_n 0, 1) := by decide +kernel
theorem dX7_load_33 : decode cX7_load 33 = .ok (.iload_n 1, 1) := by decide +kernel
theorem dX7_load_34 : decode cX7_load 34 = .ok (.ifCond .eq 7, 3) := by decide +kernel
theorem dX7_load_37 : decode cX7_load 37 = .ok (.iconst 0, 1) := by decide +kernel
theorem dX7_load_38 : decode cX7_load 38 = .ok (.goto 4, 3) := by decide +kernel
theorem dX7_load_41 : decode cX7_load 41 = .ok (.iconst 1, 1) := by decide +kernel
theorem dX7_load_42 : decode cX7_load 42 = .ok (.putfield 38, 3) := by decide +kernel
theorem dX7_load_45 : decode cX7_load 45 = .ok (.aload_n 0, 1) := by decide +kernel
theorem dX7_load_46 : decode cX7_load 46 = .ok (.getfield 38, 3) := by decide +kernel
theorem dX7_load_49 : decode cX7_load 49 = .ok (.ifCond .le 5, 3) := by decide +kernel
theorem dX7_load_52 : decode cX7_load 52 = .ok (.iconst 0, 1) := by decide +kernel
theorem dX7_load_53 : decode cX7_load 53 = .ok (.ireturn, 1) := by decide +kernel
theorem dX7_load_54 : decode cX7_load 54 = .ok (.aload_n 0, 1) := by decide +kernel
theorem dX7_load_55 : decode cX7_load 55 = .ok (.invokevirtual 98, 3) := by decide +kernel
theorem dX7_load_58 : decode cX7_load 58 = .ok (.iconst 0, 1) := by decide +kernel
theorem dX7_load_59 : decode cX7_load 59 = .ok (.istore_n 2, 1) := by decide +kernel
theorem dX7_load_60 : decode cX7_load 60 = .ok (.iconst 0, 1) := by decide +kernel
theorem dX7_load_61 : decode cX7_load 61 = .ok (.istore_n 3, 1) := by decide +kernel
theorem dX7_load_62 : decode cX7_load 62 = .ok (.iconst 0, 1) := by decide +kernel
theorem dX7_load_63 : decode cX7_load 63 = .ok (.istore 4, 2) := by decide +kernel
theorem dX7_load_65 : decode cX7_load 65 = .ok (.iload 4, 2) := by decide +kernel
theorem dX7_load_67 : decode cX7_load 67 = .ok (.aload_n 0, 1) := by decide +kernel
theorem dX7_load_68 : decode cX7_load 68 = .ok (.getfield 127, 3) := by decide +kernel
theorem dX7_load_71 : decode cX7_load 71 = .ok (.if_icmp .ge 86, 3) := by decide +kernel
theorem dX7_load_74 : decode cX7_load 74 = .ok (.aload_n 0, 1) := by decide +kernel
theorem dX7_load_75 : decode cX7_load 75 = .ok (.getfield 16, 3) := by decide +kernel
theorem dX7_load_78 : decode cX7_load 78 = .ok (.iload 4, 2) := by decide +kernel
theorem dX7_load_80 : decode cX7_load 80 = .ok (.iaload, 1) := by decide +kernel
theorem dX7_load_81 : decode cX7_load 81 = .ok (.istore 5, 2) := by decide +kernel
theorem dX7_load_83 : decode cX7_load 83 = .ok (.iload 4, 2) := by decide +kernel
theorem dX7_load_85 : decode cX7_load 85 = .ok (.ifCond .eq 17, 3) := by decide +kernel
theorem dX7_load_88 : decode cX7_load 88 = .ok (.aload_n 0, 1) := by decide +kernel
theorem dX7_load_89 : decode cX7_load 89 = .ok (.getfield 16, 3) := by decide +kernel
theorem dX7_load_92 : decode cX7_load 92 = .ok (.iload 4, 2) := by decide +kernel
theorem dX7_load_94 : decode cX7_load 94 = .ok (.iconst 1, 1) := by decide +kernel
theorem dX7_load_95 : decode cX7_load 95 = .ok (.isub, 1) := by decide +kernel
theorem dX7_load_96 : decode cX7_load 96 = .ok (.iaload, 1) := by decide +kernel
theorem dX7_load_97 : decode cX7_load 97 = .ok (.bipush 47, 2) := by decide +kernel
theorem dX7_load_99 : decode cX7_load 99 = .ok (.if_icmp .ne 14, 3) := by decide +kernel
theorem dX7_load_102 : decode cX7_load 102 = .ok (.iload 5, 2) := by decide +kernel
theorem dX7_load_104 : decode cX7_load 104 = .ok (.bipush 48, 2) := by decide +kernel
theorem dX7_load_106 : decode cX7_load 106 = .ok (.isub, 1) := by decide +kernel
theorem dX7_load_107 : decode cX7_load 107 = .ok (.istore_n 2, 1) := by decide +kernel
theorem dX7_load_108 : decode cX7_load 108 = .ok (.iconst (-1), 1) := by decide +kernel
theorem dX7_load_109 : decode cX7_load 109 = .ok (.istore_n 3, 1) := by decide +kernel
theorem dX7_load_110 : decode cX7_load 110 = .ok (.goto 41, 3) := by decide +kernel
theorem dX7_load_113 : decode cX7_load 113 = .ok (.iload_n 3, 1) := by decide +kernel
theorem dX7_load_114 : decode cX7_load 114 = .ok (.ifCond .lt 34, 3) := by decide +kernel
theorem dX7_load_117 : decode cX7_load 117 = .ok (.iload 5, 2) := by decide +kernel
theorem dX7_load_119 : decode cX7_load 119 = .ok (.bipush 48, 2) := by decide +kernel
theorem dX7_load_121 : decode cX7_load 121 = .ok (.bipush 57, 2) := by decide +kernel
theorem dX7_load_123 : decode cX7_load 123 = .ok (.invokestatic 42, 3) := by decide +kernel
theorem dX7_load_126 : decode cX7_load 126 = .ok (.ifCond .eq 22, 3) := by decide +kernel
theorem dX7_load_129 : decode cX7_load 129 = .ok (.aload_n 0, 1) := by decide +kernel
theorem dX7_load_130 : decode cX7_load 130 = .ok (.getfield 7, 3) := by decide +kernel
theorem dX7_load_133 : decode cX7_load 133 = .ok (.bipush 16, 2) := by decide +kernel
theorem dX7_load_135 : decode cX7_load 135 = .ok (.iload_n 2, 1) := by decide +kernel
theorem dX7_load_136 : decode cX7_load 136 = .ok (.imul, 1) := by decide +kernel
theorem dX7_load_137 : decode cX7_load 137 = .ok (.iload_n 3, 1) := by decide +kernel
theorem dX7_load_138 : decode cX7_load 138 = .ok (.iadd, 1) := by decide +kernel
theorem dX7_load_139 : decode cX7_load 139 = .ok (.bipush 11, 2) := by decide +kernel
theorem dX7_load_141 : decode cX7_load 141 = .ok (.iload 5, 2) := by decide +kernel
theorem dX7_load_143 : decode cX7_load 143 = .ok (.bipush 48, 2) := by decide +kernel
theorem dX7_load_145 : decode cX7_load 145 = .ok (.isub, 1) := by decide +kernel
theorem dX7_load_146 : decode cX7_load 146 = .ok (.imul, 1) := by decide +kernel
theorem dX7_load_147 : decode cX7_load 147 = .ok (.iastore, 1) := by decide +kernel
theorem dX7_load_148 : decode cX7_load 148 = .ok (.iinc 3 1, 3) := by decide +kernel
theorem dX7_load_151 : decode cX7_load 151 = .ok (.iinc 4 1, 3) := by decide +kernel
theorem dX7_load_154 : decode cX7_load 154 = .ok (.goto (-89), 3) := by decide +kernel
theorem dX7_load_157 : decode cX7_load 157 = .ok (.aload_n 0, 1) := by decide +kernel
theorem dX7_load_158 : decode cX7_load 158 = .ok (.iconst 0, 1) := by decide +kernel
theorem dX7_load_159 : decode cX7_load 159 = .ok (.putfield 127, 3) := by decide +kernel
theorem dX7_load_162 : decode cX7_load 162 = .ok (.aload_n 0, 1) := by decide +kernel
theorem dX7_load_163 : decode cX7_load 163 = .ok (.invokevirtual 101, 3) := by decide +kernel
theorem dX7_load_166 : decode cX7_load 166 = .ok (.ireturn, 1) := by decide +kernel
theorem dX7_picksAt_0 : decode cX7_picksAt 0 = .ok (.iconst 0, 1) := by decide +kernel
theorem dX7_picksAt_1 : decode cX7_picksAt 1 = .ok (.istore_n 2, 1) := by decide +kernel
theorem dX7_picksAt_2 : decode cX7_picksAt 2 = .ok (.iconst 0, 1) := by decide +kernel
theorem dX7_picksAt_3 : decode cX7_picksAt 3 = .ok (.istore_n 3, 1) := by decide +kernel
theorem dX7_picksAt_4 : decode cX7_picksAt 4 = .ok (.iload_n 3, 1) := by decide +kernel
theorem dX7_picksAt_5 : decode cX7_picksAt 5 = .ok (.aload_n 0, 1) := by decide +kernel
theorem dX7_picksAt_6 : decode cX7_picksAt 6 = .ok (.getfield 7, 3) := by decide +kernel
theorem dX7_picksAt_9 : decode cX7_picksAt 9 = .ok (.sipush 160, 3) := by decide +kernel
theorem dX7_picksAt_12 : decode cX7_picksAt 12 = .ok (.iaload, 1) := by decide +kernel
theorem dX7_picksAt_13 : decode cX7_picksAt 13 = .ok (.if_icmp .ge 26, 3) := by decide +kernel
theorem dX7_picksAt_16 : decode cX7_picksAt 16 = .ok (.iload_n 2, 1) := by decide +kernel
theorem dX7_picksAt_17 : decode cX7_picksAt 17 = .ok (.aload_n 0, 1) := by decide +kernel
theorem dX7_picksAt_18 : decode cX7_picksAt 18 = .ok (.iload_n 3, 1) := by decide +kernel
theorem dX7_picksAt_19 : decode cX7_picksAt 19 = .ok (.iload_n 1, 1) := by decide +kernel
theorem dX7_picksAt_20 : decode cX7_picksAt 20 = .ok (.invokevirtual 85, 3) := by decide +kernel
theorem dX7_picksAt_23 : decode cX7_picksAt 23 = .ok (.ifCond .le 7, 3) := by decide +kernel
theorem dX7_picksAt_26 : decode cX7_picksAt 26 = .ok (.iconst 1, 1) := by decide +kernel
theorem dX7_picksAt_27 : decode cX7_picksAt 27 = .ok (.goto 4, 3) := by decide +kernel
theorem dX7_picksAt_30 : decode cX7_picksAt 30 = .ok (.iconst 0, 1) := by decide +kernel
theorem dX7_picksAt_31 : decode cX7_picksAt 31 = .ok (.iadd, 1) := by decide +kernel
theorem dX7_picksAt_32 : decode cX7_picksAt 32 = .ok (.istore_n 2, 1) := by decide +kernel
theorem dX7_picksAt_33 : decode cX7_picksAt 33 = .ok (.iinc 3 1, 3) := by decide +kernel
theorem dX7_picksAt_36 : decode cX7_picksAt 36 = .ok (.goto (-32), 3) := by decide +kernel
theorem dX7_picksAt_39 : decode cX7_picksAt 39 = .ok (.iload_n 2, 1) := by decide +kernel
theorem dX7_picksAt_40 : decode cX7_picksAt 40 = .ok (.ireturn, 1) := by decide +kernel
theorem dX7_cellNow_0 : decode cX7_cellNow 0 = .ok (.iload_n 2, 1) := by decide +kernel
theorem dX7_cellNow_1 : decode cX7_cellNow 1 = .ok (.ifCond .ne 12, 3) := by decide +kernel
theorem dX7_cellNow_4 : decode cX7_cellNow 4 = .ok (.aload_n 0, 1) := by decide +kernel
theorem dX7_cellNow_5 : decode cX7_cellNow 5 = .ok (.getfield 7, 3) := by decide +kernel
theorem dX7_cellNow_8 : decode cX7_cellNow 8 = .ok (.iload_n 1, 1) := by decide +kernel
theorem dX7_cellNow_9 : decode cX7_cellNow 9 = .ok (.iaload, 1) := by decide +kernel
theorem dX7_cellNow_10 : decode cX7_cellNow 10 = .ok (.goto 22, 3) := by decide +kernel
theorem dX7_cellNow_13 : decode cX7_cellNow 13 = .ok (.iload_n 2, 1) := by decide +kernel
theorem dX7_cellNow_14 : decode cX7_cellNow 14 = .ok (.iconst 1, 1) := by decide +kernel
theorem dX7_cellNow_15 : decode cX7_cellNow 15 = .ok (.if_icmp .ne 12, 3) := by decide +kernel
theorem dX7_cellNow_18 : decode cX7_cellNow 18 = .ok (.aload_n 0, 1) := by decide +kernel
theorem dX7_cellNow_19 : decode cX7_cellNow 19 = .ok (.getfield 32, 3) := by decide +kernel
theorem dX7_cellNow_22 : decode cX7_cellNow 22 = .ok (.iload_n 1, 1) := by decide +kernel
theorem dX7_cellNow_23 : decode cX7_cellNow 23 = .ok (.iaload, 1) := by decide +kernel
theorem dX7_cellNow_24 : decode cX7_cellNow 24 = .ok (.goto 8, 3) := by decide +kernel
theorem dX7_cellNow_27 : decode cX7_cellNow 27 = .ok (.aload_n 0, 1) := by decide +kernel
theorem dX7_cellNow_28 : decode cX7_cellNow 28 = .ok (.iload_n 1, 1) := by decide +kernel
theorem dX7_cellNow_29 : decode cX7_cellNow 29 = .ok (.invokevirtual 142, 3) := by decide +kernel
theorem dX7_cellNow_32 : decode cX7_cellNow 32 = .ok (.ireturn, 1) := by decide +kernel
theorem dX7_cell_0 : decode cX7_cell 0 = .ok (.aload_n 0, 1) := by decide +kernel
theorem dX7_cell_1 : decode cX7_cell 1 = .ok (.iload_n 1, 1) := by decide +kernel
theorem dX7_cell_2 : decode cX7_cell 2 = .ok (.iload_n 2, 1) := by decide +kernel
theorem dX7_cell_3 : decode cX7_cell 3 = .ok (.invokestatic 91, 3) := by decide +kernel
theorem dX7_cell_6 : decode cX7_cell 6 = .ok (.ifCond .ne 7, 3) := by decide +kernel
theorem dX7_cell_9 : decode cX7_cell 9 = .ok (.iconst 1, 1) := by decide +kernel
theorem dX7_cell_10 : decode cX7_cell 10 = .ok (.goto 17, 3) := by decide +kernel
theorem dX7_cell_13 : decode cX7_cell 13 = .ok (.iload_n 3, 1) := by decide +kernel
theorem dX7_cell_14 : decode cX7_cell 14 = .ok (.iconst 0, 1) := by decide +kernel
theorem dX7_cell_15 : decode cX7_cell 15 = .ok (.iconst 2, 1) := by decide +kernel
theorem dX7_cell_16 : decode cX7_cell 16 = .ok (.invokestatic 42, 3) := by decide +kernel
theorem dX7_cell_19 : decode cX7_cell 19 = .ok (.ifCond .eq 7, 3) := by decide +kernel
theorem dX7_cell_22 : decode cX7_cell 22 = .ok (.iconst 0, 1) := by decide +kernel
theorem dX7_cell_23 : decode cX7_cell 23 = .ok (.goto 4, 3) := by decide +kernel
theorem dX7_cell_26 : decode cX7_cell 26 = .ok (.iconst 2, 1) := by decide +kernel
theorem dX7_cell_27 : decode cX7_cell 27 = .ok (.putfield 38, 3) := by decide +kernel
theorem dX7_cell_30 : decode cX7_cell 30 = .ok (.aload_n 0, 1) := by decide +kernel
theorem dX7_cell_31 : decode cX7_cell 31 = .ok (.getfield 38, 3) := by decide +kernel
theorem dX7_cell_34 : decode cX7_cell 34 = .ok (.ifCond .le 5, 3) := by decide +kernel
theorem dX7_cell_37 : decode cX7_cell 37 = .ok (.iconst 0, 1) := by decide +kernel
theorem dX7_cell_38 : decode cX7_cell 38 = .ok (.ireturn, 1) := by decide +kernel
theorem dX7_cell_39 : decode cX7_cell 39 = .ok (.aload_n 0, 1) := by decide +kernel
theorem dX7_cell_40 : decode cX7_cell 40 = .ok (.invokevirtual 105, 3) := by decide +kernel
theorem dX7_cell_43 : decode cX7_cell 43 = .ok (.aload_n 0, 1) := by decide +kernel
theorem dX7_cell_44 : decode cX7_cell 44 = .ok (.bipush 16, 2) := by decide +kernel
theorem dX7_cell_46 : decode cX7_cell 46 = .ok (.iload_n 2, 1) := by decide +kernel
theorem dX7_cell_47 : decode cX7_cell 47 = .ok (.imul, 1) := by decide +kernel
theorem dX7_cell_48 : decode cX7_cell 48 = .ok (.iload_n 1, 1) := by decide +kernel
theorem dX7_cell_49 : decode cX7_cell 49 = .ok (.iadd, 1) := by decide +kernel
theorem dX7_cell_50 : decode cX7_cell 50 = .ok (.iload_n 3, 1) := by decide +kernel
theorem dX7_cell_51 : decode cX7_cell 51 = .ok (.invokevirtual 145, 3) := by decide +kernel
theorem dX7_cell_54 : decode cX7_cell 54 = .ok (.ireturn, 1) := by decide +kernel
theorem dX7_pickedNow_0 : decode cX7_pickedNow 0 = .ok (.iload_n 2, 1) := by decide +kernel
theorem dX7_pickedNow_1 : decode cX7_pickedNow 1 = .ok (.bipush 9, 2) := by decide +kernel
theorem dX7_pickedNow_3 : decode cX7_pickedNow 3 = .ok (.if_icmp .ge 10, 3) := by decide +kernel
theorem dX7_pickedNow_6 : decode cX7_pickedNow 6 = .ok (.aload_n 0, 1) := by decide +kernel
theorem dX7_pickedNow_7 : decode cX7_pickedNow 7 = .ok (.iload_n 1, 1) := by decide +kernel
theorem dX7_pickedNow_8 : decode cX7_pickedNow 8 = .ok (.iload_n 2, 1) := by decide +kernel
theorem dX7_pickedNow_9 : decode cX7_pickedNow 9 = .ok (.invokevirtual 46, 3) := by decide +kernel
theorem dX7_pickedNow_12 : decode cX7_pickedNow 12 = .ok (.ireturn, 1) := by decide +kernel
theorem dX7_pickedNow_13 : decode cX7_pickedNow 13 = .ok (.iconst 0, 1) := by decide +kernel
theorem dX7_pickedNow_14 : decode cX7_pickedNow 14 = .ok (.istore_n 3, 1) := by decide +kernel
theorem dX7_pickedNow_15 : decode cX7_pickedNow 15 = .ok (.iconst 0, 1) := by decide +kernel
theorem dX7_pickedNow_16 : decode cX7_pickedNow 16 = .ok (.istore 4, 2) := by decide +kernel
theorem dX7_pickedNow_18 : decode cX7_pickedNow 18 = .ok (.iload 4, 2) := by decide +kernel
theorem dX7_pickedNow_20 : decode cX7_pickedNow 20 = .ok (.sipush 160, 3) := by decide +kernel
theorem dX7_pickedNow_23 : decode cX7_pickedNow 23 = .ok (.if_icmp .ge 54, 3) := by decide +kernel
theorem dX7_pickedNow_26 : decode cX7_pickedNow 26 = .ok (.aload_n 0, 1) := by decide +kernel
theorem dX7_pickedNow_27 : decode cX7_pickedNow 27 = .ok (.iload_n 1, 1) := by decide +kernel
theorem dX7_pickedNow_28 : decode cX7_pickedNow 28 = .ok (.iload 4, 2) := by decide +kernel
theorem dX7_pickedNow_30 : decode cX7_pickedNow 30 = .ok (.invokevirtual 85, 3) := by decide +kernel
theorem dX7_pickedNow_33 : decode cX7_pickedNow 33 = .ok (.istore 5, 2) := by decide +kernel
theorem dX7_pickedNow_35 : decode cX7_pickedNow 35 = .ok (.iload_n 3, 1) := by decide +kernel
theorem dX7_pickedNow_36 : decode cX7_pickedNow 36 = .ok (.iload_n 2, 1) := by decide +kernel
theorem dX7_pickedNow_37 : decode cX7_pickedNow 37 = .ok (.bipush 11, 2) := by decide +kernel
theorem dX7_pickedNow_39 : decode cX7_pickedNow 39 = .ok (.if_icmp .ne 8, 3) := by decide +kernel
theorem dX7_pickedNow_42 : decode cX7_pickedNow 42 = .ok (.iload 5, 2) := by decide +kernel
theorem dX7_pickedNow_44 : decode cX7_pickedNow 44 = .ok (.goto 25, 3) := by decide +kernel
theorem dX7_pickedNow_47 : decode cX7_pickedNow 47 = .ok (.iload 5, 2) := by decide +kernel
theorem dX7_pickedNow_49 : decode cX7_pickedNow 49 = .ok (.iload_n 2, 1) := by decide +kernel
theorem dX7_pickedNow_50 : decode cX7_pickedNow 50 = .ok (.bipush 9, 2) := by decide +kernel
theorem dX7_pickedNow_52 : decode cX7_pickedNow 52 = .ok (.if_icmp .ne 8, 3) := by decide +kernel
theorem dX7_pickedNow_55 : decode cX7_pickedNow 55 = .ok (.bipush 100, 2) := by decide +kernel
theorem dX7_pickedNow_57 : decode cX7_pickedNow 57 = .ok (.goto 4, 3) := by decide +kernel
theorem dX7_pickedNow_60 : decode cX7_pickedNow 60 = .ok (.iconst 1, 1) := by decide +kernel
theorem dX7_pickedNow_61 : decode cX7_pickedNow 61 = .ok (.if_icmp .lt 7, 3) := by decide +kernel
theorem dX7_pickedNow_64 : decode cX7_pickedNow 64 = .ok (.iconst 1, 1) := by decide +kernel
theorem dX7_pickedNow_65 : decode cX7_pickedNow 65 = .ok (.goto 4, 3) := by decide +kernel
theorem dX7_pickedNow_68 : decode cX7_pickedNow 68 = .ok (.iconst 0, 1) := by decide +kernel
theorem dX7_pickedNow_69 : decode cX7_pickedNow 69 = .ok (.iadd, 1) := by decide +kernel
theorem dX7_pickedNow_70 : decode cX7_pickedNow 70 = .ok (.istore_n 3, 1) := by decide +kernel
theorem dX7_pickedNow_71 : decode cX7_pickedNow 71 = .ok (.iinc 4 1, 3) := by decide +kernel
theorem dX7_pickedNow_74 : decode cX7_pickedNow 74 = .ok (.goto (-56), 3) := by decide +kernel
theorem dX7_pickedNow_77 : decode cX7_pickedNow 77 = .ok (.iload_n 3, 1) := by decide +kernel
theorem dX7_pickedNow_78 : decode cX7_pickedNow 78 = .ok (.ireturn, 1) := by decide +kernel
theorem dX7_picked_0 : decode cX7_picked 0 = .ok (.aload_n 0, 1) := by decide +kernel
theorem dX7_picked_1 : decode cX7_picked 1 = .ok (.aload_n 0, 1) := by decide +kernel
theorem dX7_picked_2 : decode cX7_picked 2 = .ok (.iload_n 1, 1) := by decide +kernel
theorem dX7_picked_3 : decode cX7_picked 3 = .ok (.invokevirtual 121, 3) := by decide +kernel
theorem dX7_picked_6 : decode cX7_picked 6 = .ok (.ifCond .ne 7, 3) := by decide +kernel
theorem dX7_picked_9 : decode cX7_picked 9 = .ok (.iconst 1, 1) := by decide +kernel
theorem dX7_picked_10 : decode cX7_picked 10 = .ok (.goto 18, 3) := by decide +kernel
theorem dX7_picked_13 : decode cX7_picked 13 = .ok (.iload_n 2, 1) := by decide +kernel
theorem dX7_picked_14 : decode cX7_picked 14 = .ok (.iconst 0, 1) := by decide +kernel
theorem dX7_picked_15 : decode cX7_picked 15 = .ok (.bipush 11, 2) := by decide +kernel
theorem dX7_picked_17 : decode cX7_picked 17 = .ok (.invokestatic 42, 3) := by decide +kernel
theorem dX7_picked_20 : decode cX7_picked 20 = .ok (.ifCond .eq 7, 3) := by decide +kernel
theorem dX7_picked_23 : decode cX7_picked 23 = .ok (.iconst 0, 1) := by decide +kernel
theorem dX7_picked_24 : decode cX7_picked 24 = .ok (.goto 4, 3) := by decide +kernel
theorem dX7_picked_27 : decode cX7_picked 27 = .ok (.iconst 2, 1) := by decide +kernel
theorem dX7_picked_28 : decode cX7_picked 28 = .ok (.putfield 38, 3) := by decide +kernel
theorem dX7_picked_31 : decode cX7_picked 31 = .ok (.aload_n 0, 1) := by decide +kernel
theorem dX7_picked_32 : decode cX7_picked 32 = .ok (.getfield 38, 3) := by decide +kernel
theorem dX7_picked_35 : decode cX7_picked 35 = .ok (.ifCond .le 7, 3) := by decide +kernel
theorem dX7_picked_38 : decode cX7_picked 38 = .ok (.iconst 0, 1) := by decide +kernel
theorem dX7_picked_39 : decode cX7_picked 39 = .ok (.goto 9, 3) := by decide +kernel
theorem dX7_picked_42 : decode cX7_picked 42 = .ok (.aload_n 0, 1) := by decide +kernel
theorem dX7_picked_43 : decode cX7_picked 43 = .ok (.iload_n 1, 1) := by decide +kernel
theorem dX7_picked_44 : decode cX7_picked 44 = .ok (.iload_n 2, 1) := by decide +kernel
theorem dX7_picked_45 : decode cX7_picked 45 = .ok (.invokevirtual 148, 3) := by decide +kernel
theorem dX7_picked_48 : decode cX7_picked 48 = .ok (.ireturn, 1) := by decide +kernel
theorem dX7_level_0 : decode cX7_level 0 = .ok (.aload_n 0, 1) := by decide +kernel
theorem dX7_level_1 : decode cX7_level 1 = .ok (.aload_n 0, 1) := by decide +kernel
theorem dX7_level_2 : decode cX7_level 2 = .ok (.iload_n 1, 1) := by decide +kernel
theorem dX7_level_3 : decode cX7_level 3 = .ok (.invokevirtual 121, 3) := by decide +kernel
theorem dX7_level_6 : decode cX7_level 6 = .ok (.ifCond .eq 15, 3) := by decide +kernel
theorem dX7_level_9 : decode cX7_level 9 = .ok (.iload_n 2, 1) := by decide +kernel
theorem dX7_level_10 : decode cX7_level 10 = .ok (.iload_n 3, 1) := by decide +kernel
theorem dX7_level_11 : decode cX7_level 11 = .ok (.invokestatic 91, 3) := by decide +kernel
theorem dX7_level_14 : decode cX7_level 14 = .ok (.ifCond .eq 7, 3) := by decide +kernel
theorem dX7_level_17 : decode cX7_level 17 = .ok (.iconst 0, 1) := by decide +kernel
theorem dX7_level_18 : decode cX7_level 18 = .ok (.goto 4, 3) := by decide +kernel
theorem dX7_level_21 : decode cX7_level 21 = .ok (.iconst 1, 1) := by decide +kernel
theorem dX7_level_22 : decode cX7_level 22 = .ok (.putfield 38, 3) := by decide +kernel
theorem dX7_level_25 : decode cX7_level 25 = .ok (.aload_n 0, 1) := by decide +kernel
theorem dX7_level_26 : decode cX7_level 26 = .ok (.getfield 38, 3) := by decide +kernel
theorem dX7_level_29 : decode cX7_level 29 = .ok (.ifCond .le 7, 3) := by decide +kernel
theorem dX7_level_32 : decode cX7_level 32 = .ok (.iconst 0, 1) := by decide +kernel
theorem dX7_level_33 : decode cX7_level 33 = .ok (.goto 14, 3) := by decide +kernel
theorem dX7_level_36 : decode cX7_level 36 = .ok (.aload_n 0, 1) := by decide +kernel
theorem dX7_level_37 : decode cX7_level 37 = .ok (.iload_n 1, 1) := by decide +kernel
theorem dX7_level_38 : decode cX7_level 38 = .ok (.bipush 16, 2) := by decide +kernel
theorem dX7_level_40 : decode cX7_level 40 = .ok (.iload_n 3, 1) := by decide +kernel
theorem dX7_level_41 : decode cX7_level 41 = .ok (.imul, 1) := by decide +kernel
theorem dX7_level_42 : decode cX7_level 42 = .ok (.iload_n 2, 1) := by decide +kernel
theorem dX7_level_43 : decode cX7_level 43 = .ok (.iadd, 1) := by decide +kernel
theorem dX7_level_44 : decode cX7_level 44 = .ok (.invokevirtual 85, 3) := by decide +kernel
theorem dX7_level_47 : decode cX7_level 47 = .ok (.ireturn, 1) := by decide +kernel
theorem dX7_picksIn_0 : decode cX7_picksIn 0 = .ok (.iconst 0, 1) := by decide +kernel
theorem dX7_picksIn_1 : decode cX7_picksIn 1 = .ok (.istore_n 1, 1) := by decide +kernel
theorem dX7_picksIn_2 : decode cX7_picksIn 2 = .ok (.iconst 0, 1) := by decide +kernel
theorem dX7_picksIn_3 : decode cX7_picksIn 3 = .ok (.istore_n 2, 1) := by decide +kernel
theorem dX7_picksIn_4 : decode cX7_picksIn 4 = .ok (.iload_n 2, 1) := by decide +kernel
theorem dX7_picksIn_5 : decode cX7_picksIn 5 = .ok (.aload_n 0, 1) := by decide +kernel
theorem dX7_picksIn_6 : decode cX7_picksIn 6 = .ok (.getfield 7, 3) := by decide +kernel
theorem dX7_picksIn_9 : decode cX7_picksIn 9 = .ok (.sipush 160, 3) := by decide +kernel
theorem dX7_picksIn_12 : decode cX7_picksIn 12 = .ok (.iaload, 1) := by decide +kernel
theorem dX7_picksIn_13 : decode cX7_picksIn 13 = .ok (.if_icmp .ge 19, 3) := by decide +kernel
theorem dX7_picksIn_16 : decode cX7_picksIn 16 = .ok (.iload_n 1, 1) := by decide +kernel
theorem dX7_picksIn_17 : decode cX7_picksIn 17 = .ok (.aload_n 0, 1) := by decide +kernel
theorem dX7_picksIn_18 : decode cX7_picksIn 18 = .ok (.iload_n 2, 1) := by decide +kernel
theorem dX7_picksIn_19 : decode cX7_picksIn 19 = .ok (.bipush 7, 2) := by decide +kernel
theorem dX7_picksIn_21 : decode cX7_picksIn 21 = .ok (.invokevirtual 46, 3) := by decide +kernel
theorem dX7_picksIn_24 : decode cX7_picksIn 24 = .ok (.iadd, 1) := by decide +kernel
theorem dX7_picksIn_25 : decode cX7_picksIn 25 = .ok (.istore_n 1, 1) := by decide +kernel
theorem dX7_picksIn_26 : decode cX7_picksIn 26 = .ok (.iinc 2 1, 3) := by decide +kernel
theorem dX7_picksIn_29 : decode cX7_picksIn 29 = .ok (.goto (-25), 3) := by decide +kernel
theorem dX7_picksIn_32 : decode cX7_picksIn 32 = .ok (.iload_n 1, 1) := by decide +kernel
theorem dX7_picksIn_33 : decode cX7_picksIn 33 = .ok (.ireturn, 1) := by decide +kernel
theorem dX7_maskFrom_0 : decode cX7_maskFrom 0 = .ok (.iconst 0, 1) := by decide +kernel
theorem dX7_maskFrom_1 : decode cX7_maskFrom 1 = .ok (.istore_n 2, 1) := by decide +kernel
theorem dX7_maskFrom_2 : decode cX7_maskFrom 2 = .ok (.iconst 0, 1) := by decide +kernel
theorem dX7_maskFrom_3 : decode cX7_maskFrom 3 = .ok (.istore_n 3, 1) := by decide +kernel
theorem dX7_maskFrom_4 : decode cX7_maskFrom 4 = .ok (.iload_n 3, 1) := by decide +kernel
theorem dX7_maskFrom_5 : decode cX7_maskFrom 5 = .ok (.sipush 160, 3) := by decide +kernel
theorem dX7_maskFrom_8 : decode cX7_maskFrom 8 = .ok (.if_icmp .ge 27, 3) := by decide +kernel
theorem dX7_maskFrom_11 : decode cX7_maskFrom 11 = .ok (.iload_n 2, 1) := by decide +kernel
theorem dX7_maskFrom_12 : decode cX7_maskFrom 12 = .ok (.aload_n 0, 1) := by decide +kernel
theorem dX7_maskFrom_13 : decode cX7_maskFrom 13 = .ok (.getfield 32, 3) := by decide +kernel
theorem dX7_maskFrom_16 : decode cX7_maskFrom 16 = .ok (.iload_n 3, 1) := by decide +kernel
theorem dX7_maskFrom_17 : decode cX7_maskFrom 17 = .ok (.iaload, 1) := by decide +kernel
theorem dX7_maskFrom_18 : decode cX7_maskFrom 18 = .ok (.iload_n 1, 1) := by decide +kernel
theorem dX7_maskFrom_19 : decode cX7_maskFrom 19 = .ok (.if_icmp .lt 7, 3) := by decide +kernel
theorem dX7_maskFrom_22 : decode cX7_maskFrom 22 = .ok (.iconst 1, 1) := by decide +kernel
theorem dX7_maskFrom_23 : decode cX7_maskFrom 23 = .ok (.goto 4, 3) := by decide +kernel
theorem dX7_maskFrom_26 : decode cX7_maskFrom 26 = .ok (.iconst 0, 1) := by decide +kernel
theorem dX7_maskFrom_27 : decode cX7_maskFrom 27 = .ok (.iadd, 1) := by decide +kernel
theorem dX7_maskFrom_28 : decode cX7_maskFrom 28 = .ok (.istore_n 2, 1) := by decide +kernel
theorem dX7_maskFrom_29 : decode cX7_maskFrom 29 = .ok (.iinc 3 1, 3) := by decide +kernel
theorem dX7_maskFrom_32 : decode cX7_maskFrom 32 = .ok (.goto (-28), 3) := by decide +kernel
theorem dX7_maskFrom_35 : decode cX7_maskFrom 35 = .ok (.iload_n 2, 1) := by decide +kernel
theorem dX7_maskFrom_36 : decode cX7_maskFrom 36 = .ok (.ireturn, 1) := by decide +kernel
theorem dX7_maskSum_0 : decode cX7_maskSum 0 = .ok (.iconst 0, 1) := by decide +kernel
theorem dX7_maskSum_1 : decode cX7_maskSum 1 = .ok (.istore_n 1, 1) := by decide +kernel
theorem dX7_maskSum_2 : decode cX7_maskSum 2 = .ok (.iconst 0, 1) := by decide +kernel
theorem dX7_maskSum_3 : decode cX7_maskSum 3 = .ok (.istore_n 2, 1) := by decide +kernel
theorem dX7_maskSum_4 : decode cX7_maskSum 4 = .ok (.iload_n 2, 1) := by decide +kernel
theorem dX7_maskSum_5 : decode cX7_maskSum 5 = .ok (.sipush 160, 3) := by decide +kernel
theorem dX7_maskSum_8 : decode cX7_maskSum 8 = .ok (.if_icmp .ge 18, 3) := by decide +kernel
theorem dX7_maskSum_11 : decode cX7_maskSum 11 = .ok (.iload_n 1, 1) := by decide +kernel
theorem dX7_maskSum_12 : decode cX7_maskSum 12 = .ok (.aload_n 0, 1) := by decide +kernel
theorem dX7_maskSum_13 : decode cX7_maskSum 13 = .ok (.getfield 32, 3) := by decide +kernel
theorem dX7_maskSum_16 : decode cX7_maskSum 16 = .ok (.iload_n 2, 1) := by decide +kernel
theorem dX7_maskSum_17 : decode cX7_maskSum 17 = .ok (.iaload, 1) := by decide +kernel
theorem dX7_maskSum_18 : decode cX7_maskSum 18 = .ok (.iadd, 1) := by decide +kernel
theorem dX7_maskSum_19 : decode cX7_maskSum 19 = .ok (.istore_n 1, 1) := by decide +kernel
theorem dX7_maskSum_20 : decode cX7_maskSum 20 = .ok (.iinc 2 1, 3) := by decide +kernel
theorem dX7_maskSum_23 : decode cX7_maskSum 23 = .ok (.goto (-19), 3) := by decide +kernel
theorem dX7_maskSum_26 : decode cX7_maskSum 26 = .ok (.iload_n 1, 1) := by decide +kernel
theorem dX7_maskSum_27 : decode cX7_maskSum 27 = .ok (.ireturn, 1) := by decide +kernel
theorem dX7_isMasked_0 : decode cX7_isMasked 0 = .ok (.iload_n 1, 1) := by decide +kernel
theorem dX7_isMasked_1 : decode cX7_isMasked 1 = .ok (.iload_n 2, 1) := by decide +kernel
theorem dX7_isMasked_2 : decode cX7_isMasked 2 = .ok (.invokestatic 91, 3) := by decide +kernel
theorem dX7_isMasked_5 : decode cX7_isMasked 5 = .ok (.ifCond .eq 23, 3) := by decide +kernel
theorem dX7_isMasked_8 : decode cX7_isMasked 8 = .ok (.aload_n 0, 1) := by decide +kernel
theorem dX7_isMasked_9 : decode cX7_isMasked 9 = .ok (.getfield 32, 3) := by decide +kernel
theorem dX7_isMasked_12 : decode cX7_isMasked 12 = .ok (.bipush 16, 2) := by decide +kernel
theorem dX7_isMasked_14 : decode cX7_isMasked 14 = .ok (.iload_n 2, 1) := by decide +kernel
theorem dX7_isMasked_15 : decode cX7_isMasked 15 = .ok (.imul, 1) := by decide +kernel
theorem dX7_isMasked_16 : decode cX7_isMasked 16 = .ok (.iload_n 1, 1) := by decide +kernel
theorem dX7_isMasked_17 : decode cX7_isMasked 17 = .ok (.iadd, 1) := by decide +kernel
theorem dX7_isMasked_18 : decode cX7_isMasked 18 = .ok (.iaload, 1) := by decide +kernel
theorem dX7_isMasked_19 : decode cX7_isMasked 19 = .ok (.bipush 50, 2) := by decide +kernel
theorem dX7_isMasked_21 : decode cX7_isMasked 21 = .ok (.if_icmp .lt 7, 3) := by decide +kernel
theorem dX7_isMasked_24 : decode cX7_isMasked 24 = .ok (.iconst 1, 1) := by decide +kernel
theorem dX7_isMasked_25 : decode cX7_isMasked 25 = .ok (.goto 4, 3) := by decide +kernel
theorem dX7_isMasked_28 : decode cX7_isMasked 28 = .ok (.iconst 0, 1) := by decide +kernel
theorem dX7_isMasked_29 : decode cX7_isMasked 29 = .ok (.ireturn, 1) := by decide +kernel
theorem dX7_edge_0 : decode cX7_edge 0 = .ok (.iconst 0, 1) := by decide +kernel
theorem dX7_edge_1 : decode cX7_edge 1 = .ok (.istore_n 1, 1) := by decide +kernel
theorem dX7_edge_2 : decode cX7_edge 2 = .ok (.iconst (-1), 1) := by decide +kernel
theorem dX7_edge_3 : decode cX7_edge 3 = .ok (.istore_n 2, 1) := by decide +kernel
theorem dX7_edge_4 : decode cX7_edge 4 = .ok (.iload_n 2, 1) := by decide +kernel
theorem dX7_edge_5 : decode cX7_edge 5 = .ok (.bipush 10, 2) := by decide +kernel
theorem dX7_edge_7 : decode cX7_edge 7 = .ok (.if_icmp .ge 73, 3) := by decide +kernel
theorem dX7_edge_10 : decode cX7_edge 10 = .ok (.iconst (-1), 1) := by decide +kernel
theorem dX7_edge_11 : decode cX7_edge 11 = .ok (.istore_n 3, 1) := by decide +kernel
theorem dX7_edge_12 : decode cX7_edge 12 = .ok (.iload_n 3, 1) := by decide +kernel
theorem dX7_edge_13 : decode cX7_edge 13 = .ok (.bipush 16, 2) := by decide +kernel
theorem dX7_edge_15 : decode cX7_edge 15 = .ok (.if_icmp .ge 59, 3) := by decide +kernel
theorem dX7_edge_18 : decode cX7_edge 18 = .ok (.iload_n 1, 1) := by decide +kernel
theorem dX7_edge_19 : decode cX7_edge 19 = .ok (.aload_n 0, 1) := by decide +kernel
theorem dX7_edge_20 : decode cX7_edge 20 = .ok (.iload_n 3, 1) := by decide +kernel
theorem dX7_edge_21 : decode cX7_edge 21 = .ok (.iload_n 2, 1) := by decide +kernel
theorem dX7_edge_22 : decode cX7_edge 22 = .ok (.invokevirtual 151, 3) := by decide +kernel
theorem dX7_edge_25 : decode cX7_edge 25 = .ok (.aload_n 0, 1) := by decide +kernel
theorem dX7_edge_26 : decode cX7_edge 26 = .ok (.iload_n 3, 1) := by decide +kernel
theorem dX7_edge_27 : decode cX7_edge 27 = .ok (.iconst 1, 1) := by decide +kernel
theorem dX7_edge_28 : decode cX7_edge 28 = .ok (.iadd, 1) := by decide +kernel
theorem dX7_edge_29 : decode cX7_edge 29 = .ok (.iload_n 2, 1) := by decide +kernel
theorem dX7_edge_30 : decode cX7_edge 30 = .ok (.invokevirtual 151, 3) := by decide +kernel
theorem dX7_edge_33 : decode cX7_edge 33 = .ok (.if_icmp .eq 7, 3) := by decide +kernel
theorem dX7_edge_36 : decode cX7_edge 36 = .ok (.iconst 1, 1) := by decide +kernel
theorem dX7_edge_37 : decode cX7_edge 37 = .ok (.goto 4, 3) := by decide +kernel
theorem dX7_edge_40 : decode cX7_edge 40 = .ok (.iconst 0, 1) := by decide +kernel
theorem dX7_edge_41 : decode cX7_edge 41 = .ok (.iadd, 1) := by decide +kernel
theorem dX7_edge_42 : decode cX7_edge 42 = .ok (.istore_n 1, 1) := by decide +kernel
theorem dX7_edge_43 : decode cX7_edge 43 = .ok (.iload_n 1, 1) := by decide +kernel
theorem dX7_edge_44 : decode cX7_edge 44 = .ok (.aload_n 0, 1) := by decide +kernel
theorem dX7_edge_45 : decode cX7_edge 45 = .ok (.iload_n 3, 1) := by decide +kernel
theorem dX7_edge_46 : decode cX7_edge 46 = .ok (.iload_n 2, 1) := by decide +kernel
theorem dX7_edge_47 : decode cX7_edge 47 = .ok (.invokevirtual 151, 3) := by decide +kernel
theorem dX7_edge_50 : decode cX7_edge 50 = .ok (.aload_n 0, 1) := by decide +kernel
theorem dX7_edge_51 : decode cX7_edge 51 = .ok (.iload_n 3, 1) := by decide +kernel
theorem dX7_edge_52 : decode cX7_edge 52 = .ok (.iload_n 2, 1) := by decide +kernel
theorem dX7_edge_53 : decode cX7_edge 53 = .ok (.iconst 1, 1) := by decide +kernel
theorem dX7_edge_54 : decode cX7_edge 54 = .ok (.iadd, 1) := by decide +kernel
theorem dX7_edge_55 : decode cX7_edge 55 = .ok (.invokevirtual 151, 3) := by decide +kernel
theorem dX7_edge_58 : decode cX7_edge 58 = .ok (.if_icmp .eq 7, 3) := by decide +kernel
theorem dX7_edge_61 : decode cX7_edge 61 = .ok (.iconst 1, 1) := by decide +kernel
theorem dX7_edge_62 : decode cX7_edge 62 = .ok (.goto 4, 3) := by decide +kernel
theorem dX7_edge_65 : decode cX7_edge 65 = .ok (.iconst 0, 1) := by decide +kernel
theorem dX7_edge_66 : decode cX7_edge 66 = .ok (.iadd, 1) := by decide +kernel
theorem dX7_edge_67 : decode cX7_edge 67 = .ok (.istore_n 1, 1) := by decide +kernel
theorem dX7_edge_68 : decode cX7_edge 68 = .ok (.iinc 3 1, 3) := by decide +kernel
theorem dX7_edge_71 : decode cX7_edge 71 = .ok (.goto (-59), 3) := by decide +kernel
theorem dX7_edge_74 : decode cX7_edge 74 = .ok (.iinc 2 1, 3) := by decide +kernel
theorem dX7_edge_77 : decode cX7_edge 77 = .ok (.goto (-73), 3) := by decide +kernel
theorem dX7_edge_80 : decode cX7_edge 80 = .ok (.iload_n 1, 1) := by decide +kernel
theorem dX7_edge_81 : decode cX7_edge 81 = .ok (.ireturn, 1) := by decide +kernel
theorem dX7_shadeSum_0 : decode cX7_shadeSum 0 = .ok (.iconst 0, 1) := by decide +kernel
theorem dX7_shadeSum_1 : decode cX7_shadeSum 1 = .ok (.istore_n 1, 1) := by decide +kernel
theorem dX7_shadeSum_2 : decode cX7_shadeSum 2 = .ok (.iconst 0, 1) := by decide +kernel
theorem dX7_shadeSum_3 : decode cX7_shadeSum 3 = .ok (.istore_n 2, 1) := by decide +kernel
theorem dX7_shadeSum_4 : decode cX7_shadeSum 4 = .ok (.iload_n 2, 1) := by decide +kernel
theorem dX7_shadeSum_5 : decode cX7_shadeSum 5 = .ok (.sipush 160, 3) := by decide +kernel
theorem dX7_shadeSum_8 : decode cX7_shadeSum 8 = .ok (.if_icmp .ge 18, 3) := by decide +kernel
theorem dX7_shadeSum_11 : decode cX7_shadeSum 11 = .ok (.iload_n 1, 1) := by decide +kernel
theorem dX7_shadeSum_12 : decode cX7_shadeSum 12 = .ok (.aload_n 0, 1) := by decide +kernel
theorem dX7_shadeSum_13 : decode cX7_shadeSum 13 = .ok (.getfield 7, 3) := by decide +kernel
theorem dX7_shadeSum_16 : decode cX7_shadeSum 16 = .ok (.iload_n 2, 1) := by decide +kernel
theorem dX7_shadeSum_17 : decode cX7_shadeSum 17 = .ok (.iaload, 1) := by decide +kernel
theorem dX7_shadeSum_18 : decode cX7_shadeSum 18 = .ok (.iadd, 1) := by decide +kernel
theorem dX7_shadeSum_19 : decode cX7_shadeSum 19 = .ok (.istore_n 1, 1) := by decide +kernel
theorem dX7_shadeSum_20 : decode cX7_shadeSum 20 = .ok (.iinc 2 1, 3) := by decide +kernel
theorem dX7_shadeSum_23 : decode cX7_shadeSum 23 = .ok (.goto (-19), 3) := by decide +kernel
theorem dX7_shadeSum_26 : decode cX7_shadeSum 26 = .ok (.iload_n 1, 1) := by decide +kernel
theorem dX7_shadeSum_27 : decode cX7_shadeSum 27 = .ok (.ireturn, 1) := by decide +kernel
theorem dX7_different_0 : decode cX7_different 0 = .ok (.iconst 0, 1) := by decide +kernel
theorem dX7_different_1 : decode cX7_different 1 = .ok (.istore_n 1, 1) := by decide +kernel
theorem dX7_different_2 : decode cX7_different 2 = .ok (.iconst 0, 1) := by decide +kernel
theorem dX7_different_3 : decode cX7_different 3 = .ok (.istore_n 2, 1) := by decide +kernel
theorem dX7_different_4 : decode cX7_different 4 = .ok (.iload_n 2, 1) := by decide +kernel
theorem dX7_different_5 : decode cX7_different 5 = .ok (.bipush 100, 2) := by decide +kernel
theorem dX7_different_7 : decode cX7_different 7 = .ok (.if_icmp .ge 61, 3) := by decide +kernel
theorem dX7_different_10 : decode cX7_different 10 = .ok (.iconst 0, 1) := by decide +kernel
theorem dX7_different_11 : decode cX7_different 11 = .ok (.istore_n 3, 1) := by decide +kernel
theorem dX7_different_12 : decode cX7_different 12 = .ok (.iconst 0, 1) := by decide +kernel
theorem dX7_different_13 : decode cX7_different 13 = .ok (.istore 4, 2) := by decide +kernel
theorem dX7_different_15 : decode cX7_different 15 = .ok (.iload 4, 2) := by decide +kernel
theorem dX7_different_17 : decode cX7_different 17 = .ok (.sipush 160, 3) := by decide +kernel
theorem dX7_different_20 : decode cX7_different 20 = .ok (.if_icmp .ge 30, 3) := by decide +kernel
theorem dX7_different_23 : decode cX7_different 23 = .ok (.iload_n 3, 1) := by decide +kernel
theorem dX7_different_24 : decode cX7_different 24 = .ok (.ifCond .ne 14, 3) := by decide +kernel
theorem dX7_different_27 : decode cX7_different 27 = .ok (.aload_n 0, 1) := by decide +kernel
theorem dX7_different_28 : decode cX7_different 28 = .ok (.getfield 7, 3) := by decide +kernel
theorem dX7_different_31 : decode cX7_different 31 = .ok (.iload 4, 2) := by decide +kernel
theorem dX7_different_33 : decode cX7_different 33 = .ok (.iaload, 1) := by decide +kernel
theorem dX7_different_34 : decode cX7_different 34 = .ok (.iload_n 2, 1) := by decide +kernel
theorem dX7_different_35 : decode cX7_different 35 = .ok (.if_icmp .ne 7, 3) := by decide +kernel
theorem dX7_different_38 : decode cX7_different 38 = .ok (.iconst 1, 1) := by decide +kernel
theorem dX7_different_39 : decode cX7_different 39 = .ok (.goto 4, 3) := by decide +kernel
theorem dX7_different_42 : decode cX7_different 42 = .ok (.iconst 0, 1) := by decide +kernel
theorem dX7_different_43 : decode cX7_different 43 = .ok (.istore_n 3, 1) := by decide +kernel
theorem dX7_different_44 : decode cX7_different 44 = .ok (.iinc 4 1, 3) := by decide +kernel
theorem dX7_different_47 : decode cX7_different 47 = .ok (.goto (-32), 3) := by decide +kernel
theorem dX7_different_50 : decode cX7_different 50 = .ok (.iload_n 1, 1) := by decide +kernel
theorem dX7_different_51 : decode cX7_different 51 = .ok (.iload_n 3, 1) := by decide +kernel
theorem dX7_different_52 : decode cX7_different 52 = .ok (.ifCond .eq 7, 3) := by decide +kernel
theorem dX7_different_55 : decode cX7_different 55 = .ok (.iconst 1, 1) := by decide +kernel
theorem dX7_different_56 : decode cX7_different 56 = .ok (.goto 4, 3) := by decide +kernel
theorem dX7_different_59 : decode cX7_different 59 = .ok (.iconst 0, 1) := by decide +kernel
theorem dX7_different_60 : decode cX7_different 60 = .ok (.iadd, 1) := by decide +kernel
theorem dX7_different_61 : decode cX7_different 61 = .ok (.istore_n 1, 1) := by decide +kernel
theorem dX7_different_62 : decode cX7_different 62 = .ok (.iinc 2 1, 3) := by decide +kernel
theorem dX7_different_65 : decode cX7_different 65 = .ok (.goto (-61), 3) := by decide +kernel
theorem dX7_different_68 : decode cX7_different 68 = .ok (.iload_n 1, 1) := by decide +kernel
theorem dX7_different_69 : decode cX7_different 69 = .ok (.ireturn, 1) := by decide +kernel
theorem dX7_counted_0 : decode cX7_counted 0 = .ok (.iload_n 1, 1) := by decide +kernel
theorem dX7_counted_1 : decode cX7_counted 1 = .ok (.tableswitch 94 0 7 #[47, 56, 61, 68, 74, 79, 84, 89], 47) := by decide +kernel
theorem dX7_counted_48 : decode cX7_counted 48 = .ok (.aload_n 0, 1) := by decide +kernel
theorem dX7_counted_49 : decode cX7_counted 49 = .ok (.getfield 7, 3) := by decide +kernel
theorem dX7_counted_52 : decode cX7_counted 52 = .ok (.sipush 160, 3) := by decide +kernel
theorem dX7_counted_55 : decode cX7_counted 55 = .ok (.iaload, 1) := by decide +kernel
theorem dX7_counted_56 : decode cX7_counted 56 = .ok (.ireturn, 1) := by decide +kernel
theorem dX7_counted_57 : decode cX7_counted 57 = .ok (.aload_n 0, 1) := by decide +kernel
theorem dX7_counted_58 : decode cX7_counted 58 = .ok (.invokevirtual 154, 3) := by decide +kernel
theorem dX7_counted_61 : decode cX7_counted 61 = .ok (.ireturn, 1) := by decide +kernel
theorem dX7_counted_62 : decode cX7_counted 62 = .ok (.aload_n 0, 1) := by decide +kernel
theorem dX7_counted_63 : decode cX7_counted 63 = .ok (.bipush 100, 2) := by decide +kernel
theorem dX7_counted_65 : decode cX7_counted 65 = .ok (.invokevirtual 157, 3) := by decide +kernel
theorem dX7_counted_68 : decode cX7_counted 68 = .ok (.ireturn, 1) := by decide +kernel
theorem dX7_counted_69 : decode cX7_counted 69 = .ok (.aload_n 0, 1) := by decide +kernel
theorem dX7_counted_70 : decode cX7_counted 70 = .ok (.iconst 1, 1) := by decide +kernel
theorem dX7_counted_71 : decode cX7_counted 71 = .ok (.invokevirtual 157, 3) := by decide +kernel
theorem dX7_counted_74 : decode cX7_counted 74 = .ok (.ireturn, 1) := by decide +kernel
theorem dX7_counted_75 : decode cX7_counted 75 = .ok (.aload_n 0, 1) := by decide +kernel
theorem dX7_counted_76 : decode cX7_counted 76 = .ok (.invokevirtual 160, 3) := by decide +kernel
theorem dX7_counted_79 : decode cX7_counted 79 = .ok (.ireturn, 1) := by decide +kernel
theorem dX7_counted_80 : decode cX7_counted 80 = .ok (.aload_n 0, 1) := by decide +kernel
theorem dX7_counted_81 : decode cX7_counted 81 = .ok (.invokevirtual 163, 3) := by decide +kernel
theorem dX7_counted_84 : decode cX7_counted 84 = .ok (.ireturn, 1) := by decide +kernel
theorem dX7_counted_85 : decode cX7_counted 85 = .ok (.aload_n 0, 1) := by decide +kernel
theorem dX7_counted_86 : decode cX7_counted 86 = .ok (.invokevirtual 166, 3) := by decide +kernel
theorem dX7_counted_89 : decode cX7_counted 89 = .ok (.ireturn, 1) := by decide +kernel
theorem dX7_counted_90 : decode cX7_counted 90 = .ok (.aload_n 0, 1) := by decide +kernel
theorem dX7_counted_91 : decode cX7_counted 91 = .ok (.invokevirtual 169, 3) := by decide +kernel
theorem dX7_counted_94 : decode cX7_counted 94 = .ok (.ireturn, 1) := by decide +kernel
theorem dX7_counted_95 : decode cX7_counted 95 = .ok (.aload_n 0, 1) := by decide +kernel
theorem dX7_counted_96 : decode cX7_counted 96 = .ok (.getfield 88, 3) := by decide +kernel
theorem dX7_counted_99 : decode cX7_counted 99 = .ok (.ireturn, 1) := by decide +kernel
theorem dX7_count_0 : decode cX7_count 0 = .ok (.aload_n 0, 1) := by decide +kernel
theorem dX7_count_1 : decode cX7_count 1 = .ok (.iload_n 1, 1) := by decide +kernel
theorem dX7_count_2 : decode cX7_count 2 = .ok (.iconst 0, 1) := by decide +kernel
theorem dX7_count_3 : decode cX7_count 3 = .ok (.bipush 8, 2) := by decide +kernel
theorem dX7_count_5 : decode cX7_count 5 = .ok (.invokestatic 42, 3) := by decide +kernel
theorem dX7_count_8 : decode cX7_count 8 = .ok (.ifCond .eq 7, 3) := by decide +kernel
theorem dX7_count_11 : decode cX7_count 11 = .ok (.iconst 0, 1) := by decide +kernel
theorem dX7_count_12 : decode cX7_count 12 = .ok (.goto 4, 3) := by decide +kernel
theorem dX7_count_15 : decode cX7_count 15 = .ok (.iconst 1, 1) := by decide +kernel
theorem dX7_count_16 : decode cX7_count 16 = .ok (.putfield 38, 3) := by decide +kernel
theorem dX7_count_19 : decode cX7_count 19 = .ok (.aload_n 0, 1) := by decide +kernel
theorem dX7_count_20 : decode cX7_count 20 = .ok (.getfield 38, 3) := by decide +kernel
theorem dX7_count_23 : decode cX7_count 23 = .ok (.ifCond .le 5, 3) := by decide +kernel
theorem dX7_count_26 : decode cX7_count 26 = .ok (.iconst 0, 1) := by decide +kernel
theorem dX7_count_27 : decode cX7_count 27 = .ok (.ireturn, 1) := by decide +kernel
theorem dX7_count_28 : decode cX7_count 28 = .ok (.aload_n 0, 1) := by decide +kernel
theorem dX7_count_29 : decode cX7_count 29 = .ok (.invokevirtual 105, 3) := by decide +kernel
theorem dX7_count_32 : decode cX7_count 32 = .ok (.aload_n 0, 1) := by decide +kernel
theorem dX7_count_33 : decode cX7_count 33 = .ok (.iload_n 1, 1) := by decide +kernel
theorem dX7_count_34 : decode cX7_count 34 = .ok (.invokevirtual 172, 3) := by decide +kernel
theorem dX7_count_37 : decode cX7_count 37 = .ok (.ireturn, 1) := by decide +kernel
theorem dX7_areaAnswer_0 : decode cX7_areaAnswer 0 = .ok (.aload_n 0, 1) := by decide +kernel
theorem dX7_areaAnswer_1 : decode cX7_areaAnswer 1 = .ok (.iload_n 1, 1) := by decide +kernel
theorem dX7_areaAnswer_2 : decode cX7_areaAnswer 2 = .ok (.iload_n 2, 1) := by decide +kernel
theorem dX7_areaAnswer_3 : decode cX7_areaAnswer 3 = .ok (.iload_n 3, 1) := by decide +kernel
theorem dX7_areaAnswer_4 : decode cX7_areaAnswer 4 = .ok (.iload 4, 2) := by decide +kernel
theorem dX7_areaAnswer_6 : decode cX7_areaAnswer 6 = .ok (.invokevirtual 111, 3) := by decide +kernel
theorem dX7_areaAnswer_9 : decode cX7_areaAnswer 9 = .ok (.aload_n 0, 1) := by decide +kernel
theorem dX7_areaAnswer_10 : decode cX7_areaAnswer 10 = .ok (.invokevirtual 118, 3) := by decide +kernel
theorem dX7_areaAnswer_13 : decode cX7_areaAnswer 13 = .ok (.ireturn, 1) := by decide +kernel
theorem dX7_areaOf_0 : decode cX7_areaOf 0 = .ok (.aload_n 0, 1) := by decide +kernel
theorem dX7_areaOf_1 : decode cX7_areaOf 1 = .ok (.iload_n 1, 1) := by decide +kernel
theorem dX7_areaOf_2 : decode cX7_areaOf 2 = .ok (.iload_n 2, 1) := by decide +kernel
theorem dX7_areaOf_3 : decode cX7_areaOf 3 = .ok (.invokestatic 91, 3) := by decide +kernel
theorem dX7_areaOf_6 : decode cX7_areaOf 6 = .ok (.ifCond .ne 7, 3) := by decide +kernel
theorem dX7_areaOf_9 : decode cX7_areaOf 9 = .ok (.iconst 1, 1) := by decide +kernel
theorem dX7_areaOf_10 : decode cX7_areaOf 10 = .ok (.goto 19, 3) := by decide +kernel
theorem dX7_areaOf_13 : decode cX7_areaOf 13 = .ok (.iload_n 3, 1) := by decide +kernel
theorem dX7_areaOf_14 : decode cX7_areaOf 14 = .ok (.iload 4, 2) := by decide +kernel
theorem dX7_areaOf_16 : decode cX7_areaOf 16 = .ok (.iload 5, 2) := by decide +kernel
theorem dX7_areaOf_18 : decode cX7_areaOf 18 = .ok (.invokestatic 108, 3) := by decide +kernel
theorem dX7_areaOf_21 : decode cX7_areaOf 21 = .ok (.ifCond .eq 7, 3) := by decide +kernel
theorem dX7_areaOf_24 : decode cX7_areaOf 24 = .ok (.iconst 0, 1) := by decide +kernel
theorem dX7_areaOf_25 : decode cX7_areaOf 25 = .ok (.goto 4, 3) := by decide +kernel
theorem dX7_areaOf_28 : decode cX7_areaOf 28 = .ok (.iconst 2, 1) := by decide +kernel
theorem dX7_areaOf_29 : decode cX7_areaOf 29 = .ok (.putfield 38, 3) := by decide +kernel
theorem dX7_areaOf_32 : decode cX7_areaOf 32 = .ok (.aload_n 0, 1) := by decide +kernel
theorem dX7_areaOf_33 : decode cX7_areaOf 33 = .ok (.getfield 38, 3) := by decide +kernel
theorem dX7_areaOf_36 : decode cX7_areaOf 36 = .ok (.ifCond .le 7, 3) := by decide +kernel
theorem dX7_areaOf_39 : decode cX7_areaOf 39 = .ok (.iconst 0, 1) := by decide +kernel
theorem dX7_areaOf_40 : decode cX7_areaOf 40 = .ok (.goto 18, 3) := by decide +kernel
theorem dX7_areaOf_43 : decode cX7_areaOf 43 = .ok (.aload_n 0, 1) := by decide +kernel
theorem dX7_areaOf_44 : decode cX7_areaOf 44 = .ok (.bipush 16, 2) := by decide +kernel
theorem dX7_areaOf_46 : decode cX7_areaOf 46 = .ok (.iload_n 2, 1) := by decide +kernel
theorem dX7_areaOf_47 : decode cX7_areaOf 47 = .ok (.imul, 1) := by decide +kernel
theorem dX7_areaOf_48 : decode cX7_areaOf 48 = .ok (.iload_n 1, 1) := by decide +kernel
theorem dX7_areaOf_49 : decode cX7_areaOf 49 = .ok (.iadd, 1) := by decide +kernel
theorem dX7_areaOf_50 : decode cX7_areaOf 50 = .ok (.iload_n 3, 1) := by decide +kernel
theorem dX7_areaOf_51 : decode cX7_areaOf 51 = .ok (.iload 4, 2) := by decide +kernel
theorem dX7_areaOf_53 : decode cX7_areaOf 53 = .ok (.iload 5, 2) := by decide +kernel
theorem dX7_areaOf_55 : decode cX7_areaOf 55 = .ok (.invokevirtual 175, 3) := by decide +kernel
theorem dX7_areaOf_58 : decode cX7_areaOf 58 = .ok (.ireturn, 1) := by decide +kernel
theorem dX7_likenessAnswer_0 : decode cX7_likenessAnswer 0 = .ok (.iconst 0, 1) := by decide +kernel
theorem dX7_likenessAnswer_1 : decode cX7_likenessAnswer 1 = .ok (.istore 5, 2) := by decide +kernel
theorem dX7_likenessAnswer_3 : decode cX7_likenessAnswer 3 = .ok (.iload 5, 2) := by decide +kernel
theorem dX7_likenessAnswer_5 : decode cX7_likenessAnswer 5 = .ok (.bipush 100, 2) := by decide +kernel
theorem dX7_likenessAnswer_7 : decode cX7_likenessAnswer 7 = .ok (.if_icmp .ge 31, 3) := by decide +kernel
theorem dX7_likenessAnswer_10 : decode cX7_likenessAnswer 10 = .ok (.aload_n 0, 1) := by decide +kernel
theorem dX7_likenessAnswer_11 : decode cX7_likenessAnswer 11 = .ok (.iload_n 1, 1) := by decide +kernel
theorem dX7_likenessAnswer_12 : decode cX7_likenessAnswer 12 = .ok (.iload 5, 2) := by decide +kernel
theorem dX7_likenessAnswer_14 : decode cX7_likenessAnswer 14 = .ok (.iload_n 3, 1) := by decide +kernel
theorem dX7_likenessAnswer_15 : decode cX7_likenessAnswer 15 = .ok (.iload 4, 2) := by decide +kernel
theorem dX7_likenessAnswer_17 : decode cX7_likenessAnswer 17 = .ok (.invokevirtual 111, 3) := by decide +kernel
theorem dX7_likenessAnswer_20 : decode cX7_likenessAnswer 20 = .ok (.aload_n 0, 1) := by decide +kernel
theorem dX7_likenessAnswer_21 : decode cX7_likenessAnswer 21 = .ok (.getfield 23, 3) := by decide +kernel
theorem dX7_likenessAnswer_24 : decode cX7_likenessAnswer 24 = .ok (.iload_n 2, 1) := by decide +kernel
theorem dX7_likenessAnswer_25 : decode cX7_likenessAnswer 25 = .ok (.baload, 1) := by decide +kernel
theorem dX7_likenessAnswer_26 : decode cX7_likenessAnswer 26 = .ok (.ifCond .eq 6, 3) := by decide +kernel
theorem dX7_likenessAnswer_29 : decode cX7_likenessAnswer 29 = .ok (.iload 5, 2) := by decide +kernel
theorem dX7_likenessAnswer_31 : decode cX7_likenessAnswer 31 = .ok (.ireturn, 1) := by decide +kernel
theorem dX7_likenessAnswer_32 : decode cX7_likenessAnswer 32 = .ok (.iinc 5 1, 3) := by decide +kernel
theorem dX7_likenessAnswer_35 : decode cX7_likenessAnswer 35 = .ok (.goto (-32), 3) := by decide +kernel
theorem dX7_likenessAnswer_38 : decode cX7_likenessAnswer 38 = .ok (.iconst (-1), 1) := by decide +kernel
theorem dX7_likenessAnswer_39 : decode cX7_likenessAnswer 39 = .ok (.ireturn, 1) := by decide +kernel
theorem dX7_leastLikeness_0 : decode cX7_leastLikeness 0 = .ok (.aload_n 0, 1) := by decide +kernel
theorem dX7_leastLikeness_1 : decode cX7_leastLikeness 1 = .ok (.iload_n 1, 1) := by decide +kernel
theorem dX7_leastLikeness_2 : decode cX7_leastLikeness 2 = .ok (.iload_n 2, 1) := by decide +kernel
theorem dX7_leastLikeness_3 : decode cX7_leastLikeness 3 = .ok (.invokestatic 91, 3) := by decide +kernel
theorem dX7_leastLikeness_6 : decode cX7_leastLikeness 6 = .ok (.ifCond .eq 12, 3) := by decide +kernel
theorem dX7_leastLikeness_9 : decode cX7_leastLikeness 9 = .ok (.iload_n 3, 1) := by decide +kernel
theorem dX7_leastLikeness_10 : decode cX7_leastLikeness 10 = .ok (.iload 4, 2) := by decide +kernel
theorem dX7_leastLikeness_12 : decode cX7_leastLikeness 12 = .ok (.invokestatic 91, 3) := by decide +kernel
theorem dX7_leastLikeness_15 : decode cX7_leastLikeness 15 = .ok (.ifCond .ne 7, 3) := by decide +kernel
theorem dX7_leastLikeness_18 : decode cX7_leastLikeness 18 = .ok (.iconst 1, 1) := by decide +kernel
theorem dX7_leastLikeness_19 : decode cX7_leastLikeness 19 = .ok (.goto 19, 3) := by decide +kernel
theorem dX7_leastLikeness_22 : decode cX7_leastLikeness 22 = .ok (.iconst 0, 1) := by decide +kernel
theorem dX7_leastLikeness_23 : decode cX7_leastLikeness 23 = .ok (.iload 5, 2) := by decide +kernel
theorem dX7_leastLikeness_25 : decode cX7_leastLikeness 25 = .ok (.iload 6, 2) := by decide +kernel
theorem dX7_leastLikeness_27 : decode cX7_leastLikeness 27 = .ok (.invokestatic 108, 3) := by decide +kernel
theorem dX7_leastLikeness_30 : decode cX7_leastLikeness 30 = .ok (.ifCond .eq 7, 3) := by decide +kernel
theorem dX7_leastLikeness_33 : decode cX7_leastLikeness 33 = .ok (.iconst 0, 1) := by decide +kernel
theorem dX7_leastLikeness_34 : decode cX7_leastLikeness 34 = .ok (.goto 4, 3) := by decide +kernel
theorem dX7_leastLikeness_37 : decode cX7_leastLikeness 37 = .ok (.iconst 2, 1) := by decide +kernel
theorem dX7_leastLikeness_38 : decode cX7_leastLikeness 38 = .ok (.putfield 38, 3) := by decide +kernel
theorem dX7_leastLikeness_41 : decode cX7_leastLikeness 41 = .ok (.aload_n 0, 1) := by decide +kernel
theorem dX7_leastLikeness_42 : decode cX7_leastLikeness 42 = .ok (.getfield 38, 3) := by decide +kernel
theorem dX7_leastLikeness_45 : decode cX7_leastLikeness 45 = .ok (.ifCond .le 7, 3) := by decide +kernel
theorem dX7_leastLikeness_48 : decode cX7_leastLikeness 48 = .ok (.iconst 0, 1) := by decide +kernel
theorem dX7_leastLikeness_49 : decode cX7_leastLikeness 49 = .ok (.goto 24, 3) := by decide +kernel
theorem dX7_leastLikeness_52 : decode cX7_leastLikeness 52 = .ok (.aload_n 0, 1) := by decide +kernel
theorem dX7_leastLikeness_53 : decode cX7_leastLikeness 53 = .ok (.bipush 16, 2) := by decide +kernel
theorem dX7_leastLikeness_55 : decode cX7_leastLikeness 55 = .ok (.iload_n 2, 1) := by decide +kernel
theorem dX7_leastLikeness_56 : decode cX7_leastLikeness 56 = .ok (.imul, 1) := by decide +kernel
theorem dX7_leastLikeness_57 : decode cX7_leastLikeness 57 = .ok (.iload_n 1, 1) := by decide +kernel
theorem dX7_leastLikeness_58 : decode cX7_leastLikeness 58 = .ok (.iadd, 1) := by decide +kernel
theorem dX7_leastLikeness_59 : decode cX7_leastLikeness 59 = .ok (.bipush 16, 2) := by decide +kernel
theorem dX7_leastLikeness_61 : decode cX7_leastLikeness 61 = .ok (.iload 4, 2) := by decide +kernel
theorem dX7_leastLikeness_63 : decode cX7_leastLikeness 63 = .ok (.imul, 1) := by decide +kernel
theorem dX7_leastLikeness_64 : decode cX7_leastLikeness 64 = .ok (.iload_n 3, 1) := by decide +kernel
theorem dX7_leastLikeness_65 : decode cX7_leastLikeness 65 = .ok (.iadd, 1) := by decide +kernel
theorem dX7_leastLikeness_66 : decode cX7_leastLikeness 66 = .ok (.iload 5, 2) := by decide +kernel
theorem dX7_leastLikeness_68 : decode cX7_leastLikeness 68 = .ok (.iload 6, 2) := by decide +kernel
theorem dX7_leastLikeness_70 : decode cX7_leastLikeness 70 = .ok (.invokevirtual 179, 3) := by decide +kernel
theorem dX7_leastLikeness_73 : decode cX7_leastLikeness 73 = .ok (.ireturn, 1) := by decide +kernel
theorem dX7_gapAnswer_0 : decode cX7_gapAnswer 0 = .ok (.iconst 0, 1) := by decide +kernel
theorem dX7_gapAnswer_1 : decode cX7_gapAnswer 1 = .ok (.istore 4, 2) := by decide +kernel
theorem dX7_gapAnswer_3 : decode cX7_gapAnswer 3 = .ok (.iload 4, 2) := by decide +kernel
theorem dX7_gapAnswer_5 : decode cX7_gapAnswer 5 = .ok (.bipush 6, 2) := by decide +kernel
theorem dX7_gapAnswer_7 : decode cX7_gapAnswer 7 = .ok (.if_icmp .ge 30, 3) := by decide +kernel
theorem dX7_gapAnswer_10 : decode cX7_gapAnswer 10 = .ok (.aload_n 0, 1) := by decide +kernel
theorem dX7_gapAnswer_11 : decode cX7_gapAnswer 11 = .ok (.iload_n 1, 1) := by decide +kernel
theorem dX7_gapAnswer_12 : decode cX7_gapAnswer 12 = .ok (.iload_n 3, 1) := by decide +kernel
theorem dX7_gapAnswer_13 : decode cX7_gapAnswer 13 = .ok (.iconst 0, 1) := by decide +kernel
theorem dX7_gapAnswer_14 : decode cX7_gapAnswer 14 = .ok (.iload 4, 2) := by decide +kernel
theorem dX7_gapAnswer_16 : decode cX7_gapAnswer 16 = .ok (.invokevirtual 111, 3) := by decide +kernel
theorem dX7_gapAnswer_19 : decode cX7_gapAnswer 19 = .ok (.aload_n 0, 1) := by decide +kernel
theorem dX7_gapAnswer_20 : decode cX7_gapAnswer 20 = .ok (.getfield 23, 3) := by decide +kernel
theorem dX7_gapAnswer_23 : decode cX7_gapAnswer 23 = .ok (.iload_n 2, 1) := by decide +kernel
theorem dX7_gapAnswer_24 : decode cX7_gapAnswer 24 = .ok (.baload, 1) := by decide +kernel
theorem dX7_gapAnswer_25 : decode cX7_gapAnswer 25 = .ok (.ifCond .ne 6, 3) := by decide +kernel
theorem dX7_gapAnswer_28 : decode cX7_gapAnswer 28 = .ok (.iload 4, 2) := by decide +kernel
theorem dX7_gapAnswer_30 : decode cX7_gapAnswer 30 = .ok (.ireturn, 1) := by decide +kernel
theorem dX7_gapAnswer_31 : decode cX7_gapAnswer 31 = .ok (.iinc 4 1, 3) := by decide +kernel
theorem dX7_gapAnswer_34 : decode cX7_gapAnswer 34 = .ok (.goto (-31), 3) := by decide +kernel
theorem dX7_gapAnswer_37 : decode cX7_gapAnswer 37 = .ok (.iconst (-1), 1) := by decide +kernel
theorem dX7_gapAnswer_38 : decode cX7_gapAnswer 38 = .ok (.ireturn, 1) := by decide +kernel
theorem dX7_partingGap_0 : decode cX7_partingGap 0 = .ok (.aload_n 0, 1) := by decide +kernel
theorem dX7_partingGap_1 : decode cX7_partingGap 1 = .ok (.iload_n 1, 1) := by decide +kernel
theorem dX7_partingGap_2 : decode cX7_partingGap 2 = .ok (.iload_n 2, 1) := by decide +kernel
theorem dX7_partingGap_3 : decode cX7_partingGap 3 = .ok (.invokestatic 91, 3) := by decide +kernel
theorem dX7_partingGap_6 : decode cX7_partingGap 6 = .ok (.ifCond .eq 12, 3) := by decide +kernel
theorem dX7_partingGap_9 : decode cX7_partingGap 9 = .ok (.iload_n 3, 1) := by decide +kernel
theorem dX7_partingGap_10 : decode cX7_partingGap 10 = .ok (.iload 4, 2) := by decide +kernel
theorem dX7_partingGap_12 : decode cX7_partingGap 12 = .ok (.invokestatic 91, 3) := by decide +kernel
theorem dX7_partingGap_15 : decode cX7_partingGap 15 = .ok (.ifCond .ne 7, 3) := by decide +kernel
theorem dX7_partingGap_18 : decode cX7_partingGap 18 = .ok (.iconst 1, 1) := by decide +kernel
theorem dX7_partingGap_19 : decode cX7_partingGap 19 = .ok (.goto 16, 3) := by decide +kernel
theorem dX7_partingGap_22 : decode cX7_partingGap 22 = .ok (.iload 5, 2) := by decide +kernel
theorem dX7_partingGap_24 : decode cX7_partingGap 24 = .ok (.invokestatic 94, 3) := by decide +kernel
theorem dX7_partingGap_27 : decode cX7_partingGap 27 = .ok (.ifCond .eq 7, 3) := by decide +kernel
theorem dX7_partingGap_30 : decode cX7_partingGap 30 = .ok (.iconst 0, 1) := by decide +kernel
theorem dX7_partingGap_31 : decode cX7_partingGap 31 = .ok (.goto 4, 3) := by decide +kernel
theorem dX7_partingGap_34 : decode cX7_partingGap 34 = .ok (.iconst 2, 1) := by decide +kernel
theorem dX7_partingGap_35 : decode cX7_partingGap 35 = .ok (.putfield 38, 3) := by decide +kernel
theorem dX7_partingGap_38 : decode cX7_partingGap 38 = .ok (.aload_n 0, 1) := by decide +kernel
theorem dX7_partingGap_39 : decode cX7_partingGap 39 = .ok (.getfield 38, 3) := by decide +kernel
theorem dX7_partingGap_42 : decode cX7_partingGap 42 = .ok (.ifCond .le 7, 3) := by decide +kernel
theorem dX7_partingGap_45 : decode cX7_partingGap 45 = .ok (.iconst 0, 1) := by decide +kernel
theorem dX7_partingGap_46 : decode cX7_partingGap 46 = .ok (.goto 22, 3) := by decide +kernel
theorem dX7_partingGap_49 : decode cX7_partingGap 49 = .ok (.aload_n 0, 1) := by decide +kernel
theorem dX7_partingGap_50 : decode cX7_partingGap 50 = .ok (.bipush 16, 2) := by decide +kernel
theorem dX7_partingGap_52 : decode cX7_partingGap 52 = .ok (.iload_n 2, 1) := by decide +kernel
theorem dX7_partingGap_53 : decode cX7_partingGap 53 = .ok (.imul, 1) := by decide +kernel
theorem dX7_partingGap_54 : decode cX7_partingGap 54 = .ok (.iload_n 1, 1) := by decide +kernel
theorem dX7_partingGap_55 : decode cX7_partingGap 55 = .ok (.iadd, 1) := by decide +kernel
theorem dX7_partingGap_56 : decode cX7_partingGap 56 = .ok (.bipush 16, 2) := by decide +kernel
theorem dX7_partingGap_58 : decode cX7_partingGap 58 = .ok (.iload 4, 2) := by decide +kernel
theorem dX7_partingGap_60 : decode cX7_partingGap 60 = .ok (.imul, 1) := by decide +kernel
theorem dX7_partingGap_61 : decode cX7_partingGap 61 = .ok (.iload_n 3, 1) := by decide +kernel
theorem dX7_partingGap_62 : decode cX7_partingGap 62 = .ok (.iadd, 1) := by decide +kernel
theorem dX7_partingGap_63 : decode cX7_partingGap 63 = .ok (.iload 5, 2) := by decide +kernel
theorem dX7_partingGap_65 : decode cX7_partingGap 65 = .ok (.invokevirtual 182, 3) := by decide +kernel
theorem dX7_partingGap_68 : decode cX7_partingGap 68 = .ok (.ireturn, 1) := by decide +kernel
theorem dX7_areasAnswer_0 : decode cX7_areasAnswer 0 = .ok (.iconst 0, 1) := by decide +kernel
theorem dX7_areasAnswer_1 : decode cX7_areasAnswer 1 = .ok (.istore_n 2, 1) := by decide +kernel
theorem dX7_areasAnswer_2 : decode cX7_areasAnswer 2 = .ok (.iload_n 2, 1) := by decide +kernel
theorem dX7_areasAnswer_3 : decode cX7_areasAnswer 3 = .ok (.sipush 160, 3) := by decide +kernel
theorem dX7_areasAnswer_6 : decode cX7_areasAnswer 6 = .ok (.if_icmp .ge 16, 3) := by decide +kernel
theorem dX7_areasAnswer_9 : decode cX7_areasAnswer 9 = .ok (.aload_n 0, 1) := by decide +kernel
theorem dX7_areasAnswer_10 : decode cX7_areasAnswer 10 = .ok (.getfield 19, 3) := by decide +kernel
theorem dX7_areasAnswer_13 : decode cX7_areasAnswer 13 = .ok (.iload_n 2, 1) := by decide +kernel
theorem dX7_areasAnswer_14 : decode cX7_areasAnswer 14 = .ok (.iconst 0, 1) := by decide +kernel
theorem dX7_areasAnswer_15 : decode cX7_areasAnswer 15 = .ok (.bastore, 1) := by decide +kernel
theorem dX7_areasAnswer_16 : decode cX7_areasAnswer 16 = .ok (.iinc 2 1, 3) := by decide +kernel
theorem dX7_areasAnswer_19 : decode cX7_areasAnswer 19 = .ok (.goto (-17), 3) := by decide +kernel
theorem dX7_areasAnswer_22 : decode cX7_areasAnswer 22 = .ok (.iconst 0, 1) := by decide +kernel
theorem dX7_areasAnswer_23 : decode cX7_areasAnswer 23 = .ok (.istore_n 2, 1) := by decide +kernel
theorem dX7_areasAnswer_24 : decode cX7_areasAnswer 24 = .ok (.iconst 0, 1) := by decide +kernel
theorem dX7_areasAnswer_25 : decode cX7_areasAnswer 25 = .ok (.istore_n 3, 1) := by decide +kernel
theorem dX7_areasAnswer_26 : decode cX7_areasAnswer 26 = .ok (.iload_n 3, 1) := by decide +kernel
theorem dX7_areasAnswer_27 : decode cX7_areasAnswer 27 = .ok (.sipush 160, 3) := by decide +kernel
theorem dX7_areasAnswer_30 : decode cX7_areasAnswer 30 = .ok (.if_icmp .ge 27, 3) := by decide +kernel
theorem dX7_areasAnswer_33 : decode cX7_areasAnswer 33 = .ok (.aload_n 0, 1) := by decide +kernel
theorem dX7_areasAnswer_34 : decode cX7_areasAnswer 34 = .ok (.getfield 19, 3) := by decide +kernel
theorem dX7_areasAnswer_37 : decode cX7_areasAnswer 37 = .ok (.iload_n 3, 1) := by decide +kernel
theorem dX7_areasAnswer_38 : decode cX7_areasAnswer 38 = .ok (.baload, 1) := by decide +kernel
theorem dX7_areasAnswer_39 : decode cX7_areasAnswer 39 = .ok (.ifCond .ne 12, 3) := by decide +kernel
theorem dX7_areasAnswer_42 : decode cX7_areasAnswer 42 = .ok (.aload_n 0, 1) := by decide +kernel
theorem dX7_areasAnswer_43 : decode cX7_areasAnswer 43 = .ok (.iload_n 3, 1) := by decide +kernel
theorem dX7_areasAnswer_44 : decode cX7_areasAnswer 44 = .ok (.iload_n 1, 1) := by decide +kernel
theorem dX7_areasAnswer_45 : decode cX7_areasAnswer 45 = .ok (.invokevirtual 54, 3) := by decide +kernel
theorem dX7_areasAnswer_48 : decode cX7_areasAnswer 48 = .ok (.iinc 2 1, 3) := by decide +kernel
theorem dX7_areasAnswer_51 : decode cX7_areasAnswer 51 = .ok (.iinc 3 1, 3) := by decide +kernel
theorem dX7_areasAnswer_54 : decode cX7_areasAnswer 54 = .ok (.goto (-28), 3) := by decide +kernel
theorem dX7_areasAnswer_57 : decode cX7_areasAnswer 57 = .ok (.iload_n 2, 1) := by decide +kernel
theorem dX7_areasAnswer_58 : decode cX7_areasAnswer 58 = .ok (.ireturn, 1) := by decide +kernel
theorem dX7_areas_0 : decode cX7_areas 0 = .ok (.aload_n 0, 1) := by decide +kernel
theorem dX7_areas_1 : decode cX7_areas 1 = .ok (.iload_n 1, 1) := by decide +kernel
theorem dX7_areas_2 : decode cX7_areas 2 = .ok (.invokestatic 94, 3) := by decide +kernel
theorem dX7_areas_5 : decode cX7_areas 5 = .ok (.ifCond .eq 7, 3) := by decide +kernel
theorem dX7_areas_8 : decode cX7_areas 8 = .ok (.iconst 0, 1) := by decide +kernel
theorem dX7_areas_9 : decode cX7_areas 9 = .ok (.goto 4, 3) := by decide +kernel
theorem dX7_areas_12 : decode cX7_areas 12 = .ok (.iconst 1, 1) := by decide +kernel
theorem dX7_areas_13 : decode cX7_areas 13 = .ok (.putfield 38, 3) := by decide +kernel
theorem dX7_areas_16 : decode cX7_areas 16 = .ok (.aload_n 0, 1) := by decide +kernel
theorem dX7_areas_17 : decode cX7_areas 17 = .ok (.getfield 38, 3) := by decide +kernel
theorem dX7_areas_20 : decode cX7_areas 20 = .ok (.ifCond .le 7, 3) := by decide +kernel
theorem dX7_areas_23 : decode cX7_areas 23 = .ok (.iconst 0, 1) := by decide +kernel
theorem dX7_areas_24 : decode cX7_areas 24 = .ok (.goto 8, 3) := by decide +kernel
theorem dX7_areas_27 : decode cX7_areas 27 = .ok (.aload_n 0, 1) := by decide +kernel
theorem dX7_areas_28 : decode cX7_areas 28 = .ok (.iload_n 1, 1) := by decide +kernel
theorem dX7_areas_29 : decode cX7_areas 29 = .ok (.invokevirtual 186, 3) := by decide +kernel
theorem dX7_areas_32 : decode cX7_areas 32 = .ok (.ireturn, 1) := by decide +kernel
theorem dX7_coverage_0 : decode cX7_coverage 0 = .ok (.aload_n 0, 1) := by decide +kernel
theorem dX7_coverage_1 : decode cX7_coverage 1 = .ok (.iconst 0, 1) := by decide +kernel
theorem dX7_coverage_2 : decode cX7_coverage 2 = .ok (.putfield 38, 3) := by decide +kernel
theorem dX7_coverage_5 : decode cX7_coverage 5 = .ok (.aload_n 0, 1) := by decide +kernel
theorem dX7_coverage_6 : decode cX7_coverage 6 = .ok (.invokevirtual 105, 3) := by decide +kernel
theorem dX7_coverage_9 : decode cX7_coverage 9 = .ok (.aload_n 0, 1) := by decide +kernel
theorem dX7_coverage_10 : decode cX7_coverage 10 = .ok (.invokevirtual 160, 3) := by decide +kernel
theorem dX7_coverage_13 : decode cX7_coverage 13 = .ok (.i2d, 1) := by decide +kernel
theorem dX7_coverage_14 : decode cX7_coverage 14 = .ok (.ldc2_w 189, 3) := by decide +kernel
theorem dX7_coverage_17 : decode cX7_coverage 17 = .ok (.ddiv, 1) := by decide +kernel
theorem dX7_coverage_18 : decode cX7_coverage 18 = .ok (.dreturn, 1) := by decide +kernel
theorem dX7_mix_0 : decode cX7_mix 0 = .ok (.aload_n 0, 1) := by decide +kernel
theorem dX7_mix_1 : decode cX7_mix 1 = .ok (.ldc2_w 191, 3) := by decide +kernel
theorem dX7_mix_4 : decode cX7_mix 4 = .ok (.aload_n 0, 1) := by decide +kernel
theorem dX7_mix_5 : decode cX7_mix 5 = .ok (.getfield 193, 3) := by decide +kernel
theorem dX7_mix_8 : decode cX7_mix 8 = .ok (.lmul, 1) := by decide +kernel
theorem dX7_mix_9 : decode cX7_mix 9 = .ok (.lload_n 1, 1) := by decide +kernel
theorem dX7_mix_10 : decode cX7_mix 10 = .ok (.ladd, 1) := by decide +kernel
theorem dX7_mix_11 : decode cX7_mix 11 = .ok (.putfield 193, 3) := by decide +kernel
theorem dX7_mix_14 : decode cX7_mix 14 = .ok (.return_, 1) := by decide +kernel
theorem dX7_digest_0 : decode cX7_digest 0 = .ok (.aload_n 0, 1) := by decide +kernel
theorem dX7_digest_1 : decode cX7_digest 1 = .ok (.iconst 0, 1) := by decide +kernel
theorem dX7_digest_2 : decode cX7_digest 2 = .ok (.putfield 38, 3) := by decide +kernel
theorem dX7_digest_5 : decode cX7_digest 5 = .ok (.aload_n 0, 1) := by decide +kernel
theorem dX7_digest_6 : decode cX7_digest 6 = .ok (.ldc2_w 197, 3) := by decide +kernel
theorem dX7_digest_9 : decode cX7_digest 9 = .ok (.putfield 193, 3) := by decide +kernel
theorem dX7_digest_12 : decode cX7_digest 12 = .ok (.aload_n 0, 1) := by decide +kernel
theorem dX7_digest_13 : decode cX7_digest 13 = .ok (.invokevirtual 105, 3) := by decide +kernel
theorem dX7_digest_16 : decode cX7_digest 16 = .ok (.iconst 0, 1) := by decide +kernel
theorem dX7_digest_17 : decode cX7_digest 17 = .ok (.istore_n 1, 1) := by decide +kernel
theorem dX7_digest_18 : decode cX7_digest 18 = .ok (.iload_n 1, 1) := by decide +kernel
theorem dX7_digest_19 : decode cX7_digest 19 = .ok (.bipush 9, 2) := by decide +kernel
theorem dX7_digest_21 : decode cX7_digest 21 = .ok (.if_icmp .ge 19, 3) := by decide +kernel
theorem dX7_digest_24 : decode cX7_digest 24 = .ok (.aload_n 0, 1) := by decide +kernel
theorem dX7_digest_25 : decode cX7_digest 25 = .ok (.aload_n 0, 1) := by decide +kernel
theorem dX7_digest_26 : decode cX7_digest 26 = .ok (.iload_n 1, 1) := by decide +kernel
theorem dX7_digest_27 : decode cX7_digest 27 = .ok (.invokevirtual 172, 3) := by decide +kernel
theorem dX7_digest_30 : decode cX7_digest 30 = .ok (.i2l, 1) := by decide +kernel
theorem dX7_digest_31 : decode cX7_digest 31 = .ok (.invokevirtual 199, 3) := by decide +kernel
theorem dX7_digest_34 : decode cX7_digest 34 = .ok (.iinc 1 1, 3) := by decide +kernel
theorem dX7_digest_37 : decode cX7_digest 37 = .ok (.goto (-19), 3) := by decide +kernel
theorem dX7_digest_40 : decode cX7_digest 40 = .ok (.iconst 0, 1) := by decide +kernel
theorem dX7_digest_41 : decode cX7_digest 41 = .ok (.istore_n 1, 1) := by decide +kernel
theorem dX7_digest_42 : decode cX7_digest 42 = .ok (.iload_n 1, 1) := by decide +kernel
theorem dX7_digest_43 : decode cX7_digest 43 = .ok (.sipush 480, 3) := by decide +kernel
theorem dX7_digest_46 : decode cX7_digest 46 = .ok (.if_icmp .ge 24, 3) := by decide +kernel
theorem dX7_digest_49 : decode cX7_digest 49 = .ok (.aload_n 0, 1) := by decide +kernel
theorem dX7_digest_50 : decode cX7_digest 50 = .ok (.aload_n 0, 1) := by decide +kernel
theorem dX7_digest_51 : decode cX7_digest 51 = .ok (.iload_n 1, 1) := by decide +kernel
theorem dX7_digest_52 : decode cX7_digest 52 = .ok (.iconst 3, 1) := by decide +kernel
theorem dX7_digest_53 : decode cX7_digest 53 = .ok (.idiv, 1) := by decide +kernel
theorem dX7_digest_54 : decode cX7_digest 54 = .ok (.iload_n 1, 1) := by decide +kernel
theorem dX7_digest_55 : decode cX7_digest 55 = .ok (.iconst 3, 1) := by decide +kernel
theorem dX7_digest_56 : decode cX7_digest 56 = .ok (.irem, 1) := by decide +kernel
theorem dX7_digest_57 : decode cX7_digest 57 = .ok (.invokevirtual 145, 3) := by decide +kernel
theorem dX7_digest_60 : decode cX7_digest 60 = .ok (.i2l, 1) := by decide +kernel
theorem dX7_digest_61 : decode cX7_digest 61 = .ok (.invokevirtual 199, 3) := by decide +kernel
theorem dX7_digest_64 : decode cX7_digest 64 = .ok (.iinc 1 1, 3) := by decide +kernel
theorem dX7_digest_67 : decode cX7_digest 67 = .ok (.goto (-25), 3) := by decide +kernel
theorem dX7_digest_70 : decode cX7_digest 70 = .ok (.iconst 0, 1) := by decide +kernel
theorem dX7_digest_71 : decode cX7_digest 71 = .ok (.istore_n 1, 1) := by decide +kernel
theorem dX7_digest_72 : decode cX7_digest 72 = .ok (.iload_n 1, 1) := by decide +kernel
theorem dX7_digest_73 : decode cX7_digest 73 = .ok (.bipush 12, 2) := by decide +kernel
theorem dX7_digest_75 : decode cX7_digest 75 = .ok (.aload_n 0, 1) := by decide +kernel
theorem dX7_digest_76 : decode cX7_digest 76 = .ok (.getfield 7, 3) := by decide +kernel
theorem dX7_digest_79 : decode cX7_digest 79 = .ok (.sipush 160, 3) := by decide +kernel
theorem dX7_digest_82 : decode cX7_digest 82 = .ok (.iaload, 1) := by decide +kernel
theorem dX7_digest_83 : decode cX7_digest 83 = .ok (.imul, 1) := by decide +kernel
theorem dX7_digest_84 : decode cX7_digest 84 = .ok (.if_icmp .ge 26, 3) := by decide +kernel
theorem dX7_digest_87 : decode cX7_digest 87 = .ok (.aload_n 0, 1) := by decide +kernel
theorem dX7_digest_88 : decode cX7_digest 88 = .ok (.aload_n 0, 1) := by decide +kernel
theorem dX7_digest_89 : decode cX7_digest 89 = .ok (.iload_n 1, 1) := by decide +kernel
theorem dX7_digest_90 : decode cX7_digest 90 = .ok (.bipush 12, 2) := by decide +kernel
theorem dX7_digest_92 : decode cX7_digest 92 = .ok (.idiv, 1) := by decide +kernel
theorem dX7_digest_93 : decode cX7_digest 93 = .ok (.iload_n 1, 1) := by decide +kernel
theorem dX7_digest_94 : decode cX7_digest 94 = .ok (.bipush 12, 2) := by decide +kernel
theorem dX7_digest_96 : decode cX7_digest 96 = .ok (.irem, 1) := by decide +kernel
theorem dX7_digest_97 : decode cX7_digest 97 = .ok (.invokevirtual 148, 3) := by decide +kernel
theorem dX7_digest_100 : decode cX7_digest 100 = .ok (.i2l, 1) := by decide +kernel
theorem dX7_digest_101 : decode cX7_digest 101 = .ok (.invokevirtual 199, 3) := by decide +kernel
theorem dX7_digest_104 : decode cX7_digest 104 = .ok (.iinc 1 1, 3) := by decide +kernel
theorem dX7_digest_107 : decode cX7_digest 107 = .ok (.goto (-35), 3) := by decide +kernel
theorem dX7_digest_110 : decode cX7_digest 110 = .ok (.aload_n 0, 1) := by decide +kernel
theorem dX7_digest_111 : decode cX7_digest 111 = .ok (.aload_n 0, 1) := by decide +kernel
theorem dX7_digest_112 : decode cX7_digest 112 = .ok (.iconst 0, 1) := by decide +kernel
theorem dX7_digest_113 : decode cX7_digest 113 = .ok (.invokevirtual 186, 3) := by decide +kernel
theorem dX7_digest_116 : decode cX7_digest 116 = .ok (.i2l, 1) := by decide +kernel
theorem dX7_digest_117 : decode cX7_digest 117 = .ok (.invokevirtual 199, 3) := by decide +kernel
theorem dX7_digest_120 : decode cX7_digest 120 = .ok (.aload_n 0, 1) := by decide +kernel
theorem dX7_digest_121 : decode cX7_digest 121 = .ok (.aload_n 0, 1) := by decide +kernel
theorem dX7_digest_122 : decode cX7_digest 122 = .ok (.bipush 10, 2) := by decide +kernel
theorem dX7_digest_124 : decode cX7_digest 124 = .ok (.invokevirtual 186, 3) := by decide +kernel
theorem dX7_digest_127 : decode cX7_digest 127 = .ok (.i2l, 1) := by decide +kernel
theorem dX7_digest_128 : decode cX7_digest 128 = .ok (.invokevirtual 199, 3) := by decide +kernel
theorem dX7_digest_131 : decode cX7_digest 131 = .ok (.iconst 0, 1) := by decide +kernel
theorem dX7_digest_132 : decode cX7_digest 132 = .ok (.istore_n 1, 1) := by decide +kernel
theorem dX7_digest_133 : decode cX7_digest 133 = .ok (.iload_n 1, 1) := by decide +kernel
theorem dX7_digest_134 : decode cX7_digest 134 = .ok (.bipush 6, 2) := by decide +kernel
theorem dX7_digest_136 : decode cX7_digest 136 = .ok (.if_icmp .ge 23, 3) := by decide +kernel
theorem dX7_digest_139 : decode cX7_digest 139 = .ok (.aload_n 0, 1) := by decide +kernel
theorem dX7_digest_140 : decode cX7_digest 140 = .ok (.aload_n 0, 1) := by decide +kernel
theorem dX7_digest_141 : decode cX7_digest 141 = .ok (.iconst 0, 1) := by decide +kernel
theorem dX7_digest_142 : decode cX7_digest 142 = .ok (.bipush 11, 2) := by decide +kernel
theorem dX7_digest_144 : decode cX7_digest 144 = .ok (.iconst 0, 1) := by decide +kernel
theorem dX7_digest_145 : decode cX7_digest 145 = .ok (.iload_n 1, 1) := by decide +kernel
theorem dX7_digest_146 : decode cX7_digest 146 = .ok (.invokevirtual 175, 3) := by decide +kernel
theorem dX7_digest_149 : decode cX7_digest 149 = .ok (.i2l, 1) := by decide +kernel
theorem dX7_digest_150 : decode cX7_digest 150 = .ok (.invokevirtual 199, 3) := by decide +kernel
theorem dX7_digest_153 : decode cX7_digest 153 = .ok (.iinc 1 1, 3) := by decide +kernel
theorem dX7_digest_156 : decode cX7_digest 156 = .ok (.goto (-23), 3) := by decide +kernel
theorem dX7_digest_159 : decode cX7_digest 159 = .ok (.aload_n 0, 1) := by decide +kernel
theorem dX7_digest_160 : decode cX7_digest 160 = .ok (.aload_n 0, 1) := by decide +kernel
theorem dX7_digest_161 : decode cX7_digest 161 = .ok (.invokevirtual 160, 3) := by decide +kernel
theorem dX7_digest_164 : decode cX7_digest 164 = .ok (.i2d, 1) := by decide +kernel
theorem dX7_digest_165 : decode cX7_digest 165 = .ok (.ldc2_w 189, 3) := by decide +kernel
theorem dX7_digest_168 : decode cX7_digest 168 = .ok (.ddiv, 1) := by decide +kernel
theorem dX7_digest_169 : decode cX7_digest 169 = .ok (.invokestatic 203, 3) := by decide +kernel
theorem dX7_digest_172 : decode cX7_digest 172 = .ok (.invokevirtual 199, 3) := by decide +kernel
theorem dX7_digest_175 : decode cX7_digest 175 = .ok (.aload_n 0, 1) := by decide +kernel
theorem dX7_digest_176 : decode cX7_digest 176 = .ok (.aload_n 0, 1) := by decide +kernel
theorem dX7_digest_177 : decode cX7_digest 177 = .ok (.getfield 127, 3) := by decide +kernel
theorem dX7_digest_180 : decode cX7_digest 180 = .ok (.i2l, 1) := by decide +kernel
theorem dX7_digest_181 : decode cX7_digest 181 = .ok (.invokevirtual 199, 3) := by decide +kernel
theorem dX7_digest_184 : decode cX7_digest 184 = .ok (.iconst 0, 1) := by decide +kernel
theorem dX7_digest_185 : decode cX7_digest 185 = .ok (.istore_n 1, 1) := by decide +kernel
theorem dX7_digest_186 : decode cX7_digest 186 = .ok (.iload_n 1, 1) := by decide +kernel
theorem dX7_digest_187 : decode cX7_digest 187 = .ok (.aload_n 0, 1) := by decide +kernel
theorem dX7_digest_188 : decode cX7_digest 188 = .ok (.getfield 127, 3) := by decide +kernel
theorem dX7_digest_191 : decode cX7_digest 191 = .ok (.if_icmp .ge 20, 3) := by decide +kernel
theorem dX7_digest_194 : decode cX7_digest 194 = .ok (.aload_n 0, 1) := by decide +kernel
theorem dX7_digest_195 : decode cX7_digest 195 = .ok (.aload_n 0, 1) := by decide +kernel
theorem dX7_digest_196 : decode cX7_digest 196 = .ok (.getfield 16, 3) := by decide +kernel
theorem dX7_digest_199 : decode cX7_digest 199 = .ok (.iload_n 1, 1) := by decide +kernel
theorem dX7_digest_200 : decode cX7_digest 200 = .ok (.iaload, 1) := by decide +kernel
theorem dX7_digest_201 : decode cX7_digest 201 = .ok (.i2l, 1) := by decide +kernel
theorem dX7_digest_202 : decode cX7_digest 202 = .ok (.invokevirtual 199, 3) := by decide +kernel
theorem dX7_digest_205 : decode cX7_digest 205 = .ok (.iinc 1 1, 3) := by decide +kernel
theorem dX7_digest_208 : decode cX7_digest 208 = .ok (.goto (-22), 3) := by decide +kernel
theorem dX7_digest_211 : decode cX7_digest 211 = .ok (.aload_n 0, 1) := by decide +kernel
theorem dX7_digest_212 : decode cX7_digest 212 = .ok (.getfield 193, 3) := by decide +kernel
theorem dX7_digest_215 : decode cX7_digest 215 = .ok (.lreturn, 1) := by decide +kernel
theorem dJxe99ae_isNaN_b9ae7_0 : decode cJxe99ae_isNaN_b9ae7 0 = .ok (.dload_n 0, 1) := by decide +kernel
theorem dJxe99ae_isNaN_b9ae7_1 : decode cJxe99ae_isNaN_b9ae7 1 = .ok (.dload_n 0, 1) := by decide +kernel
theorem dJxe99ae_isNaN_b9ae7_2 : decode cJxe99ae_isNaN_b9ae7 2 = .ok (.dcmp .l, 1) := by decide +kernel
theorem dJxe99ae_isNaN_b9ae7_3 : decode cJxe99ae_isNaN_b9ae7 3 = .ok (.ifCond .eq 7, 3) := by decide +kernel
theorem dJxe99ae_isNaN_b9ae7_6 : decode cJxe99ae_isNaN_b9ae7 6 = .ok (.iconst 1, 1) := by decide +kernel
theorem dJxe99ae_isNaN_b9ae7_7 : decode cJxe99ae_isNaN_b9ae7 7 = .ok (.goto 4, 3) := by decide +kernel
theorem dJxe99ae_isNaN_b9ae7_10 : decode cJxe99ae_isNaN_b9ae7 10 = .ok (.iconst 0, 1) := by decide +kernel
theorem dJxe99ae_isNaN_b9ae7_11 : decode cJxe99ae_isNaN_b9ae7 11 = .ok (.ireturn, 1) := by decide +kernel
theorem dJxe99ae_doubleToLongBits_ccdee_0 : decode cJxe99ae_doubleToLongBits_ccdee 0 = .ok (.dload_n 0, 1) := by decide +kernel
theorem dJxe99ae_doubleToLongBits_ccdee_1 : decode cJxe99ae_doubleToLongBits_ccdee 1 = .ok (.invokestatic 122, 3) := by decide +kernel
theorem dJxe99ae_doubleToLongBits_ccdee_4 : decode cJxe99ae_doubleToLongBits_ccdee 4 = .ok (.ifCond .ne 8, 3) := by decide +kernel
theorem dJxe99ae_doubleToLongBits_ccdee_7 : decode cJxe99ae_doubleToLongBits_ccdee 7 = .ok (.dload_n 0, 1) := by decide +kernel
theorem dJxe99ae_doubleToLongBits_ccdee_8 : decode cJxe99ae_doubleToLongBits_ccdee 8 = .ok (.invokestatic 134, 3) := by decide +kernel
theorem dJxe99ae_doubleToLongBits_ccdee_11 : decode cJxe99ae_doubleToLongBits_ccdee 11 = .ok (.lreturn, 1) := by decide +kernel
theorem dJxe99ae_doubleToLongBits_ccdee_12 : decode cJxe99ae_doubleToLongBits_ccdee 12 = .ok (.ldc2_w 137, 3) := by decide +kernel
theorem dJxe99ae_doubleToLongBits_ccdee_15 : decode cJxe99ae_doubleToLongBits_ccdee 15 = .ok (.lreturn, 1) := by decide +kernel
theorem dJ13_bitCount_95d88_0 : decode cJ13_bitCount_95d88 0 = .ok (.lload_n 0, 1) := by decide +kernel
theorem dJ13_bitCount_95d88_1 : decode cJ13_bitCount_95d88 1 = .ok (.lload_n 0, 1) := by decide +kernel
theorem dJ13_bitCount_95d88_2 : decode cJ13_bitCount_95d88 2 = .ok (.iconst 1, 1) := by decide +kernel
theorem dJ13_bitCount_95d88_3 : decode cJ13_bitCount_95d88 3 = .ok (.lushr, 1) := by decide +kernel
theorem dJ13_bitCount_95d88_4 : decode cJ13_bitCount_95d88 4 = .ok (.ldc2_w 314, 3) := by decide +kernel
theorem dJ13_bitCount_95d88_7 : decode cJ13_bitCount_95d88 7 = .ok (.land, 1) := by decide +kernel
theorem dJ13_bitCount_95d88_8 : decode cJ13_bitCount_95d88 8 = .ok (.lsub, 1) := by decide +kernel
theorem dJ13_bitCount_95d88_9 : decode cJ13_bitCount_95d88 9 = .ok (.lstore_n 0, 1) := by decide +kernel
theorem dJ13_bitCount_95d88_10 : decode cJ13_bitCount_95d88 10 = .ok (.lload_n 0, 1) := by decide +kernel
theorem dJ13_bitCount_95d88_11 : decode cJ13_bitCount_95d88 11 = .ok (.ldc2_w 316, 3) := by decide +kernel
theorem dJ13_bitCount_95d88_14 : decode cJ13_bitCount_95d88 14 = .ok (.land, 1) := by decide +kernel
theorem dJ13_bitCount_95d88_15 : decode cJ13_bitCount_95d88 15 = .ok (.lload_n 0, 1) := by decide +kernel
theorem dJ13_bitCount_95d88_16 : decode cJ13_bitCount_95d88 16 = .ok (.iconst 2, 1) := by decide +kernel
theorem dJ13_bitCount_95d88_17 : decode cJ13_bitCount_95d88 17 = .ok (.lushr, 1) := by decide +kernel
theorem dJ13_bitCount_95d88_18 : decode cJ13_bitCount_95d88 18 = .ok (.ldc2_w 316, 3) := by decide +kernel
theorem dJ13_bitCount_95d88_21 : decode cJ13_bitCount_95d88 21 = .ok (.land, 1) := by decide +kernel
theorem dJ13_bitCount_95d88_22 : decode cJ13_bitCount_95d88 22 = .ok (.ladd, 1) := by decide +kernel
theorem dJ13_bitCount_95d88_23 : decode cJ13_bitCount_95d88 23 = .ok (.lstore_n 0, 1) := by decide +kernel
theorem dJ13_bitCount_95d88_24 : decode cJ13_bitCount_95d88 24 = .ok (.lload_n 0, 1) := by decide +kernel
theorem dJ13_bitCount_95d88_25 : decode cJ13_bitCount_95d88 25 = .ok (.lload_n 0, 1) := by decide +kernel
theorem dJ13_bitCount_95d88_26 : decode cJ13_bitCount_95d88 26 = .ok (.iconst 4, 1) := by decide +kernel
theorem dJ13_bitCount_95d88_27 : decode cJ13_bitCount_95d88 27 = .ok (.lushr, 1) := by decide +kernel
theorem dJ13_bitCount_95d88_28 : decode cJ13_bitCount_95d88 28 = .ok (.ladd, 1) := by decide +kernel
theorem dJ13_bitCount_95d88_29 : decode cJ13_bitCount_95d88 29 = .ok (.ldc2_w 318, 3) := by decide +kernel
theorem dJ13_bitCount_95d88_32 : decode cJ13_bitCount_95d88 32 = .ok (.land, 1) := by decide +kernel
theorem dJ13_bitCount_95d88_33 : decode cJ13_bitCount_95d88 33 = .ok (.lstore_n 0, 1) := by decide +kernel
theorem dJ13_bitCount_95d88_34 : decode cJ13_bitCount_95d88 34 = .ok (.lload_n 0, 1) := by decide +kernel
theorem dJ13_bitCount_95d88_35 : decode cJ13_bitCount_95d88 35 = .ok (.lload_n 0, 1) := by decide +kernel
theorem dJ13_bitCount_95d88_36 : decode cJ13_bitCount_95d88 36 = .ok (.bipush 8, 2) := by decide +kernel
theorem dJ13_bitCount_95d88_38 : decode cJ13_bitCount_95d88 38 = .ok (.lushr, 1) := by decide +kernel
theorem dJ13_bitCount_95d88_39 : decode cJ13_bitCount_95d88 39 = .ok (.ladd, 1) := by decide +kernel
theorem dJ13_bitCount_95d88_40 : decode cJ13_bitCount_95d88 40 = .ok (.lstore_n 0, 1) := by decide +kernel
theorem dJ13_bitCount_95d88_41 : decode cJ13_bitCount_95d88 41 = .ok (.lload_n 0, 1) := by decide +kernel
theorem dJ13_bitCount_95d88_42 : decode cJ13_bitCount_95d88 42 = .ok (.lload_n 0, 1) := by decide +kernel
theorem dJ13_bitCount_95d88_43 : decode cJ13_bitCount_95d88 43 = .ok (.bipush 16, 2) := by decide +kernel
theorem dJ13_bitCount_95d88_45 : decode cJ13_bitCount_95d88 45 = .ok (.lushr, 1) := by decide +kernel
theorem dJ13_bitCount_95d88_46 : decode cJ13_bitCount_95d88 46 = .ok (.ladd, 1) := by decide +kernel
theorem dJ13_bitCount_95d88_47 : decode cJ13_bitCount_95d88 47 = .ok (.lstore_n 0, 1) := by decide +kernel
theorem dJ13_bitCount_95d88_48 : decode cJ13_bitCount_95d88 48 = .ok (.lload_n 0, 1) := by decide +kernel
theorem dJ13_bitCount_95d88_49 : decode cJ13_bitCount_95d88 49 = .ok (.lload_n 0, 1) := by decide +kernel
theorem dJ13_bitCount_95d88_50 : decode cJ13_bitCount_95d88 50 = .ok (.bipush 32, 2) := by decide +kernel
theorem dJ13_bitCount_95d88_52 : decode cJ13_bitCount_95d88 52 = .ok (.lushr, 1) := by decide +kernel
theorem dJ13_bitCount_95d88_53 : decode cJ13_bitCount_95d88 53 = .ok (.ladd, 1) := by decide +kernel
theorem dJ13_bitCount_95d88_54 : decode cJ13_bitCount_95d88 54 = .ok (.lstore_n 0, 1) := by decide +kernel
theorem dJ13_bitCount_95d88_55 : decode cJ13_bitCount_95d88 55 = .ok (.lload_n 0, 1) := by decide +kernel
theorem dJ13_bitCount_95d88_56 : decode cJ13_bitCount_95d88 56 = .ok (.l2i, 1) := by decide +kernel
theorem dJ13_bitCount_95d88_57 : decode cJ13_bitCount_95d88 57 = .ok (.bipush 127, 2) := by decide +kernel
theorem dJ13_bitCount_95d88_59 : decode cJ13_bitCount_95d88 59 = .ok (.iand, 1) := by decide +kernel
theorem dJ13_bitCount_95d88_60 : decode cJ13_bitCount_95d88 60 = .ok (.ireturn, 1) := by decide +kernel
theorem dJ9_abs_0f7a4_0 : decode cJ9_abs_0f7a4 0 = .ok (.iload_n 0, 1) := by decide +kernel
theorem dJ9_abs_0f7a4_1 : decode cJ9_abs_0f7a4 1 = .ok (.ifCond .ge 8, 3) := by decide +kernel
theorem dJ9_abs_0f7a4_4 : decode cJ9_abs_0f7a4 4 = .ok (.iload_n 0, 1) := by decide +kernel
theorem dJ9_abs_0f7a4_5 : decode cJ9_abs_0f7a4 5 = .ok (.ineg, 1) := by decide +kernel
theorem dJ9_abs_0f7a4_6 : decode cJ9_abs_0f7a4 6 = .ok (.goto 4, 3) := by decide +kernel
theorem dJ9_abs_0f7a4_9 : decode cJ9_abs_0f7a4 9 = .ok (.iload_n 0, 1) := by decide +kernel
theorem dJ9_abs_0f7a4_10 : decode cJ9_abs_0f7a4 10 = .ok (.ireturn, 1) := by decide +kernel
theorem dJ9_max_7cf53_0 : decode cJ9_max_7cf53 0 = .ok (.iload_n 0, 1) := by decide +kernel
theorem dJ9_max_7cf53_1 : decode cJ9_max_7cf53 1 = .ok (.iload_n 1, 1) := by decide +kernel
theorem dJ9_max_7cf53_2 : decode cJ9_max_7cf53 2 = .ok (.if_icmp .lt 7, 3) := by decide +kernel
theorem dJ9_max_7cf53_5 : decode cJ9_max_7cf53 5 = .ok (.iload_n 0, 1) := by decide +kernel
theorem dJ9_max_7cf53_6 : decode cJ9_max_7cf53 6 = .ok (.goto 4, 3) := by decide +kernel
theorem dJ9_max_7cf53_9 : decode cJ9_max_7cf53 9 = .ok (.iload_n 1, 1) := by decide +kernel
theorem dJ9_max_7cf53_10 : decode cJ9_max_7cf53 10 = .ok (.ireturn, 1) := by decide +kernel
theorem dJ9_min_7cf53_0 : decode cJ9_min_7cf53 0 = .ok (.iload_n 0, 1) := by decide +kernel
theorem dJ9_min_7cf53_1 : decode cJ9_min_7cf53 1 = .ok (.iload_n 1, 1) := by decide +kernel
theorem dJ9_min_7cf53_2 : decode cJ9_min_7cf53 2 = .ok (.if_icmp .gt 7, 3) := by decide +kernel
theorem dJ9_min_7cf53_5 : decode cJ9_min_7cf53 5 = .ok (.iload_n 0, 1) := by decide +kernel
theorem dJ9_min_7cf53_6 : decode cJ9_min_7cf53 6 = .ok (.goto 4, 3) := by decide +kernel
theorem dJ9_min_7cf53_9 : decode cJ9_min_7cf53 9 = .ok (.iload_n 1, 1) := by decide +kernel
theorem dJ9_min_7cf53_10 : decode cJ9_min_7cf53 10 = .ok (.ireturn, 1) := by decide +kernel
theorem dL_draw_0 : decode cL_draw 0 = .ok (.aload 6, 2) := by decide +kernel
theorem dL_draw_2 : decode cL_draw 2 = .ok (.iconst 0, 1) := by decide +kernel
theorem dL_draw_3 : decode cL_draw 3 = .ok (.aload_n 0, 1) := by decide +kernel
theorem dL_draw_4 : decode cL_draw 4 = .ok (.iload_n 1, 1) := by decide +kernel
theorem dL_draw_5 : decode cL_draw 5 = .ok (.iload_n 2, 1) := by decide +kernel
theorem dL_draw_6 : decode cL_draw 6 = .ok (.iload_n 3, 1) := by decide +kernel
theorem dL_draw_7 : decode cL_draw 7 = .ok (.iload 4, 2) := by decide +kernel
theorem dL_draw_9 : decode cL_draw 9 = .ok (.iload 5, 2) := by decide +kernel
theorem dL_draw_11 : decode cL_draw 11 = .ok (.invokevirtual 7, 3) := by decide +kernel
theorem dL_draw_14 : decode cL_draw 14 = .ok (.i2l, 1) := by decide +kernel
theorem dL_draw_15 : decode cL_draw 15 = .ok (.lastore, 1) := by decide +kernel
theorem dL_draw_16 : decode cL_draw 16 = .ok (.goto 11, 3) := by decide +kernel
theorem dL_draw_19 : decode cL_draw 19 = .ok (.astore 7, 2) := by decide +kernel
theorem dL_draw_21 : decode cL_draw 21 = .ok (.iconst 1, 1) := by decide +kernel
theorem dL_draw_22 : decode cL_draw 22 = .ok (.ireturn, 1) := by decide +kernel
theorem dL_draw_23 : decode cL_draw 23 = .ok (.astore 7, 2) := by decide +kernel
theorem dL_draw_25 : decode cL_draw 25 = .ok (.iconst 2, 1) := by decide +kernel
theorem dL_draw_26 : decode cL_draw 26 = .ok (.ireturn, 1) := by decide +kernel
theorem dL_draw_27 : decode cL_draw 27 = .ok (.iconst 0, 1) := by decide +kernel
theorem dL_draw_28 : decode cL_draw 28 = .ok (.ireturn, 1) := by decide +kernel
theorem dL_fill_0 : decode cL_fill 0 = .ok (.aload_n 2, 1) := by decide +kernel
theorem dL_fill_1 : decode cL_fill 1 = .ok (.iconst 0, 1) := by decide +kernel
theorem dL_fill_2 : decode cL_fill 2 = .ok (.aload_n 0, 1) := by decide +kernel
theorem dL_fill_3 : decode cL_fill 3 = .ok (.iload_n 1, 1) := by decide +kernel
theorem dL_fill_4 : decode cL_fill 4 = .ok (.invokevirtual 17, 3) := by decide +kernel
theorem dL_fill_7 : decode cL_fill 7 = .ok (.i2l, 1) := by decide +kernel
theorem dL_fill_8 : decode cL_fill 8 = .ok (.lastore, 1) := by decide +kernel
theorem dL_fill_9 : decode cL_fill 9 = .ok (.goto 6, 3) := by decide +kernel
theorem dL_fill_12 : decode cL_fill 12 = .ok (.astore_n 3, 1) := by decide +kernel
theorem dL_fill_13 : decode cL_fill 13 = .ok (.iconst 1, 1) := by decide +kernel
theorem dL_fill_14 : decode cL_fill 14 = .ok (.ireturn, 1) := by decide +kernel
theorem dL_fill_15 : decode cL_fill 15 = .ok (.iconst 0, 1) := by decide +kernel
theorem dL_fill_16 : decode cL_fill 16 = .ok (.ireturn, 1) := by decide +kernel
theorem dL_pick_0 : decode cL_pick 0 = .ok (.aload 7, 2) := by decide +kernel
theorem dL_pick_2 : decode cL_pick 2 = .ok (.iconst 0, 1) := by decide +kernel
theorem dL_pick_3 : decode cL_pick 3 = .ok (.aload_n 0, 1) := by decide +kernel
theorem dL_pick_4 : decode cL_pick 4 = .ok (.iload_n 1, 1) := by decide +kernel
theorem dL_pick_5 : decode cL_pick 5 = .ok (.iload_n 2, 1) := by decide +kernel
theorem dL_pick_6 : decode cL_pick 6 = .ok (.iload_n 3, 1) := by decide +kernel
theorem dL_pick_7 : decode cL_pick 7 = .ok (.iload 4, 2) := by decide +kernel
theorem dL_pick_9 : decode cL_pick 9 = .ok (.iload 5, 2) := by decide +kernel
theorem dL_pick_11 : decode cL_pick 11 = .ok (.iload 6, 2) := by decide +kernel
theorem dL_pick_13 : decode cL_pick 13 = .ok (.invokevirtual 21, 3) := by decide +kernel
theorem dL_pick_16 : decode cL_pick 16 = .ok (.i2l, 1) := by decide +kernel
theorem dL_pick_17 : decode cL_pick 17 = .ok (.lastore, 1) := by decide +kernel
theorem dL_pick_18 : decode cL_pick 18 = .ok (.goto 15, 3) := by decide +kernel
theorem dL_pick_21 : decode cL_pick 21 = .ok (.astore 8, 2) := by decide +kernel
theorem dL_pick_23 : decode cL_pick 23 = .ok (.iconst 1, 1) := by decide +kernel
theorem dL_pick_24 : decode cL_pick 24 = .ok (.ireturn, 1) := by decide +kernel
theorem dL_pick_25 : decode cL_pick 25 = .ok (.astore 8, 2) := by decide +kernel
theorem dL_pick_27 : decode cL_pick 27 = .ok (.iconst 2, 1) := by decide +kernel
theorem dL_pick_28 : decode cL_pick 28 = .ok (.ireturn, 1) := by decide +kernel
theorem dL_pick_29 : decode cL_pick 29 = .ok (.astore 8, 2) := by decide +kernel
theorem dL_pick_31 : decode cL_pick 31 = .ok (.iconst 3, 1) := by decide +kernel
theorem dL_pick_32 : decode cL_pick 32 = .ok (.ireturn, 1) := by decide +kernel
theorem dL_pick_33 : decode cL_pick 33 = .ok (.iconst 0, 1) := by decide +kernel
theorem dL_pick_34 : decode cL_pick 34 = .ok (.ireturn, 1) := by decide +kernel
theorem dL_toggle_0 : decode cL_toggle 0 = .ok (.aload_n 2, 1) := by decide +kernel
theorem dL_toggle_1 : decode cL_toggle 1 = .ok (.iconst 0, 1) := by decide +kernel
theorem dL_toggle_2 : decode cL_toggle 2 = .ok (.aload_n 0, 1) := by decide +kernel
theorem dL_toggle_3 : decode cL_toggle 3 = .ok (.iload_n 1, 1) := by decide +kernel
theorem dL_toggle_4 : decode cL_toggle 4 = .ok (.invokevirtual 27, 3) := by decide +kernel
theorem dL_toggle_7 : decode cL_toggle 7 = .ok (.i2l, 1) := by decide +kernel
theorem dL_toggle_8 : decode cL_toggle 8 = .ok (.lastore, 1) := by decide +kernel
theorem dL_toggle_9 : decode cL_toggle 9 = .ok (.goto 6, 3) := by decide +kernel
theorem dL_toggle_12 : decode cL_toggle 12 = .ok (.astore_n 3, 1) := by decide +kernel
theorem dL_toggle_13 : decode cL_toggle 13 = .ok (.iconst 1, 1) := by decide +kernel
theorem dL_toggle_14 : decode cL_toggle 14 = .ok (.ireturn, 1) := by decide +kernel
theorem dL_toggle_15 : decode cL_toggle 15 = .ok (.iconst 0, 1) := by decide +kernel
theorem dL_toggle_16 : decode cL_toggle 16 = .ok (.ireturn, 1) := by decide +kernel
theorem dL_setKind_0 : decode cL_setKind 0 = .ok (.aload_n 3, 1) := by decide +kernel
theorem dL_setKind_1 : decode cL_setKind 1 = .ok (.iconst 0, 1) := by decide +kernel
theorem dL_setKind_2 : decode cL_setKind 2 = .ok (.aload_n 0, 1) := by decide +kernel
theorem dL_setKind_3 : decode cL_setKind 3 = .ok (.iload_n 1, 1) := by decide +kernel
theorem dL_setKind_4 : decode cL_setKind 4 = .ok (.iload_n 2, 1) := by decide +kernel
theorem dL_setKind_5 : decode cL_setKind 5 = .ok (.invokevirtual 30, 3) := by decide +kernel
theorem dL_setKind_8 : decode cL_setKind 8 = .ok (.i2l, 1) := by decide +kernel
theorem dL_setKind_9 : decode cL_setKind 9 = .ok (.lastore, 1) := by decide +kernel
theorem dL_setKind_10 : decode cL_setKind 10 = .ok (.goto 11, 3) := by decide +kernel
theorem dL_setKind_13 : decode cL_setKind 13 = .ok (.astore 4, 2) := by decide +kernel
theorem dL_setKind_15 : decode cL_setKind 15 = .ok (.iconst 1, 1) := by decide +kernel
theorem dL_setKind_16 : decode cL_setKind 16 = .ok (.ireturn, 1) := by decide +kernel
theorem dL_setKind_17 : decode cL_setKind 17 = .ok (.astore 4, 2) := by decide +kernel
theorem dL_setKind_19 : decode cL_setKind 19 = .ok (.iconst 2, 1) := by decide +kernel
theorem dL_setKind_20 : decode cL_setKind 20 = .ok (.ireturn, 1) := by decide +kernel
theorem dL_setKind_21 : decode cL_setKind 21 = .ok (.iconst 0, 1) := by decide +kernel
theorem dL_setKind_22 : decode cL_setKind 22 = .ok (.ireturn, 1) := by decide +kernel
theorem dL_reorder_0 : decode cL_reorder 0 = .ok (.aload_n 3, 1) := by decide +kernel
theorem dL_reorder_1 : decode cL_reorder 1 = .ok (.iconst 0, 1) := by decide +kernel
theorem dL_reorder_2 : decode cL_reorder 2 = .ok (.aload_n 0, 1) := by decide +kernel
theorem dL_reorder_3 : decode cL_reorder 3 = .ok (.iload_n 1, 1) := by decide +kernel
theorem dL_reorder_4 : decode cL_reorder 4 = .ok (.iload_n 2, 1) := by decide +kernel
theorem dL_reorder_5 : decode cL_reorder 5 = .ok (.invokevirtual 34, 3) := by decide +kernel
theorem dL_reorder_8 : decode cL_reorder 8 = .ok (.i2l, 1) := by decide +kernel
theorem dL_reorder_9 : decode cL_reorder 9 = .ok (.lastore, 1) := by decide +kernel
theorem dL_reorder_10 : decode cL_reorder 10 = .ok (.goto 7, 3) := by decide +kernel
theorem dL_reorder_13 : decode cL_reorder 13 = .ok (.astore 4, 2) := by decide +kernel
theorem dL_reorder_15 : decode cL_reorder 15 = .ok (.iconst 1, 1) := by decide +kernel
theorem dL_reorder_16 : decode cL_reorder 16 = .ok (.ireturn, 1) := by decide +kernel
theorem dL_reorder_17 : decode cL_reorder 17 = .ok (.iconst 0, 1) := by decide +kernel
theorem dL_reorder_18 : decode cL_reorder 18 = .ok (.ireturn, 1) := by decide +kernel
theorem dL_append_0 : decode cL_append 0 = .ok (.aload_n 2, 1) := by decide +kernel
theorem dL_append_1 : decode cL_append 1 = .ok (.iconst 0, 1) := by decide +kernel
theorem dL_append_2 : decode cL_append 2 = .ok (.aload_n 0, 1) := by decide +kernel
theorem dL_append_3 : decode cL_append 3 = .ok (.iload_n 1, 1) := by decide +kernel
theorem dL_append_4 : decode cL_append 4 = .ok (.invokevirtual 37, 3) := by decide +kernel
theorem dL_append_7 : decode cL_append 7 = .ok (.i2l, 1) := by decide +kernel
theorem dL_append_8 : decode cL_append 8 = .ok (.lastore, 1) := by decide +kernel
theorem dL_append_9 : decode cL_append 9 = .ok (.goto 9, 3) := by decide +kernel
theorem dL_append_12 : decode cL_append 12 = .ok (.astore_n 3, 1) := by decide +kernel
theorem dL_append_13 : decode cL_append 13 = .ok (.iconst 1, 1) := by decide +kernel
theorem dL_append_14 : decode cL_append 14 = .ok (.ireturn, 1) := by decide +kernel
theorem dL_append_15 : decode cL_append 15 = .ok (.astore_n 3, 1) := by decide +kernel
theorem dL_append_16 : decode cL_append 16 = .ok (.iconst 2, 1) := by decide +kernel
theorem dL_append_17 : decode cL_append 17 = .ok (.ireturn, 1) := by decide +kernel
theorem dL_append_18 : decode cL_append 18 = .ok (.iconst 0, 1) := by decide +kernel
theorem dL_append_19 : decode cL_append 19 = .ok (.ireturn, 1) := by decide +kernel
theorem dL_load_0 : decode cL_load 0 = .ok (.aload_n 1, 1) := by decide +kernel
theorem dL_load_1 : decode cL_load 1 = .ok (.iconst 0, 1) := by decide +kernel
theorem dL_load_2 : decode cL_load 2 = .ok (.aload_n 0, 1) := by decide +kernel
theorem dL_load_3 : decode cL_load 3 = .ok (.invokevirtual 40, 3) := by decide +kernel
theorem dL_load_6 : decode cL_load 6 = .ok (.i2l, 1) := by decide +kernel
theorem dL_load_7 : decode cL_load 7 = .ok (.lastore, 1) := by decide +kernel
theorem dL_load_8 : decode cL_load 8 = .ok (.goto 6, 3) := by decide +kernel
theorem dL_load_11 : decode cL_load 11 = .ok (.astore_n 2, 1) := by decide +kernel
theorem dL_load_12 : decode cL_load 12 = .ok (.iconst 1, 1) := by decide +kernel
theorem dL_load_13 : decode cL_load 13 = .ok (.ireturn, 1) := by decide +kernel
theorem dL_load_14 : decode cL_load 14 = .ok (.iconst 0, 1) := by decide +kernel
theorem dL_load_15 : decode cL_load 15 = .ok (.ireturn, 1) := by decide +kernel
theorem dL_undo_0 : decode cL_undo 0 = .ok (.aload_n 1, 1) := by decide +kernel
theorem dL_undo_1 : decode cL_undo 1 = .ok (.iconst 0, 1) := by decide +kernel
theorem dL_undo_2 : decode cL_undo 2 = .ok (.aload_n 0, 1) := by decide +kernel
theorem dL_undo_3 : decode cL_undo 3 = .ok (.invokevirtual 44, 3) := by decide +kernel
theorem dL_undo_6 : decode cL_undo 6 = .ok (.i2l, 1) := by decide +kernel
theorem dL_undo_7 : decode cL_undo 7 = .ok (.lastore, 1) := by decide +kernel
theorem dL_undo_8 : decode cL_undo 8 = .ok (.goto 6, 3) := by decide +kernel
theorem dL_undo_11 : decode cL_undo 11 = .ok (.astore_n 2, 1) := by decide +kernel
theorem dL_undo_12 : decode cL_undo 12 = .ok (.iconst 1, 1) := by decide +kernel
theorem dL_undo_13 : decode cL_undo 13 = .ok (.ireturn, 1) := by decide +kernel
theorem dL_undo_14 : decode cL_undo 14 = .ok (.iconst 0, 1) := by decide +kernel
theorem dL_undo_15 : decode cL_undo 15 = .ok (.ireturn, 1) := by decide +kernel
theorem dL_cell_0 : decode cL_cell 0 = .ok (.aload 4, 2) := by decide +kernel
theorem dL_cell_2 : decode cL_cell 2 = .ok (.iconst 0, 1) := by decide +kernel
theorem dL_cell_3 : decode cL_cell 3 = .ok (.aload_n 0, 1) := by decide +kernel
theorem dL_cell_4 : decode cL_cell 4 = .ok (.iload_n 1, 1) := by decide +kernel
theorem dL_cell_5 : decode cL_cell 5 = .ok (.iload_n 2, 1) := by decide +kernel
theorem dL_cell_6 : decode cL_cell 6 = .ok (.iload_n 3, 1) := by decide +kernel
theorem dL_cell_7 : decode cL_cell 7 = .ok (.invokevirtual 47, 3) := by decide +kernel
theorem dL_cell_10 : decode cL_cell 10 = .ok (.i2l, 1) := by decide +kernel
theorem dL_cell_11 : decode cL_cell 11 = .ok (.lastore, 1) := by decide +kernel
theorem dL_cell_12 : decode cL_cell 12 = .ok (.goto 11, 3) := by decide +kernel
theorem dL_cell_15 : decode cL_cell 15 = .ok (.astore 5, 2) := by decide +kernel
theorem dL_cell_17 : decode cL_cell 17 = .ok (.iconst 1, 1) := by decide +kernel
theorem dL_cell_18 : decode cL_cell 18 = .ok (.ireturn, 1) := by decide +kernel
theorem dL_cell_19 : decode cL_cell 19 = .ok (.astore 5, 2) := by decide +kernel
theorem dL_cell_21 : decode cL_cell 21 = .ok (.iconst 2, 1) := by decide +kernel
theorem dL_cell_22 : decode cL_cell 22 = .ok (.ireturn, 1) := by decide +kernel
theorem dL_cell_23 : decode cL_cell 23 = .ok (.iconst 0, 1) := by decide +kernel
theorem dL_cell_24 : decode cL_cell 24 = .ok (.ireturn, 1) := by decide +kernel
theorem dL_picked_0 : decode cL_picked 0 = .ok (.aload_n 3, 1) := by decide +kernel
theorem dL_picked_1 : decode cL_picked 1 = .ok (.iconst 0, 1) := by decide +kernel
theorem dL_picked_2 : decode cL_picked 2 = .ok (.aload_n 0, 1) := by decide +kernel
theorem dL_picked_3 : decode cL_picked 3 = .ok (.iload_n 1, 1) := by decide +kernel
theorem dL_picked_4 : decode cL_picked 4 = .ok (.iload_n 2, 1) := by decide +kernel
theorem dL_picked_5 : decode cL_picked 5 = .ok (.invokevirtual 51, 3) := by decide +kernel
theorem dL_picked_8 : decode cL_picked 8 = .ok (.i2l, 1) := by decide +kernel
theorem dL_picked_9 : decode cL_picked 9 = .ok (.lastore, 1) := by decide +kernel
theorem dL_picked_10 : decode cL_picked 10 = .ok (.goto 11, 3) := by decide +kernel
theorem dL_picked_13 : decode cL_picked 13 = .ok (.astore 4, 2) := by decide +kernel
theorem dL_picked_15 : decode cL_picked 15 = .ok (.iconst 1, 1) := by decide +kernel
theorem dL_picked_16 : decode cL_picked 16 = .ok (.ireturn, 1) := by decide +kernel
theorem dL_picked_17 : decode cL_picked 17 = .ok (.astore 4, 2) := by decide +kernel
theorem dL_picked_19 : decode cL_picked 19 = .ok (.iconst 2, 1) := by decide +kernel
theorem dL_picked_20 : decode cL_picked 20 = .ok (.ireturn, 1) := by decide +kernel
theorem dL_picked_21 : decode cL_picked 21 = .ok (.iconst 0, 1) := by decide +kernel
theorem dL_picked_22 : decode cL_picked 22 = .ok (.ireturn, 1) := by decide +kernel
theorem dL_level_0 : decode cL_level 0 = .ok (.aload 4, 2) := by decide +kernel
theorem dL_level_2 : decode cL_level 2 = .ok (.iconst 0, 1) := by decide +kernel
theorem dL_level_3 : decode cL_level 3 = .ok (.aload_n 0, 1) := by decide +kernel
theorem dL_level_4 : decode cL_level 4 = .ok (.iload_n 1, 1) := by decide +kernel
theorem dL_level_5 : decode cL_level 5 = .ok (.iload_n 2, 1) := by decide +kernel
theorem dL_level_6 : decode cL_level 6 = .ok (.iload_n 3, 1) := by decide +kernel
theorem dL_level_7 : decode cL_level 7 = .ok (.invokevirtual 54, 3) := by decide +kernel
theorem dL_level_10 : decode cL_level 10 = .ok (.i2l, 1) := by decide +kernel
theorem dL_level_11 : decode cL_level 11 = .ok (.lastore, 1) := by decide +kernel
theorem dL_level_12 : decode cL_level 12 = .ok (.goto 7, 3) := by decide +kernel
theorem dL_level_15 : decode cL_level 15 = .ok (.astore 5, 2) := by decide +kernel
theorem dL_level_17 : decode cL_level 17 = .ok (.iconst 1, 1) := by decide +kernel
theorem dL_level_18 : decode cL_level 18 = .ok (.ireturn, 1) := by decide +kernel
theorem dL_level_19 : decode cL_level 19 = .ok (.iconst 0, 1) := by decide +kernel
theorem dL_level_20 : decode cL_level 20 = .ok (.ireturn, 1) := by decide +kernel
theorem dL_count_0 : decode cL_count 0 = .ok (.aload_n 2, 1) := by decide +kernel
theorem dL_count_1 : decode cL_count 1 = .ok (.iconst 0, 1) := by decide +kernel
theorem dL_count_2 : decode cL_count 2 = .ok (.aload_n 0, 1) := by decide +kernel
theorem dL_count_3 : decode cL_count 3 = .ok (.iload_n 1, 1) := by decide +kernel
theorem dL_count_4 : decode cL_count 4 = .ok (.invokevirtual 57, 3) := by decide +kernel
theorem dL_count_7 : decode cL_count 7 = .ok (.i2l, 1) := by decide +kernel
theorem dL_count_8 : decode cL_count 8 = .ok (.lastore, 1) := by decide +kernel
theorem dL_count_9 : decode cL_count 9 = .ok (.goto 6, 3) := by decide +kernel
theorem dL_count_12 : decode cL_count 12 = .ok (.astore_n 3, 1) := by decide +kernel
theorem dL_count_13 : decode cL_count 13 = .ok (.iconst 1, 1) := by decide +kernel
theorem dL_count_14 : decode cL_count 14 = .ok (.ireturn, 1) := by decide +kernel
theorem dL_count_15 : decode cL_count 15 = .ok (.iconst 0, 1) := by decide +kernel
theorem dL_count_16 : decode cL_count 16 = .ok (.ireturn, 1) := by decide +kernel
theorem dL_areaOf_0 : decode cL_areaOf 0 = .ok (.aload 6, 2) := by decide +kernel
theorem dL_areaOf_2 : decode cL_areaOf 2 = .ok (.iconst 0, 1) := by decide +kernel
theorem dL_areaOf_3 : decode cL_areaOf 3 = .ok (.aload_n 0, 1) := by decide +kernel
theorem dL_areaOf_4 : decode cL_areaOf 4 = .ok (.iload_n 1, 1) := by decide +kernel
theorem dL_areaOf_5 : decode cL_areaOf 5 = .ok (.iload_n 2, 1) := by decide +kernel
theorem dL_areaOf_6 : decode cL_areaOf 6 = .ok (.iload_n 3, 1) := by decide +kernel
theorem dL_areaOf_7 : decode cL_areaOf 7 = .ok (.iload 4, 2) := by decide +kernel
theorem dL_areaOf_9 : decode cL_areaOf 9 = .ok (.iload 5, 2) := by decide +kernel
theorem dL_areaOf_11 : decode cL_areaOf 11 = .ok (.invokevirtual 60, 3) := by decide +kernel
theorem dL_areaOf_14 : decode cL_areaOf 14 = .ok (.i2l, 1) := by decide +kernel
theorem dL_areaOf_15 : decode cL_areaOf 15 = .ok (.lastore, 1) := by decide +kernel
theorem dL_areaOf_16 : decode cL_areaOf 16 = .ok (.goto 11, 3) := by decide +kernel
theorem dL_areaOf_19 : decode cL_areaOf 19 = .ok (.astore 7, 2) := by decide +kernel
theorem dL_areaOf_21 : decode cL_areaOf 21 = .ok (.iconst 1, 1) := by decide +kernel
theorem dL_areaOf_22 : decode cL_areaOf 22 = .ok (.ireturn, 1) := by decide +kernel
theorem dL_areaOf_23 : decode cL_areaOf 23 = .ok (.astore 7, 2) := by decide +kernel
theorem dL_areaOf_25 : decode cL_areaOf 25 = .ok (.iconst 2, 1) := by decide +kernel
theorem dL_areaOf_26 : decode cL_areaOf 26 = .ok (.ireturn, 1) := by decide +kernel
theorem dL_areaOf_27 : decode cL_areaOf 27 = .ok (.iconst 0, 1) := by decide +kernel
theorem dL_areaOf_28 : decode cL_areaOf 28 = .ok (.ireturn, 1) := by decide +kernel
theorem dL_leastLikeness_0 : decode cL_leastLikeness 0 = .ok (.aload 7, 2) := by decide +kernel
theorem dL_leastLikeness_2 : decode cL_leastLikeness 2 = .ok (.iconst 0, 1) := by decide +kernel
theorem dL_leastLikeness_3 : decode cL_leastLikeness 3 = .ok (.aload_n 0, 1) := by decide +kernel
theorem dL_leastLikeness_4 : decode cL_leastLikeness 4 = .ok (.iload_n 1, 1) := by decide +kernel
theorem dL_leastLikeness_5 : decode cL_leastLikeness 5 = .ok (.iload_n 2, 1) := by decide +kernel
theorem dL_leastLikeness_6 : decode cL_leastLikeness 6 = .ok (.iload_n 3, 1) := by decide +kernel
theorem dL_leastLikeness_7 : decode cL_leastLikeness 7 = .ok (.iload 4, 2) := by decide +kernel
theorem dL_leastLikeness_9 : decode cL_leastLikeness 9 = .ok (.iload 5, 2) := by decide +kernel
theorem dL_leastLikeness_11 : decode cL_leastLikeness 11 = .ok (.iload 6, 2) := by decide +kernel
theorem dL_leastLikeness_13 : decode cL_leastLikeness 13 = .ok (.invokevirtual 63, 3) := by decide +kernel
theorem dL_leastLikeness_16 : decode cL_leastLikeness 16 = .ok (.i2l, 1) := by decide +kernel
theorem dL_leastLikeness_17 : decode cL_leastLikeness 17 = .ok (.lastore, 1) := by decide +kernel
theorem dL_leastLikeness_18 : decode cL_leastLikeness 18 = .ok (.goto 11, 3) := by decide +kernel
theorem dL_leastLikeness_21 : decode cL_leastLikeness 21 = .ok (.astore 8, 2) := by decide +kernel
theorem dL_leastLikeness_23 : decode cL_leastLikeness 23 = .ok (.iconst 1, 1) := by decide +kernel
theorem dL_leastLikeness_24 : decode cL_leastLikeness 24 = .ok (.ireturn, 1) := by decide +kernel
theorem dL_leastLikeness_25 : decode cL_leastLikeness 25 = .ok (.astore 8, 2) := by decide +kernel
theorem dL_leastLikeness_27 : decode cL_leastLikeness 27 = .ok (.iconst 2, 1) := by decide +kernel
theorem dL_leastLikeness_28 : decode cL_leastLikeness 28 = .ok (.ireturn, 1) := by decide +kernel
theorem dL_leastLikeness_29 : decode cL_leastLikeness 29 = .ok (.iconst 0, 1) := by decide +kernel
theorem dL_leastLikeness_30 : decode cL_leastLikeness 30 = .ok (.ireturn, 1) := by decide +kernel
theorem dL_partingGap_0 : decode cL_partingGap 0 = .ok (.aload 6, 2) := by decide +kernel
theorem dL_partingGap_2 : decode cL_partingGap 2 = .ok (.iconst 0, 1) := by decide +kernel
theorem dL_partingGap_3 : decode cL_partingGap 3 = .ok (.aload_n 0, 1) := by decide +kernel
theorem dL_partingGap_4 : decode cL_partingGap 4 = .ok (.iload_n 1, 1) := by decide +kernel
theorem dL_partingGap_5 : decode cL_partingGap 5 = .ok (.iload_n 2, 1) := by decide +kernel
theorem dL_partingGap_6 : decode cL_partingGap 6 = .ok (.iload_n 3, 1) := by decide +kernel
theorem dL_partingGap_7 : decode cL_partingGap 7 = .ok (.iload 4, 2) := by decide +kernel
theorem dL_partingGap_9 : decode cL_partingGap 9 = .ok (.iload 5, 2) := by decide +kernel
theorem dL_partingGap_11 : decode cL_partingGap 11 = .ok (.invokevirtual 66, 3) := by decide +kernel
theorem dL_partingGap_14 : decode cL_partingGap 14 = .ok (.i2l, 1) := by decide +kernel
theorem dL_partingGap_15 : decode cL_partingGap 15 = .ok (.lastore, 1) := by decide +kernel
theorem dL_partingGap_16 : decode cL_partingGap 16 = .ok (.goto 11, 3) := by decide +kernel
theorem dL_partingGap_19 : decode cL_partingGap 19 = .ok (.astore 7, 2) := by decide +kernel
theorem dL_partingGap_21 : decode cL_partingGap 21 = .ok (.iconst 1, 1) := by decide +kernel
theorem dL_partingGap_22 : decode cL_partingGap 22 = .ok (.ireturn, 1) := by decide +kernel
theorem dL_partingGap_23 : decode cL_partingGap 23 = .ok (.astore 7, 2) := by decide +kernel
theorem dL_partingGap_25 : decode cL_partingGap 25 = .ok (.iconst 2, 1) := by decide +kernel
theorem dL_partingGap_26 : decode cL_partingGap 26 = .ok (.ireturn, 1) := by decide +kernel
theorem dL_partingGap_27 : decode cL_partingGap 27 = .ok (.iconst 0, 1) := by decide +kernel
theorem dL_partingGap_28 : decode cL_partingGap 28 = .ok (.ireturn, 1) := by decide +kernel
theorem dL_areas_0 : decode cL_areas 0 = .ok (.aload_n 2, 1) := by decide +kernel
theorem dL_areas_1 : decode cL_areas 1 = .ok (.iconst 0, 1) := by decide +kernel
theorem dL_areas_2 : decode cL_areas 2 = .ok (.aload_n 0, 1) := by decide +kernel
theorem dL_areas_3 : decode cL_areas 3 = .ok (.iload_n 1, 1) := by decide +kernel
theorem dL_areas_4 : decode cL_areas 4 = .ok (.invokevirtual 69, 3) := by decide +kernel
theorem dL_areas_7 : decode cL_areas 7 = .ok (.i2l, 1) := by decide +kernel
theorem dL_areas_8 : decode cL_areas 8 = .ok (.lastore, 1) := by decide +kernel
theorem dL_areas_9 : decode cL_areas 9 = .ok (.goto 6, 3) := by decide +kernel
theorem dL_areas_12 : decode cL_areas 12 = .ok (.astore_n 3, 1) := by decide +kernel
theorem dL_areas_13 : decode cL_areas 13 = .ok (.iconst 1, 1) := by decide +kernel
theorem dL_areas_14 : decode cL_areas 14 = .ok (.ireturn, 1) := by decide +kernel
theorem dL_areas_15 : decode cL_areas 15 = .ok (.iconst 0, 1) := by decide +kernel
theorem dL_areas_16 : decode cL_areas 16 = .ok (.ireturn, 1) := by decide +kernel
theorem dL_law_0 : decode cL_law 0 = .ok (.new 8, 3) := by decide +kernel
theorem dL_law_3 : decode cL_law 3 = .ok (.dup, 1) := by decide +kernel
theorem dL_law_4 : decode cL_law 4 = .ok (.invokespecial 72, 3) := by decide +kernel
theorem dL_law_7 : decode cL_law 7 = .ok (.astore_n 1, 1) := by decide +kernel
theorem dL_law_8 : decode cL_law 8 = .ok (.new 73, 3) := by decide +kernel
theorem dL_law_11 : decode cL_law 11 = .ok (.dup, 1) := by decide +kernel
theorem dL_law_12 : decode cL_law 12 = .ok (.invokespecial 75, 3) := by decide +kernel
theorem dL_law_15 : decode cL_law 15 = .ok (.astore_n 2, 1) := by decide +kernel
theorem dL_law_16 : decode cL_law 16 = .ok (.iconst 1, 1) := by decide +kernel
theorem dL_law_17 : decode cL_law 17 = .ok (.newarray .long, 2) := by decide +kernel
theorem dL_law_19 : decode cL_law 19 = .ok (.astore_n 3, 1) := by decide +kernel
theorem dL_law_20 : decode cL_law 20 = .ok (.iconst 0, 1) := by decide +kernel
theorem dL_law_21 : decode cL_law 21 = .ok (.istore 4, 2) := by decide +kernel
theorem dL_law_23 : decode cL_law 23 = .ok (.iload 4, 2) := by decide +kernel
theorem dL_law_25 : decode cL_law 25 = .ok (.aload_n 0, 1) := by decide +kernel
theorem dL_law_26 : decode cL_law 26 = .ok (.arraylength, 1) := by decide +kernel
theorem dL_law_27 : decode cL_law 27 = .ok (.bipush 7, 2) := by decide +kernel
theorem dL_law_29 : decode cL_law 29 = .ok (.isub, 1) := by decide +kernel
theorem dL_law_30 : decode cL_law 30 = .ok (.if_icmp .gt 1494, 3) := by decide +kernel
theorem dL_law_33 : decode cL_law 33 = .ok (.aload_n 0, 1) := by decide +kernel
theorem dL_law_34 : decode cL_law 34 = .ok (.iload 4, 2) := by decide +kernel
theorem dL_law_36 : decode cL_law 36 = .ok (.iaload, 1) := by decide +kernel
theorem dL_law_37 : decode cL_law 37 = .ok (.bipush 31, 2) := by decide +kernel
theorem dL_law_39 : decode cL_law 39 = .ok (.iand, 1) := by decide +kernel
theorem dL_law_40 : decode cL_law 40 = .ok (.tableswitch 1478 0 21 #[104, 208, 264, 382, 438, 506, 574, 587, 643, 656, 669, 713, 757, 837, 905, 985, 1041, 1145, 1263, 1367, 1423, 1464], 104) := by decide +kernel
theorem dL_law_144 : decode cL_law 144 = .ok (.aload_n 1, 1) := by decide +kernel
theorem dL_law_145 : decode cL_law 145 = .ok (.aload_n 0, 1) := by decide +kernel
theorem dL_law_146 : decode cL_law 146 = .ok (.iload 4, 2) := by decide +kernel
theorem dL_law_148 : decode cL_law 148 = .ok (.iconst 1, 1) := by decide +kernel
theorem dL_law_149 : decode cL_law 149 = .ok (.iadd, 1) := by decide +kernel
theorem dL_law_150 : decode cL_law 150 = .ok (.iaload, 1) := by decide +kernel
theorem dL_law_151 : decode cL_law 151 = .ok (.aload_n 0, 1) := by decide +kernel
theorem dL_law_152 : decode cL_law 152 = .ok (.iload 4, 2) := by decide +kernel
theorem dL_law_154 : decode cL_law 154 = .ok (.iconst 2, 1) := by decide +kernel
theorem dL_law_155 : decode cL_law 155 = .ok (.iadd, 1) := by decide +kernel
theorem dL_law_156 : decode cL_law 156 = .ok (.iaload, 1) := by decide +kernel
theorem dL_law_157 : decode cL_law 157 = .ok (.aload_n 0, 1) := by decide +kernel
theorem dL_law_158 : decode cL_law 158 = .ok (.iload 4, 2) := by decide +kernel
theorem dL_law_160 : decode cL_law 160 = .ok (.iconst 3, 1) := by decide +kernel
theorem dL_law_161 : decode cL_law 161 = .ok (.iadd, 1) := by decide +kernel
theorem dL_law_162 : decode cL_law 162 = .ok (.iaload, 1) := by decide +kernel
theorem dL_law_163 : decode cL_law 163 = .ok (.aload_n 0, 1) := by decide +kernel
theorem dL_law_164 : decode cL_law 164 = .ok (.iload 4, 2) := by decide +kernel
theorem dL_law_166 : decode cL_law 166 = .ok (.iconst 4, 1) := by decide +kernel
theorem dL_law_167 : decode cL_law 167 = .ok (.iadd, 1) := by decide +kernel
theorem dL_law_168 : decode cL_law 168 = .ok (.iaload, 1) := by decide +kernel
theorem dL_law_169 : decode cL_law 169 = .ok (.aload_n 0, 1) := by decide +kernel
theorem dL_law_170 : decode cL_law 170 = .ok (.iload 4, 2) := by decide +kernel
theorem dL_law_172 : decode cL_law 172 = .ok (.iconst 5, 1) := by decide +kernel
theorem dL_law_173 : decode cL_law 173 = .ok (.iadd, 1) := by decide +kernel
theorem dL_law_174 : decode cL_law 174 = .ok (.iaload, 1) := by decide +kernel
theorem dL_law_175 : decode cL_law 175 = .ok (.aload_n 3, 1) := by decide +kernel
theorem dL_law_176 : decode cL_law 176 = .ok (.invokestatic 76, 3) := by decide +kernel
theorem dL_law_179 : decode cL_law 179 = .ok (.istore 5, 2) := by decide +kernel
theorem dL_law_181 : decode cL_law 181 = .ok (.aload_n 2, 1) := by decide +kernel
theorem dL_law_182 : decode cL_law 182 = .ok (.aload_n 0, 1) := by decide +kernel
theorem dL_law_183 : decode cL_law 183 = .ok (.iload 4, 2) := by decide +kernel
theorem dL_law_185 : decode cL_law 185 = .ok (.iconst 1, 1) := by decide +kernel
theorem dL_law_186 : decode cL_law 186 = .ok (.iadd, 1) := by decide +kernel
theorem dL_law_187 : decode cL_law 187 = .ok (.iaload, 1) := by decide +kernel
theorem dL_law_188 : decode cL_law 188 = .ok (.aload_n 0, 1) := by decide +kernel
theorem dL_law_189 : decode cL_law 189 = .ok (.iload 4, 2) := by decide +kernel
theorem dL_law_191 : decode cL_law 191 = .ok (.iconst 2, 1) := by decide +kernel
theorem dL_law_192 : decode cL_law 192 = .ok (.iadd, 1) := by decide +kernel
theorem dL_law_193 : decode cL_law 193 = .ok (.iaload, 1) := by decide +kernel
theorem dL_law_194 : decode cL_law 194 = .ok (.aload_n 0, 1) := by decide +kernel
theorem dL_law_195 : decode cL_law 195 = .ok (.iload 4, 2) := by decide +kernel
theorem dL_law_197 : decode cL_law 197 = .ok (.iconst 3, 1) := by decide +kernel
theorem dL_law_198 : decode cL_law 198 = .ok (.iadd, 1) := by decide +kernel
theorem dL_law_199 : decode cL_law 199 = .ok (.iaload, 1) := by decide +kernel
theorem dL_law_200 : decode cL_law 200 = .ok (.aload_n 0, 1) := by decide +kernel
theorem dL_law_201 : decode cL_law 201 = .ok (.iload 4, 2) := by decide +kernel
theorem dL_law_203 : decode cL_law 203 = .ok (.iconst 4, 1) := by decide +kernel
theorem dL_law_204 : decode cL_law 204 = .ok (.iadd, 1) := by decide +kernel
theorem dL_law_205 : decode cL_law 205 = .ok (.iaload, 1) := by decide +kernel
theorem dL_law_206 : decode cL_law 206 = .ok (.aload_n 0, 1) := by decide +kernel
theorem dL_law_207 : decode cL_law 207 = .ok (.iload 4, 2) := by decide +kernel
theorem dL_law_209 : decode cL_law 209 = .ok (.iconst 5, 1) := by decide +kernel
theorem dL_law_210 : decode cL_law 210 = .ok (.iadd, 1) := by decide +kernel
theorem dL_law_211 : decode cL_law 211 = .ok (.iaload, 1) := by decide +kernel
theorem dL_law_212 : decode cL_law 212 = .ok (.invokevirtual 81, 3) := by decide +kernel
theorem dL_law_215 : decode cL_law 215 = .ok (.istore 6, 2) := by decide +kernel
theorem dL_law_217 : decode cL_law 217 = .ok (.aload_n 2, 1) := by decide +kernel
theorem dL_law_218 : decode cL_law 218 = .ok (.invokevirtual 82, 3) := by decide +kernel
theorem dL_law_221 : decode cL_law 221 = .ok (.iload 5, 2) := by decide +kernel
theorem dL_law_223 : decode cL_law 223 = .ok (.if_icmp .eq 5, 3) := by decide +kernel
theorem dL_law_226 : decode cL_law 226 = .ok (.iconst 0, 1) := by decide +kernel
theorem dL_law_227 : decode cL_law 227 = .ok (.ireturn, 1) := by decide +kernel
theorem dL_law_228 : decode cL_law 228 = .ok (.iload 5, 2) := by decide +kernel
theorem dL_law_230 : decode cL_law 230 = .ok (.ifCond .ne 15, 3) := by decide +kernel
theorem dL_law_233 : decode cL_law 233 = .ok (.aload_n 3, 1) := by decide +kernel
theorem dL_law_234 : decode cL_law 234 = .ok (.iconst 0, 1) := by decide +kernel
theorem dL_law_235 : decode cL_law 235 = .ok (.laload, 1) := by decide +kernel
theorem dL_law_236 : decode cL_law 236 = .ok (.iload 6, 2) := by decide +kernel
theorem dL_law_238 : decode cL_law 238 = .ok (.i2l, 1) := by decide +kernel
theorem dL_law_239 : decode cL_law 239 = .ok (.lcmp, 1) := by decide +kernel
theorem dL_law_240 : decode cL_law 240 = .ok (.ifCond .eq 5, 3) := by decide +kernel
theorem dL_law_243 : decode cL_law 243 = .ok (.iconst 0, 1) := by decide +kernel
theorem dL_law_244 : decode cL_law 244 = .ok (.ireturn, 1) := by decide +kernel
theorem dL_law_245 : decode cL_law 245 = .ok (.goto 1273, 3) := by decide +kernel
theorem dL_law_248 : decode cL_law 248 = .ok (.aload_n 1, 1) := by decide +kernel
theorem dL_law_249 : decode cL_law 249 = .ok (.aload_n 0, 1) := by decide +kernel
theorem dL_law_250 : decode cL_law 250 = .ok (.iload 4, 2) := by decide +kernel
theorem dL_law_252 : decode cL_law 252 = .ok (.iconst 1, 1) := by decide +kernel
theorem dL_law_253 : decode cL_law 253 = .ok (.iadd, 1) := by decide +kernel
theorem dL_law_254 : decode cL_law 254 = .ok (.iaload, 1) := by decide +kernel
theorem dL_law_255 : decode cL_law 255 = .ok (.aload_n 3, 1) := by decide +kernel
theorem dL_law_256 : decode cL_law 256 = .ok (.invokestatic 85, 3) := by decide +kernel
theorem dL_law_259 : decode cL_law 259 = .ok (.istore 5, 2) := by decide +kernel
theorem dL_law_261 : decode cL_law 261 = .ok (.aload_n 2, 1) := by decide +kernel
theorem dL_law_262 : decode cL_law 262 = .ok (.aload_n 0, 1) := by decide +kernel
theorem dL_law_263 : decode cL_law 263 = .ok (.iload 4, 2) := by decide +kernel
theorem dL_law_265 : decode cL_law 265 = .ok (.iconst 1, 1) := by decide +kernel
theorem dL_law_266 : decode cL_law 266 = .ok (.iadd, 1) := by decide +kernel
theorem dL_law_267 : decode cL_law 267 = .ok (.iaload, 1) := by decide +kernel
theorem dL_law_268 : decode cL_law 268 = .ok (.invokevirtual 88, 3) := by decide +kernel
theorem dL_law_271 : decode cL_law 271 = .ok (.istore 6, 2) := by decide +kernel
theorem dL_law_273 : decode cL_law 273 = .ok (.aload_n 2, 1) := by decide +kernel
theorem dL_law_274 : decode cL_law 274 = .ok (.invokevirtual 82, 3) := by decide +kernel
theorem dL_law_277 : decode cL_law 277 = .ok (.iload 5, 2) := by decide +kernel
theorem dL_law_279 : decode cL_law 279 = .ok (.if_icmp .eq 5, 3) := by decide +kernel
theorem dL_law_282 : decode cL_law 282 = .ok (.iconst 0, 1) := by decide +kernel
theorem dL_law_283 : decode cL_law 283 = .ok (.ireturn, 1) := by decide +kernel
theorem dL_law_284 : decode cL_law 284 = .ok (.iload 5, 2) := by decide +kernel
theorem dL_law_286 : decode cL_law 286 = .ok (.ifCond .ne 15, 3) := by decide +kernel
theorem dL_law_289 : decode cL_law 289 = .ok (.aload_n 3, 1) := by decide +kernel
theorem dL_law_290 : decode cL_law 290 = .ok (.iconst 0, 1) := by decide +kernel
theorem dL_law_291 : decode cL_law 291 = .ok (.laload, 1) := by decide +kernel
theorem dL_law_292 : decode cL_law 292 = .ok (.iload 6, 2) := by decide +kernel
theorem dL_law_294 : decode cL_law 294 = .ok (.i2l, 1) := by decide +kernel
theorem dL_law_295 : decode cL_law 295 = .ok (.lcmp, 1) := by decide +kernel
theorem dL_law_296 : decode cL_law 296 = .ok (.ifCond .eq 5, 3) := by decide +kernel
theorem dL_law_299 : decode cL_law 299 = .ok (.iconst 0, 1) := by decide +kernel
theorem dL_law_300 : decode cL_law 300 = .ok (.ireturn, 1) := by decide +kernel
theorem dL_law_301 : decode cL_law 301 = .ok (.goto 1217, 3) := by decide +kernel
theorem dL_law_304 : decode cL_law 304 = .ok (.aload_n 1, 1) := by decide +kernel
theorem dL_law_305 : decode cL_law 305 = .ok (.aload_n 0, 1) := by decide +kernel
theorem dL_law_306 : decode cL_law 306 = .ok (.iload 4, 2) := by decide +kernel
theorem dL_law_308 : decode cL_law 308 = .ok (.iconst 1, 1) := by decide +kernel
theorem dL_law_309 : decode cL_law 309 = .ok (.iadd, 1) := by decide +kernel
theorem dL_law_310 : decode cL_law 310 = .ok (.iaload, 1) := by decide +kernel
theorem dL_law_311 : decode cL_law 311 = .ok (.aload_n 0, 1) := by decide +kernel
theorem dL_law_312 : decode cL_law 312 = .ok (.iload 4, 2) := by decide +kernel
theorem dL_law_314 : decode cL_law 314 = .ok (.iconst 2, 1) := by decide +kernel
theorem dL_law_315 : decode cL_law 315 = .ok (.iadd, 1) := by decide +kernel
theorem dL_law_316 : decode cL_law 316 = .ok (.iaload, 1) := by decide +kernel
theorem dL_law_317 : decode cL_law 317 = .ok (.aload_n 0, 1) := by decide +kernel
theorem dL_law_318 : decode cL_law 318 = .ok (.iload 4, 2) := by decide +kernel
theorem dL_law_320 : decode cL_law 320 = .ok (.iconst 3, 1) := by decide +kernel
theorem dL_law_321 : decode cL_law 321 = .ok (.iadd, 1) := by decide +kernel
theorem dL_law_322 : decode cL_law 322 = .ok (.iaload, 1) := by decide +kernel
theorem dL_law_323 : decode cL_law 323 = .ok (.aload_n 0, 1) := by decide +kernel
theorem dL_law_324 : decode cL_law 324 = .ok (.iload 4, 2) := by decide +kernel
theorem dL_law_326 : decode cL_law 326 = .ok (.iconst 4, 1) := by decide +kernel
theorem dL_law_327 : decode cL_law 327 = .ok (.iadd, 1) := by decide +kernel
theorem dL_law_328 : decode cL_law 328 = .ok (.iaload, 1) := by decide +kernel
theorem dL_law_329 : decode cL_law 329 = .ok (.aload_n 0, 1) := by decide +kernel
theorem dL_law_330 : decode cL_law 330 = .ok (.iload 4, 2) := by decide +kernel
theorem dL_law_332 : decode cL_law 332 = .ok (.iconst 5, 1) := by decide +kernel
theorem dL_law_333 : decode cL_law 333 = .ok (.iadd, 1) := by decide +kernel
theorem dL_law_334 : decode cL_law 334 = .ok (.iaload, 1) := by decide +kernel
theorem dL_law_335 : decode cL_law 335 = .ok (.aload_n 0, 1) := by decide +kernel
theorem dL_law_336 : decode cL_law 336 = .ok (.iload 4, 2) := by decide +kernel
theorem dL_law_338 : decode cL_law 338 = .ok (.bipush 6, 2) := by decide +kernel
theorem dL_law_340 : decode cL_law 340 = .ok (.iadd, 1) := by decide +kernel
theorem dL_law_341 : decode cL_law 341 = .ok (.iaload, 1) := by decide +kernel
theorem dL_law_342 : decode cL_law 342 = .ok (.aload_n 3, 1) := by decide +kernel
theorem dL_law_343 : decode cL_law 343 = .ok (.invokestatic 89, 3) := by decide +kernel
theorem dL_law_346 : decode cL_law 346 = .ok (.istore 5, 2) := by decide +kernel
theorem dL_law_348 : decode cL_law 348 = .ok (.aload_n 2, 1) := by decide +kernel
theorem dL_law_349 : decode cL_law 349 = .ok (.aload_n 0, 1) := by decide +kernel
theorem dL_law_350 : decode cL_law 350 = .ok (.iload 4, 2) := by decide +kernel
theorem dL_law_352 : decode cL_law 352 = .ok (.iconst 1, 1) := by decide +kernel
theorem dL_law_353 : decode cL_law 353 = .ok (.iadd, 1) := by decide +kernel
theorem dL_law_354 : decode cL_law 354 = .ok (.iaload, 1) := by decide +kernel
theorem dL_law_355 : decode cL_law 355 = .ok (.aload_n 0, 1) := by decide +kernel
theorem dL_law_356 : decode cL_law 356 = .ok (.iload 4, 2) := by decide +kernel
theorem dL_law_358 : decode cL_law 358 = .ok (.iconst 2, 1) := by decide +kernel
theorem dL_law_359 : decode cL_law 359 = .ok (.iadd, 1) := by decide +kernel
theorem dL_law_360 : decode cL_law 360 = .ok (.iaload, 1) := by decide +kernel
theorem dL_law_361 : decode cL_law 361 = .ok (.aload_n 0, 1) := by decide +kernel
theorem dL_law_362 : decode cL_law 362 = .ok (.iload 4, 2) := by decide +kernel
theorem dL_law_364 : decode cL_law 364 = .ok (.iconst 3, 1) := by decide +kernel
theorem dL_law_365 : decode cL_law 365 = .ok (.iadd, 1) := by decide +kernel
theorem dL_law_366 : decode cL_law 366 = .ok (.iaload, 1) := by decide +kernel
theorem dL_law_367 : decode cL_law 367 = .ok (.aload_n 0, 1) := by decide +kernel
theorem dL_law_368 : decode cL_law 368 = .ok (.iload 4, 2) := by decide +kernel
theorem dL_law_370 : decode cL_law 370 = .ok (.iconst 4, 1) := by decide +kernel
theorem dL_law_371 : decode cL_law 371 = .ok (.iadd, 1) := by decide +kernel
theorem dL_law_372 : decode cL_law 372 = .ok (.iaload, 1) := by decide +kernel
theorem dL_law_373 : decode cL_law 373 = .ok (.aload_n 0, 1) := by decide +kernel
theorem dL_law_374 : decode cL_law 374 = .ok (.iload 4, 2) := by decide +kernel
theorem dL_law_376 : decode cL_law 376 = .ok (.iconst 5, 1) := by decide +kernel
theorem dL_law_377 : decode cL_law 377 = .ok (.iadd, 1) := by decide +kernel
theorem dL_law_378 : decode cL_law 378 = .ok (.iaload, 1) := by decide +kernel
theorem dL_law_379 : decode cL_law 379 = .ok (.aload_n 0, 1) := by decide +kernel
theorem dL_law_380 : decode cL_law 380 = .ok (.iload 4, 2) := by decide +kernel
theorem dL_law_382 : decode cL_law 382 = .ok (.bipush 6, 2) := by decide +kernel
theorem dL_law_384 : decode cL_law 384 = .ok (.iadd, 1) := by decide +kernel
theorem dL_law_385 : decode cL_law 385 = .ok (.iaload, 1) := by decide +kernel
theorem dL_law_386 : decode cL_law 386 = .ok (.invokevirtual 92, 3) := by decide +kernel
theorem dL_law_389 : decode cL_law 389 = .ok (.istore 6, 2) := by decide +kernel
theorem dL_law_391 : decode cL_law 391 = .ok (.aload_n 2, 1) := by decide +kernel
theorem dL_law_392 : decode cL_law 392 = .ok (.invokevirtual 82, 3) := by decide +kernel
theorem dL_law_395 : decode cL_law 395 = .ok (.iload 5, 2) := by decide +kernel
theorem dL_law_397 : decode cL_law 397 = .ok (.if_icmp .eq 5, 3) := by decide +kernel
theorem dL_law_400 : decode cL_law 400 = .ok (.iconst 0, 1) := by decide +kernel
theorem dL_law_401 : decode cL_law 401 = .ok (.ireturn, 1) := by decide +kernel
theorem dL_law_402 : decode cL_law 402 = .ok (.iload 5, 2) := by decide +kernel
theorem dL_law_404 : decode cL_law 404 = .ok (.ifCond .ne 15, 3) := by decide +kernel
theorem dL_law_407 : decode cL_law 407 = .ok (.aload_n 3, 1) := by decide +kernel
theorem dL_law_408 : decode cL_law 408 = .ok (.iconst 0, 1) := by decide +kernel
theorem dL_law_409 : decode cL_law 409 = .ok (.laload, 1) := by decide +kernel
theorem dL_law_410 : decode cL_law 410 = .ok (.iload 6, 2) := by decide +kernel
theorem dL_law_412 : decode cL_law 412 = .ok (.i2l, 1) := by decide +kernel
theorem dL_law_413 : decode cL_law 413 = .ok (.lcmp, 1) := by decide +kernel
theorem dL_law_414 : decode cL_law 414 = .ok (.ifCond .eq 5, 3) := by decide +kernel
theorem dL_law_417 : decode cL_law 417 = .ok (.iconst 0, 1) := by decide +kernel
theorem dL_law_418 : decode cL_law 418 = .ok (.ireturn, 1) := by decide +kernel
theorem dL_law_419 : decode cL_law 419 = .ok (.goto 1099, 3) := by decide +kernel
theorem dL_law_422 : decode cL_law 422 = .ok (.aload_n 1, 1) := by decide +kernel
theorem dL_law_423 : decode cL_law 423 = .ok (.aload_n 0, 1) := by decide +kernel
theorem dL_law_424 : decode cL_law 424 = .ok (.iload 4, 2) := by decide +kernel
theorem dL_law_426 : decode cL_law 426 = .ok (.iconst 1, 1) := by decide +kernel
theorem dL_law_427 : decode cL_law 427 = .ok (.iadd, 1) := by decide +kernel
theorem dL_law_428 : decode cL_law 428 = .ok (.iaload, 1) := by decide +kernel
theorem dL_law_429 : decode cL_law 429 = .ok (.aload_n 3, 1) := by decide +kernel
theorem dL_law_430 : decode cL_law 430 = .ok (.invokestatic 93, 3) := by decide +kernel
theorem dL_law_433 : decode cL_law 433 = .ok (.istore 5, 2) := by decide +kernel
theorem dL_law_435 : decode cL_law 435 = .ok (.aload_n 2, 1) := by decide +kernel
theorem dL_law_436 : decode cL_law 436 = .ok (.aload_n 0, 1) := by decide +kernel
theorem dL_law_437 : decode cL_law 437 = .ok (.iload 4, 2) := by decide +kernel
theorem dL_law_439 : decode cL_law 439 = .ok (.iconst 1, 1) := by decide +kernel
theorem dL_law_440 : decode cL_law 440 = .ok (.iadd, 1) := by decide +kernel
theorem dL_law_441 : decode cL_law 441 = .ok (.iaload, 1) := by decide +kernel
theorem dL_law_442 : decode cL_law 442 = .ok (.invokevirtual 95, 3) := by decide +kernel
theorem dL_law_445 : decode cL_law 445 = .ok (.istore 6, 2) := by decide +kernel
theorem dL_law_447 : decode cL_law 447 = .ok (.aload_n 2, 1) := by decide +kernel
theorem dL_law_448 : decode cL_law 448 = .ok (.invokevirtual 82, 3) := by decide +kernel
theorem dL_law_451 : decode cL_law 451 = .ok (.iload 5, 2) := by decide +kernel
theorem dL_law_453 : decode cL_law 453 = .ok (.if_icmp .eq 5, 3) := by decide +kernel
theorem dL_law_456 : decode cL_law 456 = .ok (.iconst 0, 1) := by decide +kernel
theorem dL_law_457 : decode cL_law 457 = .ok (.ireturn, 1) := by decide +kernel
theorem dL_law_458 : decode cL_law 458 = .ok (.iload 5, 2) := by decide +kernel
theorem dL_law_460 : decode cL_law 460 = .ok (.ifCond .ne 15, 3) := by decide +kernel
theorem dL_law_463 : decode cL_law 463 = .ok (.aload_n 3, 1) := by decide +kernel
theorem dL_law_464 : decode cL_law 464 = .ok (.iconst 0, 1) := by decide +kernel
theorem dL_law_465 : decode cL_law 465 = .ok (.laload, 1) := by decide +kernel
theorem dL_law_466 : decode cL_law 466 = .ok (.iload 6, 2) := by decide +kernel
theorem dL_law_468 : decode cL_law 468 = .ok (.i2l, 1) := by decide +kernel
theorem dL_law_469 : decode cL_law 469 = .ok (.lcmp, 1) := by decide +kernel
theorem dL_law_470 : decode cL_law 470 = .ok (.ifCond .eq 5, 3) := by decide +kernel
theorem dL_law_473 : decode cL_law 473 = .ok (.iconst 0, 1) := by decide +kernel
theorem dL_law_474 : decode cL_law 474 = .ok (.ireturn, 1) := by decide +kernel
theorem dL_law_475 : decode cL_law 475 = .ok (.goto 1043, 3) := by decide +kernel
theorem dL_law_478 : decode cL_law 478 = .ok (.aload_n 1, 1) := by decide +kernel
theorem dL_law_479 : decode cL_law 479 = .ok (.aload_n 0, 1) := by decide +kernel
theorem dL_law_480 : decode cL_law 480 = .ok (.iload 4, 2) := by decide +kernel
theorem dL_law_482 : decode cL_law 482 = .ok (.iconst 1, 1) := by decide +kernel
theorem dL_law_483 : decode cL_law 483 = .ok (.iadd, 1) := by decide +kernel
theorem dL_law_484 : decode cL_law 484 = .ok (.iaload, 1) := by decide +kernel
theorem dL_law_485 : decode cL_law 485 = .ok (.aload_n 0, 1) := by decide +kernel
theorem dL_law_486 : decode cL_law 486 = .ok (.iload 4, 2) := by decide +kernel
theorem dL_law_488 : decode cL_law 488 = .ok (.iconst 2, 1) := by decide +kernel
theorem dL_law_489 : decode cL_law 489 = .ok (.iadd, 1) := by decide +kernel
theorem dL_law_490 : decode cL_law 490 = .ok (.iaload, 1) := by decide +kernel
theorem dL_law_491 : decode cL_law 491 = .ok (.aload_n 3, 1) := by decide +kernel
theorem dL_law_492 : decode cL_law 492 = .ok (.invokestatic 96, 3) := by decide +kernel
theorem dL_law_495 : decode cL_law 495 = .ok (.istore 5, 2) := by decide +kernel
theorem dL_law_497 : decode cL_law 497 = .ok (.aload_n 2, 1) := by decide +kernel
theorem dL_law_498 : decode cL_law 498 = .ok (.aload_n 0, 1) := by decide +kernel
theorem dL_law_499 : decode cL_law 499 = .ok (.iload 4, 2) := by decide +kernel
theorem dL_law_501 : decode cL_law 501 = .ok (.iconst 1, 1) := by decide +kernel
theorem dL_law_502 : decode cL_law 502 = .ok (.iadd, 1) := by decide +kernel
theorem dL_law_503 : decode cL_law 503 = .ok (.iaload, 1) := by decide +kernel
theorem dL_law_504 : decode cL_law 504 = .ok (.aload_n 0, 1) := by decide +kernel
theorem dL_law_505 : decode cL_law 505 = .ok (.iload 4, 2) := by decide +kernel
theorem dL_law_507 : decode cL_law 507 = .ok (.iconst 2, 1) := by decide +kernel
theorem dL_law_508 : decode cL_law 508 = .ok (.iadd, 1) := by decide +kernel
theorem dL_law_509 : decode cL_law 509 = .ok (.iaload, 1) := by decide +kernel
theorem dL_law_510 : decode cL_law 510 = .ok (.invokevirtual 99, 3) := by decide +kernel
theorem dL_law_513 : decode cL_law 513 = .ok (.istore 6, 2) := by decide +kernel
theorem dL_law_515 : decode cL_law 515 = .ok (.aload_n 2, 1) := by decide +kernel
theorem dL_law_516 : decode cL_law 516 = .ok (.invokevirtual 82, 3) := by decide +kernel
theorem dL_law_519 : decode cL_law 519 = .ok (.iload 5, 2) := by decide +kernel
theorem dL_law_521 : decode cL_law 521 = .ok (.if_icmp .eq 5, 3) := by decide +kernel
theorem dL_law_524 : decode cL_law 524 = .ok (.iconst 0, 1) := by decide +kernel
theorem dL_law_525 : decode cL_law 525 = .ok (.ireturn, 1) := by decide +kernel
theorem dL_law_526 : decode cL_law 526 = .ok (.iload 5, 2) := by decide +kernel
theorem dL_law_528 : decode cL_law 528 = .ok (.ifCond .ne 15, 3) := by decide +kernel
theorem dL_law_531 : decode cL_law 531 = .ok (.aload_n 3, 1) := by decide +kernel
theorem dL_law_532 : decode cL_law 532 = .ok (.iconst 0, 1) := by decide +kernel
theorem dL_law_533 : decode cL_law 533 = .ok (.laload, 1) := by decide +kernel
theorem dL_law_534 : decode cL_law 534 = .ok (.iload 6, 2) := by decide +kernel
theorem dL_law_536 : decode cL_law 536 = .ok (.i2l, 1) := by decide +kernel
theorem dL_law_537 : decode cL_law 537 = .ok (.lcmp, 1) := by decide +kernel
theorem dL_law_538 : decode cL_law 538 = .ok (.ifCond .eq 5, 3) := by decide +kernel
theorem dL_law_541 : decode cL_law 541 = .ok (.iconst 0, 1) := by decide +kernel
theorem dL_law_542 : decode cL_law 542 = .ok (.ireturn, 1) := by decide +kernel
theorem dL_law_543 : decode cL_law 543 = .ok (.goto 975, 3) := by decide +kernel
theorem dL_law_546 : decode cL_law 546 = .ok (.aload_n 1, 1) := by decide +kernel
theorem dL_law_547 : decode cL_law 547 = .ok (.aload_n 0, 1) := by decide +kernel
theorem dL_law_548 : decode cL_law 548 = .ok (.iload 4, 2) := by decide +kernel
theorem dL_law_550 : decode cL_law 550 = .ok (.iconst 1, 1) := by decide +kernel
theorem dL_law_551 : decode cL_law 551 = .ok (.iadd, 1) := by decide +kernel
theorem dL_law_552 : decode cL_law 552 = .ok (.iaload, 1) := by decide +kernel
theorem dL_law_553 : decode cL_law 553 = .ok (.aload_n 0, 1) := by decide +kernel
theorem dL_law_554 : decode cL_law 554 = .ok (.iload 4, 2) := by decide +kernel
theorem dL_law_556 : decode cL_law 556 = .ok (.iconst 2, 1) := by decide +kernel
theorem dL_law_557 : decode cL_law 557 = .ok (.iadd, 1) := by decide +kernel
theorem dL_law_558 : decode cL_law 558 = .ok (.iaload, 1) := by decide +kernel
theorem dL_law_559 : decode cL_law 559 = .ok (.aload_n 3, 1) := by decide +kernel
theorem dL_law_560 : decode cL_law 560 = .ok (.invokestatic 100, 3) := by decide +kernel
theorem dL_law_563 : decode cL_law 563 = .ok (.istore 5, 2) := by decide +kernel
theorem dL_law_565 : decode cL_law 565 = .ok (.aload_n 2, 1) := by decide +kernel
theorem dL_law_566 : decode cL_law 566 = .ok (.aload_n 0, 1) := by decide +kernel
theorem dL_law_567 : decode cL_law 567 = .ok (.iload 4, 2) := by decide +kernel
theorem dL_law_569 : decode cL_law 569 = .ok (.iconst 1, 1) := by decide +kernel
theorem dL_law_570 : decode cL_law 570 = .ok (.iadd, 1) := by decide +kernel
theorem dL_law_571 : decode cL_law 571 = .ok (.iaload, 1) := by decide +kernel
theorem dL_law_572 : decode cL_law 572 = .ok (.aload_n 0, 1) := by decide +kernel
theorem dL_law_573 : decode cL_law 573 = .ok (.iload 4, 2) := by decide +kernel
theorem dL_law_575 : decode cL_law 575 = .ok (.iconst 2, 1) := by decide +kernel
theorem dL_law_576 : decode cL_law 576 = .ok (.iadd, 1) := by decide +kernel
theorem dL_law_577 : decode cL_law 577 = .ok (.iaload, 1) := by decide +kernel
theorem dL_law_578 : decode cL_law 578 = .ok (.invokevirtual 102, 3) := by decide +kernel
theorem dL_law_581 : decode cL_law 581 = .ok (.istore 6, 2) := by decide +kernel
theorem dL_law_583 : decode cL_law 583 = .ok (.aload_n 2, 1) := by decide +kernel
theorem dL_law_584 : decode cL_law 584 = .ok (.invokevirtual 82, 3) := by decide +kernel
theorem dL_law_587 : decode cL_law 587 = .ok (.iload 5, 2) := by decide +kernel
theorem dL_law_589 : decode cL_law 589 = .ok (.if_icmp .eq 5, 3) := by decide +kernel
theorem dL_law_592 : decode cL_law 592 = .ok (.iconst 0, 1) := by decide +kernel
theorem dL_law_593 : decode cL_law 593 = .ok (.ireturn, 1) := by decide +kernel
theorem dL_law_594 : decode cL_law 594 = .ok (.iload 5, 2) := by decide +kernel
theorem dL_law_596 : decode cL_law 596 = .ok (.ifCond .ne 15, 3) := by decide +kernel
theorem dL_law_599 : decode cL_law 599 = .ok (.aload_n 3, 1) := by decide +kernel
theorem dL_law_600 : decode cL_law 600 = .ok (.iconst 0, 1) := by decide +kernel
theorem dL_law_601 : decode cL_law 601 = .ok (.laload, 1) := by decide +kernel
theorem dL_law_602 : decode cL_law 602 = .ok (.iload 6, 2) := by decide +kernel
theorem dL_law_604 : decode cL_law 604 = .ok (.i2l, 1) := by decide +kernel
theorem dL_law_605 : decode cL_law 605 = .ok (.lcmp, 1) := by decide +kernel
theorem dL_law_606 : decode cL_law 606 = .ok (.ifCond .eq 5, 3) := by decide +kernel
theorem dL_law_609 : decode cL_law 609 = .ok (.iconst 0, 1) := by decide +kernel
theorem dL_law_610 : decode cL_law 610 = .ok (.ireturn, 1) := by decide +kernel
theorem dL_law_611 : decode cL_law 611 = .ok (.goto 907, 3) := by decide +kernel
theorem dL_law_614 : decode cL_law 614 = .ok (.aload_n 1, 1) := by decide +kernel
theorem dL_law_615 : decode cL_law 615 = .ok (.invokevirtual 103, 3) := by decide +kernel
theorem dL_law_618 : decode cL_law 618 = .ok (.aload_n 2, 1) := by decide +kernel
theorem dL_law_619 : decode cL_law 619 = .ok (.invokevirtual 106, 3) := by decide +kernel
theorem dL_law_622 : decode cL_law 622 = .ok (.if_icmp .eq 896, 3) := by decide +kernel
theorem dL_law_625 : decode cL_law 625 = .ok (.iconst 0, 1) := by decide +kernel
theorem dL_law_626 : decode cL_law 626 = .ok (.ireturn, 1) := by decide +kernel
theorem dL_law_627 : decode cL_law 627 = .ok (.aload_n 1, 1) := by decide +kernel
theorem dL_law_628 : decode cL_law 628 = .ok (.aload_n 0, 1) := by decide +kernel
theorem dL_law_629 : decode cL_law 629 = .ok (.iload 4, 2) := by decide +kernel
theorem dL_law_631 : decode cL_law 631 = .ok (.iconst 1, 1) := by decide +kernel
theorem dL_law_632 : decode cL_law 632 = .ok (.iadd, 1) := by decide +kernel
theorem dL_law_633 : decode cL_law 633 = .ok (.iaload, 1) := by decide +kernel
theorem dL_law_634 : decode cL_law 634 = .ok (.aload_n 3, 1) := by decide +kernel
theorem dL_law_635 : decode cL_law 635 = .ok (.invokestatic 107, 3) := by decide +kernel
theorem dL_law_638 : decode cL_law 638 = .ok (.istore 5, 2) := by decide +kernel
theorem dL_law_640 : decode cL_law 640 = .ok (.aload_n 2, 1) := by decide +kernel
theorem dL_law_641 : decode cL_law 641 = .ok (.aload_n 0, 1) := by decide +kernel
theorem dL_law_642 : decode cL_law 642 = .ok (.iload 4, 2) := by decide +kernel
theorem dL_law_644 : decode cL_law 644 = .ok (.iconst 1, 1) := by decide +kernel
theorem dL_law_645 : decode cL_law 645 = .ok (.iadd, 1) := by decide +kernel
theorem dL_law_646 : decode cL_law 646 = .ok (.iaload, 1) := by decide +kernel
theorem dL_law_647 : decode cL_law 647 = .ok (.invokevirtual 109, 3) := by decide +kernel
theorem dL_law_650 : decode cL_law 650 = .ok (.istore 6, 2) := by decide +kernel
theorem dL_law_652 : decode cL_law 652 = .ok (.aload_n 2, 1) := by decide +kernel
theorem dL_law_653 : decode cL_law 653 = .ok (.invokevirtual 82, 3) := by decide +kernel
theorem dL_law_656 : decode cL_law 656 = .ok (.iload 5, 2) := by decide +kernel
theorem dL_law_658 : decode cL_law 658 = .ok (.if_icmp .eq 5, 3) := by decide +kernel
theorem dL_law_661 : decode cL_law 661 = .ok (.iconst 0, 1) := by decide +kernel
theorem dL_law_662 : decode cL_law 662 = .ok (.ireturn, 1) := by decide +kernel
theorem dL_law_663 : decode cL_law 663 = .ok (.iload 5, 2) := by decide +kernel
theorem dL_law_665 : decode cL_law 665 = .ok (.ifCond .ne 15, 3) := by decide +kernel
theorem dL_law_668 : decode cL_law 668 = .ok (.aload_n 3, 1) := by decide +kernel
theorem dL_law_669 : decode cL_law 669 = .ok (.iconst 0, 1) := by decide +kernel
theorem dL_law_670 : decode cL_law 670 = .ok (.laload, 1) := by decide +kernel
theorem dL_law_671 : decode cL_law 671 = .ok (.iload 6, 2) := by decide +kernel
theorem dL_law_673 : decode cL_law 673 = .ok (.i2l, 1) := by decide +kernel
theorem dL_law_674 : decode cL_law 674 = .ok (.lcmp, 1) := by decide +kernel
theorem dL_law_675 : decode cL_law 675 = .ok (.ifCond .eq 5, 3) := by decide +kernel
theorem dL_law_678 : decode cL_law 678 = .ok (.iconst 0, 1) := by decide +kernel
theorem dL_law_679 : decode cL_law 679 = .ok (.ireturn, 1) := by decide +kernel
theorem dL_law_680 : decode cL_law 680 = .ok (.goto 838, 3) := by decide +kernel
theorem dL_law_683 : decode cL_law 683 = .ok (.aload_n 1, 1) := by decide +kernel
theorem dL_law_684 : decode cL_law 684 = .ok (.invokevirtual 110, 3) := by decide +kernel
theorem dL_law_687 : decode cL_law 687 = .ok (.aload_n 2, 1) := by decide +kernel
theorem dL_law_688 : decode cL_law 688 = .ok (.invokevirtual 113, 3) := by decide +kernel
theorem dL_law_691 : decode cL_law 691 = .ok (.if_icmp .eq 827, 3) := by decide +kernel
theorem dL_law_694 : decode cL_law 694 = .ok (.iconst 0, 1) := by decide +kernel
theorem dL_law_695 : decode cL_law 695 = .ok (.ireturn, 1) := by decide +kernel
theorem dL_law_696 : decode cL_law 696 = .ok (.aload_n 1, 1) := by decide +kernel
theorem dL_law_697 : decode cL_law 697 = .ok (.invokevirtual 114, 3) := by decide +kernel
theorem dL_law_700 : decode cL_law 700 = .ok (.aload_n 2, 1) := by decide +kernel
theorem dL_law_701 : decode cL_law 701 = .ok (.invokevirtual 117, 3) := by decide +kernel
theorem dL_law_704 : decode cL_law 704 = .ok (.if_icmp .eq 814, 3) := by decide +kernel
theorem dL_law_707 : decode cL_law 707 = .ok (.iconst 0, 1) := by decide +kernel
theorem dL_law_708 : decode cL_law 708 = .ok (.ireturn, 1) := by decide +kernel
theorem dL_law_709 : decode cL_law 709 = .ok (.aload_n 1, 1) := by decide +kernel
theorem dL_law_710 : decode cL_law 710 = .ok (.aload_n 3, 1) := by decide +kernel
theorem dL_law_711 : decode cL_law 711 = .ok (.invokestatic 118, 3) := by decide +kernel
theorem dL_law_714 : decode cL_law 714 = .ok (.istore 5, 2) := by decide +kernel
theorem dL_law_716 : decode cL_law 716 = .ok (.aload_n 2, 1) := by decide +kernel
theorem dL_law_717 : decode cL_law 717 = .ok (.invokevirtual 121, 3) := by decide +kernel
theorem dL_law_720 : decode cL_law 720 = .ok (.istore 6, 2) := by decide +kernel
theorem dL_law_722 : decode cL_law 722 = .ok (.aload_n 2, 1) := by decide +kernel
theorem dL_law_723 : decode cL_law 723 = .ok (.invokevirtual 82, 3) := by decide +kernel
theorem dL_law_726 : decode cL_law 726 = .ok (.iload 5, 2) := by decide +kernel
theorem dL_law_728 : decode cL_law 728 = .ok (.if_icmp .eq 5, 3) := by decide +kernel
theorem dL_law_731 : decode cL_law 731 = .ok (.iconst 0, 1) := by decide +kernel
theorem dL_law_732 : decode cL_law 732 = .ok (.ireturn, 1) := by decide +kernel
theorem dL_law_733 : decode cL_law 733 = .ok (.iload 5, 2) := by decide +kernel
theorem dL_law_735 : decode cL_law 735 = .ok (.ifCond .ne 15, 3) := by decide +kernel
theorem dL_law_738 : decode cL_law 738 = .ok (.aload_n 3, 1) := by decide +kernel
theorem dL_law_739 : decode cL_law 739 = .ok (.iconst 0, 1) := by decide +kernel
theorem dL_law_740 : decode cL_law 740 = .ok (.laload, 1) := by decide +kernel
theorem dL_law_741 : decode cL_law 741 = .ok (.iload 6, 2) := by decide +kernel
theorem dL_law_743 : decode cL_law 743 = .ok (.i2l, 1) := by decide +kernel
theorem dL_law_744 : decode cL_law 744 = .ok (.lcmp, 1) := by decide +kernel
theorem dL_law_745 : decode cL_law 745 = .ok (.ifCond .eq 5, 3) := by decide +kernel
theorem dL_law_748 : decode cL_law 748 = .ok (.iconst 0, 1) := by decide +kernel
theorem dL_law_749 : decode cL_law 749 = .ok (.ireturn, 1) := by decide +kernel
theorem dL_law_750 : decode cL_law 750 = .ok (.goto 768, 3) := by decide +kernel
theorem dL_law_753 : decode cL_law 753 = .ok (.aload_n 1, 1) := by decide +kernel
theorem dL_law_754 : decode cL_law 754 = .ok (.aload_n 3, 1) := by decide +kernel
theorem dL_law_755 : decode cL_law 755 = .ok (.invokestatic 122, 3) := by decide +kernel
theorem dL_law_758 : decode cL_law 758 = .ok (.istore 5, 2) := by decide +kernel
theorem dL_law_760 : decode cL_law 760 = .ok (.aload_n 2, 1) := by decide +kernel
theorem dL_law_761 : decode cL_law 761 = .ok (.invokevirtual 124, 3) := by decide +kernel
theorem dL_law_764 : decode cL_law 764 = .ok (.istore 6, 2) := by decide +kernel
theorem dL_law_766 : decode cL_law 766 = .ok (.aload_n 2, 1) := by decide +kernel
theorem dL_law_767 : decode cL_law 767 = .ok (.invokevirtual 82, 3) := by decide +kernel
theorem dL_law_770 : decode cL_law 770 = .ok (.iload 5, 2) := by decide +kernel
theorem dL_law_772 : decode cL_law 772 = .ok (.if_icmp .eq 5, 3) := by decide +kernel
theorem dL_law_775 : decode cL_law 775 = .ok (.iconst 0, 1) := by decide +kernel
theorem dL_law_776 : decode cL_law 776 = .ok (.ireturn, 1) := by decide +kernel
theorem dL_law_777 : decode cL_law 777 = .ok (.iload 5, 2) := by decide +kernel
theorem dL_law_779 : decode cL_law 779 = .ok (.ifCond .ne 15, 3) := by decide +kernel
theorem dL_law_782 : decode cL_law 782 = .ok (.aload_n 3, 1) := by decide +kernel
theorem dL_law_783 : decode cL_law 783 = .ok (.iconst 0, 1) := by decide +kernel
theorem dL_law_784 : decode cL_law 784 = .ok (.laload, 1) := by decide +kernel
theorem dL_law_785 : decode cL_law 785 = .ok (.iload 6, 2) := by decide +kernel
theorem dL_law_787 : decode cL_law 787 = .ok (.i2l, 1) := by decide +kernel
theorem dL_law_788 : decode cL_law 788 = .ok (.lcmp, 1) := by decide +kernel
theorem dL_law_789 : decode cL_law 789 = .ok (.ifCond .eq 5, 3) := by decide +kernel
theorem dL_law_792 : decode cL_law 792 = .ok (.iconst 0, 1) := by decide +kernel
theorem dL_law_793 : decode cL_law 793 = .ok (.ireturn, 1) := by decide +kernel
theorem dL_law_794 : decode cL_law 794 = .ok (.goto 724, 3) := by decide +kernel
theorem dL_law_797 : decode cL_law 797 = .ok (.aload_n 1, 1) := by decide +kernel
theorem dL_law_798 : decode cL_law 798 = .ok (.aload_n 0, 1) := by decide +kernel
theorem dL_law_799 : decode cL_law 799 = .ok (.iload 4, 2) := by decide +kernel
theorem dL_law_801 : decode cL_law 801 = .ok (.iconst 1, 1) := by decide +kernel
theorem dL_law_802 : decode cL_law 802 = .ok (.iadd, 1) := by decide +kernel
theorem dL_law_803 : decode cL_law 803 = .ok (.iaload, 1) := by decide +kernel
theorem dL_law_804 : decode cL_law 804 = .ok (.aload_n 0, 1) := by decide +kernel
theorem dL_law_805 : decode cL_law 805 = .ok (.iload 4, 2) := by decide +kernel
theorem dL_law_807 : decode cL_law 807 = .ok (.iconst 2, 1) := by decide +kernel
theorem dL_law_808 : decode cL_law 808 = .ok (.iadd, 1) := by decide +kernel
theorem dL_law_809 : decode cL_law 809 = .ok (.iaload, 1) := by decide +kernel
theorem dL_law_810 : decode cL_law 810 = .ok (.aload_n 0, 1) := by decide +kernel
theorem dL_law_811 : decode cL_law 811 = .ok (.iload 4, 2) := by decide +kernel
theorem dL_law_813 : decode cL_law 813 = .ok (.iconst 3, 1) := by decide +kernel
theorem dL_law_814 : decode cL_law 814 = .ok (.iadd, 1) := by decide +kernel
theorem dL_law_815 : decode cL_law 815 = .ok (.iaload, 1) := by decide +kernel
theorem dL_law_816 : decode cL_law 816 = .ok (.aload_n 3, 1) := by decide +kernel
theorem dL_law_817 : decode cL_law 817 = .ok (.invokestatic 125, 3) := by decide +kernel
theorem dL_law_820 : decode cL_law 820 = .ok (.istore 5, 2) := by decide +kernel
theorem dL_law_822 : decode cL_law 822 = .ok (.aload_n 2, 1) := by decide +kernel
theorem dL_law_823 : decode cL_law 823 = .ok (.aload_n 0, 1) := by decide +kernel
theorem dL_law_824 : decode cL_law 824 = .ok (.iload 4, 2) := by decide +kernel
theorem dL_law_826 : decode cL_law 826 = .ok (.iconst 1, 1) := by decide +kernel
theorem dL_law_827 : decode cL_law 827 = .ok (.iadd, 1) := by decide +kernel
theorem dL_law_828 : decode cL_law 828 = .ok (.iaload, 1) := by decide +kernel
theorem dL_law_829 : decode cL_law 829 = .ok (.aload_n 0, 1) := by decide +kernel
theorem dL_law_830 : decode cL_law 830 = .ok (.iload 4, 2) := by decide +kernel
theorem dL_law_832 : decode cL_law 832 = .ok (.iconst 2, 1) := by decide +kernel
theorem dL_law_833 : decode cL_law 833 = .ok (.iadd, 1) := by decide +kernel
theorem dL_law_834 : decode cL_law 834 = .ok (.iaload, 1) := by decide +kernel
theorem dL_law_835 : decode cL_law 835 = .ok (.aload_n 0, 1) := by decide +kernel
theorem dL_law_836 : decode cL_law 836 = .ok (.iload 4, 2) := by decide +kernel
theorem dL_law_838 : decode cL_law 838 = .ok (.iconst 3, 1) := by decide +kernel
theorem dL_law_839 : decode cL_law 839 = .ok (.iadd, 1) := by decide +kernel
theorem dL_law_840 : decode cL_law 840 = .ok (.iaload, 1) := by decide +kernel
theorem dL_law_841 : decode cL_law 841 = .ok (.invokevirtual 128, 3) := by decide +kernel
theorem dL_law_844 : decode cL_law 844 = .ok (.istore 6, 2) := by decide +kernel
theorem dL_law_846 : decode cL_law 846 = .ok (.aload_n 2, 1) := by decide +kernel
theorem dL_law_847 : decode cL_law 847 = .ok (.invokevirtual 82, 3) := by decide +kernel
theorem dL_law_850 : decode cL_law 850 = .ok (.iload 5, 2) := by decide +kernel
theorem dL_law_852 : decode cL_law 852 = .ok (.if_icmp .eq 5, 3) := by decide +kernel
theorem dL_law_855 : decode cL_law 855 = .ok (.iconst 0, 1) := by decide +kernel
theorem dL_law_856 : decode cL_law 856 = .ok (.ireturn, 1) := by decide +kernel
theorem dL_law_857 : decode cL_law 857 = .ok (.iload 5, 2) := by decide +kernel
theorem dL_law_859 : decode cL_law 859 = .ok (.ifCond .ne 15, 3) := by decide +kernel
theorem dL_law_862 : decode cL_law 862 = .ok (.aload_n 3, 1) := by decide +kernel
theorem dL_law_863 : decode cL_law 863 = .ok (.iconst 0, 1) := by decide +kernel
theorem dL_law_864 : decode cL_law 864 = .ok (.laload, 1) := by decide +kernel
theorem dL_law_865 : decode cL_law 865 = .ok (.iload 6, 2) := by decide +kernel
theorem dL_law_867 : decode cL_law 867 = .ok (.i2l, 1) := by decide +kernel
theorem dL_law_868 : decode cL_law 868 = .ok (.lcmp, 1) := by decide +kernel
theorem dL_law_869 : decode cL_law 869 = .ok (.ifCond .eq 5, 3) := by decide +kernel
theorem dL_law_872 : decode cL_law 872 = .ok (.iconst 0, 1) := by decide +kernel
theorem dL_law_873 : decode cL_law 873 = .ok (.ireturn, 1) := by decide +kernel
theorem dL_law_874 : decode cL_law 874 = .ok (.goto 644, 3) := by decide +kernel
theorem dL_law_877 : decode cL_law 877 = .ok (.aload_n 1, 1) := by decide +kernel
theorem dL_law_878 : decode cL_law 878 = .ok (.aload_n 0, 1) := by decide +kernel
theorem dL_law_879 : decode cL_law 879 = .ok (.iload 4, 2) := by decide +kernel
theorem dL_law_881 : decode cL_law 881 = .ok (.iconst 1, 1) := by decide +kernel
theorem dL_law_882 : decode cL_law 882 = .ok (.iadd, 1) := by decide +kernel
theorem dL_law_883 : decode cL_law 883 = .ok (.iaload, 1) := by decide +kernel
theorem dL_law_884 : decode cL_law 884 = .ok (.aload_n 0, 1) := by decide +kernel
theorem dL_law_885 : decode cL_law 885 = .ok (.iload 4, 2) := by decide +kernel
theorem dL_law_887 : decode cL_law 887 = .ok (.iconst 2, 1) := by decide +kernel
theorem dL_law_888 : decode cL_law 888 = .ok (.iadd, 1) := by decide +kernel
theorem dL_law_889 : decode cL_law 889 = .ok (.iaload, 1) := by decide +kernel
theorem dL_law_890 : decode cL_law 890 = .ok (.aload_n 3, 1) := by decide +kernel
theorem dL_law_891 : decode cL_law 891 = .ok (.invokestatic 129, 3) := by decide +kernel
theorem dL_law_894 : decode cL_law 894 = .ok (.istore 5, 2) := by decide +kernel
theorem dL_law_896 : decode cL_law 896 = .ok (.aload_n 2, 1) := by decide +kernel
theorem dL_law_897 : decode cL_law 897 = .ok (.aload_n 0, 1) := by decide +kernel
theorem dL_law_898 : decode cL_law 898 = .ok (.iload 4, 2) := by decide +kernel
theorem dL_law_900 : decode cL_law 900 = .ok (.iconst 1, 1) := by decide +kernel
theorem dL_law_901 : decode cL_law 901 = .ok (.iadd, 1) := by decide +kernel
theorem dL_law_902 : decode cL_law 902 = .ok (.iaload, 1) := by decide +kernel
theorem dL_law_903 : decode cL_law 903 = .ok (.aload_n 0, 1) := by decide +kernel
theorem dL_law_904 : decode cL_law 904 = .ok (.iload 4, 2) := by decide +kernel
theorem dL_law_906 : decode cL_law 906 = .ok (.iconst 2, 1) := by decide +kernel
theorem dL_law_907 : decode cL_law 907 = .ok (.iadd, 1) := by decide +kernel
theorem dL_law_908 : decode cL_law 908 = .ok (.iaload, 1) := by decide +kernel
theorem dL_law_909 : decode cL_law 909 = .ok (.invokevirtual 131, 3) := by decide +kernel
theorem dL_law_912 : decode cL_law 912 = .ok (.istore 6, 2) := by decide +kernel
theorem dL_law_914 : decode cL_law 914 = .ok (.aload_n 2, 1) := by decide +kernel
theorem dL_law_915 : decode cL_law 915 = .ok (.invokevirtual 82, 3) := by decide +kernel
theorem dL_law_918 : decode cL_law 918 = .ok (.iload 5, 2) := by decide +kernel
theorem dL_law_920 : decode cL_law 920 = .ok (.if_icmp .eq 5, 3) := by decide +kernel
theorem dL_law_923 : decode cL_law 923 = .ok (.iconst 0, 1) := by decide +kernel
theorem dL_law_924 : decode cL_law 924 = .ok (.ireturn, 1) := by decide +kernel
theorem dL_law_925 : decode cL_law 925 = .ok (.iload 5, 2) := by decide +kernel
theorem dL_law_927 : decode cL_law 927 = .ok (.ifCond .ne 15, 3) := by decide +kernel
theorem dL_law_930 : decode cL_law 930 = .ok (.aload_n 3, 1) := by decide +kernel
theorem dL_law_931 : decode cL_law 931 = .ok (.iconst 0, 1) := by decide +kernel
theorem dL_law_932 : decode cL_law 932 = .ok (.laload, 1) := by decide +kernel
theorem dL_law_933 : decode cL_law 933 = .ok (.iload 6, 2) := by decide +kernel
theorem dL_law_935 : decode cL_law 935 = .ok (.i2l, 1) := by decide +kernel
theorem dL_law_936 : decode cL_law 936 = .ok (.lcmp, 1) := by decide +kernel
theorem dL_law_937 : decode cL_law 937 = .ok (.ifCond .eq 5, 3) := by decide +kernel
theorem dL_law_940 : decode cL_law 940 = .ok (.iconst 0, 1) := by decide +kernel
theorem dL_law_941 : decode cL_law 941 = .ok (.ireturn, 1) := by decide +kernel
theorem dL_law_942 : decode cL_law 942 = .ok (.goto 576, 3) := by decide +kernel
theorem dL_law_945 : decode cL_law 945 = .ok (.aload_n 1, 1) := by decide +kernel
theorem dL_law_946 : decode cL_law 946 = .ok (.aload_n 0, 1) := by decide +kernel
theorem dL_law_947 : decode cL_law 947 = .ok (.iload 4, 2) := by decide +kernel
theorem dL_law_949 : decode cL_law 949 = .ok (.iconst 1, 1) := by decide +kernel
theorem dL_law_950 : decode cL_law 950 = .ok (.iadd, 1) := by decide +kernel
theorem dL_law_951 : decode cL_law 951 = .ok (.iaload, 1) := by decide +kernel
theorem dL_law_952 : decode cL_law 952 = .ok (.aload_n 0, 1) := by decide +kernel
theorem dL_law_953 : decode cL_law 953 = .ok (.iload 4, 2) := by decide +kernel
theorem dL_law_955 : decode cL_law 955 = .ok (.iconst 2, 1) := by decide +kernel
theorem dL_law_956 : decode cL_law 956 = .ok (.iadd, 1) := by decide +kernel
theorem dL_law_957 : decode cL_law 957 = .ok (.iaload, 1) := by decide +kernel
theorem dL_law_958 : decode cL_law 958 = .ok (.aload_n 0, 1) := by decide +kernel
theorem dL_law_959 : decode cL_law 959 = .ok (.iload 4, 2) := by decide +kernel
theorem dL_law_961 : decode cL_law 961 = .ok (.iconst 3, 1) := by decide +kernel
theorem dL_law_962 : decode cL_law 962 = .ok (.iadd, 1) := by decide +kernel
theorem dL_law_963 : decode cL_law 963 = .ok (.iaload, 1) := by decide +kernel
theorem dL_law_964 : decode cL_law 964 = .ok (.aload_n 3, 1) := by decide +kernel
theorem dL_law_965 : decode cL_law 965 = .ok (.invokestatic 132, 3) := by decide +kernel
theorem dL_law_968 : decode cL_law 968 = .ok (.istore 5, 2) := by decide +kernel
theorem dL_law_970 : decode cL_law 970 = .ok (.aload_n 2, 1) := by decide +kernel
theorem dL_law_971 : decode cL_law 971 = .ok (.aload_n 0, 1) := by decide +kernel
theorem dL_law_972 : decode cL_law 972 = .ok (.iload 4, 2) := by decide +kernel
theorem dL_law_974 : decode cL_law 974 = .ok (.iconst 1, 1) := by decide +kernel
theorem dL_law_975 : decode cL_law 975 = .ok (.iadd, 1) := by decide +kernel
theorem dL_law_976 : decode cL_law 976 = .ok (.iaload, 1) := by decide +kernel
theorem dL_law_977 : decode cL_law 977 = .ok (.aload_n 0, 1) := by decide +kernel
theorem dL_law_978 : decode cL_law 978 = .ok (.iload 4, 2) := by decide +kernel
theorem dL_law_980 : decode cL_law 980 = .ok (.iconst 2, 1) := by decide +kernel
theorem dL_law_981 : decode cL_law 981 = .ok (.iadd, 1) := by decide +kernel
theorem dL_law_982 : decode cL_law 982 = .ok (.iaload, 1) := by decide +kernel
theorem dL_law_983 : decode cL_law 983 = .ok (.aload_n 0, 1) := by decide +kernel
theorem dL_law_984 : decode cL_law 984 = .ok (.iload 4, 2) := by decide +kernel
theorem dL_law_986 : decode cL_law 986 = .ok (.iconst 3, 1) := by decide +kernel
theorem dL_law_987 : decode cL_law 987 = .ok (.iadd, 1) := by decide +kernel
theorem dL_law_988 : decode cL_law 988 = .ok (.iaload, 1) := by decide +kernel
theorem dL_law_989 : decode cL_law 989 = .ok (.invokevirtual 134, 3) := by decide +kernel
theorem dL_law_992 : decode cL_law 992 = .ok (.istore 6, 2) := by decide +kernel
theorem dL_law_994 : decode cL_law 994 = .ok (.aload_n 2, 1) := by decide +kernel
theorem dL_law_995 : decode cL_law 995 = .ok (.invokevirtual 82, 3) := by decide +kernel
theorem dL_law_998 : decode cL_law 998 = .ok (.iload 5, 2) := by decide +kernel
theorem dL_law_1000 : decode cL_law 1000 = .ok (.if_icmp .eq 5, 3) := by decide +kernel
theorem dL_law_1003 : decode cL_law 1003 = .ok (.iconst 0, 1) := by decide +kernel
theorem dL_law_1004 : decode cL_law 1004 = .ok (.ireturn, 1) := by decide +kernel
theorem dL_law_1005 : decode cL_law 1005 = .ok (.iload 5, 2) := by decide +kernel
theorem dL_law_1007 : decode cL_law 1007 = .ok (.ifCond .ne 15, 3) := by decide +kernel
theorem dL_law_1010 : decode cL_law 1010 = .ok (.aload_n 3, 1) := by decide +kernel
theorem dL_law_1011 : decode cL_law 1011 = .ok (.iconst 0, 1) := by decide +kernel
theorem dL_law_1012 : decode cL_law 1012 = .ok (.laload, 1) := by decide +kernel
theorem dL_law_1013 : decode cL_law 1013 = .ok (.iload 6, 2) := by decide +kernel
theorem dL_law_1015 : decode cL_law 1015 = .ok (.i2l, 1) := by decide +kernel
theorem dL_law_1016 : decode cL_law 1016 = .ok (.lcmp, 1) := by decide +kernel
theorem dL_law_1017 : decode cL_law 1017 = .ok (.ifCond .eq 5, 3) := by decide +kernel
theorem dL_law_1020 : decode cL_law 1020 = .ok (.iconst 0, 1) := by decide +kernel
theorem dL_law_1021 : decode cL_law 1021 = .ok (.ireturn, 1) := by decide +kernel
theorem dL_law_1022 : decode cL_law 1022 = .ok (.goto 496, 3) := by decide +kernel
theorem dL_law_1025 : decode cL_law 1025 = .ok (.aload_n 1, 1) := by decide +kernel
theorem dL_law_1026 : decode cL_law 1026 = .ok (.aload_n 0, 1) := by decide +kernel
theorem dL_law_1027 : decode cL_law 1027 = .ok (.iload 4, 2) := by decide +kernel
theorem dL_law_1029 : decode cL_law 1029 = .ok (.iconst 1, 1) := by decide +kernel
theorem dL_law_1030 : decode cL_law 1030 = .ok (.iadd, 1) := by decide +kernel
theorem dL_law_1031 : decode cL_law 1031 = .ok (.iaload, 1) := by decide +kernel
theorem dL_law_1032 : decode cL_law 1032 = .ok (.aload_n 3, 1) := by decide +kernel
theorem dL_law_1033 : decode cL_law 1033 = .ok (.invokestatic 135, 3) := by decide +kernel
theorem dL_law_1036 : decode cL_law 1036 = .ok (.istore 5, 2) := by decide +kernel
theorem dL_law_1038 : decode cL_law 1038 = .ok (.aload_n 2, 1) := by decide +kernel
theorem dL_law_1039 : decode cL_law 1039 = .ok (.aload_n 0, 1) := by decide +kernel
theorem dL_law_1040 : decode cL_law 1040 = .ok (.iload 4, 2) := by decide +kernel
theorem dL_law_1042 : decode cL_law 1042 = .ok (.iconst 1, 1) := by decide +kernel
theorem dL_law_1043 : decode cL_law 1043 = .ok (.iadd, 1) := by decide +kernel
theorem dL_law_1044 : decode cL_law 1044 = .ok (.iaload, 1) := by decide +kernel
theorem dL_law_1045 : decode cL_law 1045 = .ok (.invokevirtual 137, 3) := by decide +kernel
theorem dL_law_1048 : decode cL_law 1048 = .ok (.istore 6, 2) := by decide +kernel
theorem dL_law_1050 : decode cL_law 1050 = .ok (.aload_n 2, 1) := by decide +kernel
theorem dL_law_1051 : decode cL_law 1051 = .ok (.invokevirtual 82, 3) := by decide +kernel
theorem dL_law_1054 : decode cL_law 1054 = .ok (.iload 5, 2) := by decide +kernel
theorem dL_law_1056 : decode cL_law 1056 = .ok (.if_icmp .eq 5, 3) := by decide +kernel
theorem dL_law_1059 : decode cL_law 1059 = .ok (.iconst 0, 1) := by decide +kernel
theorem dL_law_1060 : decode cL_law 1060 = .ok (.ireturn, 1) := by decide +kernel
theorem dL_law_1061 : decode cL_law 1061 = .ok (.iload 5, 2) := by decide +kernel
theorem dL_law_1063 : decode cL_law 1063 = .ok (.ifCond .ne 15, 3) := by decide +kernel
theorem dL_law_1066 : decode cL_law 1066 = .ok (.aload_n 3, 1) := by decide +kernel
theorem dL_law_1067 : decode cL_law 1067 = .ok (.iconst 0, 1) := by decide +kernel
theorem dL_law_1068 : decode cL_law 1068 = .ok (.laload, 1) := by decide +kernel
theorem dL_law_1069 : decode cL_law 1069 = .ok (.iload 6, 2) := by decide +kernel
theorem dL_law_1071 : decode cL_law 1071 = .ok (.i2l, 1) := by decide +kernel
theorem dL_law_1072 : decode cL_law 1072 = .ok (.lcmp, 1) := by decide +kernel
theorem dL_law_1073 : decode cL_law 1073 = .ok (.ifCond .eq 5, 3) := by decide +kernel
theorem dL_law_1076 : decode cL_law 1076 = .ok (.iconst 0, 1) := by decide +kernel
theorem dL_law_1077 : decode cL_law 1077 = .ok (.ireturn, 1) := by decide +kernel
theorem dL_law_1078 : decode cL_law 1078 = .ok (.goto 440, 3) := by decide +kernel
theorem dL_law_1081 : decode cL_law 1081 = .ok (.aload_n 1, 1) := by decide +kernel
theorem dL_law_1082 : decode cL_law 1082 = .ok (.aload_n 0, 1) := by decide +kernel
theorem dL_law_1083 : decode cL_law 1083 = .ok (.iload 4, 2) := by decide +kernel
theorem dL_law_1085 : decode cL_law 1085 = .ok (.iconst 1, 1) := by decide +kernel
theorem dL_law_1086 : decode cL_law 1086 = .ok (.iadd, 1) := by decide +kernel
theorem dL_law_1087 : decode cL_law 1087 = .ok (.iaload, 1) := by decide +kernel
theorem dL_law_1088 : decode cL_law 1088 = .ok (.aload_n 0, 1) := by decide +kernel
theorem dL_law_1089 : decode cL_law 1089 = .ok (.iload 4, 2) := by decide +kernel
theorem dL_law_1091 : decode cL_law 1091 = .ok (.iconst 2, 1) := by decide +kernel
theorem dL_law_1092 : decode cL_law 1092 = .ok (.iadd, 1) := by decide +kernel
theorem dL_law_1093 : decode cL_law 1093 = .ok (.iaload, 1) := by decide +kernel
theorem dL_law_1094 : decode cL_law 1094 = .ok (.aload_n 0, 1) := by decide +kernel
theorem dL_law_1095 : decode cL_law 1095 = .ok (.iload 4, 2) := by decide +kernel
theorem dL_law_1097 : decode cL_law 1097 = .ok (.iconst 3, 1) := by decide +kernel
theorem dL_law_1098 : decode cL_law 1098 = .ok (.iadd, 1) := by decide +kernel
theorem dL_law_1099 : decode cL_law 1099 = .ok (.iaload, 1) := by decide +kernel
theorem dL_law_1100 : decode cL_law 1100 = .ok (.aload_n 0, 1) := by decide +kernel
theorem dL_law_1101 : decode cL_law 1101 = .ok (.iload 4, 2) := by decide +kernel
theorem dL_law_1103 : decode cL_law 1103 = .ok (.iconst 4, 1) := by decide +kernel
theorem dL_law_1104 : decode cL_law 1104 = .ok (.iadd, 1) := by decide +kernel
theorem dL_law_1105 : decode cL_law 1105 = .ok (.iaload, 1) := by decide +kernel
theorem dL_law_1106 : decode cL_law 1106 = .ok (.aload_n 0, 1) := by decide +kernel
theorem dL_law_1107 : decode cL_law 1107 = .ok (.iload 4, 2) := by decide +kernel
theorem dL_law_1109 : decode cL_law 1109 = .ok (.iconst 5, 1) := by decide +kernel
theorem dL_law_1110 : decode cL_law 1110 = .ok (.iadd, 1) := by decide +kernel
theorem dL_law_1111 : decode cL_law 1111 = .ok (.iaload, 1) := by decide +kernel
theorem dL_law_1112 : decode cL_law 1112 = .ok (.aload_n 3, 1) := by decide +kernel
theorem dL_law_1113 : decode cL_law 1113 = .ok (.invokestatic 138, 3) := by decide +kernel
theorem dL_law_1116 : decode cL_law 1116 = .ok (.istore 5, 2) := by decide +kernel
theorem dL_law_1118 : decode cL_law 1118 = .ok (.aload_n 2, 1) := by decide +kernel
theorem dL_law_1119 : decode cL_law 1119 = .ok (.aload_n 0, 1) := by decide +kernel
theorem dL_law_1120 : decode cL_law 1120 = .ok (.iload 4, 2) := by decide +kernel
theorem dL_law_1122 : decode cL_law 1122 = .ok (.iconst 1, 1) := by decide +kernel
theorem dL_law_1123 : decode cL_law 1123 = .ok (.iadd, 1) := by decide +kernel
theorem dL_law_1124 : decode cL_law 1124 = .ok (.iaload, 1) := by decide +kernel
theorem dL_law_1125 : decode cL_law 1125 = .ok (.aload_n 0, 1) := by decide +kernel
theorem dL_law_1126 : decode cL_law 1126 = .ok (.iload 4, 2) := by decide +kernel
theorem dL_law_1128 : decode cL_law 1128 = .ok (.iconst 2, 1) := by decide +kernel
theorem dL_law_1129 : decode cL_law 1129 = .ok (.iadd, 1) := by decide +kernel
theorem dL_law_1130 : decode cL_law 1130 = .ok (.iaload, 1) := by decide +kernel
theorem dL_law_1131 : decode cL_law 1131 = .ok (.aload_n 0, 1) := by decide +kernel
theorem dL_law_1132 : decode cL_law 1132 = .ok (.iload 4, 2) := by decide +kernel
theorem dL_law_1134 : decode cL_law 1134 = .ok (.iconst 3, 1) := by decide +kernel
theorem dL_law_1135 : decode cL_law 1135 = .ok (.iadd, 1) := by decide +kernel
theorem dL_law_1136 : decode cL_law 1136 = .ok (.iaload, 1) := by decide +kernel
theorem dL_law_1137 : decode cL_law 1137 = .ok (.aload_n 0, 1) := by decide +kernel
theorem dL_law_1138 : decode cL_law 1138 = .ok (.iload 4, 2) := by decide +kernel
theorem dL_law_1140 : decode cL_law 1140 = .ok (.iconst 4, 1) := by decide +kernel
theorem dL_law_1141 : decode cL_law 1141 = .ok (.iadd, 1) := by decide +kernel
theorem dL_law_1142 : decode cL_law 1142 = .ok (.iaload, 1) := by decide +kernel
theorem dL_law_1143 : decode cL_law 1143 = .ok (.aload_n 0, 1) := by decide +kernel
theorem dL_law_1144 : decode cL_law 1144 = .ok (.iload 4, 2) := by decide +kernel
theorem dL_law_1146 : decode cL_law 1146 = .ok (.iconst 5, 1) := by decide +kernel
theorem dL_law_1147 : decode cL_law 1147 = .ok (.iadd, 1) := by decide +kernel
theorem dL_law_1148 : decode cL_law 1148 = .ok (.iaload, 1) := by decide +kernel
theorem dL_law_1149 : decode cL_law 1149 = .ok (.invokevirtual 140, 3) := by decide +kernel
theorem dL_law_1152 : decode cL_law 1152 = .ok (.istore 6, 2) := by decide +kernel
theorem dL_law_1154 : decode cL_law 1154 = .ok (.aload_n 2, 1) := by decide +kernel
theorem dL_law_1155 : decode cL_law 1155 = .ok (.invokevirtual 82, 3) := by decide +kernel
theorem dL_law_1158 : decode cL_law 1158 = .ok (.iload 5, 2) := by decide +kernel
theorem dL_law_1160 : decode cL_law 1160 = .ok (.if_icmp .eq 5, 3) := by decide +kernel
theorem dL_law_1163 : decode cL_law 1163 = .ok (.iconst 0, 1) := by decide +kernel
theorem dL_law_1164 : decode cL_law 1164 = .ok (.ireturn, 1) := by decide +kernel
theorem dL_law_1165 : decode cL_law 1165 = .ok (.iload 5, 2) := by decide +kernel
theorem dL_law_1167 : decode cL_law 1167 = .ok (.ifCond .ne 15, 3) := by decide +kernel
theorem dL_law_1170 : decode cL_law 1170 = .ok (.aload_n 3, 1) := by decide +kernel
theorem dL_law_1171 : decode cL_law 1171 = .ok (.iconst 0, 1) := by decide +kernel
theorem dL_law_1172 : decode cL_law 1172 = .ok (.laload, 1) := by decide +kernel
theorem dL_law_1173 : decode cL_law 1173 = .ok (.iload 6, 2) := by decide +kernel
theorem dL_law_1175 : decode cL_law 1175 = .ok (.i2l, 1) := by decide +kernel
theorem dL_law_1176 : decode cL_law 1176 = .ok (.lcmp, 1) := by decide +kernel
theorem dL_law_1177 : decode cL_law 1177 = .ok (.ifCond .eq 5, 3) := by decide +kernel
theorem dL_law_1180 : decode cL_law 1180 = .ok (.iconst 0, 1) := by decide +kernel
theorem dL_law_1181 : decode cL_law 1181 = .ok (.ireturn, 1) := by decide +kernel
theorem dL_law_1182 : decode cL_law 1182 = .ok (.goto 336, 3) := by decide +kernel
theorem dL_law_1185 : decode cL_law 1185 = .ok (.aload_n 1, 1) := by decide +kernel
theorem dL_law_1186 : decode cL_law 1186 = .ok (.aload_n 0, 1) := by decide +kernel
theorem dL_law_1187 : decode cL_law 1187 = .ok (.iload 4, 2) := by decide +kernel
theorem dL_law_1189 : decode cL_law 1189 = .ok (.iconst 1, 1) := by decide +kernel
theorem dL_law_1190 : decode cL_law 1190 = .ok (.iadd, 1) := by decide +kernel
theorem dL_law_1191 : decode cL_law 1191 = .ok (.iaload, 1) := by decide +kernel
theorem dL_law_1192 : decode cL_law 1192 = .ok (.aload_n 0, 1) := by decide +kernel
theorem dL_law_1193 : decode cL_law 1193 = .ok (.iload 4, 2) := by decide +kernel
theorem dL_law_1195 : decode cL_law 1195 = .ok (.iconst 2, 1) := by decide +kernel
theorem dL_law_1196 : decode cL_law 1196 = .ok (.iadd, 1) := by decide +kernel
theorem dL_law_1197 : decode cL_law 1197 = .ok (.iaload, 1) := by decide +kernel
theorem dL_law_1198 : decode cL_law 1198 = .ok (.aload_n 0, 1) := by decide +kernel
theorem dL_law_1199 : decode cL_law 1199 = .ok (.iload 4, 2) := by decide +kernel
theorem dL_law_1201 : decode cL_law 1201 = .ok (.iconst 3, 1) := by decide +kernel
theorem dL_law_1202 : decode cL_law 1202 = .ok (.iadd, 1) := by decide +kernel
theorem dL_law_1203 : decode cL_law 1203 = .ok (.iaload, 1) := by decide +kernel
theorem dL_law_1204 : decode cL_law 1204 = .ok (.aload_n 0, 1) := by decide +kernel
theorem dL_law_1205 : decode cL_law 1205 = .ok (.iload 4, 2) := by decide +kernel
theorem dL_law_1207 : decode cL_law 1207 = .ok (.iconst 4, 1) := by decide +kernel
theorem dL_law_1208 : decode cL_law 1208 = .ok (.iadd, 1) := by decide +kernel
theorem dL_law_1209 : decode cL_law 1209 = .ok (.iaload, 1) := by decide +kernel
theorem dL_law_1210 : decode cL_law 1210 = .ok (.aload_n 0, 1) := by decide +kernel
theorem dL_law_1211 : decode cL_law 1211 = .ok (.iload 4, 2) := by decide +kernel
theorem dL_law_1213 : decode cL_law 1213 = .ok (.iconst 5, 1) := by decide +kernel
theorem dL_law_1214 : decode cL_law 1214 = .ok (.iadd, 1) := by decide +kernel
theorem dL_law_1215 : decode cL_law 1215 = .ok (.iaload, 1) := by decide +kernel
theorem dL_law_1216 : decode cL_law 1216 = .ok (.aload_n 0, 1) := by decide +kernel
theorem dL_law_1217 : decode cL_law 1217 = .ok (.iload 4, 2) := by decide +kernel
theorem dL_law_1219 : decode cL_law 1219 = .ok (.bipush 6, 2) := by decide +kernel
theorem dL_law_1221 : decode cL_law 1221 = .ok (.iadd, 1) := by decide +kernel
theorem dL_law_1222 : decode cL_law 1222 = .ok (.iaload, 1) := by decide +kernel
theorem dL_law_1223 : decode cL_law 1223 = .ok (.aload_n 3, 1) := by decide +kernel
theorem dL_law_1224 : decode cL_law 1224 = .ok (.invokestatic 141, 3) := by decide +kernel
theorem dL_law_1227 : decode cL_law 1227 = .ok (.istore 5, 2) := by decide +kernel
theorem dL_law_1229 : decode cL_law 1229 = .ok (.aload_n 2, 1) := by decide +kernel
theorem dL_law_1230 : decode cL_law 1230 = .ok (.aload_n 0, 1) := by decide +kernel
theorem dL_law_1231 : decode cL_law 1231 = .ok (.iload 4, 2) := by decide +kernel
theorem dL_law_1233 : decode cL_law 1233 = .ok (.iconst 1, 1) := by decide +kernel
theorem dL_law_1234 : decode cL_law 1234 = .ok (.iadd, 1) := by decide +kernel
theorem dL_law_1235 : decode cL_law 1235 = .ok (.iaload, 1) := by decide +kernel
theorem dL_law_1236 : decode cL_law 1236 = .ok (.aload_n 0, 1) := by decide +kernel
theorem dL_law_1237 : decode cL_law 1237 = .ok (.iload 4, 2) := by decide +kernel
theorem dL_law_1239 : decode cL_law 1239 = .ok (.iconst 2, 1) := by decide +kernel
theorem dL_law_1240 : decode cL_law 1240 = .ok (.iadd, 1) := by decide +kernel
theorem dL_law_1241 : decode cL_law 1241 = .ok (.iaload, 1) := by decide +kernel
theorem dL_law_1242 : decode cL_law 1242 = .ok (.aload_n 0, 1) := by decide +kernel
theorem dL_law_1243 : decode cL_law 1243 = .ok (.iload 4, 2) := by decide +kernel
theorem dL_law_1245 : decode cL_law 1245 = .ok (.iconst 3, 1) := by decide +kernel
theorem dL_law_1246 : decode cL_law 1246 = .ok (.iadd, 1) := by decide +kernel
theorem dL_law_1247 : decode cL_law 1247 = .ok (.iaload, 1) := by decide +kernel
theorem dL_law_1248 : decode cL_law 1248 = .ok (.aload_n 0, 1) := by decide +kernel
theorem dL_law_1249 : decode cL_law 1249 = .ok (.iload 4, 2) := by decide +kernel
theorem dL_law_1251 : decode cL_law 1251 = .ok (.iconst 4, 1) := by decide +kernel
theorem dL_law_1252 : decode cL_law 1252 = .ok (.iadd, 1) := by decide +kernel
theorem dL_law_1253 : decode cL_law 1253 = .ok (.iaload, 1) := by decide +kernel
theorem dL_law_1254 : decode cL_law 1254 = .ok (.aload_n 0, 1) := by decide +kernel
theorem dL_law_1255 : decode cL_law 1255 = .ok (.iload 4, 2) := by decide +kernel
theorem dL_law_1257 : decode cL_law 1257 = .ok (.iconst 5, 1) := by decide +kernel
theorem dL_law_1258 : decode cL_law 1258 = .ok (.iadd, 1) := by decide +kernel
theorem dL_law_1259 : decode cL_law 1259 = .ok (.iaload, 1) := by decide +kernel
theorem dL_law_1260 : decode cL_law 1260 = .ok (.aload_n 0, 1) := by decide +kernel
theorem dL_law_1261 : decode cL_law 1261 = .ok (.iload 4, 2) := by decide +kernel
theorem dL_law_1263 : decode cL_law 1263 = .ok (.bipush 6, 2) := by decide +kernel
theorem dL_law_1265 : decode cL_law 1265 = .ok (.iadd, 1) := by decide +kernel
theorem dL_law_1266 : decode cL_law 1266 = .ok (.iaload, 1) := by decide +kernel
theorem dL_law_1267 : decode cL_law 1267 = .ok (.invokevirtual 143, 3) := by decide +kernel
theorem dL_law_1270 : decode cL_law 1270 = .ok (.istore 6, 2) := by decide +kernel
theorem dL_law_1272 : decode cL_law 1272 = .ok (.aload_n 2, 1) := by decide +kernel
theorem dL_law_1273 : decode cL_law 1273 = .ok (.invokevirtual 82, 3) := by decide +kernel
theorem dL_law_1276 : decode cL_law 1276 = .ok (.iload 5, 2) := by decide +kernel
theorem dL_law_1278 : decode cL_law 1278 = .ok (.if_icmp .eq 5, 3) := by decide +kernel
theorem dL_law_1281 : decode cL_law 1281 = .ok (.iconst 0, 1) := by decide +kernel
theorem dL_law_1282 : decode cL_law 1282 = .ok (.ireturn, 1) := by decide +kernel
theorem dL_law_1283 : decode cL_law 1283 = .ok (.iload 5, 2) := by decide +kernel
theorem dL_law_1285 : decode cL_law 1285 = .ok (.ifCond .ne 15, 3) := by decide +kernel
theorem dL_law_1288 : decode cL_law 1288 = .ok (.aload_n 3, 1) := by decide +kernel
theorem dL_law_1289 : decode cL_law 1289 = .ok (.iconst 0, 1) := by decide +kernel
theorem dL_law_1290 : decode cL_law 1290 = .ok (.laload, 1) := by decide +kernel
theorem dL_law_1291 : decode cL_law 1291 = .ok (.iload 6, 2) := by decide +kernel
theorem dL_law_1293 : decode cL_law 1293 = .ok (.i2l, 1) := by decide +kernel
theorem dL_law_1294 : decode cL_law 1294 = .ok (.lcmp, 1) := by decide +kernel
theorem dL_law_1295 : decode cL_law 1295 = .ok (.ifCond .eq 5, 3) := by decide +kernel
theorem dL_law_1298 : decode cL_law 1298 = .ok (.iconst 0, 1) := by decide +kernel
theorem dL_law_1299 : decode cL_law 1299 = .ok (.ireturn, 1) := by decide +kernel
theorem dL_law_1300 : decode cL_law 1300 = .ok (.goto 218, 3) := by decide +kernel
theorem dL_law_1303 : decode cL_law 1303 = .ok (.aload_n 1, 1) := by decide +kernel
theorem dL_law_1304 : decode cL_law 1304 = .ok (.aload_n 0, 1) := by decide +kernel
theorem dL_law_1305 : decode cL_law 1305 = .ok (.iload 4, 2) := by decide +kernel
theorem dL_law_1307 : decode cL_law 1307 = .ok (.iconst 1, 1) := by decide +kernel
theorem dL_law_1308 : decode cL_law 1308 = .ok (.iadd, 1) := by decide +kernel
theorem dL_law_1309 : decode cL_law 1309 = .ok (.iaload, 1) := by decide +kernel
theorem dL_law_1310 : decode cL_law 1310 = .ok (.aload_n 0, 1) := by decide +kernel
theorem dL_law_1311 : decode cL_law 1311 = .ok (.iload 4, 2) := by decide +kernel
theorem dL_law_1313 : decode cL_law 1313 = .ok (.iconst 2, 1) := by decide +kernel
theorem dL_law_1314 : decode cL_law 1314 = .ok (.iadd, 1) := by decide +kernel
theorem dL_law_1315 : decode cL_law 1315 = .ok (.iaload, 1) := by decide +kernel
theorem dL_law_1316 : decode cL_law 1316 = .ok (.aload_n 0, 1) := by decide +kernel
theorem dL_law_1317 : decode cL_law 1317 = .ok (.iload 4, 2) := by decide +kernel
theorem dL_law_1319 : decode cL_law 1319 = .ok (.iconst 3, 1) := by decide +kernel
theorem dL_law_1320 : decode cL_law 1320 = .ok (.iadd, 1) := by decide +kernel
theorem dL_law_1321 : decode cL_law 1321 = .ok (.iaload, 1) := by decide +kernel
theorem dL_law_1322 : decode cL_law 1322 = .ok (.aload_n 0, 1) := by decide +kernel
theorem dL_law_1323 : decode cL_law 1323 = .ok (.iload 4, 2) := by decide +kernel
theorem dL_law_1325 : decode cL_law 1325 = .ok (.iconst 4, 1) := by decide +kernel
theorem dL_law_1326 : decode cL_law 1326 = .ok (.iadd, 1) := by decide +kernel
theorem dL_law_1327 : decode cL_law 1327 = .ok (.iaload, 1) := by decide +kernel
theorem dL_law_1328 : decode cL_law 1328 = .ok (.aload_n 0, 1) := by decide +kernel
theorem dL_law_1329 : decode cL_law 1329 = .ok (.iload 4, 2) := by decide +kernel
theorem dL_law_1331 : decode cL_law 1331 = .ok (.iconst 5, 1) := by decide +kernel
theorem dL_law_1332 : decode cL_law 1332 = .ok (.iadd, 1) := by decide +kernel
theorem dL_law_1333 : decode cL_law 1333 = .ok (.iaload, 1) := by decide +kernel
theorem dL_law_1334 : decode cL_law 1334 = .ok (.aload_n 3, 1) := by decide +kernel
theorem dL_law_1335 : decode cL_law 1335 = .ok (.invokestatic 144, 3) := by decide +kernel
theorem dL_law_1338 : decode cL_law 1338 = .ok (.istore 5, 2) := by decide +kernel
theorem dL_law_1340 : decode cL_law 1340 = .ok (.aload_n 2, 1) := by decide +kernel
theorem dL_law_1341 : decode cL_law 1341 = .ok (.aload_n 0, 1) := by decide +kernel
theorem dL_law_1342 : decode cL_law 1342 = .ok (.iload 4, 2) := by decide +kernel
theorem dL_law_1344 : decode cL_law 1344 = .ok (.iconst 1, 1) := by decide +kernel
theorem dL_law_1345 : decode cL_law 1345 = .ok (.iadd, 1) := by decide +kernel
theorem dL_law_1346 : decode cL_law 1346 = .ok (.iaload, 1) := by decide +kernel
theorem dL_law_1347 : decode cL_law 1347 = .ok (.aload_n 0, 1) := by decide +kernel
theorem dL_law_1348 : decode cL_law 1348 = .ok (.iload 4, 2) := by decide +kernel
theorem dL_law_1350 : decode cL_law 1350 = .ok (.iconst 2, 1) := by decide +kernel
theorem dL_law_1351 : decode cL_law 1351 = .ok (.iadd, 1) := by decide +kernel
theorem dL_law_1352 : decode cL_law 1352 = .ok (.iaload, 1) := by decide +kernel
theorem dL_law_1353 : decode cL_law 1353 = .ok (.aload_n 0, 1) := by decide +kernel
theorem dL_law_1354 : decode cL_law 1354 = .ok (.iload 4, 2) := by decide +kernel
theorem dL_law_1356 : decode cL_law 1356 = .ok (.iconst 3, 1) := by decide +kernel
theorem dL_law_1357 : decode cL_law 1357 = .ok (.iadd, 1) := by decide +kernel
theorem dL_law_1358 : decode cL_law 1358 = .ok (.iaload, 1) := by decide +kernel
theorem dL_law_1359 : decode cL_law 1359 = .ok (.aload_n 0, 1) := by decide +kernel
theorem dL_law_1360 : decode cL_law 1360 = .ok (.iload 4, 2) := by decide +kernel
theorem dL_law_1362 : decode cL_law 1362 = .ok (.iconst 4, 1) := by decide +kernel
theorem dL_law_1363 : decode cL_law 1363 = .ok (.iadd, 1) := by decide +kernel
theorem dL_law_1364 : decode cL_law 1364 = .ok (.iaload, 1) := by decide +kernel
theorem dL_law_1365 : decode cL_law 1365 = .ok (.aload_n 0, 1) := by decide +kernel
theorem dL_law_1366 : decode cL_law 1366 = .ok (.iload 4, 2) := by decide +kernel
theorem dL_law_1368 : decode cL_law 1368 = .ok (.iconst 5, 1) := by decide +kernel
theorem dL_law_1369 : decode cL_law 1369 = .ok (.iadd, 1) := by decide +kernel
theorem dL_law_1370 : decode cL_law 1370 = .ok (.iaload, 1) := by decide +kernel
theorem dL_law_1371 : decode cL_law 1371 = .ok (.invokevirtual 146, 3) := by decide +kernel
theorem dL_law_1374 : decode cL_law 1374 = .ok (.istore 6, 2) := by decide +kernel
theorem dL_law_1376 : decode cL_law 1376 = .ok (.aload_n 2, 1) := by decide +kernel
theorem dL_law_1377 : decode cL_law 1377 = .ok (.invokevirtual 82, 3) := by decide +kernel
theorem dL_law_1380 : decode cL_law 1380 = .ok (.iload 5, 2) := by decide +kernel
theorem dL_law_1382 : decode cL_law 1382 = .ok (.if_icmp .eq 5, 3) := by decide +kernel
theorem dL_law_1385 : decode cL_law 1385 = .ok (.iconst 0, 1) := by decide +kernel
theorem dL_law_1386 : decode cL_law 1386 = .ok (.ireturn, 1) := by decide +kernel
theorem dL_law_1387 : decode cL_law 1387 = .ok (.iload 5, 2) := by decide +kernel
theorem dL_law_1389 : decode cL_law 1389 = .ok (.ifCond .ne 15, 3) := by decide +kernel
theorem dL_law_1392 : decode cL_law 1392 = .ok (.aload_n 3, 1) := by decide +kernel
theorem dL_law_1393 : decode cL_law 1393 = .ok (.iconst 0, 1) := by decide +kernel
theorem dL_law_1394 : decode cL_law 1394 = .ok (.laload, 1) := by decide +kernel
theorem dL_law_1395 : decode cL_law 1395 = .ok (.iload 6, 2) := by decide +kernel
theorem dL_law_1397 : decode cL_law 1397 = .ok (.i2l, 1) := by decide +kernel
theorem dL_law_1398 : decode cL_law 1398 = .ok (.lcmp, 1) := by decide +kernel
theorem dL_law_1399 : decode cL_law 1399 = .ok (.ifCond .eq 5, 3) := by decide +kernel
theorem dL_law_1402 : decode cL_law 1402 = .ok (.iconst 0, 1) := by decide +kernel
theorem dL_law_1403 : decode cL_law 1403 = .ok (.ireturn, 1) := by decide +kernel
theorem dL_law_1404 : decode cL_law 1404 = .ok (.goto 114, 3) := by decide +kernel
theorem dL_law_1407 : decode cL_law 1407 = .ok (.aload_n 1, 1) := by decide +kernel
theorem dL_law_1408 : decode cL_law 1408 = .ok (.aload_n 0, 1) := by decide +kernel
theorem dL_law_1409 : decode cL_law 1409 = .ok (.iload 4, 2) := by decide +kernel
theorem dL_law_1411 : decode cL_law 1411 = .ok (.iconst 1, 1) := by decide +kernel
theorem dL_law_1412 : decode cL_law 1412 = .ok (.iadd, 1) := by decide +kernel
theorem dL_law_1413 : decode cL_law 1413 = .ok (.iaload, 1) := by decide +kernel
theorem dL_law_1414 : decode cL_law 1414 = .ok (.aload_n 3, 1) := by decide +kernel
theorem dL_law_1415 : decode cL_law 1415 = .ok (.invokestatic 147, 3) := by decide +kernel
theorem dL_law_1418 : decode cL_law 1418 = .ok (.istore 5, 2) := by decide +kernel
theorem dL_law_1420 : decode cL_law 1420 = .ok (.aload_n 2, 1) := by decide +kernel
theorem dL_law_1421 : decode cL_law 1421 = .ok (.aload_n 0, 1) := by decide +kernel
theorem dL_law_1422 : decode cL_law 1422 = .ok (.iload 4, 2) := by decide +kernel
theorem dL_law_1424 : decode cL_law 1424 = .ok (.iconst 1, 1) := by decide +kernel
theorem dL_law_1425 : decode cL_law 1425 = .ok (.iadd, 1) := by decide +kernel
theorem dL_law_1426 : decode cL_law 1426 = .ok (.iaload, 1) := by decide +kernel
theorem dL_law_1427 : decode cL_law 1427 = .ok (.invokevirtual 149, 3) := by decide +kernel
theorem dL_law_1430 : decode cL_law 1430 = .ok (.istore 6, 2) := by decide +kernel
theorem dL_law_1432 : decode cL_law 1432 = .ok (.aload_n 2, 1) := by decide +kernel
theorem dL_law_1433 : decode cL_law 1433 = .ok (.invokevirtual 82, 3) := by decide +kernel
theorem dL_law_1436 : decode cL_law 1436 = .ok (.iload 5, 2) := by decide +kernel
theorem dL_law_1438 : decode cL_law 1438 = .ok (.if_icmp .eq 5, 3) := by decide +kernel
theorem dL_law_1441 : decode cL_law 1441 = .ok (.iconst 0, 1) := by decide +kernel
theorem dL_law_1442 : decode cL_law 1442 = .ok (.ireturn, 1) := by decide +kernel
theorem dL_law_1443 : decode cL_law 1443 = .ok (.iload 5, 2) := by decide +kernel
theorem dL_law_1445 : decode cL_law 1445 = .ok (.ifCond .ne 15, 3) := by decide +kernel
theorem dL_law_1448 : decode cL_law 1448 = .ok (.aload_n 3, 1) := by decide +kernel
theorem dL_law_1449 : decode cL_law 1449 = .ok (.iconst 0, 1) := by decide +kernel
theorem dL_law_1450 : decode cL_law 1450 = .ok (.laload, 1) := by decide +kernel
theorem dL_law_1451 : decode cL_law 1451 = .ok (.iload 6, 2) := by decide +kernel
theorem dL_law_1453 : decode cL_law 1453 = .ok (.i2l, 1) := by decide +kernel
theorem dL_law_1454 : decode cL_law 1454 = .ok (.lcmp, 1) := by decide +kernel
theorem dL_law_1455 : decode cL_law 1455 = .ok (.ifCond .eq 5, 3) := by decide +kernel
theorem dL_law_1458 : decode cL_law 1458 = .ok (.iconst 0, 1) := by decide +kernel
theorem dL_law_1459 : decode cL_law 1459 = .ok (.ireturn, 1) := by decide +kernel
theorem dL_law_1460 : decode cL_law 1460 = .ok (.goto 58, 3) := by decide +kernel
theorem dL_law_1463 : decode cL_law 1463 = .ok (.aload_n 1, 1) := by decide +kernel
theorem dL_law_1464 : decode cL_law 1464 = .ok (.invokevirtual 150, 3) := by decide +kernel
theorem dL_law_1467 : decode cL_law 1467 = .ok (.dstore 5, 2) := by decide +kernel
theorem dL_law_1469 : decode cL_law 1469 = .ok (.aload_n 2, 1) := by decide +kernel
theorem dL_law_1470 : decode cL_law 1470 = .ok (.invokevirtual 154, 3) := by decide +kernel
theorem dL_law_1473 : decode cL_law 1473 = .ok (.dstore 7, 2) := by decide +kernel
theorem dL_law_1475 : decode cL_law 1475 = .ok (.dload 5, 2) := by decide +kernel
theorem dL_law_1477 : decode cL_law 1477 = .ok (.dload 7, 2) := by decide +kernel
theorem dL_law_1479 : decode cL_law 1479 = .ok (.dcmp .l, 1) := by decide +kernel
theorem dL_law_1480 : decode cL_law 1480 = .ok (.ifCond .eq 21, 3) := by decide +kernel
theorem dL_law_1483 : decode cL_law 1483 = .ok (.dload 5, 2) := by decide +kernel
theorem dL_law_1485 : decode cL_law 1485 = .ok (.dload 5, 2) := by decide +kernel
theorem dL_law_1487 : decode cL_law 1487 = .ok (.dcmp .l, 1) := by decide +kernel
theorem dL_law_1488 : decode cL_law 1488 = .ok (.ifCond .eq 11, 3) := by decide +kernel
theorem dL_law_1491 : decode cL_law 1491 = .ok (.dload 7, 2) := by decide +kernel
theorem dL_law_1493 : decode cL_law 1493 = .ok (.dload 7, 2) := by decide +kernel
theorem dL_law_1495 : decode cL_law 1495 = .ok (.dcmp .l, 1) := by decide +kernel
theorem dL_law_1496 : decode cL_law 1496 = .ok (.ifCond .ne 5, 3) := by decide +kernel
theorem dL_law_1499 : decode cL_law 1499 = .ok (.iconst 0, 1) := by decide +kernel
theorem dL_law_1500 : decode cL_law 1500 = .ok (.ireturn, 1) := by decide +kernel
theorem dL_law_1501 : decode cL_law 1501 = .ok (.goto 17, 3) := by decide +kernel
theorem dL_law_1504 : decode cL_law 1504 = .ok (.aload_n 1, 1) := by decide +kernel
theorem dL_law_1505 : decode cL_law 1505 = .ok (.invokevirtual 155, 3) := by decide +kernel
theorem dL_law_1508 : decode cL_law 1508 = .ok (.aload_n 2, 1) := by decide +kernel
theorem dL_law_1509 : decode cL_law 1509 = .ok (.invokevirtual 159, 3) := by decide +kernel
theorem dL_law_1512 : decode cL_law 1512 = .ok (.lcmp, 1) := by decide +kernel
theorem dL_law_1513 : decode cL_law 1513 = .ok (.ifCond .eq 5, 3) := by decide +kernel
theorem dL_law_1516 : decode cL_law 1516 = .ok (.iconst 0, 1) := by decide +kernel
theorem dL_law_1517 : decode cL_law 1517 = .ok (.ireturn, 1) := by decide +kernel
theorem dL_law_1518 : decode cL_law 1518 = .ok (.iinc 4 7, 3) := by decide +kernel
theorem dL_law_1521 : decode cL_law 1521 = .ok (.goto (-1498), 3) := by decide +kernel
theorem dL_law_1524 : decode cL_law 1524 = .ok (.iconst 1, 1) := by decide +kernel
theorem dL_law_1525 : decode cL_law 1525 = .ok (.ireturn, 1) := by decide +kernel
end
section
/-! THE LAYER V: a method's walk over an abstract world (cells by numbers, ints as whole numbers), over the kit's rows -/
theorem xof_add (a b : Int) : Int32.ofInt a + Int32.ofInt b = Int32.ofInt (a + b) := (Int32.ofInt_add a b).symm
theorem xof_sub (a b : Int) : Int32.ofInt a - Int32.ofInt b = Int32.ofInt (a - b) := (Int32.ofInt_sub a b).symm
theorem xof_mul (a b : Int) : Int32.ofInt a * Int32.ofInt b = Int32.ofInt (a * b) := (Int32.ofInt_mul a b).symm
theorem xof_neg (a : Int) : -Int32.ofInt a = Int32.ofInt (-a) := (Int32.ofInt_neg a).symm
theorem xof_lt {a b : Int} (h : -2147483648 ≤ a ∧ a < 2147483648 ∧ -2147483648 ≤ b ∧ b < 2147483648) : Int32.ofInt a < Int32.ofInt b ↔ a < b :=
  Int32.ofInt_lt_iff_lt h.1 (Int.le_of_lt_add_one h.2.1) h.2.2.1 (Int.le_of_lt_add_one h.2.2.2)
theorem xof_le {a b : Int} (h : -2147483648 ≤ a ∧ a < 2147483648 ∧ -2147483648 ≤ b ∧ b < 2147483648) : Int32.ofInt a ≤ Int32.ofInt b ↔ a ≤ b :=
  Int32.ofInt_le_iff_le h.1 (Int.le_of_lt_add_one h.2.1) h.2.2.1 (Int.le_of_lt_add_one h.2.2.2)
theorem xof_toInt {a : Int} (h : -2147483648 ≤ a) (h2 : a < 2147483648) : (Int32.ofInt a).toInt = a := Int32.toInt_ofInt_of_le h h2
theorem xof_eq {a b : Int} (h : -2147483648 ≤ a ∧ a < 2147483648 ∧ -2147483648 ≤ b ∧ b < 2147483648) : Int32.ofInt a = Int32.ofInt b ↔ a = b := by
  refine ⟨fun e => ?_, fun e => by rw [e]⟩
  have := congrArg Int32.toInt e
  rwa [xof_toInt h.1 h.2.1, xof_toInt h.2.2.1 h.2.2.2] at this
theorem xof_div {a b : Int} (h : -2147483648 ≤ a ∧ a < 2147483648 ∧ -2147483648 ≤ b ∧ b < 2147483648) : Int32.ofInt a / Int32.ofInt b = Int32.ofInt (a.tdiv b) :=
  (Int32.ofInt_tdiv h.1 (Int.le_of_lt_add_one h.2.1) h.2.2.1 (Int.le_of_lt_add_one h.2.2.2)).symm
theorem xof_clamp {a : Int} (h : 0 ≤ a) (h2 : a < 2147483648) : (Int32.ofInt a).toNatClampNeg = a.toNat := by
  show (Int32.ofInt a).toInt.toNat = a.toNat
  rw [xof_toInt (by omega) h2]
theorem xof_in {a : Int} {n : Nat} (h : 0 ≤ a) (h2 : a < n) (hn : n < 2147483648) : vp_in (Int32.ofInt a) n := by
  intro q
  rcases q with q | q
  · have := (xof_lt (a := a) (b := 0) ⟨by omega, by omega, by omega, by omega⟩).mp q
    omega
  · rw [xof_clamp h (by omega)] at q
    omega
/-- an int, a long, a truth value on the stack -/
abbrev xI (z : Int) : Value := .int (Int32.ofInt z)
abbrev xJ (z : Int) : Value := .long (Int64.ofInt z)
def b2i (b : Bool) : Int := if b then 1 else 0
abbrev xB (b : Bool) : Value := xI (b2i b)
theorem b2i_t : b2i true = 1 := rfl
theorem b2i_f : b2i false = 0 := rfl
theorem b2i_0 {b : Bool} : b2i b = 0 ↔ b = false := by cases b <;> simp [b2i]
theorem b2i_n0 {b : Bool} : ¬ b2i b = 0 ↔ b = true := by cases b <;> simp [b2i]
theorem b2i_r (b : Bool) : 0 ≤ b2i b ∧ b2i b ≤ 1 := by cases b <;> simp [b2i]
/-- functions of whole numbers, changed in a place -/
def iu {α : Type} (f : Int → α) (z : Int) (v : α) : Int → α := fun j => if j = z then v else f j
theorem iu_s {α : Type} {f : Int → α} {z : Int} {v : α} : iu f z v z = v := by simp [iu]
theorem iu_n {α : Type} {f : Int → α} {z j : Int} {v : α} (h : j ≠ z) : iu f z v j = f j := by simp [iu, h]
/-- the abstract world -/
abbrev WD : Type := Nat → Option va_E
def xU (w : WD) (k : Nat) (e : va_E) : WD := fun j => if j = k then some e else w j
theorem xU_s {w : WD} {k : Nat} {e : va_E} : xU w k e k = some e := by simp [xU]
theorem xU_n {w : WD} {k j : Nat} {e : va_E} (h : j ≠ k) : xU w k e j = w j := by simp [xU, h]
theorem xU_self {w : WD} {k : Nat} {e : va_E} (h : w k = some e) : xU w k e = w := by
  funext j
  by_cases hj : j = k
  · rw [hj, xU_s, h]
  · rw [xU_n hj]
theorem xU_xU {w : WD} {k : Nat} {e e' : va_E} : xU (xU w k e) k e' = xU w k e' := by
  funext j
  by_cases hj : j = k
  · rw [hj, xU_s, xU_s]
  · rw [xU_n hj, xU_n hj, xU_n hj]
theorem xU_comm {w : WD} {k j : Nat} {e e' : va_E} (h : k ≠ j) : xU (xU w k e) j e' = xU (xU w j e') k e := by
  funext i
  by_cases hi : i = j
  · subst hi
    rw [xU_s, xU_n (Ne.symm h), xU_s]
  · by_cases hk : i = k
    · subst hk
      rw [xU_n hi, xU_s, xU_s]
    · rw [xU_n hi, xU_n hk, xU_n hk, xU_n hi]
abbrev xIA (n : Nat) (f : Int → Int) : va_E := .inl (0, n, .inl (fun k => Int32.ofInt (f (k : Int))))
abbrev xBA (n : Nat) (f : Int → Bool) : va_E := .inl (1, n, .inl (fun k => Int32.ofInt (b2i (f (k : Int)))))
abbrev xLA (n : Nat) (f : Int → Int) : va_E := .inl (2, n, .inr (.inl (fun k => Int64.ofInt (f (k : Int)))))
abbrev xRA (t n : Nat) (f : Nat → Option Nat) : va_E := .inl (t, n, .inr (.inr (.inr (.inr f))))
abbrev xOb (ci : Nat) (fs : List Value) : va_E := .inr (ci, fs)
/-- where it lies: the tables' numbers, the array classes, the script's address, the address ahead of the first own cell -/
abbrev XG : Type := va_G × (Nat → ClassId) × Nat × Nat
def xr (Γ : XG) (i : Nat) : Nat := if i = 0 then Γ.2.2.1 else Γ.2.2.2 + i
def xv (Γ : XG) : Value → Value
  | .ref i => .ref (xr Γ i)
  | v => v
def xa (Γ : XG) : vp_A → vp_A
  | (n, .inr (.inr (.inr (.inr f)))) => (n, .inr (.inr (.inr (.inr (fun k => (f k).map (xr Γ))))))
  | a => a
def xe (Γ : XG) : va_E → va_E
  | .inl (t, a) => .inl (Γ.2.1 t, xa Γ a)
  | .inr (ci, fs) => .inr (ci, fs.map (xv Γ))
theorem xr_pos {Γ : XG} {i : Nat} (h : 0 < i) : xr Γ i = Γ.2.2.2 + i := by
  unfold xr
  rw [if_neg (by omega)]
theorem xv_cat (Γ : XG) (v : Value) : (xv Γ v).category = v.category := by cases v <;> rfl
theorem xv_cats (Γ : XG) (st : List Value) : ((st.map (xv Γ)).map fun v => v.category) = st.map fun v => v.category := by
  induction st with
  | nil => rfl
  | cons a l ih => simp only [List.map_cons, ih, xv_cat]
def xH (Γ : XG) (w : WD) (H : Heap) : Prop := ∀ (i : Nat) (e : va_E), w i = some e → 0 < i ∧ va_at Γ.1 vwCl (Γ.2.2.2 + i, xe Γ e) H
theorem xH.set {Γ : XG} {w : WD} {H H1 : Heap} {k : Nat} {e0 e : va_E} (h : xH Γ w H) (hk : w k = some e0) (he : va_at Γ.1 vwCl (Γ.2.2.2 + k, xe Γ e) H1) (oq : ∀ q : Nat, q ≠ Γ.2.2.2 + k → H1[q]? = H[q]?) : xH Γ (xU w k e) H1 := by
  intro i x hi
  by_cases hik : i = k
  · subst hik
    rw [xU_s] at hi
    cases hi
    exact ⟨(h i e0 hk).1, he⟩
  · rw [xU_n hik] at hi
    exact ⟨(h i x hi).1, (h i x hi).2.kept (oq _ (by show Γ.2.2.2 + i ≠ Γ.2.2.2 + k; omega))⟩
theorem xH.kept {Γ : XG} {w : WD} {H H1 : Heap} (h : xH Γ w H) (oq : ∀ q : Nat, q < H.size → H1[q]? = H[q]?) : xH Γ w H1 := fun i x hi => ⟨(h i x hi).1, (h i x hi).2.kept (oq _ ((h i x hi).2.lt))⟩
theorem xH.push {Γ : XG} {w : WD} {H H1 : Heap} {k : Nat} {e : va_E} (h : xH Γ w H) (h1 : 0 < k) (hz : H.size = Γ.2.2.2 + k) (he : va_at Γ.1 vwCl (Γ.2.2.2 + k, xe Γ e) H1) (oq : ∀ q : Nat, q < H.size → H1[q]? = H[q]?) : xH Γ (xU w k e) H1 := by
  intro i x hi
  by_cases hik : i = k
  · subst hik
    rw [xU_s] at hi
    cases hi
    exact ⟨h1, he⟩
  · rw [xU_n hik] at hi
    exact ⟨(h i x hi).1, (h i x hi).2.kept (oq _ ((h i x hi).2.lt))⟩
def xTY (cs : Nat → ClassId) : List (ClassId × FieldType) := [(cs 0, .int), (cs 1, .boolean), (cs 2, .long), (cs 3, .object "AreaPicker$Pick"), (cs 4, .object "AreaPicker$State")]
def xG : List Cond := lw_tbl.filter goodWord
theorem xG_at {w : Cond} (i : Nat) (h : lw_tbl[i]? = some w) (hg : goodWord w = true) : w ∈ xG := List.mem_filter.mpr ⟨List.mem_of_getElem? h, hg⟩
theorem xG_good : ∀ w ∈ xG, goodWord w = true := fun w h => (List.mem_filter.mp h).2
def xNk : Cond → Bool
  | .fieldLinkNest .. => true
  | .methodLinkNest .. => true
  | .castable .. => true
  | .declares _ => true
  | _ => false
theorem xNk_warm {w : Cond} {s U : State} (hk : xNk w = true) (hW : s.WarmedH U.vm) (h : va_Nw w s) : va_Nw w U := by
  cases w <;> first | exact va_Nw.warmF hW h | exact va_Nw.warmM hW h | exact va_Nw.warmC hW h | exact va_Nw.warmD hW h | cases hk
/-- what stays said of the start: tables, Strings, statics -/
def xS (Γ : XG) (s : State) (H : Heap) : Prop :=
  va_K Γ.1 vwCl (xTY Γ.2.1) s ∧ (∀ w ∈ lw_tbl, xNk w = true → va_Nw w s) ∧ (∀ own k tx, Cond.stringRef own k tx ∈ lw_tbl → ∃ sa, vk_R own k tx sa s) ∧ (va_AO "AreaPicker$Pick" s ∧ va_AO "AreaPicker$State" s) ∧
  (va_Nc "java/lang/IllegalArgumentException" "java/lang/IndexOutOfBoundsException" s ∧ va_Nc "java/lang/IllegalStateException" "java/lang/IndexOutOfBoundsException" s ∧ va_Nc "java/lang/IllegalStateException" "java/lang/IllegalArgumentException" s) ∧
  (vx_Zq Bundle.tN "UNASSIGNED_STACK" Bundle.steD (fun q => Γ.2.2.2 < q) s H ∧ vx_Zq Bundle.tN "SUPPRESSED_SENTINEL" Bundle.listD (fun q => Γ.2.2.2 < q) s H) ∧ Γ.2.2.1 ≤ Γ.2.2.2
theorem xS.warm {Γ : XG} {s U : State} {H : Heap} (hW : s.WarmedH U.vm) (h : xS Γ s H) : xS Γ U H := by
  obtain ⟨h1, h2, h3, h4, h5, h6, h7⟩ := h
  refine ⟨va_K.moved hW.alike h1, fun w hw hk => xNk_warm hk hW (h2 w hw hk), fun own k tx hw => ?_, ⟨va_AO.moved hW.alike h4.1, va_AO.moved hW.alike h4.2⟩, ⟨va_Nc.moved hW.alike h5.1, va_Nc.moved hW.alike h5.2.1, va_Nc.moved hW.alike h5.2.2⟩, ⟨vx_Zq.moved hW.alike h6.1, vx_Zq.moved hW.alike h6.2⟩, h7⟩
  obtain ⟨sa, h⟩ := h3 own k tx hw
  exact ⟨sa, vk_R.warm hW h⟩
theorem xS.kept {Γ : XG} {s : State} {H H1 : Heap} (hq : ∀ a : Nat, a < H.size → ¬ Γ.2.2.2 < a → H1[a]? = H[a]?) (h : xS Γ s H) : xS Γ s H1 := by
  obtain ⟨h1, h2, h3, h4, h5, h6, h7⟩ := h
  exact ⟨h1, h2, h3, h4, h5, ⟨vx_Zq.kept h6.1 hq, vx_Zq.kept h6.2 hq⟩, h7⟩
/-- a method: name, bytes, locals, answer's type, frames and locals' words that it needs below it, handlers -/
abbrev XI : Type := MethodName × ByteArray × Nat × Option FieldType × Nat × Nat × List (Nat × Nat × Nat × Nat)
abbrev XI.y (I : XI) : MethodName := I.1
abbrev XI.cc (I : XI) : ByteArray := I.2.1
abbrev XI.nL (I : XI) : Nat := I.2.2.1
abbrev XI.rt (I : XI) : Option FieldType := I.2.2.2.1
abbrev XI.fr (I : XI) : Nat := I.2.2.2.2.1
abbrev XI.lo (I : XI) : Nat := I.2.2.2.2.2.1
abbrev XI.hh (I : XI) : List (Nat × Nat × Nat × Nat) := I.2.2.2.2.2.2
abbrev XZ : Type := (XG → State → Prop) × (XG → List Frame → Array Value → State → Room → State → Prop)
def xM (I : XI) (Z : XZ) (Γ : XG) (p : Program) (l : Launch) (R : Room) (s : State) (m : MethodId) (args : Array Value) (meth : Method) (c : Code) : Prop :=
  p.tables.exec = Jvm.exec ∧ c.code = I.cc ∧ l.stackTraces = false ∧ c.maxLocals = I.nL ∧ meth.sig.returnType = I.rt ∧ meth.name = I.y.name ∧ meth.locks = false ∧ s.vm.findClass I.y.cls = some m.cls ∧ (∀ w ∈ xG, w.before args s = true) ∧ xS Γ s s.heap ∧ I.fr ≤ R.frames ∧ I.lo ≤ R.locals ∧ c.exceptionTable.toList = tableOf I.hh ∧ Z.1 Γ s
def xN (Γ : XG) (w : WD) (sz : Nat) (s : State) (H : Heap) (locs : List Loc) : Prop := xH Γ w H ∧ H.size = Γ.2.2.2 + sz ∧ 1 ≤ sz ∧ va_S (fun q => Γ.2.2.2 < q) s.heap H locs
def xL (Γ : XG) (nL : Nat) (ls : Array Slot) (lv : List (Option Value)) : Prop := ls.size = nL ∧ lv_wf ls ∧ ∀ (i : Nat) (v : Value), lv[i]? = some (some v) → ls[i]? = some (.val (xv Γ v))
/-- from here with these locals, this stack and this world the method comes to an end as Z says, with at most kc cells of ks slots more -/
def V (I : XI) (Z : XZ) (kc ks : Nat) (w : WD) (sz : Nat) (pc : Nat) (lv : List (Option Value)) (st : List Value) : Prop :=
  ∀ (Γ : XG) (p : Program) (l : Launch) (e : Env) (R : Room) (s : State) (m : MethodId) (args : Array Value) (below : List Frame) (meth : Method) (c : Code) (H : Heap) (locs : List Loc) (cells slots : Nat) (ls : Array Slot),
    xM I Z Γ p l R s m args meth c → xN Γ w sz s H locs → xL Γ I.nL ls lv → cells + kc ≤ R.cells → slots + ks ≤ R.slots →
    W p l e R s m args below meth c H locs cells slots (Z.2 Γ below args s R) (F0 m pc ls (st.map (xv Γ)))
section VROWS
variable {I : XI} {Z : XZ} {kc ks : Nat} {w : WD} {sz pc : Nat} {lv : List (Option Value)} {st : List Value}
/-- a step that keeps world and locals -/
theorem V_st {pc' : Nat} {st' : List Value}
    (h : ∀ (Γ : XG) (p : Program) (l : Launch) (e : Env) (R : Room) (s : State) (m : MethodId) (args : Array Value) (below : List Frame) (meth : Method) (c : Code) (H : Heap) (locs : List Loc) (cells slots : Nat) (ls : Array Slot) (Q : State → Prop),
      xM I Z Γ p l R s m args meth c → xN Γ w sz s H locs → xL Γ I.nL ls lv → cells ≤ R.cells → slots ≤ R.slots →
      W p l e R s m args below meth c H locs cells slots Q (F0 m pc' ls (st'.map (xv Γ))) → W p l e R s m args below meth c H locs cells slots Q (F0 m pc ls (st.map (xv Γ))))
    (k : V I Z kc ks w sz pc' lv st') : V I Z kc ks w sz pc lv st := fun Γ p l e R s m args below meth c H locs cells slots ls C N L hc hs => h Γ p l e R s m args below meth c H locs cells slots ls _ C N L (by omega) (by omega) (k Γ p l e R s m args below meth c H locs cells slots ls C N L hc hs)
/-- fewer cells asked -/
theorem V_le {kc' ks' : Nat} (h1 : kc' ≤ kc) (h2 : ks' ≤ ks) (k : V I Z kc' ks' w sz pc lv st) : V I Z kc ks w sz pc lv st := fun Γ p l e R s m args below meth c H locs cells slots ls C N L hc hs => k Γ p l e R s m args below meth c H locs cells slots ls C N L (by omega) (by omega)
/-- locals forgotten -/
theorem V_lv {lv' : List (Option Value)} (h : ∀ (i : Nat) (v : Value), lv'[i]? = some (some v) → lv[i]? = some (some v)) (k : V I Z kc ks w sz pc lv' st) : V I Z kc ks w sz pc lv st := fun Γ p l e R s m args below meth c H locs cells slots ls C N L hc hs => k Γ p l e R s m args below meth c H locs cells slots ls C N ⟨L.1, L.2.1, fun i v hi => L.2.2 i v (h i v hi)⟩ hc hs
theorem V_iconst {n : Int} (hd : decode I.cc pc = .ok (.iconst n, 1)) (k : V I Z kc ks w sz (pc + 1) lv (xI n :: st)) : V I Z kc ks w sz pc lv st :=
  V_st (fun Γ p l e R s m args below meth c H locs cells slots ls Q C N L _ _ kk => lv_iconst C.1 C.2.1 hd rfl kk) k
theorem V_bipush {n : Int} (hd : decode I.cc pc = .ok (.bipush n, 2)) (h : (Int8.ofInt n).toInt32 = Int32.ofInt n) (k : V I Z kc ks w sz (pc + 2) lv (xI n :: st)) : V I Z kc ks w sz pc lv st :=
  V_st (fun Γ p l e R s m args below meth c H locs cells slots ls Q C N L _ _ kk => lv_bipush C.1 C.2.1 hd h kk) k
theorem V_sipush {n : Int} (hd : decode I.cc pc = .ok (.sipush n, 3)) (h : (Int16.ofInt n).toInt32 = Int32.ofInt n) (k : V I Z kc ks w sz (pc + 3) lv (xI n :: st)) : V I Z kc ks w sz pc lv st :=
  V_st (fun Γ p l e R s m args below meth c H locs cells slots ls Q C N L _ _ kk => lv_sipush C.1 C.2.1 hd h kk) k
theorem V_lconst {n : Fin 2} {z : Int} (hd : decode I.cc pc = .ok (.lconst n, 1)) (h : Int64.ofNat (n : Nat) = Int64.ofInt z) (k : V I Z kc ks w sz (pc + 1) lv (xJ z :: st)) : V I Z kc ks w sz pc lv st :=
  V_st (fun Γ p l e R s m args below meth c H locs cells slots ls Q C N L _ _ kk => lv_lconst C.1 C.2.1 hd h kk) k
theorem V_iload_n {q : Fin 4} {x : Int32} (hd : decode I.cc pc = .ok (.iload_n q, 1)) (i : Nat) (hi : (q : Nat) = i) (hl : lv[i]? = some (some (.int x))) (k : V I Z kc ks w sz (pc + 1) lv (.int x :: st)) : V I Z kc ks w sz pc lv st :=
  V_st (fun Γ p l e R s m args below meth c H locs cells slots ls Q C N L _ _ kk => lv_iload_n C.1 C.2.1 hd hi (L.2.2 _ _ hl) kk) k
theorem V_iload {i : Nat} {x : Int32} (hd : decode I.cc pc = .ok (.iload i, 2)) (hl : lv[i]? = some (some (.int x))) (k : V I Z kc ks w sz (pc + 2) lv (.int x :: st)) : V I Z kc ks w sz pc lv st :=
  V_st (fun Γ p l e R s m args below meth c H locs cells slots ls Q C N L _ _ kk => lv_iload C.1 C.2.1 hd (L.2.2 _ _ hl) kk) k
theorem V_lload_n {q : Fin 4} {x : Int64} (hd : decode I.cc pc = .ok (.lload_n q, 1)) (i : Nat) (hi : (q : Nat) = i) (hl : lv[i]? = some (some (.long x))) (k : V I Z kc ks w sz (pc + 1) lv (.long x :: st)) : V I Z kc ks w sz pc lv st :=
  V_st (fun Γ p l e R s m args below meth c H locs cells slots ls Q C N L _ _ kk => lv_lload_n C.1 C.2.1 hd hi (L.2.2 _ _ hl) kk) k
theorem V_lload {i : Nat} {x : Int64} (hd : decode I.cc pc = .ok (.lload i, 2)) (hl : lv[i]? = some (some (.long x))) (k : V I Z kc ks w sz (pc + 2) lv (.long x :: st)) : V I Z kc ks w sz pc lv st :=
  V_st (fun Γ p l e R s m args below meth c H locs cells slots ls Q C N L _ _ kk => lv_lload C.1 C.2.1 hd (L.2.2 _ _ hl) kk) k
theorem V_dload_n {q : Fin 4} {x : UInt64} (hd : decode I.cc pc = .ok (.dload_n q, 1)) (i : Nat) (hi : (q : Nat) = i) (hl : lv[i]? = some (some (.double x))) (k : V I Z kc ks w sz (pc + 1) lv (.double x :: st)) : V I Z kc ks w sz pc lv st :=
  V_st (fun Γ p l e R s m args below meth c H locs cells slots ls Q C N L _ _ kk => lv_dload_n C.1 C.2.1 hd hi (L.2.2 _ _ hl) kk) k
theorem V_dload {i : Nat} {x : UInt64} (hd : decode I.cc pc = .ok (.dload i, 2)) (hl : lv[i]? = some (some (.double x))) (k : V I Z kc ks w sz (pc + 2) lv (.double x :: st)) : V I Z kc ks w sz pc lv st :=
  V_st (fun Γ p l e R s m args below meth c H locs cells slots ls Q C N L _ _ kk => lv_dload C.1 C.2.1 hd (L.2.2 _ _ hl) kk) k
theorem V_aload_n {q : Fin 4} {x : Nat} (hd : decode I.cc pc = .ok (.aload_n q, 1)) (i : Nat) (hi : (q : Nat) = i) (hl : lv[i]? = some (some (.ref x))) (k : V I Z kc ks w sz (pc + 1) lv (.ref x :: st)) : V I Z kc ks w sz pc lv st :=
  V_st (fun Γ p l e R s m args below meth c H locs cells slots ls Q C N L _ _ kk => lv_aload_n C.1 C.2.1 hd hi (L.2.2 _ _ hl) kk) k
theorem V_aload {i : Nat} {x : Nat} (hd : decode I.cc pc = .ok (.aload i, 2)) (hl : lv[i]? = some (some (.ref x))) (k : V I Z kc ks w sz (pc + 2) lv (.ref x :: st)) : V I Z kc ks w sz pc lv st :=
  V_st (fun Γ p l e R s m args below meth c H locs cells slots ls Q C N L _ _ kk => lv_aload C.1 C.2.1 hd (L.2.2 _ _ hl) kk) k
theorem V_iadd {a b : Int} (hd : decode I.cc pc = .ok (.iadd, 1)) (k : V I Z kc ks w sz (pc + 1) lv (xI (a + b) :: st)) : V I Z kc ks w sz pc lv (xI b :: xI a :: st) :=
  V_st (fun Γ p l e R s m args below meth c H locs cells slots ls Q C N L _ _ kk => lv_iadd C.1 C.2.1 hd (by rw [xof_add]; exact kk)) k
theorem V_isub {a b : Int} (hd : decode I.cc pc = .ok (.isub, 1)) (k : V I Z kc ks w sz (pc + 1) lv (xI (a - b) :: st)) : V I Z kc ks w sz pc lv (xI b :: xI a :: st) :=
  V_st (fun Γ p l e R s m args below meth c H locs cells slots ls Q C N L _ _ kk => lv_isub C.1 C.2.1 hd (by rw [xof_sub]; exact kk)) k
theorem V_imul {a b : Int} (hd : decode I.cc pc = .ok (.imul, 1)) (k : V I Z kc ks w sz (pc + 1) lv (xI (a * b) :: st)) : V I Z kc ks w sz pc lv (xI b :: xI a :: st) :=
  V_st (fun Γ p l e R s m args below meth c H locs cells slots ls Q C N L _ _ kk => lv_imul C.1 C.2.1 hd (by rw [xof_mul]; exact kk)) k
theorem V_ineg {a : Int} (hd : decode I.cc pc = .ok (.ineg, 1)) (k : V I Z kc ks w sz (pc + 1) lv (xI (-a) :: st)) : V I Z kc ks w sz pc lv (xI a :: st) :=
  V_st (fun Γ p l e R s m args below meth c H locs cells slots ls Q C N L _ _ kk => lv_ineg C.1 C.2.1 hd (by rw [xof_neg]; exact kk)) k
theorem xof_ne0 {b : Int} (h0 : b ≠ 0) (h : -2147483648 ≤ b) (h2 : b < 2147483648) : ¬ Int32.ofInt b = 0 := fun q => h0 ((xof_eq (a := b) (b := 0) ⟨h, h2, by omega, by omega⟩).mp q)
theorem V_idiv {a b : Int} (hd : decode I.cc pc = .ok (.idiv, 1)) (r : -2147483648 ≤ a ∧ a < 2147483648 ∧ -2147483648 ≤ b ∧ b < 2147483648) (h0 : b ≠ 0) (k : V I Z kc ks w sz (pc + 1) lv (xI (a.tdiv b) :: st)) : V I Z kc ks w sz pc lv (xI b :: xI a :: st) :=
  V_st (fun Γ p l e R s m args below meth c H locs cells slots ls Q C N L _ _ kk => lv_idiv C.1 C.2.1 hd (xof_ne0 h0 r.2.2.1 r.2.2.2) (by rw [xof_div r]; exact kk)) k
/-- a quotient of numbers that aren't negative -/
theorem V_idivN {a b : Int} (hd : decode I.cc pc = .ok (.idiv, 1)) (r : 0 ≤ a ∧ a < 2147483648 ∧ 0 < b ∧ b < 2147483648) (k : V I Z kc ks w sz (pc + 1) lv (xI (a / b) :: st)) : V I Z kc ks w sz pc lv (xI b :: xI a :: st) := by
  refine V_idiv hd ⟨by omega, by omega, by omega, by omega⟩ (by omega) ?_
  rw [Int.tdiv_eq_ediv_of_nonneg r.1]
  exact k
theorem V_iremN {a b : Int} (hd : decode I.cc pc = .ok (.irem, 1)) (r : 0 ≤ a ∧ a < 2147483648 ∧ 0 < b ∧ b < 2147483648) (k : V I Z kc ks w sz (pc + 1) lv (xI (a % b) :: st)) : V I Z kc ks w sz pc lv (xI b :: xI a :: st) :=
  V_st (fun Γ p l e R s m args below meth c H locs cells slots ls Q C N L _ _ kk => lv_irem C.1 C.2.1 hd (xof_ne0 (by omega) (by omega) (by omega)) (by
    rw [xof_div ⟨by omega, by omega, by omega, by omega⟩, xof_mul, xof_sub, Int.tdiv_eq_ediv_of_nonneg r.1, show a - a / b * b = a % b by rw [Int.emod_def, Int.mul_comm]]
    exact kk)) k
theorem V_dup {v : Value} (hd : decode I.cc pc = .ok (.dup, 1)) (h : v.category = 1) (k : V I Z kc ks w sz (pc + 1) lv (v :: v :: st)) : V I Z kc ks w sz pc lv (v :: st) :=
  V_st (fun Γ p l e R s m args below meth c H locs cells slots ls Q C N L _ _ kk => lv_dup C.1 C.2.1 hd (by rw [xv_cat]; exact h) kk) k
theorem V_dup2 {v u : Value} (hd : decode I.cc pc = .ok (.dup2, 1)) (h : v.category = 1) (h2 : u.category = 1) (k : V I Z kc ks w sz (pc + 1) lv (v :: u :: v :: u :: st)) : V I Z kc ks w sz pc lv (v :: u :: st) :=
  V_st (fun Γ p l e R s m args below meth c H locs cells slots ls Q C N L _ _ kk => lv_dup2_11 C.1 C.2.1 hd (by rw [xv_cat]; exact h) (by rw [xv_cat]; exact h2) kk) k
theorem V_pop {v : Value} (hd : decode I.cc pc = .ok (.pop, 1)) (h : v.category = 1) (k : V I Z kc ks w sz (pc + 1) lv st) : V I Z kc ks w sz pc lv (v :: st) :=
  V_st (fun Γ p l e R s m args below meth c H locs cells slots ls Q C N L _ _ kk => lv_pop C.1 C.2.1 hd (by rw [xv_cat]; exact h) kk) k
theorem V_goto {off : Int} (tgt : Nat) (hd : decode I.cc pc = .ok (.goto off, 3)) (ht : (pc : Int) + off = (tgt : Int)) (k : V I Z kc ks w sz tgt lv st) : V I Z kc ks w sz pc lv st :=
  V_st (fun Γ p l e R s m args below meth c H locs cells slots ls Q C N L _ _ kk => lv_goto C.1 C.2.1 hd ht kk) k
theorem V_i2l {a : Int} (hd : decode I.cc pc = .ok (.i2l, 1)) (r : -2147483648 ≤ a ∧ a < 2147483648) (k : V I Z kc ks w sz (pc + 1) lv (xJ a :: st)) : V I Z kc ks w sz pc lv (xI a :: st) :=
  V_st (fun Γ p l e R s m args below meth c H locs cells slots ls Q C N L _ _ kk => lv_i2l C.1 C.2.1 hd (Int32.toInt64_ofInt r.1 (Int.le_of_lt_add_one r.2)) kk) k
theorem V_ladd {a b : Int} (hd : decode I.cc pc = .ok (.ladd, 1)) (k : V I Z kc ks w sz (pc + 1) lv (xJ (a + b) :: st)) : V I Z kc ks w sz pc lv (xJ b :: xJ a :: st) :=
  V_st (fun Γ p l e R s m args below meth c H locs cells slots ls Q C N L _ _ kk => lv_ladd C.1 C.2.1 hd (by rw [← Int64.ofInt_add]; exact kk)) k
theorem V_lsub {a b : Int} (hd : decode I.cc pc = .ok (.lsub, 1)) (k : V I Z kc ks w sz (pc + 1) lv (xJ (a - b) :: st)) : V I Z kc ks w sz pc lv (xJ b :: xJ a :: st) :=
  V_st (fun Γ p l e R s m args below meth c H locs cells slots ls Q C N L _ _ kk => lv_lsub C.1 C.2.1 hd (by rw [← Int64.ofInt_sub]; exact kk)) k
theorem V_lmul {a b : Int} (hd : decode I.cc pc = .ok (.lmul, 1)) (k : V I Z kc ks w sz (pc + 1) lv (xJ (a * b) :: st)) : V I Z kc ks w sz pc lv (xJ b :: xJ a :: st) :=
  V_st (fun Γ p l e R s m args below meth c H locs cells slots ls Q C N L _ _ kk => lv_lmul C.1 C.2.1 hd (by rw [← Int64.ofInt_mul]; exact kk)) k
theorem V_lshl {x : Int64} {y : Int32} (hd : decode I.cc pc = .ok (.lshl, 1)) (k : V I Z kc ks w sz (pc + 1) lv (.long (x <<< (y.toInt64 &&& 63)) :: st)) : V I Z kc ks w sz pc lv (.int y :: .long x :: st) :=
  V_st (fun Γ p l e R s m args below meth c H locs cells slots ls Q C N L _ _ kk => lv_lshl C.1 C.2.1 hd rfl kk) k
theorem V_lor {x y : Int64} (hd : decode I.cc pc = .ok (.lor, 1)) (k : V I Z kc ks w sz (pc + 1) lv (.long (x ||| y) :: st)) : V I Z kc ks w sz pc lv (.long y :: .long x :: st) :=
  V_st (fun Γ p l e R s m args below meth c H locs cells slots ls Q C N L _ _ kk => lv_lor C.1 C.2.1 hd kk) k
theorem V_iand31 {a : Int} (hd : decode I.cc pc = .ok (.iand, 1)) (k : V I Z kc ks w sz (pc + 1) lv (xI (a % 32) :: st)) : V I Z kc ks w sz pc lv (xI 31 :: xI a :: st) :=
  V_st (fun Γ p l e R s m args below meth c H locs cells slots ls Q C N L _ _ kk => lv_iand C.1 C.2.1 hd (by
    have e9 : Int32.ofInt a &&& Int32.ofInt 31 = Int32.ofInt (a % 32) := by
      rw [pk_and (Int32.ofInt a) (m := Int32.ofInt 31) 5 (by decide)]
      rw [show ((Int32.ofInt a).toBitVec.toNat % 2 ^ 5 : Nat) = (a % 32).toNat from ?_]
      · unfold nI
        rw [← Int32.ofInt_eq_ofNat, Int.toNat_of_nonneg (by omega)]
      · rw [Int32.toBitVec_ofInt, BitVec.toNat_ofInt]
        omega
    rw [e9]; exact kk)) k
end VROWS
end
section
/-! rows: branches, locals, ends -/
section VROWS2
variable {I : XI} {Z : XZ} {kc ks : Nat} {w : WD} {sz pc : Nat} {lv : List (Option Value)} {st : List Value}
theorem V_if_eq {a : Int} {off : Int} (tgt : Nat) (hd : decode I.cc pc = .ok (.ifCond .eq off, 3)) (ht : (pc : Int) + off = (tgt : Int)) (r : -2147483648 ≤ a ∧ a < 2147483648) (kt : a = 0 → V I Z kc ks w sz tgt lv st) (kf : a ≠ 0 → V I Z kc ks w sz (pc + 3) lv st) : V I Z kc ks w sz pc lv (xI a :: st) := by
  intro Γ p l e R s m args below meth c H locs cells slots ls C N L hc hs
  have k1 := fun h => kt h Γ p l e R s m args below meth c H locs cells slots ls C N L hc hs
  have k2 := fun h => kf h Γ p l e R s m args below meth c H locs cells slots ls C N L hc hs
  have X := (xof_eq (a := a) (b := 0) ⟨r.1, r.2, by omega, by omega⟩)
  exact lv_if_eq C.1 C.2.1 hd ht (fun h => k1 (X.mp h)) (fun h => k2 (fun q => h (X.mpr q)))
theorem V_icmp_eq {a b : Int} {off : Int} (tgt : Nat) (hd : decode I.cc pc = .ok (.if_icmp .eq off, 3)) (ht : (pc : Int) + off = (tgt : Int)) (r : -2147483648 ≤ a ∧ a < 2147483648 ∧ -2147483648 ≤ b ∧ b < 2147483648) (kt : a = b → V I Z kc ks w sz tgt lv st) (kf : a ≠ b → V I Z kc ks w sz (pc + 3) lv st) : V I Z kc ks w sz pc lv (xI b :: xI a :: st) := by
  intro Γ p l e R s m args below meth c H locs cells slots ls C N L hc hs
  have k1 := fun h => kt h Γ p l e R s m args below meth c H locs cells slots ls C N L hc hs
  have k2 := fun h => kf h Γ p l e R s m args below meth c H locs cells slots ls C N L hc hs
  have X := (xof_eq (a := a) (b := b) r)
  exact lv_icmp_eq C.1 C.2.1 hd ht (fun h => k1 (X.mp h)) (fun h => k2 (fun q => h (X.mpr q)))
theorem V_if_ne {a : Int} {off : Int} (tgt : Nat) (hd : decode I.cc pc = .ok (.ifCond .ne off, 3)) (ht : (pc : Int) + off = (tgt : Int)) (r : -2147483648 ≤ a ∧ a < 2147483648) (kt : a ≠ 0 → V I Z kc ks w sz tgt lv st) (kf : a = 0 → V I Z kc ks w sz (pc + 3) lv st) : V I Z kc ks w sz pc lv (xI a :: st) := by
  intro Γ p l e R s m args below meth c H locs cells slots ls C N L hc hs
  have k1 := fun h => kt h Γ p l e R s m args below meth c H locs cells slots ls C N L hc hs
  have k2 := fun h => kf h Γ p l e R s m args below meth c H locs cells slots ls C N L hc hs
  have X := (xof_eq (a := a) (b := 0) ⟨r.1, r.2, by omega, by omega⟩)
  exact lv_if_ne C.1 C.2.1 hd ht (fun h => k1 (fun q => h (X.mpr q))) (fun h => k2 (X.mp h))
theorem V_icmp_ne {a b : Int} {off : Int} (tgt : Nat) (hd : decode I.cc pc = .ok (.if_icmp .ne off, 3)) (ht : (pc : Int) + off = (tgt : Int)) (r : -2147483648 ≤ a ∧ a < 2147483648 ∧ -2147483648 ≤ b ∧ b < 2147483648) (kt : a ≠ b → V I Z kc ks w sz tgt lv st) (kf : a = b → V I Z kc ks w sz (pc + 3) lv st) : V I Z kc ks w sz pc lv (xI b :: xI a :: st) := by
  intro Γ p l e R s m args below meth c H locs cells slots ls C N L hc hs
  have k1 := fun h => kt h Γ p l e R s m args below meth c H locs cells slots ls C N L hc hs
  have k2 := fun h => kf h Γ p l e R s m args below meth c H locs cells slots ls C N L hc hs
  have X := (xof_eq (a := a) (b := b) r)
  exact lv_icmp_ne C.1 C.2.1 hd ht (fun h => k1 (fun q => h (X.mpr q))) (fun h => k2 (X.mp h))
theorem V_if_lt {a : Int} {off : Int} (tgt : Nat) (hd : decode I.cc pc = .ok (.ifCond .lt off, 3)) (ht : (pc : Int) + off = (tgt : Int)) (r : -2147483648 ≤ a ∧ a < 2147483648) (kt : a < 0 → V I Z kc ks w sz tgt lv st) (kf : 0 ≤ a → V I Z kc ks w sz (pc + 3) lv st) : V I Z kc ks w sz pc lv (xI a :: st) := by
  intro Γ p l e R s m args below meth c H locs cells slots ls C N L hc hs
  have k1 := fun h => kt h Γ p l e R s m args below meth c H locs cells slots ls C N L hc hs
  have k2 := fun h => kf h Γ p l e R s m args below meth c H locs cells slots ls C N L hc hs
  have X := (xof_lt (a := a) (b := 0) ⟨r.1, r.2, by omega, by omega⟩)
  exact lv_if_lt C.1 C.2.1 hd ht (fun h => k1 (X.mp h)) (fun h => k2 (Int.not_lt.mp (fun q => h (X.mpr q))))
theorem V_icmp_lt {a b : Int} {off : Int} (tgt : Nat) (hd : decode I.cc pc = .ok (.if_icmp .lt off, 3)) (ht : (pc : Int) + off = (tgt : Int)) (r : -2147483648 ≤ a ∧ a < 2147483648 ∧ -2147483648 ≤ b ∧ b < 2147483648) (kt : a < b → V I Z kc ks w sz tgt lv st) (kf : b ≤ a → V I Z kc ks w sz (pc + 3) lv st) : V I Z kc ks w sz pc lv (xI b :: xI a :: st) := by
  intro Γ p l e R s m args below meth c H locs cells slots ls C N L hc hs
  have k1 := fun h => kt h Γ p l e R s m args below meth c H locs cells slots ls C N L hc hs
  have k2 := fun h => kf h Γ p l e R s m args below meth c H locs cells slots ls C N L hc hs
  have X := (xof_lt (a := a) (b := b) r)
  exact lv_icmp_lt C.1 C.2.1 hd ht (fun h => k1 (X.mp h)) (fun h => k2 (Int.not_lt.mp (fun q => h (X.mpr q))))
theorem V_if_ge {a : Int} {off : Int} (tgt : Nat) (hd : decode I.cc pc = .ok (.ifCond .ge off, 3)) (ht : (pc : Int) + off = (tgt : Int)) (r : -2147483648 ≤ a ∧ a < 2147483648) (kt : 0 ≤ a → V I Z kc ks w sz tgt lv st) (kf : a < 0 → V I Z kc ks w sz (pc + 3) lv st) : V I Z kc ks w sz pc lv (xI a :: st) := by
  intro Γ p l e R s m args below meth c H locs cells slots ls C N L hc hs
  have k1 := fun h => kt h Γ p l e R s m args below meth c H locs cells slots ls C N L hc hs
  have k2 := fun h => kf h Γ p l e R s m args below meth c H locs cells slots ls C N L hc hs
  have X := (xof_le (a := 0) (b := a) ⟨by omega, by omega, r.1, r.2⟩)
  exact lv_if_ge C.1 C.2.1 hd ht (fun h => k1 (X.mp h)) (fun h => k2 (Int.not_le.mp (fun q => h (X.mpr q))))
theorem V_icmp_ge {a b : Int} {off : Int} (tgt : Nat) (hd : decode I.cc pc = .ok (.if_icmp .ge off, 3)) (ht : (pc : Int) + off = (tgt : Int)) (r : -2147483648 ≤ a ∧ a < 2147483648 ∧ -2147483648 ≤ b ∧ b < 2147483648) (kt : b ≤ a → V I Z kc ks w sz tgt lv st) (kf : a < b → V I Z kc ks w sz (pc + 3) lv st) : V I Z kc ks w sz pc lv (xI b :: xI a :: st) := by
  intro Γ p l e R s m args below meth c H locs cells slots ls C N L hc hs
  have k1 := fun h => kt h Γ p l e R s m args below meth c H locs cells slots ls C N L hc hs
  have k2 := fun h => kf h Γ p l e R s m args below meth c H locs cells slots ls C N L hc hs
  have X := (xof_le (a := b) (b := a) ⟨r.2.2.1, r.2.2.2, r.1, r.2.1⟩)
  exact lv_icmp_ge C.1 C.2.1 hd ht (fun h => k1 (X.mp h)) (fun h => k2 (Int.not_le.mp (fun q => h (X.mpr q))))
theorem V_if_gt {a : Int} {off : Int} (tgt : Nat) (hd : decode I.cc pc = .ok (.ifCond .gt off, 3)) (ht : (pc : Int) + off = (tgt : Int)) (r : -2147483648 ≤ a ∧ a < 2147483648) (kt : 0 < a → V I Z kc ks w sz tgt lv st) (kf : a ≤ 0 → V I Z kc ks w sz (pc + 3) lv st) : V I Z kc ks w sz pc lv (xI a :: st) := by
  intro Γ p l e R s m args below meth c H locs cells slots ls C N L hc hs
  have k1 := fun h => kt h Γ p l e R s m args below meth c H locs cells slots ls C N L hc hs
  have k2 := fun h => kf h Γ p l e R s m args below meth c H locs cells slots ls C N L hc hs
  have X := (xof_lt (a := 0) (b := a) ⟨by omega, by omega, r.1, r.2⟩)
  exact lv_if_gt C.1 C.2.1 hd ht (fun h => k1 (X.mp h)) (fun h => k2 (Int.not_lt.mp (fun q => h (X.mpr q))))
theorem V_icmp_gt {a b : Int} {off : Int} (tgt : Nat) (hd : decode I.cc pc = .ok (.if_icmp .gt off, 3)) (ht : (pc : Int) + off = (tgt : Int)) (r : -2147483648 ≤ a ∧ a < 2147483648 ∧ -2147483648 ≤ b ∧ b < 2147483648) (kt : b < a → V I Z kc ks w sz tgt lv st) (kf : a ≤ b → V I Z kc ks w sz (pc + 3) lv st) : V I Z kc ks w sz pc lv (xI b :: xI a :: st) := by
  intro Γ p l e R s m args below meth c H locs cells slots ls C N L hc hs
  have k1 := fun h => kt h Γ p l e R s m args below meth c H locs cells slots ls C N L hc hs
  have k2 := fun h => kf h Γ p l e R s m args below meth c H locs cells slots ls C N L hc hs
  have X := (xof_lt (a := b) (b := a) ⟨r.2.2.1, r.2.2.2, r.1, r.2.1⟩)
  exact lv_icmp_gt C.1 C.2.1 hd ht (fun h => k1 (X.mp h)) (fun h => k2 (Int.not_lt.mp (fun q => h (X.mpr q))))
theorem V_if_le {a : Int} {off : Int} (tgt : Nat) (hd : decode I.cc pc = .ok (.ifCond .le off, 3)) (ht : (pc : Int) + off = (tgt : Int)) (r : -2147483648 ≤ a ∧ a < 2147483648) (kt : a ≤ 0 → V I Z kc ks w sz tgt lv st) (kf : 0 < a → V I Z kc ks w sz (pc + 3) lv st) : V I Z kc ks w sz pc lv (xI a :: st) := by
  intro Γ p l e R s m args below meth c H locs cells slots ls C N L hc hs
  have k1 := fun h => kt h Γ p l e R s m args below meth c H locs cells slots ls C N L hc hs
  have k2 := fun h => kf h Γ p l e R s m args below meth c H locs cells slots ls C N L hc hs
  have X := (xof_le (a := a) (b := 0) ⟨r.1, r.2, by omega, by omega⟩)
  exact lv_if_le C.1 C.2.1 hd ht (fun h => k1 (X.mp h)) (fun h => k2 (Int.not_le.mp (fun q => h (X.mpr q))))
theorem V_icmp_le {a b : Int} {off : Int} (tgt : Nat) (hd : decode I.cc pc = .ok (.if_icmp .le off, 3)) (ht : (pc : Int) + off = (tgt : Int)) (r : -2147483648 ≤ a ∧ a < 2147483648 ∧ -2147483648 ≤ b ∧ b < 2147483648) (kt : a ≤ b → V I Z kc ks w sz tgt lv st) (kf : b < a → V I Z kc ks w sz (pc + 3) lv st) : V I Z kc ks w sz pc lv (xI b :: xI a :: st) := by
  intro Γ p l e R s m args below meth c H locs cells slots ls C N L hc hs
  have k1 := fun h => kt h Γ p l e R s m args below meth c H locs cells slots ls C N L hc hs
  have k2 := fun h => kf h Γ p l e R s m args below meth c H locs cells slots ls C N L hc hs
  have X := (xof_le (a := a) (b := b) r)
  exact lv_icmp_le C.1 C.2.1 hd ht (fun h => k1 (X.mp h)) (fun h => k2 (Int.not_le.mp (fun q => h (X.mpr q))))
theorem V_tab {a : Int} {dflt lo hi : Int} {offs : Array Int} {len : Nat} (hd : decode I.cc pc = .ok (.tableswitch dflt lo hi offs, len)) (r : -2147483648 ≤ a ∧ a < 2147483648) (tgt : Nat)
    (hout : (a < lo ∨ hi < a) → (pc : Int) + dflt = (tgt : Int) ∧ V I Z kc ks w sz tgt lv st) (hin : lo ≤ a → a ≤ hi → ∃ (off : Int) (t : Nat), offs[(a - lo).toNat]? = some off ∧ (pc : Int) + off = (t : Int) ∧ V I Z kc ks w sz t lv st) : V I Z kc ks w sz pc lv (xI a :: st) := by
  intro Γ p l e R s m args below meth c H locs cells slots ls C N L hc hs
  have ha := xof_toInt r.1 r.2
  by_cases h : a < lo ∨ hi < a
  · obtain ⟨h1, h2⟩ := hout h
    exact lv_tableOut C.1 C.2.1 hd (by rw [ha]; exact h) h1 (h2 Γ p l e R s m args below meth c H locs cells slots ls C N L hc hs)
  · obtain ⟨off, t, h1, h2, h3⟩ := hin (by omega) (by omega)
    exact lv_tableIn C.1 C.2.1 hd (by rw [ha]; omega) (by rw [ha]; omega) (by rw [ha]; exact h1) h2 (h3 Γ p l e R s m args below meth c H locs cells slots ls C N L hc hs)
theorem V_lcmp {a b : Int} (hd : decode I.cc pc = .ok (.lcmp, 1)) (r : -9223372036854775808 ≤ a ∧ a < 9223372036854775808 ∧ -9223372036854775808 ≤ b ∧ b < 9223372036854775808) (k : V I Z kc ks w sz (pc + 1) lv (xI (if b < a then 1 else if a = b then 0 else -1) :: st)) : V I Z kc ks w sz pc lv (xJ b :: xJ a :: st) :=
  V_st (fun Γ p l e R s m args below meth c H locs cells slots ls Q C N L _ _ kk => W.lcmp C.1 C.2.1 hd (by
    have ea := Int64.toInt_ofInt_of_le (n := a) r.1 r.2.1
    have eb := Int64.toInt_ofInt_of_le (n := b) r.2.2.1 r.2.2.2
    have e9 : lg_cmp (Int64.ofInt a) (Int64.ofInt b) = Int32.ofInt (if b < a then 1 else if a = b then 0 else -1) := by
      unfold lg_cmp
      simp only [gt_iff_lt, Int64.lt_iff_toInt_lt, ← Int64.toInt_inj, ea, eb]
      split
      · rfl
      · split <;> rfl
    rw [e9]; exact kk)) k
/-- a long compared: alike or not -/
theorem V_lcmpZ {x y : Int64} (hd : decode I.cc pc = .ok (.lcmp, 1)) (k1 : x = y → V I Z kc ks w sz (pc + 1) lv (xI 0 :: st)) (k2 : x ≠ y → ∀ z : Int, z ≠ 0 → -2 < z → z < 2 → V I Z kc ks w sz (pc + 1) lv (xI z :: st)) : V I Z kc ks w sz pc lv (.long y :: .long x :: st) := by
  by_cases h : x = y
  · exact V_st (fun Γ p l e R s m args below meth c H locs cells slots ls Q C N L _ _ kk => W.lcmp C.1 C.2.1 hd (by rw [show lg_cmp x y = Int32.ofInt 0 by unfold lg_cmp; subst h; simp [Int64.lt_irrefl]]; exact kk)) (k1 h)
  · by_cases h2 : x > y
    · exact V_st (fun Γ p l e R s m args below meth c H locs cells slots ls Q C N L _ _ kk => W.lcmp C.1 C.2.1 hd (by rw [show lg_cmp x y = Int32.ofInt 1 by unfold lg_cmp; rw [if_pos h2]; rfl]; exact kk)) (k2 h 1 (by omega) (by omega) (by omega))
    · exact V_st (fun Γ p l e R s m args below meth c H locs cells slots ls Q C N L _ _ kk => W.lcmp C.1 C.2.1 hd (by rw [show lg_cmp x y = Int32.ofInt (-1) by unfold lg_cmp; rw [if_neg h2, if_neg h]; rfl]; exact kk)) (k2 h (-1) (by omega) (by omega) (by omega))
/-! locals -/
def xk2 : Option Value → Option Value
  | some (.long _) => none
  | some (.double _) => none
  | a => a
def xst1 : List (Option Value) → Nat → Option Value → List (Option Value)
  | [], _, _ => []
  | _ :: t, 0, v => v :: t
  | a :: t, 1, v => xk2 a :: xst1 t 0 v
  | a :: t, n + 2, v => a :: xst1 t (n + 1) v
def xst2 : List (Option Value) → Nat → Option Value → List (Option Value)
  | [], _, _ => []
  | [_], 0, v => [v]
  | _ :: _ :: t, 0, v => v :: none :: t
  | a :: t, 1, v => xk2 a :: xst2 t 0 v
  | a :: t, n + 2, v => a :: xst2 t (n + 1) v
theorem xk2_s {a : Option Value} {u : Value} (h : xk2 a = some u) : a = some u ∧ ¬ u.category = 2 := by
  cases a with
  | none => cases h
  | some v => cases v <;> first | (cases h; exact ⟨rfl, by simp [Value.category]⟩) | cases h
theorem xst1_s : ∀ (lv : List (Option Value)) (i : Nat) (v : Option Value) (j : Nat) (u : Value), (xst1 lv i v)[j]? = some (some u) → (j = i ∧ v = some u) ∨ (j ≠ i ∧ lv[j]? = some (some u) ∧ ¬ (j + 1 = i ∧ u.category = 2))
  | [], _, _, j, u, h => by simp [xst1] at h
  | a :: t, 0, v, j, u, h => by
    cases j with
    | zero => simp [xst1] at h; exact Or.inl ⟨rfl, h⟩
    | succ j => simp [xst1] at h; exact Or.inr ⟨by omega, by simpa using h, by omega⟩
  | a :: t, 1, v, j, u, h => by
    cases j with
    | zero =>
      simp [xst1] at h
      obtain ⟨h1, h2⟩ := xk2_s h
      exact Or.inr ⟨by omega, by simp [h1], fun q => h2 q.2⟩
    | succ j =>
      have h' : (xst1 t 0 v)[j]? = some (some u) := by simpa [xst1] using h
      rcases xst1_s t 0 v j u h' with ⟨h1, h2⟩ | ⟨h1, h2, h3⟩
      · exact Or.inl ⟨by omega, h2⟩
      · exact Or.inr ⟨by omega, by simpa using h2, by omega⟩
  | a :: t, n + 2, v, j, u, h => by
    cases j with
    | zero => simp [xst1] at h; exact Or.inr ⟨by omega, by simp [h], by omega⟩
    | succ j =>
      have h' : (xst1 t (n + 1) v)[j]? = some (some u) := by simpa [xst1] using h
      rcases xst1_s t (n + 1) v j u h' with ⟨h1, h2⟩ | ⟨h1, h2, h3⟩
      · exact Or.inl ⟨by omega, h2⟩
      · exact Or.inr ⟨by omega, by simpa using h2, fun q => h3 ⟨by omega, q.2⟩⟩
theorem xst2_s : ∀ (lv : List (Option Value)) (i : Nat) (v : Option Value) (j : Nat) (u : Value), (xst2 lv i v)[j]? = some (some u) → (j = i ∧ v = some u) ∨ (j ≠ i ∧ j ≠ i + 1 ∧ lv[j]? = some (some u) ∧ ¬ (j + 1 = i ∧ u.category = 2))
  | [], _, _, j, u, h => by simp [xst2] at h
  | [a], 0, v, j, u, h => by
    cases j with
    | zero => simp [xst2] at h; exact Or.inl ⟨rfl, h⟩
    | succ j => simp [xst2] at h
  | a :: b :: t, 0, v, j, u, h => by
    match j, h with
    | 0, h => simp [xst2] at h; exact Or.inl ⟨rfl, h⟩
    | 1, h => simp [xst2] at h
    | j + 2, h => simp [xst2] at h; exact Or.inr ⟨by omega, by omega, by simpa using h, by omega⟩
  | a :: t, 1, v, j, u, h => by
    cases j with
    | zero =>
      simp [xst2] at h
      obtain ⟨h1, h2⟩ := xk2_s h
      exact Or.inr ⟨by omega, by omega, by simp [h1], fun q => h2 q.2⟩
    | succ j =>
      have h' : (xst2 t 0 v)[j]? = some (some u) := by simpa [xst2] using h
      rcases xst2_s t 0 v j u h' with ⟨h1, h2⟩ | ⟨h1, h2, h3, h4⟩
      · exact Or.inl ⟨by omega, h2⟩
      · exact Or.inr ⟨by omega, by omega, by simpa using h3, by omega⟩
  | a :: t, n + 2, v, j, u, h => by
    cases j with
    | zero => simp [xst2] at h; exact Or.inr ⟨by omega, by omega, by simp [h], by omega⟩
    | succ j =>
      have h' : (xst2 t (n + 1) v)[j]? = some (some u) := by simpa [xst2] using h
      rcases xst2_s t (n + 1) v j u h' with ⟨h1, h2⟩ | ⟨h1, h2, h3, h4⟩
      · exact Or.inl ⟨by omega, h2⟩
      · exact Or.inr ⟨by omega, by omega, by simpa using h3, fun q => h4 ⟨by omega, q.2⟩⟩
/-- the listed locals, as the kit lists them -/
def xas (Γ : XG) (lv : List (Option Value)) : List (Nat × Value) := (List.range lv.length).filterMap (fun j => match lv[j]? with | some (some u) => some (j, xv Γ u) | _ => none)
theorem xas_in {Γ : XG} {lv : List (Option Value)} {j : Nat} {u : Value} (h : lv[j]? = some (some u)) : (j, xv Γ u) ∈ xas Γ lv := by
  unfold xas
  refine List.mem_filterMap.mpr ⟨j, List.mem_range.mpr (List.getElem?_eq_some_iff.mp h).1, ?_⟩
  rw [h]
theorem xas_out {Γ : XG} {lv : List (Option Value)} {q : Nat × Value} (h : q ∈ xas Γ lv) : ∃ u, lv[q.1]? = some (some u) ∧ q.2 = xv Γ u := by
  unfold xas at h
  obtain ⟨j, -, hj⟩ := List.mem_filterMap.mp h
  split at hj
  · rename_i u hu
    cases hj
    exact ⟨u, hu, rfl⟩
  · cases hj
theorem xL.has {Γ : XG} {nL : Nat} {ls : Array Slot} {lv : List (Option Value)} (h : xL Γ nL ls lv) : lv_has ls nL (xas Γ lv) := by
  refine ⟨h.1, h.2.1, fun q hq => ?_⟩
  obtain ⟨u, h1, h2⟩ := xas_out hq
  rw [h2]
  exact h.2.2 _ _ h1
theorem xL.st1 {Γ : XG} {nL : Nat} {ls' : Array Slot} {lv : List (Option Value)} {i : Nat} {v : Value} {x : Value} (hx : x = xv Γ v) (h : lv_has ls' nL ((i, x) :: (xas Γ lv).filter (fun q => !(q.1 == i) && !(q.1 + 1 == i && q.2.category == 2)))) : xL Γ nL ls' (xst1 lv i (some v)) := by
  refine ⟨h.1, h.2.1, fun j u hj => ?_⟩
  rcases xst1_s lv i (some v) j u hj with ⟨h1, h2⟩ | ⟨h1, h2, h3⟩
  · cases h2
    subst h1
    rw [← hx]
    exact h.2.2 (j, x) List.mem_cons_self
  · refine h.2.2 (j, xv Γ u) (List.mem_cons_of_mem _ (List.mem_filter.mpr ⟨xas_in h2, ?_⟩))
    simp only [Bool.and_eq_true, Bool.not_eq_true', beq_eq_false_iff_ne, ne_eq, Bool.and_eq_false_iff, xv_cat]
    refine ⟨h1, ?_⟩
    by_cases hj1 : j + 1 = i
    · right
      exact fun q => h3 ⟨hj1, q⟩
    · left
      exact hj1
theorem xL.st2 {Γ : XG} {nL : Nat} {ls' : Array Slot} {lv : List (Option Value)} {i : Nat} {v : Value} {x : Value} (hx : x = xv Γ v) (h : lv_has ls' nL ((i, x) :: (xas Γ lv).filter (fun q => !(q.1 == i) && (!(q.1 == i + 1) && !(q.1 + 1 == i && q.2.category == 2))))) : xL Γ nL ls' (xst2 lv i (some v)) := by
  refine ⟨h.1, h.2.1, fun j u hj => ?_⟩
  rcases xst2_s lv i (some v) j u hj with ⟨h1, h2⟩ | ⟨h1, h2, h3, h4⟩
  · cases h2
    subst h1
    rw [← hx]
    exact h.2.2 (j, x) List.mem_cons_self
  · refine h.2.2 (j, xv Γ u) (List.mem_cons_of_mem _ (List.mem_filter.mpr ⟨xas_in h3, ?_⟩))
    simp only [Bool.and_eq_true, Bool.not_eq_true', beq_eq_false_iff_ne, ne_eq, Bool.and_eq_false_iff, xv_cat]
    refine ⟨h1, h2, ?_⟩
    by_cases hj1 : j + 1 = i
    · right
      exact fun q => h4 ⟨hj1, q⟩
    · left
      exact hj1
theorem V_istore_n {q : Fin 4} {x : Int32} (hd : decode I.cc pc = .ok (.istore_n q, 1)) (i : Nat) (hi : (q : Nat) = i) (hn : i < I.nL) (k : V I Z kc ks w sz (pc + 1) (xst1 lv i (some (.int x))) st) : V I Z kc ks w sz pc lv (.int x :: st) :=
  fun Γ p l e R s m args below meth c H locs cells slots ls C N L hc hs => lv_istore_n C.1 C.2.1 hd hi L.has hn rfl (fun ls' h => k Γ p l e R s m args below meth c H locs cells slots ls' C N (xL.st1 rfl h) hc hs)
theorem V_istore {i : Nat} {x : Int32} (hd : decode I.cc pc = .ok (.istore i, 2)) (hn : i < I.nL) (k : V I Z kc ks w sz (pc + 2) (xst1 lv i (some (.int x))) st) : V I Z kc ks w sz pc lv (.int x :: st) :=
  fun Γ p l e R s m args below meth c H locs cells slots ls C N L hc hs => lv_istore C.1 C.2.1 hd L.has hn rfl (fun ls' h => k Γ p l e R s m args below meth c H locs cells slots ls' C N (xL.st1 rfl h) hc hs)
theorem V_astore_n {q : Fin 4} {x : Nat} (hd : decode I.cc pc = .ok (.astore_n q, 1)) (i : Nat) (hi : (q : Nat) = i) (hn : i < I.nL) (k : V I Z kc ks w sz (pc + 1) (xst1 lv i (some (.ref x))) st) : V I Z kc ks w sz pc lv (.ref x :: st) :=
  fun Γ p l e R s m args below meth c H locs cells slots ls C N L hc hs => lv_astore_n C.1 C.2.1 hd hi L.has hn rfl (fun ls' h => k Γ p l e R s m args below meth c H locs cells slots ls' C N (xL.st1 rfl h) hc hs)
theorem V_astore {i : Nat} {x : Nat} (hd : decode I.cc pc = .ok (.astore i, 2)) (hn : i < I.nL) (k : V I Z kc ks w sz (pc + 2) (xst1 lv i (some (.ref x))) st) : V I Z kc ks w sz pc lv (.ref x :: st) :=
  fun Γ p l e R s m args below meth c H locs cells slots ls C N L hc hs => lv_astore C.1 C.2.1 hd L.has hn rfl (fun ls' h => k Γ p l e R s m args below meth c H locs cells slots ls' C N (xL.st1 rfl h) hc hs)
theorem V_lstore_n {q : Fin 4} {x : Int64} (hd : decode I.cc pc = .ok (.lstore_n q, 1)) (i : Nat) (hi : (q : Nat) = i) (hn : i + 1 < I.nL) (k : V I Z kc ks w sz (pc + 1) (xst2 lv i (some (.long x))) st) : V I Z kc ks w sz pc lv (.long x :: st) :=
  fun Γ p l e R s m args below meth c H locs cells slots ls C N L hc hs => lv_lstore_n C.1 C.2.1 hd hi L.has hn rfl (fun ls' h => k Γ p l e R s m args below meth c H locs cells slots ls' C N (xL.st2 rfl h) hc hs)
theorem V_lstore {i : Nat} {x : Int64} (hd : decode I.cc pc = .ok (.lstore i, 2)) (hn : i + 1 < I.nL) (k : V I Z kc ks w sz (pc + 2) (xst2 lv i (some (.long x))) st) : V I Z kc ks w sz pc lv (.long x :: st) :=
  fun Γ p l e R s m args below meth c H locs cells slots ls C N L hc hs => lv_lstore C.1 C.2.1 hd L.has hn rfl (fun ls' h => k Γ p l e R s m args below meth c H locs cells slots ls' C N (xL.st2 rfl h) hc hs)
theorem V_dstore_n {q : Fin 4} {x : UInt64} (hd : decode I.cc pc = .ok (.dstore_n q, 1)) (i : Nat) (hi : (q : Nat) = i) (hn : i + 1 < I.nL) (k : V I Z kc ks w sz (pc + 1) (xst2 lv i (some (.double x))) st) : V I Z kc ks w sz pc lv (.double x :: st) :=
  fun Γ p l e R s m args below meth c H locs cells slots ls C N L hc hs => lv_dstore_n C.1 C.2.1 hd hi L.has hn rfl (fun ls' h => k Γ p l e R s m args below meth c H locs cells slots ls' C N (xL.st2 rfl h) hc hs)
theorem V_dstore {i : Nat} {x : UInt64} (hd : decode I.cc pc = .ok (.dstore i, 2)) (hn : i + 1 < I.nL) (k : V I Z kc ks w sz (pc + 2) (xst2 lv i (some (.double x))) st) : V I Z kc ks w sz pc lv (.double x :: st) :=
  fun Γ p l e R s m args below meth c H locs cells slots ls C N L hc hs => lv_dstore C.1 C.2.1 hd L.has hn rfl (fun ls' h => k Γ p l e R s m args below meth c H locs cells slots ls' C N (xL.st2 rfl h) hc hs)
theorem V_iinc {i : Nat} {n a : Int} (hd : decode I.cc pc = .ok (.iinc i n, 3)) (hl : lv[i]? = some (some (xI a))) (hn : i < I.nL) (k : V I Z kc ks w sz (pc + 3) (xst1 lv i (some (xI (a + n)))) st) : V I Z kc ks w sz pc lv st := by
  intro Γ p l e R s m args below meth c H locs cells slots ls C N L hc hs
  obtain ⟨j, hj⟩ := List.getElem?_of_mem (xas_in (Γ := Γ) hl)
  exact lv_iinc (x := Int32.ofInt a) C.1 C.2.1 hd L.has hj (xof_add a n) hn rfl (fun ls' h => k Γ p l e R s m args below meth c H locs cells slots ls' C N (xL.st1 rfl h) hc hs)
/-! ends -/
abbrev XQ : Type := Option Value → WD → Nat → Prop
abbrev XE : Type := String → WD → Nat → Prop
def xOk (Γ : XG) (w : WD) (sz : Nat) (t : State) : Prop := xH Γ w t.heap ∧ t.heap.size = Γ.2.2.2 + sz ∧ 1 ≤ sz
def xQc (Γ : XG) (Q : XQ) : Array Value → State → Outcome → State → Prop := fun _ s o t => (∃ v w sz, o = .returned (Option.map (xv Γ) v) ∧ Q v w sz ∧ xOk Γ w sz t) ∧ va_F (fun q => Γ.2.2.2 < q) s t
def xXc (Γ : XG) (QE : XE) : String → State → State → Prop := fun E s t => (∃ w sz, QE E w sz ∧ xOk Γ w sz t) ∧ va_F (fun q => Γ.2.2.2 < q) s t
/-- how a method ends that returns; that returns or throws -/
def zN (Q : XQ) : XZ := (fun _ _ => True, fun Γ below args s R => MQ below (xQc Γ Q) args s R.cells R.slots (fun q => Γ.2.2.2 < q))
def zX (Q : XQ) (QE : XE) : XZ := (fun _ _ => True, fun Γ below args s R => vx_MQ below (xQc Γ Q) (xXc Γ QE) args s R.cells R.slots (fun q => Γ.2.2.2 < q))
def xEnd (Z : XZ) (Q : XQ) : Prop := ∀ (Γ : XG) (p : Program) (l : Launch) (e : Env) (R : Room) (s : State) (m : MethodId) (args : Array Value) (below : List Frame) (meth : Method) (c : Code) (H : Heap) (locs : List Loc) (cells slots : Nat) (g : JFrame),
  W p l e R s m args below meth c H locs cells slots (MQ below (xQc Γ Q) args s R.cells R.slots (fun q => Γ.2.2.2 < q)) g → W p l e R s m args below meth c H locs cells slots (Z.2 Γ below args s R) g
theorem xEnd_N {Q : XQ} : xEnd (zN Q) Q := fun _ _ _ _ _ _ _ _ _ _ _ _ _ _ _ _ k => k
theorem xEnd_X {Q : XQ} {QE : XE} : xEnd (zX Q QE) Q := fun _ _ _ _ _ _ _ _ _ _ _ _ _ _ _ _ k => vx_ret k
theorem xfin {Γ : XG} {Q : XQ} {v : Option Value} {H : Heap} {locs : List Loc} {s : State} (N : xN Γ w sz s H locs) (q : Q v w sz) (args : Array Value) (t : State) (ht : t.heap = H) : xQc Γ Q args s (.returned (Option.map (xv Γ) v)) t :=
  ⟨⟨v, w, sz, rfl, q, by rw [ht]; exact N.1, by rw [ht]; exact N.2.1, N.2.2.1⟩, N.2.2.2.F ht⟩
theorem V_iret {Q : XQ} {a : Int} (hE : xEnd Z Q) (hr : I.rt = some .int) (hd : decode I.cc pc = .ok (.ireturn, 1)) (q : Q (some (xI a)) w sz) : V I Z kc ks w sz pc lv [xI a] := by
  intro Γ p l e R s m args below meth c H locs cells slots ls C N L hc hs
  refine hE Γ p l e R s m args below meth c H locs cells slots _ (W.widen (k := R.cells) (n := R.slots) (by omega) (by omega) ?_)
  exact W.iret C.1 C.2.1 (C.2.2.2.2.1.trans hr) (fun t ht _ => xfin N q args t ht) (fun z hz => N.2.2.2.2.2 z hz) hd C.2.2.2.2.2.2.1
theorem V_zret {Q : XQ} {b : Bool} (hE : xEnd Z Q) (hr : I.rt = some .boolean) (hd : decode I.cc pc = .ok (.ireturn, 1)) (q : Q (some (xB b)) w sz) : V I Z kc ks w sz pc lv [xB b] := by
  intro Γ p l e R s m args below meth c H locs cells slots ls C N L hc hs
  refine hE Γ p l e R s m args below meth c H locs cells slots _ (W.widen (k := R.cells) (n := R.slots) (by omega) (by omega) ?_)
  exact W.zret C.1 C.2.1 (C.2.2.2.2.1.trans hr) (by cases b <;> rfl) (fun t ht _ => xfin N q args t ht) (fun z hz => N.2.2.2.2.2 z hz) hd C.2.2.2.2.2.2.1
theorem V_vret {Q : XQ} (hE : xEnd Z Q) (hr : I.rt = none) (hd : decode I.cc pc = .ok (.return_, 1)) (q : Q none w sz) : V I Z kc ks w sz pc lv [] := by
  intro Γ p l e R s m args below meth c H locs cells slots ls C N L hc hs
  refine hE Γ p l e R s m args below meth c H locs cells slots _ (W.widen (k := R.cells) (n := R.slots) (by omega) (by omega) ?_)
  exact W.vret C.1 C.2.1 (C.2.2.2.2.1.trans hr) (fun t ht _ => xfin N q args t ht) (fun z hz => N.2.2.2.2.2 z hz) hd C.2.2.2.2.2.2.1
theorem V_lret {Q : XQ} {a : Int64} (hE : xEnd Z Q) (hr : I.rt = some .long) (hd : decode I.cc pc = .ok (.lreturn, 1)) (q : Q (some (.long a)) w sz) : V I Z kc ks w sz pc lv [.long a] := by
  intro Γ p l e R s m args below meth c H locs cells slots ls C N L hc hs
  refine hE Γ p l e R s m args below meth c H locs cells slots _ (W.widen (k := R.cells) (n := R.slots) (by omega) (by omega) ?_)
  exact W.lret C.1 C.2.1 (C.2.2.2.2.1.trans hr) (fun t ht _ => xfin N q args t ht) (fun z hz => N.2.2.2.2.2 z hz) hd C.2.2.2.2.2.2.1
theorem V_dret {Q : XQ} {a : UInt64} (hE : xEnd Z Q) (hr : I.rt = some .double) (hd : decode I.cc pc = .ok (.dreturn, 1)) (q : Q (some (.double a)) w sz) : V I Z kc ks w sz pc lv [.double a] := by
  intro Γ p l e R s m args below meth c H locs cells slots ls C N L hc hs
  refine hE Γ p l e R s m args below meth c H locs cells slots _ (W.widen (k := R.cells) (n := R.slots) (by omega) (by omega) ?_)
  exact W.dret C.1 C.2.1 (C.2.2.2.2.1.trans hr) (fun t ht _ => xfin N q args t ht) (fun z hz => N.2.2.2.2.2 z hz) hd C.2.2.2.2.2.2.1
theorem V_aret {Q : XQ} {a : Nat} {t : FieldType} (hE : xEnd Z Q) (hr : I.rt = some (.array t)) (hd : decode I.cc pc = .ok (.areturn, 1)) (q : Q (some (.ref a)) w sz) : V I Z kc ks w sz pc lv [.ref a] := by
  intro Γ p l e R s m args below meth c H locs cells slots ls C N L hc hs
  refine hE Γ p l e R s m args below meth c H locs cells slots _ (W.widen (k := R.cells) (n := R.slots) (by omega) (by omega) ?_)
  exact W.aret C.1 C.2.1 (C.2.2.2.2.1.trans hr) (Or.inr ⟨t, rfl⟩) (Or.inr ⟨xr Γ a, rfl⟩) (fun t ht _ => xfin N q args t ht) (fun z hz => N.2.2.2.2.2 z hz) hd C.2.2.2.2.2.2.1
end VROWS2
end
section
/-! rows: fields and arrays -/
theorem xP1 {D : va_G} {q : Nat × va_E} {H : Heap} (h : va_at D vwCl q H) : va_P D vwCl [q] H := by
  intro k x hx
  cases k with
  | zero => cases hx; exact h
  | succ k => cases hx
theorem xset_map {Γ : XG} {fs : List Value} {k : Nat} {v : Value} : (fs.set k v).map (xv Γ) = (fs.map (xv Γ)).set k (xv Γ v) := by rw [List.map_set]
theorem xN.put {Γ : XG} {w : WD} {sz : Nat} {s : State} {H H1 : Heap} {locs : List Loc} {a j : Nat} {e0 e : va_E} (N : xN Γ w sz s H locs) (hw : w a = some e0) (he : va_at Γ.1 vwCl (Γ.2.2.2 + a, xe Γ e) H1) (z : H1.size = H.size) (oq : ∀ q : Nat, q ≠ Γ.2.2.2 + a → H1[q]? = H[q]?) : xN Γ (xU w a e) sz s H1 (locs ++ [⟨Γ.2.2.2 + a, j⟩]) :=
  ⟨N.1.set hw he oq, z.trans N.2.1, N.2.2.1, N.2.2.2.put z oq (by have := (N.1 a _ hw).1; show Γ.2.2.2 < Γ.2.2.2 + a; omega)⟩
theorem xN.new {Γ : XG} {w : WD} {sz : Nat} {s : State} {H H1 : Heap} {locs : List Loc} {e : va_E} (N : xN Γ w sz s H locs) (he : va_at Γ.1 vwCl (Γ.2.2.2 + sz, xe Γ e) H1) (z : H1.size = H.size + 1) (oq : ∀ q : Nat, q < H.size → H1[q]? = H[q]?) : xN Γ (xU w sz e) (sz + 1) s H1 locs :=
  ⟨N.1.push N.2.2.1 N.2.1 he oq, by rw [z, N.2.1]; omega, by omega, ⟨Nat.le_trans N.2.2.2.1 (by omega), fun x h1 h2 => (oq x (Nat.lt_of_lt_of_le h1 N.2.2.2.1)).trans (N.2.2.2.2.1 x h1 h2), N.2.2.2.2.2⟩⟩
theorem xiu_upd {f : Int → Int} {z x : Int} (h : 0 ≤ z) : upd (fun k : Nat => Int32.ofInt (f (k : Int))) z.toNat (Int32.ofInt x) = fun k : Nat => Int32.ofInt (iu f z x (k : Int)) := by
  funext k
  unfold upd iu
  by_cases hk : k = z.toNat
  · rw [if_pos hk, if_pos (by omega)]
  · rw [if_neg hk, if_neg (by omega)]
theorem xiu_updB {f : Int → Bool} {z : Int} {x : Bool} (h : 0 ≤ z) : upd (fun k : Nat => Int32.ofInt (b2i (f (k : Int)))) z.toNat (Int32.ofInt (b2i x)) = fun k : Nat => Int32.ofInt (b2i (iu f z x (k : Int))) := by
  funext k
  unfold upd iu
  by_cases hk : k = z.toNat
  · rw [if_pos hk, if_pos (by omega)]
  · rw [if_neg hk, if_neg (by omega)]
theorem xiu_updL {f : Int → Int} {z x : Int} (h : 0 ≤ z) : vp_updL (fun k : Nat => Int64.ofInt (f (k : Int))) z.toNat (Int64.ofInt x) = fun k : Nat => Int64.ofInt (iu f z x (k : Int)) := by
  funext k
  unfold vp_updL iu
  by_cases hk : k = z.toNat
  · rw [if_pos hk, if_pos (by omega)]
  · rw [if_neg hk, if_neg (by omega)]
section VHEAP
variable {I : XI} {Z : XZ} {kc ks : Nat} {w : WD} {sz pc : Nat} {lv : List (Option Value)} {st : List Value}
theorem V_get {a ci k index N : Nat} {C : String} {T : u_T} {fs : List Value} {v : Value} (hc : vwCl[ci]? = some (C, T, N)) (hin : ∀ x ∈ u_ws C T N, x ∈ xG) (hk : k < N) (hlink : Cond.fieldLink I.y.cls index (T k).1 (T k).2.1 (T k).2.2.1 ∈ xG)
    (hd : decode I.cc pc = .ok (.getfield index, 3)) (hw : w a = some (xOb ci fs)) (hv : fs[k]? = some v) (kk : V I Z kc ks w sz (pc + 3) lv (v :: st)) : V I Z kc ks w sz pc lv (.ref a :: st) := by
  intro Γ p l e R s m args below meth c H locs cells slots ls C0 N0 L h1 h2
  obtain ⟨h0, hat⟩ := N0.1 a _ hw
  show W p l e R s m args below meth c H locs cells slots _ (F0 m pc ls (.ref (xr Γ a) :: st.map (xv Γ)))
  rw [xr_pos h0]
  exact va_get (v := xv Γ v) C0.1 C0.2.1 C0.2.2.2.2.2.2.2.2.1 hin C0.2.2.2.2.2.2.2.1 C0.2.2.2.2.2.2.2.2.2.1.1 (xP1 hat) 0 rfl hc k hk (C0.2.2.2.2.2.2.2.2.1 _ hlink) (fun _ h => h) (by simp [hv]) hd (kk Γ p l e R s m args below meth c H locs cells slots ls C0 N0 L h1 h2)
theorem V_getN {a ci k index N : Nat} {C host : String} {T : u_T} {fs : List Value} {v : Value} (hc : vwCl[ci]? = some (C, T, N)) (hin : ∀ x ∈ u_ws C T N, x ∈ xG) (hk : k < N) (hlink : Cond.fieldLinkNest I.y.cls index (T k).1 (T k).2.1 (T k).2.2.1 host ∈ lw_tbl)
    (hd : decode I.cc pc = .ok (.getfield index, 3)) (hw : w a = some (xOb ci fs)) (hv : fs[k]? = some v) (kk : V I Z kc ks w sz (pc + 3) lv (v :: st)) : V I Z kc ks w sz pc lv (.ref a :: st) := by
  intro Γ p l e R s m args below meth c H locs cells slots ls C0 N0 L h1 h2
  obtain ⟨h0, hat⟩ := N0.1 a _ hw
  show W p l e R s m args below meth c H locs cells slots _ (F0 m pc ls (.ref (xr Γ a) :: st.map (xv Γ)))
  rw [xr_pos h0]
  exact va_getN (v := xv Γ v) C0.1 C0.2.1 C0.2.2.2.2.2.2.2.2.1 hin C0.2.2.2.2.2.2.2.1 C0.2.2.2.2.2.2.2.2.2.1.1 (xP1 hat) 0 rfl hc k hk (va_Nw.use rfl (C0.2.2.2.2.2.2.2.2.2.1.2.1 _ hlink rfl)) (fun _ h => h) (by simp [hv]) hd (kk Γ p l e R s m args below meth c H locs cells slots ls C0 N0 L h1 h2)
theorem V_put {a ci k index N : Nat} {C : String} {T : u_T} {ty0 : Nat → FieldType} {fs : List Value} {v : Value} {ty : FieldType} (hc : vwCl[ci]? = some (C, T, N)) (hin : ∀ x ∈ u_ws C T N, x ∈ xG) (hty : ∀ k, k < N → parseFieldDescriptor (T k).2.2.1 = some (ty0 k)) (hnm : ∀ a, a < N → ∀ b, b < N → a ≠ b → (T a).2.1 ≠ (T b).2.1) (hk : k < N) (hlink : Cond.fieldLink I.y.cls index (T k).1 (T k).2.1 (T k).2.2.1 ∈ xG) (hfin : (T k).2.2.2 = false) (hdd : parseFieldDescriptor (T k).2.2.1 = some ty)
    (hd : decode I.cc pc = .ok (.putfield index, 3)) (hw : w a = some (xOb ci fs)) (hl : k < fs.length) (hn : ∀ Γ, narrow ty (xv Γ v) = xv Γ v) (hf : ∀ Γ, fits ty (xv Γ v) = true) (kk : V I Z kc ks (xU w a (xOb ci (fs.set k v))) sz (pc + 3) lv st) : V I Z kc ks w sz pc lv (v :: .ref a :: st) := by
  intro Γ p l e R s m args below meth c H locs cells slots ls C0 N0 L g1 g2
  have hts := C0.2.2.2.2.2.2.2.2.1
  have hK := C0.2.2.2.2.2.2.2.2.2.1.1
  have hown := C0.2.2.2.2.2.2.2.1
  obtain ⟨h0, hat⟩ := N0.1 a _ hw
  have hap := va_apart (own := I.y.cls) hts hin ty0 hty hnm hK hc
  obtain ⟨r, h1, cell, q1, q2, q3, q4⟩ := hat
  have hr : r = (C, T, N) := Option.some.inj (h1.symm.trans hc)
  subst hr
  obtain ⟨hS, hfc, kC, hkC, hkind⟩ := hK.1 ci _ hc
  obtain ⟨cf, kf, fi, f, hi, hsl⟩ := hS k hk
  have hlay := hts _ (hin _ (u_in_lay hk))
  unfold u_lay at hlay
  rw [if_neg (by rw [hfin]; decide)] at hlay
  have hst := (u_facts hfc hkC (u_lays hts hin hk) hi).1
  have h6 := u_store hfc hkC hkind hlay hi hdd (hn Γ) (hf Γ)
  show W p l e R s m args below meth c H locs cells slots _ (F0 m pc ls (xv Γ v :: .ref (xr Γ a) :: st.map (xv Γ)))
  rw [xr_pos h0]
  refine W.putK C0.1 C0.2.1 (f := f) ⟨hown, hts _ hlink, ⟨_, _, _, hi⟩, hst⟩ (by rw [q2]; exact h6) q1 q3 (by rw [hsl]; exact k2_hasslot (q4 k hk)) rfl rfl hd fun H' e1 e2 e3 => ?_
  rw [hsl] at e1 ⊢
  refine kk Γ p l e R s m args below meth c H' _ cells slots ls C0 (N0.put hw ?_ e2 e3) L g1 g2
  refine ⟨_, hc, ?_⟩
  show t_OB _ _ _ _ _ (vp_V ((fs.set k v).map (xv Γ)))
  rw [xset_map]
  exact t_OB.to (V := updV (vp_V (fs.map (xv Γ))) k (xv Γ v)) ⟨_, e1, q2, q3, t_set q4 hap hk _⟩ (fun j _ => vp_updV_set (by simpa using hl) _ j)
theorem V_putN {a ci k index N : Nat} {C host : String} {T : u_T} {ty0 : Nat → FieldType} {fs : List Value} {v : Value} {ty : FieldType} (hc : vwCl[ci]? = some (C, T, N)) (hin : ∀ x ∈ u_ws C T N, x ∈ xG) (hty : ∀ k, k < N → parseFieldDescriptor (T k).2.2.1 = some (ty0 k)) (hnm : ∀ a, a < N → ∀ b, b < N → a ≠ b → (T a).2.1 ≠ (T b).2.1) (hk : k < N) (hlink : Cond.fieldLinkNest I.y.cls index (T k).1 (T k).2.1 (T k).2.2.1 host ∈ lw_tbl) (hfin : (T k).2.2.2 = false) (hdd : parseFieldDescriptor (T k).2.2.1 = some ty)
    (hd : decode I.cc pc = .ok (.putfield index, 3)) (hw : w a = some (xOb ci fs)) (hl : k < fs.length) (hn : ∀ Γ, narrow ty (xv Γ v) = xv Γ v) (hf : ∀ Γ, fits ty (xv Γ v) = true) (kk : V I Z kc ks (xU w a (xOb ci (fs.set k v))) sz (pc + 3) lv st) : V I Z kc ks w sz pc lv (v :: .ref a :: st) := by
  intro Γ p l e R s m args below meth c H locs cells slots ls C0 N0 L g1 g2
  have hts := C0.2.2.2.2.2.2.2.2.1
  have hK := C0.2.2.2.2.2.2.2.2.2.1.1
  have hown := C0.2.2.2.2.2.2.2.1
  obtain ⟨h0, hat⟩ := N0.1 a _ hw
  have hap := va_apart (own := I.y.cls) hts hin ty0 hty hnm hK hc
  obtain ⟨r, h1, cell, q1, q2, q3, q4⟩ := hat
  have hr : r = (C, T, N) := Option.some.inj (h1.symm.trans hc)
  subst hr
  obtain ⟨hS, hfc, kC, hkC, hkind⟩ := hK.1 ci _ hc
  obtain ⟨cf, kf, fi, f, hi, hsl⟩ := hS k hk
  have hlay := hts _ (hin _ (u_in_lay hk))
  unfold u_lay at hlay
  rw [if_neg (by rw [hfin]; decide)] at hlay
  have hst := (u_facts hfc hkC (u_lays hts hin hk) hi).1
  have h6 := u_store hfc hkC hkind hlay hi hdd (hn Γ) (hf Γ)
  show W p l e R s m args below meth c H locs cells slots _ (F0 m pc ls (xv Γ v :: .ref (xr Γ a) :: st.map (xv Γ)))
  rw [xr_pos h0]
  refine va_WputK C0.1 C0.2.1 (f := f) hown (va_Nw.use rfl (C0.2.2.2.2.2.2.2.2.2.1.2.1 _ hlink rfl)) hi hst (by rw [q2]; exact h6) q1 q3 (by rw [hsl]; exact k2_hasslot (q4 k hk)) rfl rfl hd fun H' e1 e2 e3 => ?_
  rw [hsl] at e1 ⊢
  refine kk Γ p l e R s m args below meth c H' _ cells slots ls C0 (N0.put hw ?_ e2 e3) L g1 g2
  refine ⟨_, hc, ?_⟩
  show t_OB _ _ _ _ _ (vp_V ((fs.set k v).map (xv Γ)))
  rw [xset_map]
  exact t_OB.to (V := updV (vp_V (fs.map (xv Γ))) k (xv Γ v)) ⟨_, e1, q2, q3, t_set q4 hap hk _⟩ (fun j _ => vp_updV_set (by simpa using hl) _ j)
/-- a final field, in the constructor -/
theorem V_putF {a ci k index N : Nat} {C : String} {T : u_T} {ty0 : Nat → FieldType} {fs : List Value} {v : Value} {ty : FieldType} (hc : vwCl[ci]? = some (C, T, N)) (hin : ∀ x ∈ u_ws C T N, x ∈ xG) (hty : ∀ k, k < N → parseFieldDescriptor (T k).2.2.1 = some (ty0 k)) (hnm : ∀ a, a < N → ∀ b, b < N → a ≠ b → (T a).2.1 ≠ (T b).2.1) (hk : k < N) (hlink : Cond.fieldLink I.y.cls index (T k).1 (T k).2.1 (T k).2.2.1 ∈ xG) (hfin : (T k).2.2.2 = true) (hin2 : I.y.name = "<init>") (hdecl : (T k).1 = I.y.cls) (hdd : parseFieldDescriptor (T k).2.2.1 = some ty)
    (hd : decode I.cc pc = .ok (.putfield index, 3)) (hw : w a = some (xOb ci fs)) (hl : k < fs.length) (hn : ∀ Γ, narrow ty (xv Γ v) = xv Γ v) (hf : ∀ Γ, fits ty (xv Γ v) = true) (kk : V I Z kc ks (xU w a (xOb ci (fs.set k v))) sz (pc + 3) lv st) : V I Z kc ks w sz pc lv (v :: .ref a :: st) := by
  intro Γ p l e R s m args below meth c H locs cells slots ls C0 N0 L g1 g2
  have hts := C0.2.2.2.2.2.2.2.2.1
  have hK := C0.2.2.2.2.2.2.2.2.2.1.1
  have hown := C0.2.2.2.2.2.2.2.1
  obtain ⟨h0, hat⟩ := N0.1 a _ hw
  have hap := va_apart (own := I.y.cls) hts hin ty0 hty hnm hK hc
  obtain ⟨r, h1, cell, q1, q2, q3, q4⟩ := hat
  have hr : r = (C, T, N) := Option.some.inj (h1.symm.trans hc)
  subst hr
  obtain ⟨hS, hfc, kC, hkC, hkind⟩ := hK.1 ci _ hc
  obtain ⟨cf, kf, fi, f, hi, hsl⟩ := hS k hk
  have hlay := hts _ (hin _ (u_in_lay hk))
  unfold u_lay at hlay
  rw [if_pos hfin] at hlay
  have hst := (u_facts hfc hkC (u_lays hts hin hk) hi).1
  have hcf : m.cls = cf := by
    obtain ⟨_, _, c', _, _, _, -, -, hf', -, -, -, hown2, -⟩ := Cond.laysFinal_spec hlay
    have e1 : c' = cf := by have := hi.symm.trans hf'; simp at this; exact this.1.symm
    rw [hdecl] at hown2
    rw [← e1]; exact Option.some.inj (hown.symm.trans hown2)
  have h6 := u_fits hfc hkC hkind (Or.inr hlay) hi hdd (hn Γ) (hf Γ)
  show W p l e R s m args below meth c H locs cells slots _ (F0 m pc ls (xv Γ v :: .ref (xr Γ a) :: st.map (xv Γ)))
  rw [xr_pos h0]
  refine W.putFinK C0.1 C0.2.1 hown (hts _ hlink) hi hst hcf (C0.2.2.2.2.2.1.trans hin2) (by rw [q2]; exact h6) q1 q3 (by rw [hsl]; exact k2_hasslot (q4 k hk)) rfl rfl hd fun H' e1 e2 e3 => ?_
  rw [hsl] at e1 ⊢
  refine kk Γ p l e R s m args below meth c H' _ cells slots ls C0 (N0.put hw ?_ e2 e3) L g1 g2
  refine ⟨_, hc, ?_⟩
  show t_OB _ _ _ _ _ (vp_V ((fs.set k v).map (xv Γ)))
  rw [xset_map]
  exact t_OB.to (V := updV (vp_V (fs.map (xv Γ))) k (xv Γ v)) ⟨_, e1, q2, q3, t_set q4 hap hk _⟩ (fun j _ => vp_updV_set (by simpa using hl) _ j)
/-! arrays -/
theorem V_iald {a n : Nat} {f : Int → Int} {z : Int} (hd : decode I.cc pc = .ok (.iaload, 1)) (hw : w a = some (xIA n f)) (r : 0 ≤ z ∧ z < (n : Int)) (kk : V I Z kc ks w sz (pc + 1) lv (xI (f z) :: st)) (hn : n < 2147483648 := by decide) : V I Z kc ks w sz pc lv (xI z :: .ref a :: st) := by
  intro Γ p l e R s m args below meth c H locs cells slots ls C0 N0 L h1 h2
  obtain ⟨h0, hat⟩ := N0.1 a _ hw
  show W p l e R s m args below meth c H locs cells slots _ (F0 m pc ls (xI z :: .ref (xr Γ a) :: st.map (xv Γ)))
  rw [xr_pos h0]
  refine va_iald C0.1 C0.2.1 C0.2.2.2.2.2.2.2.2.2.1.1 (xP1 hat) 0 0 rfl rfl (xof_in r.1 r.2 hn) hd ?_
  rw [xof_clamp r.1 (by omega)]
  have e9 : ((z.toNat : Nat) : Int) = z := by omega
  simp only [e9]
  exact kk Γ p l e R s m args below meth c H locs cells slots ls C0 N0 L h1 h2
theorem V_zald {a n : Nat} {f : Int → Bool} {z : Int} (hd : decode I.cc pc = .ok (.baload, 1)) (hw : w a = some (xBA n f)) (r : 0 ≤ z ∧ z < (n : Int)) (kk : V I Z kc ks w sz (pc + 1) lv (xB (f z) :: st)) (hn : n < 2147483648 := by decide) : V I Z kc ks w sz pc lv (xI z :: .ref a :: st) := by
  intro Γ p l e R s m args below meth c H locs cells slots ls C0 N0 L h1 h2
  obtain ⟨h0, hat⟩ := N0.1 a _ hw
  show W p l e R s m args below meth c H locs cells slots _ (F0 m pc ls (xI z :: .ref (xr Γ a) :: st.map (xv Γ)))
  rw [xr_pos h0]
  refine va_zald C0.1 C0.2.1 C0.2.2.2.2.2.2.2.2.2.1.1 (xP1 hat) 0 1 rfl rfl (xof_in r.1 r.2 hn) hd ?_
  rw [xof_clamp r.1 (by omega)]
  have e9 : ((z.toNat : Nat) : Int) = z := by omega
  simp only [e9]
  exact kk Γ p l e R s m args below meth c H locs cells slots ls C0 N0 L h1 h2
theorem V_lald {a n : Nat} {f : Int → Int} {z : Int} (hd : decode I.cc pc = .ok (.laload, 1)) (hw : w a = some (xLA n f)) (r : 0 ≤ z ∧ z < (n : Int)) (kk : V I Z kc ks w sz (pc + 1) lv (xJ (f z) :: st)) (hn : n < 2147483648 := by decide) : V I Z kc ks w sz pc lv (xI z :: .ref a :: st) := by
  intro Γ p l e R s m args below meth c H locs cells slots ls C0 N0 L h1 h2
  obtain ⟨h0, hat⟩ := N0.1 a _ hw
  show W p l e R s m args below meth c H locs cells slots _ (F0 m pc ls (xI z :: .ref (xr Γ a) :: st.map (xv Γ)))
  rw [xr_pos h0]
  refine va_lald C0.1 C0.2.1 C0.2.2.2.2.2.2.2.2.2.1.1 (xP1 hat) 0 2 rfl rfl (xof_in r.1 r.2 hn) hd ?_
  rw [xof_clamp r.1 (by omega)]
  have e9 : ((z.toNat : Nat) : Int) = z := by omega
  simp only [e9]
  exact kk Γ p l e R s m args below meth c H locs cells slots ls C0 N0 L h1 h2
/-- a row of references: t the place of its class -/
theorem V_aald {a n t b : Nat} {C : String} {f : Nat → Option Nat} {z : Int} (ht : ∀ cs, (xTY cs)[t]? = some (cs t, .object C)) (hd : decode I.cc pc = .ok (.aaload, 1)) (hw : w a = some (xRA t n f)) (r : 0 ≤ z ∧ z < (n : Int)) (hf : f z.toNat = some b) (kk : V I Z kc ks w sz (pc + 1) lv (.ref b :: st)) (hn : n < 2147483648 := by decide) : V I Z kc ks w sz pc lv (xI z :: .ref a :: st) := by
  intro Γ p l e R s m args below meth c H locs cells slots ls C0 N0 L h1 h2
  obtain ⟨h0, hat⟩ := N0.1 a _ hw
  show W p l e R s m args below meth c H locs cells slots _ (F0 m pc ls (xI z :: .ref (xr Γ a) :: st.map (xv Γ)))
  rw [xr_pos h0]
  refine va_aldq C0.1 C0.2.1 C0.2.2.2.2.2.2.2.2.2.1.1 (xP1 hat) 0 t rfl (ht _) (xof_in r.1 r.2 hn) hd ?_
  rw [xof_clamp r.1 (by omega)]
  simp only [hf]
  exact kk Γ p l e R s m args below meth c H locs cells slots ls C0 N0 L h1 h2
theorem V_iast {a n : Nat} {f : Int → Int} {z x : Int} (hd : decode I.cc pc = .ok (.iastore, 1)) (hw : w a = some (xIA n f)) (r : 0 ≤ z ∧ z < (n : Int)) (kk : V I Z kc ks (xU w a (xIA n (iu f z x))) sz (pc + 1) lv st) (hn : n < 2147483648 := by decide) : V I Z kc ks w sz pc lv (xI x :: xI z :: .ref a :: st) := by
  intro Γ p l e R s m args below meth c H locs cells slots ls C0 N0 L h1 h2
  obtain ⟨h0, hat⟩ := N0.1 a _ hw
  show W p l e R s m args below meth c H locs cells slots _ (F0 m pc ls (xI x :: xI z :: .ref (xr Γ a) :: st.map (xv Γ)))
  rw [xr_pos h0]
  refine W.iast C0.1 C0.2.1 hat ((C0.2.2.2.2.2.2.2.2.2.1.1.2 0 _ rfl).1 n (fun j => .int (Int32.ofInt (f (j : Int))))) (fun q => by cases q) (by show ¬ (_ ∨ (arrV _ _ _).slots.size ≤ _); rw [arrV_size]; exact xof_in r.1 r.2 hn) rfl rfl hd fun H1 e9 z9 oq => ?_
  refine kk Γ p l e R s m args below meth c H1 _ cells slots ls C0 (N0.put hw ?_ z9 oq) L h1 h2
  show H1[_]? = some (vp_cell _ (n, .inl (fun k => Int32.ofInt (iu f z x (k : Int)))))
  rw [e9, ← xiu_upd r.1]
  show some (Cell.setSlot (arrV _ n (fun j => .int (Int32.ofInt (f (j : Int))))) _ _) = some (arrV _ n (fun j => .int (upd (fun k : Nat => Int32.ofInt (f (k : Int))) z.toNat (Int32.ofInt x) j)))
  rw [arrV_store, xof_clamp r.1 (by omega)]
  congr 2
  funext q
  by_cases hq : q = z.toNat
  · subst hq
    simp [updV, upd]
  · simp [updV, upd, hq]
theorem V_zast {a n : Nat} {f : Int → Bool} {z : Int} {x : Bool} (hd : decode I.cc pc = .ok (.bastore, 1)) (hw : w a = some (xBA n f)) (r : 0 ≤ z ∧ z < (n : Int)) (kk : V I Z kc ks (xU w a (xBA n (iu f z x))) sz (pc + 1) lv st) (hn : n < 2147483648 := by decide) : V I Z kc ks w sz pc lv (xB x :: xI z :: .ref a :: st) := by
  intro Γ p l e R s m args below meth c H locs cells slots ls C0 N0 L h1 h2
  obtain ⟨h0, hat⟩ := N0.1 a _ hw
  show W p l e R s m args below meth c H locs cells slots _ (F0 m pc ls (xB x :: xI z :: .ref (xr Γ a) :: st.map (xv Γ)))
  rw [xr_pos h0]
  refine W.zast C0.1 C0.2.1 hat ((C0.2.2.2.2.2.2.2.2.2.1.1.2 1 _ rfl).1 n (fun j => .int (Int32.ofInt (b2i (f (j : Int)))))) (fun q => by cases q) (by show ¬ (_ ∨ (arrV _ _ _).slots.size ≤ _); rw [arrV_size]; exact xof_in r.1 r.2 hn) rfl rfl hd fun H1 e9 z9 oq => ?_
  refine kk Γ p l e R s m args below meth c H1 _ cells slots ls C0 (N0.put hw ?_ z9 oq) L h1 h2
  show H1[_]? = some (vp_cell _ (n, .inl (fun k => Int32.ofInt (b2i (iu f z x (k : Int))))))
  rw [e9, ← xiu_updB r.1]
  show some (Cell.setSlot (arrV _ n (fun j => .int (Int32.ofInt (b2i (f (j : Int)))))) _ _) = some (arrV _ n (fun j => .int (upd (fun k : Nat => Int32.ofInt (b2i (f (k : Int)))) z.toNat (Int32.ofInt (b2i x)) j)))
  rw [arrV_store, xof_clamp r.1 (by omega), show narrow .boolean (.int (Int32.ofInt (b2i x))) = .int (Int32.ofInt (b2i x)) by cases x <;> rfl]
  congr 2
  funext q
  by_cases hq : q = z.toNat
  · subst hq
    simp [updV, upd]
  · simp [updV, upd, hq]
theorem V_last {a n : Nat} {f : Int → Int} {z x : Int} (hd : decode I.cc pc = .ok (.lastore, 1)) (hw : w a = some (xLA n f)) (r : 0 ≤ z ∧ z < (n : Int)) (kk : V I Z kc ks (xU w a (xLA n (iu f z x))) sz (pc + 1) lv st) (hn : n < 2147483648 := by decide) : V I Z kc ks w sz pc lv (xJ x :: xI z :: .ref a :: st) := by
  intro Γ p l e R s m args below meth c H locs cells slots ls C0 N0 L h1 h2
  obtain ⟨h0, hat⟩ := N0.1 a _ hw
  show W p l e R s m args below meth c H locs cells slots _ (F0 m pc ls (xJ x :: xI z :: .ref (xr Γ a) :: st.map (xv Γ)))
  rw [xr_pos h0]
  refine W.last C0.1 C0.2.1 hat ((C0.2.2.2.2.2.2.2.2.2.1.1.2 2 _ rfl).1 n (fun j => .long (Int64.ofInt (f (j : Int))))) (fun q => by cases q) (by show ¬ (_ ∨ (arrV _ _ _).slots.size ≤ _); rw [arrV_size]; exact xof_in r.1 r.2 hn) rfl rfl hd fun H1 e9 z9 oq => ?_
  refine kk Γ p l e R s m args below meth c H1 _ cells slots ls C0 (N0.put hw ?_ z9 oq) L h1 h2
  show H1[_]? = some (vp_cell _ (n, .inr (.inl (fun k => Int64.ofInt (iu f z x (k : Int))))))
  rw [e9, ← xiu_updL r.1]
  show some (Cell.setSlot (arrV _ n (fun j => .long (Int64.ofInt (f (j : Int))))) _ _) = some (arrV _ n (fun j => .long (vp_updL (fun k : Nat => Int64.ofInt (f (k : Int))) z.toNat (Int64.ofInt x) j)))
  rw [arrV_store, xof_clamp r.1 (by omega)]
  congr 2
  funext q
  by_cases hq : q = z.toNat
  · subst hq
    simp [updV, vp_updL]
  · simp [updV, vp_updL, hq]
theorem V_aast {a n t b ci : Nat} {r0 : vw_C} {f : Nat → Option Nat} {fs : List Value} {z : Int} (ht : ∀ cs, (xTY cs)[t]? = some (cs t, .object r0.1)) (hc : vwCl[ci]? = some r0) (hd : decode I.cc pc = .ok (.aastore, 1)) (hw : w a = some (xRA t n f)) (hb : w b = some (xOb ci fs)) (r : 0 ≤ z ∧ z < (n : Int)) (kk : V I Z kc ks (xU w a (xRA t n (va_up f z.toNat (some b)))) sz (pc + 1) lv st) (hn : n < 2147483648 := by decide) : V I Z kc ks w sz pc lv (.ref b :: xI z :: .ref a :: st) := by
  intro Γ p l e R s m args below meth c H locs cells slots ls C0 N0 L h1 h2
  have hK := C0.2.2.2.2.2.2.2.2.2.1.1
  obtain ⟨h0, hat⟩ := N0.1 a _ hw
  obtain ⟨hb0, hbt⟩ := N0.1 b _ hb
  show W p l e R s m args below meth c H locs cells slots _ (F0 m pc ls (.ref (xr Γ b) :: xI z :: .ref (xr Γ a) :: st.map (xv Γ)))
  rw [xr_pos h0, xr_pos hb0]
  have hlt : (Int32.ofInt z).toNatClampNeg < n := by rw [xof_clamp r.1 (by omega)]; omega
  have hz0 : ¬ Int32.ofInt z < 0 := fun q => xof_in (n := n) r.1 r.2 hn (Or.inl q)
  obtain ⟨r', hr', cellV, g1, g2, g3, -⟩ := hbt
  have hcls := (hK.1 ci r0 hc).2
  obtain ⟨kA, comp, k1, k2, k3, -⟩ := (hK.2 t _ (ht _)).2
  have hcomp : comp = Γ.1.1 ci := Option.some.inj (k3.symm.trans hcls.1)
  subst hcomp
  obtain ⟨kC, hkC, -⟩ := hcls.2
  refine W.aast C0.1 C0.2.1 hat (fun q h => by cases h) (fun h => by cases h) k1 k2 rfl hkC ⟨hz0, by show _ < (arrV _ _ _).slots.size; rw [arrV_size]; exact hlt⟩ g1 (fun q h => by rw [g3] at h; cases h) (by rw [g2]; exact hkC) (by rw [g2]; exact va_assign hcls) rfl rfl hd fun H1 e9 z9 oq => ?_
  refine kk Γ p l e R s m args below meth c H1 _ cells slots ls C0 (N0.put hw ?_ z9 oq) L h1 h2
  show H1[_]? = some (vp_cell _ (n, .inr (.inr (.inr (.inr (fun k => (va_up f z.toNat (some b) k).map (xr Γ)))))))
  rw [e9]
  show some (Cell.setSlot (arrV _ n (fun j => va_rf ((f j).map (xr Γ)))) _ _) = some (arrV _ n (fun j => va_rf ((va_up f z.toNat (some b) j).map (xr Γ))))
  rw [arrV_store, xof_clamp r.1 (by omega)]
  congr 2
  funext q
  by_cases hq : q = z.toNat
  · subst hq
    simp [updV, va_up, va_rf, xr_pos hb0]
  · simp [updV, va_up, hq]
/-! new cells -/
theorem V_newI {atype : ArrayType} {kc' ks' n : Nat} {z : Int} (hty : newarray.typeOf atype = .int) (hg : Cond.arrayClass .int ∈ xG) (hd : decode I.cc pc = .ok (.newarray atype, 2)) (hz : z = n) (hn : n ≤ 100000) (h1 : kc' + 1 ≤ kc) (h2 : ks' + n ≤ ks) (kk : V I Z kc' ks' (xU w sz (xIA n (fun _ => 0))) (sz + 1) (pc + 2) lv (.ref sz :: st)) : V I Z kc ks w sz pc lv (xI z :: st) := by
  intro Γ p l e R s m args below meth c H locs cells slots ls C0 N0 L g1 g2
  subst hz
  have hK := C0.2.2.2.2.2.2.2.2.2.1.1
  refine va_newaK (atype := atype) (N := n) (h := H.size) C0.1 C0.2.1 (by rw [hty]; exact C0.2.2.2.2.2.2.2.2.1 _ hg) rfl hd rfl (fun q => xof_in (a := (n : Int)) (n := n + 1) (by omega) (by omega) (by omega) (Or.inl q)) (by rw [xof_clamp (by omega) (by omega)]; omega) (by rw [hty]; show n * 4 ≤ _; omega) (by omega) (by omega) rfl fun H1 cA e1 z1 o1 hAr hNm => ?_
  rw [hty] at hNm hAr e1
  have hcs : cA = Γ.2.1 0 := by
    have h9 := (hK.2 0 (Γ.2.1 0, .int) rfl).2
    exact Option.some.inj (hNm.symm.trans h9)
  have e3 : (.ref H.size : Value) = xv Γ (.ref sz) := by show Value.ref H.size = Value.ref (xr Γ sz); rw [xr_pos N0.2.2.1, N0.2.1]
  rw [e3]
  refine kk Γ p l e R s m args below meth c H1 locs (cells + 1) (slots + n) ls C0 (N0.new ?_ z1 o1) L (by omega) (by omega)
  show H1[_]? = some (vp_cell _ _)
  rw [← N0.2.1, e1, hcs]
  rfl
theorem V_newB {atype : ArrayType} {kc' ks' n : Nat} {z : Int} (hty : newarray.typeOf atype = .boolean) (hg : Cond.arrayClass .boolean ∈ xG) (hd : decode I.cc pc = .ok (.newarray atype, 2)) (hz : z = n) (hn : n ≤ 100000) (h1 : kc' + 1 ≤ kc) (h2 : ks' + n ≤ ks) (kk : V I Z kc' ks' (xU w sz (xBA n (fun _ => false))) (sz + 1) (pc + 2) lv (.ref sz :: st)) : V I Z kc ks w sz pc lv (xI z :: st) := by
  intro Γ p l e R s m args below meth c H locs cells slots ls C0 N0 L g1 g2
  subst hz
  have hK := C0.2.2.2.2.2.2.2.2.2.1.1
  refine va_newaK (atype := atype) (N := n) (h := H.size) C0.1 C0.2.1 (by rw [hty]; exact C0.2.2.2.2.2.2.2.2.1 _ hg) rfl hd rfl (fun q => xof_in (a := (n : Int)) (n := n + 1) (by omega) (by omega) (by omega) (Or.inl q)) (by rw [xof_clamp (by omega) (by omega)]; omega) (by rw [hty]; show n * 1 ≤ _; omega) (by omega) (by omega) rfl fun H1 cA e1 z1 o1 hAr hNm => ?_
  rw [hty] at hNm hAr e1
  have hcs : cA = Γ.2.1 1 := by
    have h9 := (hK.2 1 (Γ.2.1 1, .boolean) rfl).2
    exact Option.some.inj (hNm.symm.trans h9)
  have e3 : (.ref H.size : Value) = xv Γ (.ref sz) := by show Value.ref H.size = Value.ref (xr Γ sz); rw [xr_pos N0.2.2.1, N0.2.1]
  rw [e3]
  refine kk Γ p l e R s m args below meth c H1 locs (cells + 1) (slots + n) ls C0 (N0.new ?_ z1 o1) L (by omega) (by omega)
  show H1[_]? = some (vp_cell _ _)
  rw [← N0.2.1, e1, hcs]
  rfl
theorem V_newL {atype : ArrayType} {kc' ks' n : Nat} {z : Int} (hty : newarray.typeOf atype = .long) (hg : Cond.arrayClass .long ∈ xG) (hd : decode I.cc pc = .ok (.newarray atype, 2)) (hz : z = n) (hn : n ≤ 100000) (h1 : kc' + 1 ≤ kc) (h2 : ks' + n ≤ ks) (kk : V I Z kc' ks' (xU w sz (xLA n (fun _ => 0))) (sz + 1) (pc + 2) lv (.ref sz :: st)) : V I Z kc ks w sz pc lv (xI z :: st) := by
  intro Γ p l e R s m args below meth c H locs cells slots ls C0 N0 L g1 g2
  subst hz
  have hK := C0.2.2.2.2.2.2.2.2.2.1.1
  refine va_newaK (atype := atype) (N := n) (h := H.size) C0.1 C0.2.1 (by rw [hty]; exact C0.2.2.2.2.2.2.2.2.1 _ hg) rfl hd rfl (fun q => xof_in (a := (n : Int)) (n := n + 1) (by omega) (by omega) (by omega) (Or.inl q)) (by rw [xof_clamp (by omega) (by omega)]; omega) (by rw [hty]; show n * 8 ≤ _; omega) (by omega) (by omega) rfl fun H1 cA e1 z1 o1 hAr hNm => ?_
  rw [hty] at hNm hAr e1
  have hcs : cA = Γ.2.1 2 := by
    have h9 := (hK.2 2 (Γ.2.1 2, .long) rfl).2
    exact Option.some.inj (hNm.symm.trans h9)
  have e3 : (.ref H.size : Value) = xv Γ (.ref sz) := by show Value.ref H.size = Value.ref (xr Γ sz); rw [xr_pos N0.2.2.1, N0.2.1]
  rw [e3]
  refine kk Γ p l e R s m args below meth c H1 locs (cells + 1) (slots + n) ls C0 (N0.new ?_ z1 o1) L (by omega) (by omega)
  show H1[_]? = some (vp_cell _ _)
  rw [← N0.2.1, e1, hcs]
  rfl
theorem V_newR {kc' ks' n t index : Nat} {C : String} {z : Int} (ht : ∀ cs, (xTY cs)[t]? = some (cs t, .object C)) (hcl : Cond.classLink I.y.cls index C ∈ xG) (hAO : C = "AreaPicker$Pick" ∨ C = "AreaPicker$State") (hd : decode I.cc pc = .ok (.anewarray index, 3)) (hz : z = n) (hn : n ≤ 100000) (h1 : kc' + 1 ≤ kc) (h2 : ks' + n ≤ ks) (kk : V I Z kc' ks' (xU w sz (xRA t n (fun _ => none))) (sz + 1) (pc + 3) lv (.ref sz :: st)) : V I Z kc ks w sz pc lv (xI z :: st) := by
  intro Γ p l e R s m args below meth c H locs cells slots ls C0 N0 L g1 g2
  subst hz
  have hK := C0.2.2.2.2.2.2.2.2.2.1.1
  have hAO9 : va_AO C s := by
    rcases hAO with rfl | rfl
    · exact C0.2.2.2.2.2.2.2.2.2.1.2.2.2.1.1
    · exact C0.2.2.2.2.2.2.2.2.2.1.2.2.2.1.2
  have e0 : (Int32.ofInt (n : Int)).toNatClampNeg = n := by rw [xof_clamp (by omega) (by omega)]; omega
  refine W.anew C0.1 C0.2.1 C0.2.2.2.2.2.2.2.1 (C0.2.2.2.2.2.2.2.2.1 _ hcl) (va_AO.use hAO9) rfl hd rfl (fun q => xof_in (a := (n : Int)) (n := n + 1) (by omega) (by omega) (by omega) (Or.inl q)) (by rw [e0]; omega) (by omega) (by rw [e0]; omega) fun cA kA comp f1 f2 f3 f4 => ?_
  rw [e0]
  have hcs : cA = Γ.2.1 t := by
    obtain ⟨kA', comp', k1, k2, k3, k4⟩ := (hK.2 t _ (ht _)).2
    exact Option.some.inj (f1.symm.trans k4)
  generalize hH1 : H.push ({ cls := cA, slots := Array.replicate n .null, vm := .none } : Cell) = H1
  have z1 : H1.size = H.size + 1 := by rw [← hH1, Array.size_push]
  have e1 : H1[H.size]? = some (arrV cA n (fun _ => .null)) := by rw [← hH1, Array.getElem?_push_size, ← arrV_new]
  have o1 : ∀ q, q < H.size → H1[q]? = H[q]? := fun q hq => by rw [← hH1, Array.getElem?_push, if_neg (Nat.ne_of_lt hq)]
  have e3 : (.ref H.size : Value) = xv Γ (.ref sz) := by show Value.ref H.size = Value.ref (xr Γ sz); rw [xr_pos N0.2.2.1, N0.2.1]
  rw [e3]
  refine kk Γ p l e R s m args below meth c H1 locs (cells + 1) (slots + n) ls C0 (N0.new ?_ z1 o1) L (by omega) (by omega)
  show H1[_]? = some (vp_cell _ _)
  rw [← N0.2.1, e1, hcs]
  rfl
theorem V_new {kc' ks' ci index N : Nat} {C : String} {T : u_T} {ty : Nat → FieldType} {fs : List Value} (hc : vwCl[ci]? = some (C, T, N)) (hin : ∀ x ∈ u_ws C T N, x ∈ xG) (hty : ∀ k, k < N → parseFieldDescriptor (T k).2.2.1 = some (ty k)) (hcl : Cond.classLink I.y.cls index C ∈ xG) (hins : Cond.instantiable C N ∈ xG) (hini : Cond.initialized C ∈ xG) (hfs : ∀ Γ j, j < N → defaultValue (ty j) = vp_V (fs.map (xv Γ)) j)
    (hd : decode I.cc pc = .ok (.new index, 3)) (h1 : kc' + 1 ≤ kc) (h2 : ks' + N ≤ ks) (kk : V I Z kc' ks' (xU w sz (xOb ci fs)) (sz + 1) (pc + 3) lv (.ref sz :: st)) : V I Z kc ks w sz pc lv st := by
  intro Γ p l e R s m args below meth c H locs cells slots ls C0 N0 L g1 g2
  have hts := C0.2.2.2.2.2.2.2.2.1
  have hK := C0.2.2.2.2.2.2.2.2.2.1.1
  have hKn := hK.1 ci _ hc
  refine W.newcK C0.1 C0.2.1 C0.2.2.2.2.2.2.2.1 (hts _ hcl) (hts _ hins) (hts _ hini) rfl hd (by omega) (by omega) hKn.2.1 (h := H.size) rfl fun H1 kC hkC e1 z1 o1 => ?_
  have e3 : (.ref H.size : Value) = xv Γ (.ref sz) := by show Value.ref H.size = Value.ref (xr Γ sz); rw [xr_pos N0.2.2.1, N0.2.1]
  rw [e3]
  refine kk Γ p l e R s m args below meth c H1 locs (cells + 1) (slots + N) ls C0 (N0.new ?_ z1 o1) L (by omega) (by omega)
  refine ⟨_, hc, ?_⟩
  show t_OB (Γ.2.2.2 + sz) _ _ _ _ _
  rw [← N0.2.1]
  exact (u_born ty hts hin hKn hkC e1 hty).to (hfs Γ)
/-! members of the library -/
theorem V_mmax {a b : Int} {index : Nat} (hlink : Cond.methodLink I.y.cls index Lib.Math.max.name ∈ xG) (hstat : Cond.static Lib.Math.max.name ∈ xG) (hini : Cond.initialized "java/lang/Math" ∈ xG) (hcode : Cond.code Lib.Math.max.name Lib.Math.max.code 2 (some .int) ∈ xG) (hfr : 1 ≤ I.fr) (hlo : (st.map fun v => v.category).sum + 13 ≤ I.lo)
    (hd : decode I.cc pc = .ok (.invokestatic index, 3)) (r : -2147483648 ≤ a ∧ a < 2147483648 ∧ -2147483648 ≤ b ∧ b < 2147483648) (k : V I Z kc ks w sz (pc + 3) lv (xI (if a < b then b else a) :: st)) : V I Z kc ks w sz pc lv (xI b :: xI a :: st) :=
  V_st (fun Γ p l e R s m args below meth c H locs cells slots ls Q C N L hc hs kk => va_mmax C.1 C.2.1 (C.2.2.2.1.trans L.1.symm) C.2.2.2.2.2.2.2.1 (C.2.2.2.2.2.2.2.2.1 _ hlink) (C.2.2.2.2.2.2.2.2.1 _ hstat) (C.2.2.2.2.2.2.2.2.1 _ hini) (C.2.2.2.2.2.2.2.2.1 _ hcode) (Nat.le_trans hfr C.2.2.2.2.2.2.2.2.2.2.1) (by rw [xv_cats]; exact Nat.le_trans hlo C.2.2.2.2.2.2.2.2.2.2.2.1) hc hs hd (by
    rw [show (if Int32.ofInt a < Int32.ofInt b then Int32.ofInt b else Int32.ofInt a) = Int32.ofInt (if a < b then b else a) by
      by_cases h : a < b
      · rw [if_pos ((xof_lt r).mpr h), if_pos h]
      · rw [if_neg (fun q => h ((xof_lt r).mp q)), if_neg h]]
    exact kk)) k
theorem V_mmin {a b : Int} {index : Nat} (hlink : Cond.methodLink I.y.cls index Lib.Math.min.name ∈ xG) (hstat : Cond.static Lib.Math.min.name ∈ xG) (hini : Cond.initialized "java/lang/Math" ∈ xG) (hcode : Cond.code Lib.Math.min.name Lib.Math.min.code 2 (some .int) ∈ xG) (hfr : 1 ≤ I.fr) (hlo : (st.map fun v => v.category).sum + 13 ≤ I.lo)
    (hd : decode I.cc pc = .ok (.invokestatic index, 3)) (r : -2147483648 ≤ a ∧ a < 2147483648 ∧ -2147483648 ≤ b ∧ b < 2147483648) (k : V I Z kc ks w sz (pc + 3) lv (xI (if b < a then b else a) :: st)) : V I Z kc ks w sz pc lv (xI b :: xI a :: st) :=
  V_st (fun Γ p l e R s m args below meth c H locs cells slots ls Q C N L hc hs kk => va_mmin C.1 C.2.1 (C.2.2.2.1.trans L.1.symm) C.2.2.2.2.2.2.2.1 (C.2.2.2.2.2.2.2.2.1 _ hlink) (C.2.2.2.2.2.2.2.2.1 _ hstat) (C.2.2.2.2.2.2.2.2.1 _ hini) (C.2.2.2.2.2.2.2.2.1 _ hcode) (Nat.le_trans hfr C.2.2.2.2.2.2.2.2.2.2.1) (by rw [xv_cats]; exact Nat.le_trans hlo C.2.2.2.2.2.2.2.2.2.2.2.1) hc hs hd (by
    have r' : -2147483648 ≤ b ∧ b < 2147483648 ∧ -2147483648 ≤ a ∧ a < 2147483648 := ⟨r.2.2.1, r.2.2.2, r.1, r.2.1⟩
    rw [show (if Int32.ofInt b < Int32.ofInt a then Int32.ofInt b else Int32.ofInt a) = Int32.ofInt (if b < a then b else a) by
      by_cases h : b < a
      · rw [if_pos ((xof_lt r').mpr h), if_pos h]
      · rw [if_neg (fun q => h ((xof_lt r').mp q)), if_neg h]]
    exact kk)) k
theorem V_mabs {a : Int} {index : Nat} (hlink : Cond.methodLink I.y.cls index Lib.Math.abs.name ∈ xG) (hstat : Cond.static Lib.Math.abs.name ∈ xG) (hini : Cond.initialized "java/lang/Math" ∈ xG) (hcode : Cond.code Lib.Math.abs.name Lib.Math.abs.code 1 (some .int) ∈ xG) (hfr : 1 ≤ I.fr) (hlo : (st.map fun v => v.category).sum + 13 ≤ I.lo)
    (hd : decode I.cc pc = .ok (.invokestatic index, 3)) (r : -2147483648 ≤ a ∧ a < 2147483648) (k : V I Z kc ks w sz (pc + 3) lv (xI (if 0 ≤ a then a else -a) :: st)) : V I Z kc ks w sz pc lv (xI a :: st) :=
  V_st (fun Γ p l e R s m args below meth c H locs cells slots ls Q C N L hc hs kk => va_mabs C.1 C.2.1 (C.2.2.2.1.trans L.1.symm) C.2.2.2.2.2.2.2.1 (C.2.2.2.2.2.2.2.2.1 _ hlink) (C.2.2.2.2.2.2.2.2.1 _ hstat) (C.2.2.2.2.2.2.2.2.1 _ hini) (C.2.2.2.2.2.2.2.2.1 _ hcode) (Nat.le_trans hfr C.2.2.2.2.2.2.2.2.2.2.1) (by rw [xv_cats]; exact Nat.le_trans hlo C.2.2.2.2.2.2.2.2.2.2.2.1) hc hs hd (by
    have r' : -2147483648 ≤ (0 : Int) ∧ (0 : Int) < 2147483648 ∧ -2147483648 ≤ a ∧ a < 2147483648 := ⟨by omega, by omega, r.1, r.2⟩
    rw [show (if 0 ≤ Int32.ofInt a then Int32.ofInt a else 0 - Int32.ofInt a) = Int32.ofInt (if 0 ≤ a then a else -a) by
      have X : (0 : Int32) ≤ Int32.ofInt a ↔ 0 ≤ a := xof_le r'
      have Y : (0 : Int32) - Int32.ofInt a = Int32.ofInt (0 - a) := xof_sub 0 a
      by_cases h : 0 ≤ a
      · rw [if_pos (X.mpr h), if_pos h]
      · rw [if_neg (fun q => h (X.mp q)), if_neg h, Y, Int.zero_sub]]
    exact kk)) k
theorem V_objInit {a index : Nat} (hlink : Cond.methodLink I.y.cls index objectInit ∈ xG) (hins : Cond.instanceMethod objectInit ∈ xG) (hcode : Cond.code objectInit ⟨#[0xb1]⟩ 1 none ∈ xG) (hfr : 1 ≤ I.fr) (hlo : (st.map fun v => v.category).sum + 12 ≤ I.lo) (hd : decode I.cc pc = .ok (.invokespecial index, 3)) (k : V I Z kc ks w sz (pc + 3) lv st) : V I Z kc ks w sz pc lv (.ref a :: st) :=
  V_st (fun Γ p l e R s m args below meth c H locs cells slots ls Q C N L hc hs kk => W.objInit C.1 C.2.1 C.2.2.2.2.2.2.2.1 (C.2.2.2.2.2.2.2.2.1 _ hlink) (C.2.2.2.2.2.2.2.2.1 _ hins) (C.2.2.2.2.2.2.2.2.1 _ hcode) rfl (L.1.trans C.2.2.2.1.symm) rfl hd (Nat.le_trans hfr C.2.2.2.2.2.2.2.2.2.2.1) (by rw [xv_cats]; show 2 * 0 + _ + 12 ≤ _; have := C.2.2.2.2.2.2.2.2.2.2.2.1; omega) kk) k
end VHEAP
end
section
/-! contracts and calls -/
def xPc (Γ : XG) (as : List Value) (w : WD) (sz : Nat) : Array Value → State → Prop := fun a U => a = (as.map (xv Γ)).toArray ∧ xOk Γ w sz U ∧ xS Γ U U.heap
/-- a method that returns -/
def CT (J : XI) (mc ms : Nat) (as : List Value) (w : WD) (sz : Nat) (Q : XQ) : Prop := ∀ (Γ : XG) (l : Launch), l.stackTraces = false →
  Met l J.y (Cond.code J.y J.cc J.nL J.rt :: xG) ({ frames := J.fr, cells := mc, slots := ms, locals := J.lo }) (xPc Γ as w sz) (xQc Γ Q) mc ms (fun q => Γ.2.2.2 < q)
/-- a method that returns or throws -/
def CX (J : XI) (mc ms : Nat) (as : List Value) (w : WD) (sz : Nat) (Q : XQ) (QE : XE) : Prop := ∀ (Γ : XG) (l : Launch), l.stackTraces = false →
  vx_Met l J.y (Cond.code J.y J.cc J.nL J.rt :: xG) ({ frames := J.fr, cells := mc, slots := ms, locals := J.lo }) (xPc Γ as w sz) (xQc Γ Q) (xXc Γ QE) mc ms (fun q => Γ.2.2.2 < q)
/-- a method with handlers of its own -/
def CH (J : XI) (mc ms : Nat) (as : List Value) (w : WD) (sz : Nat) (Q : XQ) (QE : XE) : Prop := ∀ (Γ : XG) (l : Launch), l.stackTraces = false →
  vx_Met l J.y (Cond.codeWith J.y J.cc J.nL J.rt J.hh :: xG) ({ frames := J.fr, cells := mc, slots := ms, locals := J.lo }) (xPc Γ as w sz) (xQc Γ Q) (xXc Γ QE) mc ms (fun q => Γ.2.2.2 < q)
def xent : List Value → Nat → List (Option Value)
  | [], n => List.replicate n none
  | .long x :: vs, n => some (.long x) :: none :: xent vs (n - 2)
  | .double x :: vs, n => some (.double x) :: none :: xent vs (n - 2)
  | v :: vs, n => some v :: xent vs (n - 1)
theorem xent_rep {n i : Nat} {v : Value} (h : (List.replicate n (none : Option Value))[i]? = some (some v)) : False := by
  rw [List.getElem?_replicate] at h
  split at h <;> cases h
theorem xent_in (Γ : XG) : ∀ (as : List Value) (n k i : Nat) (v : Value), (xent as n)[i]? = some (some v) → (k + i, xv Γ v) ∈ lv_args k (as.map (xv Γ))
  | [], n, k, i, v, h => (xent_rep h).elim
  | a :: vs, n, k, i, v, h => by
    have one : ∀ n', (some a :: xent vs n')[i]? = some (some v) → a.category = 1 → (k + i, xv Γ v) ∈ lv_args k ((a :: vs).map (xv Γ)) := by
      intro n' h hc
      show _ ∈ (k, xv Γ a) :: lv_args (if (xv Γ a).category = 2 then k + 2 else k + 1) (vs.map (xv Γ))
      rw [xv_cat, if_neg (by omega)]
      cases i with
      | zero =>
        cases h
        exact List.mem_cons_self
      | succ i =>
        have h2 := xent_in Γ vs n' (k + 1) i v (by simpa using h)
        rw [show k + (i + 1) = k + 1 + i by omega]
        exact List.mem_cons_of_mem _ h2
    have two : ∀ n', (some a :: none :: xent vs n')[i]? = some (some v) → a.category = 2 → (k + i, xv Γ v) ∈ lv_args k ((a :: vs).map (xv Γ)) := by
      intro n' h hc
      show _ ∈ (k, xv Γ a) :: lv_args (if (xv Γ a).category = 2 then k + 2 else k + 1) (vs.map (xv Γ))
      rw [xv_cat, if_pos hc]
      match i, h with
      | 0, h =>
        cases h
        exact List.mem_cons_self
      | 1, h => simp at h
      | i + 2, h =>
        have h2 := xent_in Γ vs n' (k + 2) i v (by simpa using h)
        rw [show k + (i + 2) = k + 2 + i by omega]
        exact List.mem_cons_of_mem _ h2
    cases a <;> first | exact two _ h rfl | exact one _ h rfl
theorem xent_L {Γ : XG} {as : List Value} {n : Nat} (h : (lg_sl (as.map (xv Γ))).length ≤ n) : xL Γ n (lg_sl (as.map (xv Γ)) ++ List.replicate (n - (lg_sl (as.map (xv Γ))).length) Slot.unset).toArray (xent as n) := by
  have hl := lv_entry (as.map (xv Γ)) h
  refine ⟨hl.1, hl.2.1, fun i v hi => ?_⟩
  have h2 := xent_in Γ as n 0 i v hi
  rw [Nat.zero_add] at h2
  exact hl.2.2 _ h2
def xlen : List Value → Nat
  | [] => 0
  | .long _ :: vs => xlen vs + 2
  | .double _ :: vs => xlen vs + 2
  | _ :: vs => xlen vs + 1
theorem xlen_eq (Γ : XG) : ∀ as : List Value, (lg_sl (as.map (xv Γ))).length = xlen as
  | [] => rfl
  | a :: vs => by
    have h := xlen_eq Γ vs
    have e1 : lg_sl ((a :: vs).map (xv Γ)) = (if a.category = 2 then [.val (xv Γ a), .second] else [.val (xv Γ a)]) ++ lg_sl (vs.map (xv Γ)) := by
      simp [lg_sl, xv_cat]
    rw [e1, List.length_append, h]
    cases a <;> simp [Value.category, xlen] <;> omega
theorem xS0 {Γ : XG} {U : State} (h : xS Γ U U.heap) : xS Γ U U.heap := h
theorem CT.ofV {J : XI} {mc ms : Nat} {as : List Value} {w : WD} {sz : Nat} {Q : XQ} (hy : plainName J.y.cls = true) (hh : J.hh = []) (hlen : xlen as ≤ J.nL) (k : V J (zN Q) mc ms w sz 0 (xent as J.nL) []) : CT J mc ms as w sz Q := by
  intro Γ l hl
  refine Met.ofW (cc := J.cc) (maxL := J.nL) (ret := J.rt) hy rfl ?_
  intro p e s m args below meth c s₁ B hml hv
  obtain ⟨rfl, hok, hs⟩ := hv
  have hts := atoms_spec (ws := Cond.code J.y J.cc J.nL J.rt :: xG) B.pre
  have ht : c.exceptionTable.toList = tableOf J.hh := by
    obtain ⟨meth9, c9, h1, h2, -, -, -, -, h7, -⟩ := Cond.code_spec B.named (hts _ List.mem_cons_self)
    cases Option.some.inj (h1.symm.trans B.method)
    cases Option.some.inj (h2.symm.trans (Stand.of_body B).code)
    rw [Array.isEmpty_iff.mp h7, hh]
    rfl
  rw [lg_entry_eq]
  exact k Γ p l e _ s m _ below meth c s.heap [] 0 0 _ ⟨B.exec, B.bytes, hl, hml, B.returns, (name_of_methodNamed B.named B.method).1, B.notSynchronized, findClass_of_methodNamed B.named, fun x hx => hts x (List.mem_cons_of_mem _ hx), hs, Nat.le_refl _, Nat.le_refl _, ht, trivial⟩ ⟨hok.1, hok.2.1, hok.2.2, va_S.rf⟩ (xent_L (by rw [xlen_eq]; exact hlen)) (by show 0 + mc ≤ mc; omega) (by show 0 + ms ≤ ms; omega)
theorem CX.ofV {J : XI} {mc ms : Nat} {as : List Value} {w : WD} {sz : Nat} {Q : XQ} {QE : XE} (hy : plainName J.y.cls = true) (hh : J.hh = []) (hlen : xlen as ≤ J.nL) (k : V J (zX Q QE) mc ms w sz 0 (xent as J.nL) []) : CX J mc ms as w sz Q QE := by
  intro Γ l hl
  refine vx_ofW (cc := J.cc) (maxL := J.nL) (ret := J.rt) hy rfl ?_
  intro p e s m args below meth c s₁ B hml htab hv
  obtain ⟨rfl, hok, hs⟩ := hv
  have hts := atoms_spec (ws := Cond.code J.y J.cc J.nL J.rt :: xG) B.pre
  have ht : c.exceptionTable.toList = tableOf J.hh := by
    rw [hh]
    cases h : c.exceptionTable.toList with
    | nil => rfl
    | cons a l9 => exact (htab a (by rw [h]; exact List.mem_cons_self)).elim
  rw [lg_entry_eq]
  exact k Γ p l e _ s m _ below meth c s.heap [] 0 0 _ ⟨B.exec, B.bytes, hl, hml, B.returns, (name_of_methodNamed B.named B.method).1, B.notSynchronized, findClass_of_methodNamed B.named, fun x hx => hts x (List.mem_cons_of_mem _ hx), hs, Nat.le_refl _, Nat.le_refl _, ht, trivial⟩ ⟨hok.1, hok.2.1, hok.2.2, va_S.rf⟩ (xent_L (by rw [xlen_eq]; exact hlen)) (by show 0 + mc ≤ mc; omega) (by show 0 + ms ≤ ms; omega)
theorem CH.ofV {J : XI} {mc ms : Nat} {as : List Value} {w : WD} {sz : Nat} {Q : XQ} {QE : XE} (hy : plainName J.y.cls = true) (hlen : xlen as ≤ J.nL) (k : V J (zX Q QE) mc ms w sz 0 (xent as J.nL) []) : CH J mc ms as w sz Q QE := by
  intro Γ l hl
  refine vx_ofWH (cc := J.cc) (maxL := J.nL) (ret := J.rt) (hh := J.hh) hy rfl ?_
  intro p e s m args below meth c s₁ B hml hv
  obtain ⟨rfl, hok, hs⟩ := hv
  have hts := atoms_spec (ws := Cond.codeWith J.y J.cc J.nL J.rt J.hh :: xG) B.pre
  have ht : c.exceptionTable.toList = tableOf J.hh := vx_table (x := J.y) B (hts _ List.mem_cons_self)
  rw [lg_entry_eq]
  exact k Γ p l e _ s m _ below meth c s.heap [] 0 0 _ ⟨B.exec, B.bytes, hl, hml, B.returns, (name_of_methodNamed B.named B.method).1, B.notSynchronized, findClass_of_methodNamed B.named, fun x hx => hts x (List.mem_cons_of_mem _ hx), hs, Nat.le_refl _, Nat.le_refl _, ht, trivial⟩ ⟨hok.1, hok.2.1, hok.2.2, va_S.rf⟩ (xent_L (by rw [xlen_eq]; exact hlen)) (by show 0 + mc ≤ mc; omega) (by show 0 + ms ≤ ms; omega)
theorem xQc.imp {Γ : XG} {Q Q' : XQ} (h : ∀ v w sz, Q v w sz → Q' v w sz) {a : Array Value} {s t : State} {o : Outcome} (q : xQc Γ Q a s o t) : xQc Γ Q' a s o t := by
  obtain ⟨⟨v, w, sz, h1, h2, h3⟩, h4⟩ := q
  exact ⟨⟨v, w, sz, h1, h _ _ _ h2, h3⟩, h4⟩
section VCALL
variable {I J : XI} {Z : XZ} {kc ks kc' ks' mc ms : Nat} {w : WD} {sz pc : Nat} {lv : List (Option Value)} {st as rest : List Value} {Q : XQ} {QE : XE}
/-- a method's exception on the way out of this instruction -/
def VX (I : XI) (Z : XZ) (kc ks : Nat) (w : WD) (sz : Nat) (pc : Nat) (lv : List (Option Value)) (E : String) : Prop :=
  ∀ (Γ : XG) (p : Program) (l : Launch) (e : Env) (R : Room) (s : State) (m : MethodId) (args : Array Value) (below : List Frame) (meth : Method) (c : Code) (H : Heap) (locs : List Loc) (cells slots : Nat) (ls : Array Slot),
    xM I Z Γ p l R s m args meth c → xN Γ w sz s H locs → xL Γ I.nL ls lv → cells + kc ≤ R.cells → slots + ks ≤ R.slots →
    ∀ (q : Addr) (ce : Cell) (rest' : List Value), H[q]? = some ce → ce.vm = .none → s.vm.findClass E = some ce.cls →
    vx_W p l e R s m args below meth c H locs cells slots (Z.2 Γ below args s R) (F0 m pc ls rest') q
theorem V_of_run
    (hr : ∀ (Γ : XG) (p : Program) (l : Launch) (e : Env) (R : Room) (s : State) (m : MethodId) (args : Array Value) (below : List Frame) (meth : Method) (c : Code) (H : Heap) (locs : List Loc) (cells slots : Nat) (ls : Array Slot),
      xM I Z Γ p l R s m args meth c → xN Γ w sz s H locs → xL Γ I.nL ls lv → cells + mc ≤ R.cells → slots + ms ≤ R.slots →
      ∃ a, va_Run p l e R s m args below meth c H locs cells slots mc ms (F0 m pc ls (st.map (xv Γ))) (rest.map (xv Γ)) (xQc Γ Q a) (fun q => Γ.2.2.2 < q))
    (h1 : mc + kc' ≤ kc) (h2 : ms + ks' ≤ ks) (kk : ∀ v w' sz', Q v w' sz' → V I Z kc' ks' w' sz' (pc + 3) lv (v.toList ++ rest)) : V I Z kc ks w sz pc lv st := by
  intro Γ p l e R s m args below meth c H locs cells slots ls C N L g1 g2 T hT X
  obtain ⟨a, hrun⟩ := hr Γ p l e R s m args below meth c H locs cells slots ls C N L (by omega) (by omega)
  obtain ⟨v, st₀, t, T', Ls, h0, X', hL, e1, e2, ⟨⟨v', w', sz', hv, hq, hok⟩, hF⟩, stp⟩ := hrun T hT X
  cases hv
  obtain ⟨-, -, k3⟩ := vx_keep h0 e1 N.2.2.2 (fun q _ h => h) (fun q h => h) hL hF
  have hk := kk v' w' sz' hq Γ p l e R s m args below meth c T'.heap (locs ++ Ls) (cells + mc) (slots + ms) ls C ⟨by rw [e1]; exact hok.1, by rw [e1]; exact hok.2.1, hok.2.2, k3⟩ L (by omega) (by omega)
  obtain ⟨t2, a1, b1⟩ := hk T' rfl X'
  refine ⟨t2, stp t2 ?_, b1⟩
  cases v' <;> exact a1
theorem V_of_runX
    (hr : ∀ (Γ : XG) (p : Program) (l : Launch) (e : Env) (R : Room) (s : State) (m : MethodId) (args : Array Value) (below : List Frame) (meth : Method) (c : Code) (H : Heap) (locs : List Loc) (cells slots : Nat) (ls : Array Slot),
      xM I Z Γ p l R s m args meth c → xN Γ w sz s H locs → xL Γ I.nL ls lv → cells + mc ≤ R.cells → slots + ms ≤ R.slots →
      ∃ a, vx_Run p l e R s m args below meth c H locs cells slots mc ms (F0 m pc ls (st.map (xv Γ))) (rest.map (xv Γ)) (xQc Γ Q a) (xXc Γ QE) (fun q => Γ.2.2.2 < q))
    (h1 : mc + kc' ≤ kc) (h2 : ms + ks' ≤ ks) (kx : ∀ E w' sz', QE E w' sz' → VX I Z kc' ks' w' sz' pc lv E) (kk : ∀ v w' sz', Q v w' sz' → V I Z kc' ks' w' sz' (pc + 3) lv (v.toList ++ rest)) : V I Z kc ks w sz pc lv st := by
  intro Γ p l e R s m args below meth c H locs cells slots ls C N L g1 g2 T hT X
  obtain ⟨a, hrun⟩ := hr Γ p l e R s m args below meth c H locs cells slots ls C N L (by omega) (by omega)
  rcases hrun T hT X with ⟨v, st₀, t, T', Ls, h0, X', hL, e1, e2, ⟨⟨v', w', sz', hv, hq, hok⟩, hF⟩, stp⟩ | ⟨q, st₀, t, T', Ls, E, ce, h0, X', hL, e1, e2, ⟨⟨w', sz', hq, hok⟩, hF⟩, hce, hcv, hcl, stp⟩
  · cases hv
    obtain ⟨-, -, k3⟩ := vx_keep h0 e1 N.2.2.2 (fun q _ h => h) (fun q h => h) hL hF
    have hk := kk v' w' sz' hq Γ p l e R s m args below meth c T'.heap (locs ++ Ls) (cells + mc) (slots + ms) ls C ⟨by rw [e1]; exact hok.1, by rw [e1]; exact hok.2.1, hok.2.2, k3⟩ L (by omega) (by omega)
    obtain ⟨t2, a1, b1⟩ := hk T' rfl X'
    refine ⟨t2, stp t2 ?_, b1⟩
    cases v' <;> exact a1
  · obtain ⟨-, -, k3⟩ := vx_keep h0 e1 N.2.2.2 (fun q _ h => h) (fun q h => h) hL hF
    have hk := kx E w' sz' hq Γ p l e R s m args below meth c T'.heap (locs ++ Ls) (cells + mc) (slots + ms) ls C ⟨by rw [e1]; exact hok.1, by rw [e1]; exact hok.2.1, hok.2.2, k3⟩ L (by omega) (by omega) q ce (rest.map (xv Γ)) (by rw [e1]; exact hce) hcv hcl
    obtain ⟨t2, a1, b1⟩ := hk T' rfl X'
    exact ⟨t2, stp.trans a1, b1⟩
/-- what is said of a method's name: n arguments -/
def xCd (J : XI) (n : Nat) : Prop := Cond.code J.y J.cc J.nL J.rt ∈ xG ∧ Cond.initialized J.y.cls ∈ xG ∧ J.y.cls ≠ "java/lang/invoke/MethodHandle" ∧ J.y.cls ≠ "java/lang/invoke/VarHandle" ∧ (parseMethodDescriptor J.y.desc).map (fun d => d.parameters.length) = some n
abbrev xrm (J : XI) (mc ms : Nat) : Room := { frames := J.fr, cells := mc, slots := ms, locals := J.lo }
theorem xwarm {ws : List Cond} (hm : ∀ x ∈ ws, x ∈ xG) {args : Array Value} {s : State} (hts : ∀ x ∈ xG, x.before args s = true) : ∀ x ∈ ws, ∀ (a' : Array Value) (U : State), s.WarmedH U.vm → x.before a' U = true :=
  pay_in hts (fun x h => ⟨hm x h, good_of_word (xG_good x (hm x h))⟩)
theorem xCallB {n index : Nat} {p : Program} {l : Launch} {R : Room} {s : State} {m : MethodId} {args : Array Value} {meth : Method} {c : Code} {Γ : XG} (C : xM I Z Γ p l R s m args meth c) (hJ : xCd J n) (hl : Cond.methodLink I.y.cls index J.y ∈ xG) (hlim : J.fr + 1 ≤ I.fr ∧ 8 + (J.nL + 11) + J.lo ≤ I.lo) :
    CallB R s args I.y.cls index J.y J.cc J.nL J.rt (Cond.code J.y J.cc J.nL J.rt :: xG) (xrm J mc ms) mc ms n := by
  have hts := C.2.2.2.2.2.2.2.2.1
  refine ⟨rfl, rfl, Nat.le_trans hlim.1 C.2.2.2.2.2.2.2.2.2.2.1, Nat.le_trans hlim.2 C.2.2.2.2.2.2.2.2.2.2.2.1, xwarm (fun x h => ?_) hts, List.mem_cons_self, hts _ hJ.1, hts _ hJ.2.1, ⟨hJ.2.2.1, hJ.2.2.2.1⟩, fun sig h => ?_, hts _ hl⟩
  · rcases List.mem_cons.mp h with rfl | h
    · exact hJ.1
    · exact h
  · have h2 := hJ.2.2.2.2
    rw [h] at h2
    exact (Option.some.inj h2).symm
theorem xCallN {n index : Nat} {host : String} {p : Program} {l : Launch} {R : Room} {s : State} {m : MethodId} {args : Array Value} {meth : Method} {c : Code} {Γ : XG} (C : xM I Z Γ p l R s m args meth c) (hJ : xCd J n) (hl : Cond.methodLinkNest I.y.cls index J.y host ∈ lw_tbl) (hlim : J.fr + 1 ≤ I.fr ∧ 8 + (J.nL + 11) + J.lo ≤ I.lo) :
    va_CN R s args I.y.cls index J.y host J.cc J.nL J.rt (Cond.code J.y J.cc J.nL J.rt :: xG) (xrm J mc ms) mc ms n := by
  have hts := C.2.2.2.2.2.2.2.2.1
  refine ⟨⟨rfl, rfl, Nat.le_trans hlim.1 C.2.2.2.2.2.2.2.2.2.2.1, Nat.le_trans hlim.2 C.2.2.2.2.2.2.2.2.2.2.2.1, xwarm (fun x h => ?_) hts, List.mem_cons_self⟩, hts _ hJ.1, hts _ hJ.2.1, ⟨hJ.2.2.1, hJ.2.2.2.1⟩, fun sig h => ?_, va_Nw.use rfl (C.2.2.2.2.2.2.2.2.2.1.2.1 _ hl rfl)⟩
  · rcases List.mem_cons.mp h with rfl | h
    · exact hJ.1
    · exact h
  · have h2 := hJ.2.2.2.2
    rw [h] at h2
    exact (Option.some.inj h2).symm
theorem xblind {Γ : XG} {as : List Value} {w : WD} {sz : Nat} : FrameBlind (xPc Γ as w sz) := by
  intro a U g mk h
  exact ⟨h.1, h.2.1, xS.warm (U := U.calling g mk a) (State.WarmedH.refl U) h.2.2⟩
theorem xpre {Γ : XG} {p : Program} {l : Launch} {R : Room} {s : State} {m : MethodId} {args : Array Value} {meth : Method} {c : Code} {H : Heap} {locs : List Loc} (C : xM I Z Γ p l R s m args meth c) (N : xN Γ w sz s H locs) (U : State) (hU : U.heap = H) (hW : s.WarmedH U.vm) : xPc Γ as w sz (as.map (xv Γ)).toArray U :=
  ⟨rfl, ⟨by rw [hU]; exact N.1, by rw [hU]; exact N.2.1, N.2.2.1⟩, by rw [hU]; exact xS.warm hW (xS.kept N.2.2.2.2.1 C.2.2.2.2.2.2.2.2.2.1)⟩
theorem xfix {Γ : XG} {p : Program} {l : Launch} {R : Room} {s : State} {m : MethodId} {args : Array Value} {meth : Method} {c : Code} (C : xM I Z Γ p l R s m args meth c) : CallFix p m c I.cc I.nL s args xG I.y.cls := ⟨C.1, C.2.1, C.2.2.2.1, C.2.2.2.2.2.2.2.1, C.2.2.2.2.2.2.2.2.1⟩
theorem xstk {Γ : XG} (h : st = as.reverse ++ rest) : st.map (xv Γ) = (as.map (xv Γ)).reverse ++ rest.map (xv Γ) := by rw [h, List.map_append, List.map_reverse]
theorem xrest {Γ : XG} (h : (rest.map fun v => v.category).sum ≤ 8) {m : MethodId} {pc : Nat} {ls : Array Slot} {st9 : List Value} : 2 * (F0 m pc ls st9).monitorRoom + ((rest.map (xv Γ)).map fun v => v.category).sum ≤ 8 := by
  rw [xv_cats]
  exact lv_room h
/-- invokestatic -/
theorem V_callS {n index : Nat} (hT : CT J mc ms as w sz Q) (hJ : xCd J n) (hl : Cond.methodLink I.y.cls index J.y ∈ xG) (hs : Cond.static J.y ∈ xG) (hlim : J.fr + 1 ≤ I.fr ∧ 8 + (J.nL + 11) + J.lo ≤ I.lo) (hd : decode I.cc pc = .ok (.invokestatic index, 3)) (hst : st = as.reverse ++ rest) (hn : as.length = n) (hr : (rest.map fun v => v.category).sum ≤ 8)
    (h1 : mc + kc' ≤ kc) (h2 : ms + ks' ≤ ks) (kk : ∀ v w' sz', Q v w' sz' → V I Z kc' ks' w' sz' (pc + 3) lv (v.toList ++ rest)) : V I Z kc ks w sz pc lv st :=
  V_of_run (fun Γ p l e R s m args below meth c H locs cells slots ls C N L g1 g2 => ⟨_, va_runS (xfix C) (hT Γ l C.2.2.1) ⟨xCallB C hJ hl hlim, C.2.2.2.2.2.2.2.2.1 _ hs⟩ ⟨xblind, fun U hU hW => xpre C N U hU hW⟩ rfl (by rw [List.length_map]; exact hn) L.1 (xstk hst) (xrest hr) hd ⟨g1, g2⟩⟩) h1 h2 kk
theorem V_callSN {n index : Nat} {host : String} (hT : CT J mc ms as w sz Q) (hJ : xCd J n) (hl : Cond.methodLinkNest I.y.cls index J.y host ∈ lw_tbl) (hs : Cond.static J.y ∈ xG) (hlim : J.fr + 1 ≤ I.fr ∧ 8 + (J.nL + 11) + J.lo ≤ I.lo) (hd : decode I.cc pc = .ok (.invokestatic index, 3)) (hst : st = as.reverse ++ rest) (hn : as.length = n) (hr : (rest.map fun v => v.category).sum ≤ 8)
    (h1 : mc + kc' ≤ kc) (h2 : ms + ks' ≤ ks) (kk : ∀ v w' sz', Q v w' sz' → V I Z kc' ks' w' sz' (pc + 3) lv (v.toList ++ rest)) : V I Z kc ks w sz pc lv st :=
  V_of_run (fun Γ p l e R s m args below meth c H locs cells slots ls C N L g1 g2 => ⟨_, va_runSN (xfix C) (hT Γ l C.2.2.1) ⟨xCallN C hJ hl hlim, C.2.2.2.2.2.2.2.2.1 _ hs, trivial⟩ ⟨xblind, fun U hU hW => xpre C N U hU hW⟩ rfl (by rw [List.length_map]; exact hn) L.1 (xstk hst) (xrest hr) hd ⟨g1, g2⟩⟩) h1 h2 kk
theorem xrecv {Γ : XG} {a ci : Nat} {fs : List Value} {q : vw_C} {p : Program} {l : Launch} {R : Room} {s : State} {m : MethodId} {args : Array Value} {meth : Method} {c : Code} {H : Heap} {locs : List Loc} (C : xM I Z Γ p l R s m args meth c) (N : xN Γ w sz s H locs) (hw : w a = some (xOb ci fs)) (hc : vwCl[ci]? = some q) (hq : q.1 = J.y.cls) : ∃ cell : Cell, H[xr Γ a]? = some cell ∧ cell.vm.isStatics = false ∧ s.vm.findClass J.y.cls = some cell.cls := by
  obtain ⟨h0, hat⟩ := N.1 a _ hw
  rw [xr_pos h0, ← hq]
  exact va_recv C.2.2.2.2.2.2.2.2.2.1.1 (xP1 hat) hc (q0 := 0) rfl
/-- invokevirtual: on a, an object of the method's class -/
theorem V_callV {n index a ci : Nat} {fs : List Value} {q : vw_C} (hT : CT J mc ms (.ref a :: as) w sz Q) (hJ : xCd J n) (hl : Cond.methodLink I.y.cls index J.y ∈ xG) (hi : Cond.instanceMethod J.y ∈ xG) (hse : Cond.selects J.y.cls J.y J.y ∈ xG) (hc : vwCl[ci]? = some q) (hq : q.1 = J.y.cls) (hlim : J.fr + 1 ≤ I.fr ∧ 8 + (J.nL + 11) + J.lo ≤ I.lo) (hd : decode I.cc pc = .ok (.invokevirtual index, 3)) (hw : w a = some (xOb ci fs)) (hst : st = as.reverse ++ .ref a :: rest) (hn : as.length = n) (hr : (rest.map fun v => v.category).sum ≤ 8)
    (h1 : mc + kc' ≤ kc) (h2 : ms + ks' ≤ ks) (kk : ∀ v w' sz', Q v w' sz' → V I Z kc' ks' w' sz' (pc + 3) lv (v.toList ++ rest)) : V I Z kc ks w sz pc lv st :=
  V_of_run (rest := rest) (fun Γ p l e R s m args below meth c H locs cells slots ls C N L g1 g2 => ⟨_, va_runV (b := xr Γ a) (As := as.map (xv Γ)) (xfix C) (hT Γ l C.2.2.1) ⟨xCallB C hJ hl hlim, C.2.2.2.2.2.2.2.2.1 _ hi, C.2.2.2.2.2.2.2.2.1 _ hse⟩ ⟨xblind, xrecv C N hw hc hq, fun U hU hW => xpre (as := .ref a :: as) C N U hU hW⟩ rfl (by rw [List.length_map]; exact hn) L.1 (xstk (rest := .ref a :: rest) hst) (xrest hr) hd ⟨g1, g2⟩⟩) h1 h2 kk
/-- invokespecial: a constructor -/
theorem V_callI {n index a : Nat} (hT : CT J mc ms (.ref a :: as) w sz Q) (hJ : xCd J n) (hrt : J.rt = none) (hl : Cond.methodLink I.y.cls index J.y ∈ xG) (hi : Cond.instanceMethod J.y ∈ xG) (hy1 : J.y.name = "<init>") (hlim : J.fr + 1 ≤ I.fr ∧ 8 + (J.nL + 11) + J.lo ≤ I.lo) (hd : decode I.cc pc = .ok (.invokespecial index, 3)) (hst : st = as.reverse ++ .ref a :: rest) (hn : as.length = n) (hr : (rest.map fun v => v.category).sum ≤ 8)
    (h1 : mc + kc' ≤ kc) (h2 : ms + ks' ≤ ks) (kk : ∀ v w' sz', Q v w' sz' → V I Z kc' ks' w' sz' (pc + 3) lv (v.toList ++ rest)) : V I Z kc ks w sz pc lv st :=
  V_of_run (rest := rest) (fun Γ p l e R s m args below meth c H locs cells slots ls C N L g1 g2 => ⟨_, va_runI (b := xr Γ a) (As := as.map (xv Γ)) (xfix C) (hT Γ l C.2.2.1) (by have h9 := xCallB (mc := mc) (ms := ms) C hJ hl hlim; rw [hrt] at h9 ⊢; exact ⟨h9, hy1, C.2.2.2.2.2.2.2.2.1 _ hi⟩) ⟨xblind, fun U hU hW => xpre (as := .ref a :: as) C N U hU hW⟩ rfl (by rw [List.length_map]; exact hn) L.1 (xstk (rest := .ref a :: rest) hst) (xrest hr) hd ⟨g1, g2⟩⟩) h1 h2 kk
theorem V_callIN {n index a : Nat} {host : String} (hT : CT J mc ms (.ref a :: as) w sz Q) (hJ : xCd J n) (hrt : J.rt = none) (hl : Cond.methodLinkNest I.y.cls index J.y host ∈ lw_tbl) (hi : Cond.instanceMethod J.y ∈ xG) (hy1 : J.y.name = "<init>") (hlim : J.fr + 1 ≤ I.fr ∧ 8 + (J.nL + 11) + J.lo ≤ I.lo) (hd : decode I.cc pc = .ok (.invokespecial index, 3)) (hst : st = as.reverse ++ .ref a :: rest) (hn : as.length = n) (hr : (rest.map fun v => v.category).sum ≤ 8)
    (h1 : mc + kc' ≤ kc) (h2 : ms + ks' ≤ ks) (kk : ∀ v w' sz', Q v w' sz' → V I Z kc' ks' w' sz' (pc + 3) lv (v.toList ++ rest)) : V I Z kc ks w sz pc lv st :=
  V_of_run (rest := rest) (fun Γ p l e R s m args below meth c H locs cells slots ls C N L g1 g2 => ⟨_, va_runIN (b := xr Γ a) (As := as.map (xv Γ)) (xfix C) (hT Γ l C.2.2.1) (by have h9 := xCallN (mc := mc) (ms := ms) C hJ hl hlim; rw [hrt] at h9 ⊢; exact ⟨h9, hy1, C.2.2.2.2.2.2.2.2.1 _ hi⟩) ⟨xblind, fun U hU hW => xpre (as := .ref a :: as) C N U hU hW⟩ rfl (by rw [List.length_map]; exact hn) L.1 (xstk (rest := .ref a :: rest) hst) (xrest hr) hd ⟨g1, g2⟩⟩) h1 h2 kk
/-- calls of methods that return or throw -/
theorem V_callSX {n index : Nat} (hT : CX J mc ms as w sz Q QE) (hJ : xCd J n) (hl : Cond.methodLink I.y.cls index J.y ∈ xG) (hs : Cond.static J.y ∈ xG) (hlim : J.fr + 1 ≤ I.fr ∧ 8 + (J.nL + 11) + J.lo ≤ I.lo) (hd : decode I.cc pc = .ok (.invokestatic index, 3)) (hst : st = as.reverse ++ rest) (hn : as.length = n) (hr : (rest.map fun v => v.category).sum ≤ 8)
    (h1 : mc + kc' ≤ kc) (h2 : ms + ks' ≤ ks) (kx : ∀ E w' sz', QE E w' sz' → VX I Z kc' ks' w' sz' pc lv E) (kk : ∀ v w' sz', Q v w' sz' → V I Z kc' ks' w' sz' (pc + 3) lv (v.toList ++ rest)) : V I Z kc ks w sz pc lv st :=
  V_of_runX (fun Γ p l e R s m args below meth c H locs cells slots ls C N L g1 g2 => ⟨_, vx_runS (xfix C) (hT Γ l C.2.2.1) ⟨xCallB C hJ hl hlim, C.2.2.2.2.2.2.2.2.1 _ hs⟩ ⟨xblind, fun U hU hW => xpre C N U hU hW⟩ rfl (by rw [List.length_map]; exact hn) L.1 (xstk hst) (xrest hr) hd ⟨g1, g2⟩⟩) h1 h2 kx kk
theorem V_callVX {n index a ci : Nat} {fs : List Value} {q : vw_C} (hT : CX J mc ms (.ref a :: as) w sz Q QE) (hJ : xCd J n) (hl : Cond.methodLink I.y.cls index J.y ∈ xG) (hi : Cond.instanceMethod J.y ∈ xG) (hse : Cond.selects J.y.cls J.y J.y ∈ xG) (hc : vwCl[ci]? = some q) (hq : q.1 = J.y.cls) (hlim : J.fr + 1 ≤ I.fr ∧ 8 + (J.nL + 11) + J.lo ≤ I.lo) (hd : decode I.cc pc = .ok (.invokevirtual index, 3)) (hw : w a = some (xOb ci fs)) (hst : st = as.reverse ++ .ref a :: rest) (hn : as.length = n) (hr : (rest.map fun v => v.category).sum ≤ 8)
    (h1 : mc + kc' ≤ kc) (h2 : ms + ks' ≤ ks) (kx : ∀ E w' sz', QE E w' sz' → VX I Z kc' ks' w' sz' pc lv E) (kk : ∀ v w' sz', Q v w' sz' → V I Z kc' ks' w' sz' (pc + 3) lv (v.toList ++ rest)) : V I Z kc ks w sz pc lv st :=
  V_of_runX (rest := rest) (fun Γ p l e R s m args below meth c H locs cells slots ls C N L g1 g2 => ⟨_, vx_runV (b := xr Γ a) (As := as.map (xv Γ)) (xfix C) (hT Γ l C.2.2.1) ⟨xCallB C hJ hl hlim, C.2.2.2.2.2.2.2.2.1 _ hi, C.2.2.2.2.2.2.2.2.1 _ hse⟩ ⟨xblind, xrecv C N hw hc hq, fun U hU hW => xpre (as := .ref a :: as) C N U hU hW⟩ rfl (by rw [List.length_map]; exact hn) L.1 (xstk (rest := .ref a :: rest) hst) (xrest hr) hd ⟨g1, g2⟩⟩) h1 h2 kx kk
/-- a static method with handlers of its own -/
theorem V_callSH {n index : Nat} (hT : CH J mc ms as w sz Q QE) (hJ : Cond.codeWith J.y J.cc J.nL J.rt J.hh ∈ xG ∧ Cond.initialized J.y.cls ∈ xG ∧ J.y.cls ≠ "java/lang/invoke/MethodHandle" ∧ J.y.cls ≠ "java/lang/invoke/VarHandle" ∧ (parseMethodDescriptor J.y.desc).map (fun d => d.parameters.length) = some n) (hl : Cond.methodLink I.y.cls index J.y ∈ xG) (hs : Cond.static J.y ∈ xG) (hlim : J.fr + 1 ≤ I.fr ∧ 8 + (J.nL + 11) + J.lo ≤ I.lo) (hd : decode I.cc pc = .ok (.invokestatic index, 3)) (hst : st = as.reverse ++ rest) (hn : as.length = n) (hr : (rest.map fun v => v.category).sum ≤ 8)
    (h1 : mc + kc' ≤ kc) (h2 : ms + ks' ≤ ks) (kx : ∀ E w' sz', QE E w' sz' → VX I Z kc' ks' w' sz' pc lv E) (kk : ∀ v w' sz', Q v w' sz' → V I Z kc' ks' w' sz' (pc + 3) lv (v.toList ++ rest)) : V I Z kc ks w sz pc lv st := by
  refine V_of_runX (fun Γ p l e R s m args below meth c H locs cells slots ls C N L g1 g2 => ⟨_, vx_runSX (n := n) (hh := J.hh) (bytes := J.cc) (maxL := J.nL) (ret := J.rt) (xfix C) (hT Γ l C.2.2.1) ?_ ⟨xblind, fun U hU hW => xpre C N U hU hW⟩ rfl (by rw [List.length_map]; exact hn) L.1 (xstk hst) (xrest hr) hd ⟨g1, g2⟩⟩) h1 h2 kx kk
  have hts := C.2.2.2.2.2.2.2.2.1
  refine ⟨⟨rfl, rfl, Nat.le_trans hlim.1 C.2.2.2.2.2.2.2.2.2.2.1, Nat.le_trans hlim.2 C.2.2.2.2.2.2.2.2.2.2.2.1, xwarm (fun x h => ?_) hts, List.mem_cons_self⟩, hts _ hJ.1, hts _ hJ.2.1, ⟨hJ.2.2.1, hJ.2.2.2.1⟩, fun sig h => ?_, hts _ hl, hts _ hs⟩
  · rcases List.mem_cons.mp h with rfl | h
    · exact hJ.1
    · exact h
  · have h2 := hJ.2.2.2.2
    rw [h] at h2
    exact (Option.some.inj h2).symm
/-! exceptions: out of the method; caught; thrown -/
theorem VX_out {E : String} (hh : I.hh = []) (h : QE E w sz) : VX I (zX Q QE) kc ks w sz pc lv E := by
  intro Γ p l e R s m args below meth c H locs cells slots ls C N L g1 g2 q ce rest' hce hcv hcl
  have ht : c.exceptionTable.toList = [] := by rw [C.2.2.2.2.2.2.2.2.2.2.2.2.1, hh]; rfl
  exact vx_out (fun x hx => by rw [ht] at hx; cases hx) C.2.2.2.2.2.2.1 hce hcv hcl (fun t ht9 _ => ⟨⟨w, sz, h, by rw [ht9]; exact N.1, by rw [ht9]; exact N.2.1, N.2.2.1⟩, N.2.2.2.F ht9⟩) (fun z hz => N.2.2.2.2.2 z hz) (by omega) (by omega)
/-- E isn't of the class nm -/
def xNot (E nm : String) : Prop := (E = "java/lang/IllegalArgumentException" ∧ nm = "java/lang/IndexOutOfBoundsException") ∨ (E = "java/lang/IllegalStateException" ∧ nm = "java/lang/IndexOutOfBoundsException") ∨ (E = "java/lang/IllegalStateException" ∧ nm = "java/lang/IllegalArgumentException")
theorem xNot_at {E nm : String} {Γ : XG} {s : State} {H : Heap} (h : xNot E nm) (hS : xS Γ s H) : va_Nc E nm s := by
  rcases h with ⟨rfl, rfl⟩ | ⟨rfl, rfl⟩ | ⟨rfl, rfl⟩
  · exact hS.2.2.2.2.1.1
  · exact hS.2.2.2.2.1.2.1
  · exact hS.2.2.2.2.1.2.2
theorem xL.st1n {Γ : XG} {nL : Nat} {ls' : Array Slot} {lv : List (Option Value)} {i : Nat} {x : Value} (h : lv_has ls' nL ((i, x) :: (xas Γ lv).filter (fun q => !(q.1 == i) && !(q.1 + 1 == i && q.2.category == 2)))) : xL Γ nL ls' (xst1 lv i none) := by
  refine ⟨h.1, h.2.1, fun j u hj => ?_⟩
  rcases xst1_s lv i none j u hj with ⟨h1, h2⟩ | ⟨h1, h2, h3⟩
  · cases h2
  · refine h.2.2 (j, xv Γ u) (List.mem_cons_of_mem _ (List.mem_filter.mpr ⟨xas_in h2, ?_⟩))
    simp only [Bool.and_eq_true, Bool.not_eq_true', beq_eq_false_iff_ne, ne_eq, Bool.and_eq_false_iff, xv_cat]
    refine ⟨h1, ?_⟩
    by_cases hj1 : j + 1 = i
    · right
      exact fun q => h3 ⟨hj1, q⟩
    · left
      exact hj1
theorem VX_catch {E name : String} (pre : List ExceptionTableEntry) (x : ExceptionTableEntry) (suf : List ExceptionTableEntry) (hsplit : tableOf I.hh = pre ++ x :: suf) (hpass : ∀ z ∈ pre, z.catchType ≠ 0 ∧ ∃ nm : String, Cond.classLink I.y.cls z.catchType nm ∈ xG ∧ xNot E nm) (hx : covers x pc = true) (h0 : x.catchType ≠ 0) (hlink : Cond.classLink I.y.cls x.catchType name ∈ xG) (hcast : Cond.castable E name ∈ lw_tbl) (i : Nat) (hn : i < I.nL)
    {q0 : Fin 4} (hd : decode I.cc x.handlerPc = .ok (.astore_n q0, 1)) (hi : (q0 : Nat) = i) (k : V I Z kc ks w sz (x.handlerPc + 1) (xst1 lv i none) []) : VX I Z kc ks w sz pc lv E := by
  intro Γ p l e R s m args below meth c H locs cells slots ls C N L g1 g2 q ce rest' hce hcv hcl
  have hts := C.2.2.2.2.2.2.2.2.1
  have hS := C.2.2.2.2.2.2.2.2.2.1
  refine vx_catch C.2.2.2.2.2.2.2.1 pre x suf (C.2.2.2.2.2.2.2.2.2.2.2.2.1.trans hsplit) (fun z hz => ?_) hx h0 (hts _ hlink) (va_Nw.use rfl (hS.2.1 _ hcast rfl)) hce hcv hcl ?_
  · obtain ⟨a1, nm, a2, a3⟩ := hpass z hz
    exact Or.inr ⟨a1, nm, hts _ a2, xNot_at a3 hS⟩
  · exact lv_astore_n C.1 C.2.1 hd hi L.has hn rfl (fun ls' h => k Γ p l e R s m args below meth c H locs cells slots ls' C N (xL.st1n h) g1 g2)
theorem VX_catchL {E name : String} (pre : List ExceptionTableEntry) (x : ExceptionTableEntry) (suf : List ExceptionTableEntry) (hsplit : tableOf I.hh = pre ++ x :: suf) (hpass : ∀ z ∈ pre, z.catchType ≠ 0 ∧ ∃ nm : String, Cond.classLink I.y.cls z.catchType nm ∈ xG ∧ xNot E nm) (hx : covers x pc = true) (h0 : x.catchType ≠ 0) (hlink : Cond.classLink I.y.cls x.catchType name ∈ xG) (hcast : Cond.castable E name ∈ lw_tbl) (i : Nat) (hn : i < I.nL)
    (hd : decode I.cc x.handlerPc = .ok (.astore i, 2)) (k : V I Z kc ks w sz (x.handlerPc + 2) (xst1 lv i none) []) : VX I Z kc ks w sz pc lv E := by
  intro Γ p l e R s m args below meth c H locs cells slots ls C N L g1 g2 q ce rest' hce hcv hcl
  have hts := C.2.2.2.2.2.2.2.2.1
  have hS := C.2.2.2.2.2.2.2.2.2.1
  refine vx_catch C.2.2.2.2.2.2.2.1 pre x suf (C.2.2.2.2.2.2.2.2.2.2.2.2.1.trans hsplit) (fun z hz => ?_) hx h0 (hts _ hlink) (va_Nw.use rfl (hS.2.1 _ hcast rfl)) hce hcv hcl ?_
  · obtain ⟨a1, nm, a2, a3⟩ := hpass z hz
    exact Or.inr ⟨a1, nm, hts _ a2, xNot_at a3 hS⟩
  · exact lv_astore C.1 C.2.1 hd L.has hn rfl (fun ls' h => k Γ p l e R s m args below meth c H locs cells slots ls' C N (xL.st1n h) g1 g2)
/-- what the tables say of an exception's class, and of its own constructor -/
def xTh (own : String) (ik ic : Nat) (cls : String) (names : List String) : Prop := Bundle.fit cls = true ∧ (∀ n ∈ names, Bundle.fit n = true) ∧ Cond.classLink own ik cls ∈ xG ∧ Cond.initialized cls ∈ xG ∧ (∀ x ∈ vx_atS own ic cls names, x ∈ lw_tbl ∧ (goodWord x = true ∨ xNk x = true)) ∧ (∀ x ∈ Cond.classLink own ik cls :: Cond.initialized cls :: vx_atS own ic cls names, vx_ot x = true)
theorem xNk_tab {x : Cond} (h : xNk x = true) : x.onTables = true := by
  cases x <;> first | rfl | cases h
theorem xTh_hat {own cls : String} {ik ic : Nat} {names : List String} {p : Program} {l : Launch} {R : Room} {s : State} {m : MethodId} {args : Array Value} {meth : Method} {c : Code} {Γ : XG} (C : xM I Z Γ p l R s m args meth c) (h : xTh own ik ic cls names) : ∀ x ∈ vx_atS own ic cls names, x.before args s = true := by
  intro x hx
  obtain ⟨h1, h2⟩ := h.2.2.2.2.1 x hx
  rcases h2 with h2 | h2
  · exact C.2.2.2.2.2.2.2.2.1 _ (List.mem_filter.mpr ⟨h1, h2⟩)
  · exact va_Nw.use (xNk_tab h2) (C.2.2.2.2.2.2.2.2.2.1.2.1 _ h1 h2)
theorem xthrown {E : String} {Γ : XG} {s : State} {H : Heap} {locs : List Loc} (N : xN Γ w sz s H locs) (h : ∀ sz', sz ≤ sz' → QE E w sz') (t : State) (h1 : H.size ≤ t.heap.size) (h2 : ∀ q : Nat, q < H.size → t.heap[q]? = H[q]?) : xXc Γ QE E s t := by
  have hz := N.2.1
  refine ⟨⟨w, t.heap.size - Γ.2.2.2, h _ (by omega), N.1.kept h2, by omega, by have := N.2.2.1; omega⟩, Nat.le_trans N.2.2.2.1 h1, fun q g1 g2 => ?_⟩
  rw [h2 q (Nat.lt_of_lt_of_le g1 N.2.2.2.1)]
  exact N.2.2.2.2.1 q g1 g2
theorem V_throw {text cls : String} {names : List String} {ik is ic : Nat} (hh : I.hh = []) (hT : xTh I.y.cls ik ic cls names) (hs : Cond.stringRef I.y.cls is text ∈ lw_tbl)
    (d0 : decode I.cc pc = .ok (.new ik, 3)) (d3 : decode I.cc (pc + 3) = .ok (.dup, 1)) (d4 : decode I.cc (pc + 4) = .ok (.ldc is, 2)) (d6 : decode I.cc (pc + 6) = .ok (.invokespecial ic, 3)) (d9 : decode I.cc (pc + 9) = .ok (.athrow, 1))
    (hf : names.length + 4 ≤ I.fr) (hl : (st.map fun v => v.category).sum + (13 * (names.length + 1) + 43) ≤ I.lo) (hk : 1 ≤ kc) (hks : 6 ≤ ks) (h : ∀ sz', sz ≤ sz' → QE cls w sz') : V I (zX Q QE) kc ks w sz pc lv st := by
  intro Γ p l e R s m args below meth c H locs cells slots ls C N L g1 g2
  have hts := C.2.2.2.2.2.2.2.2.1
  have hS := C.2.2.2.2.2.2.2.2.2.1
  have ht : c.exceptionTable.toList = [] := by rw [C.2.2.2.2.2.2.2.2.2.2.2.2.1, hh]; rfl
  obtain ⟨sa, hsa⟩ := hS.2.2.1 _ _ _ hs
  exact vx_throwS C.1 C.2.1 C.2.2.1 C.2.2.2.2.2.2.2.1 hT.1 hT.2.1 (hts _ hT.2.2.1) (hts _ hT.2.2.2.1) hsa (xTh_hat C hT) hT.2.2.2.2.2 hS.2.2.2.2.2.1.1 hS.2.2.2.2.2.1.2 N.2.2.2 (L.1.trans C.2.2.2.1.symm) d0 d3 d4 d6 d9 (fun x hx => by rw [ht] at hx; cases hx) (by have := C.2.2.2.2.2.2.2.2.2.2.1; omega) (by rw [xv_cats]; exact Nat.le_trans hl C.2.2.2.2.2.2.2.2.2.2.2.1) (by omega) (by omega) C.2.2.2.2.2.2.1 (fun t _ h1 h2 => xthrown N h t h1 h2) (fun z hz => N.2.2.2.2.2 z hz) (by omega) (by omega)
theorem V_throwW {text cls : String} {names : List String} {ik is ic : Nat} (hh : I.hh = []) (hT : xTh I.y.cls ik ic cls names) (hs : Cond.stringRef I.y.cls is text ∈ lw_tbl)
    (d0 : decode I.cc pc = .ok (.new ik, 3)) (d3 : decode I.cc (pc + 3) = .ok (.dup, 1)) (d4 : decode I.cc (pc + 4) = .ok (.ldc_w is, 3)) (d7 : decode I.cc (pc + 7) = .ok (.invokespecial ic, 3)) (d10 : decode I.cc (pc + 10) = .ok (.athrow, 1))
    (hf : names.length + 4 ≤ I.fr) (hl : (st.map fun v => v.category).sum + (13 * (names.length + 1) + 43) ≤ I.lo) (hk : 1 ≤ kc) (hks : 6 ≤ ks) (h : ∀ sz', sz ≤ sz' → QE cls w sz') : V I (zX Q QE) kc ks w sz pc lv st := by
  intro Γ p l e R s m args below meth c H locs cells slots ls C N L g1 g2
  have hts := C.2.2.2.2.2.2.2.2.1
  have hS := C.2.2.2.2.2.2.2.2.2.1
  have ht : c.exceptionTable.toList = [] := by rw [C.2.2.2.2.2.2.2.2.2.2.2.2.1, hh]; rfl
  obtain ⟨sa, hsa⟩ := hS.2.2.1 _ _ _ hs
  exact vx_throwSW C.1 C.2.1 C.2.2.1 C.2.2.2.2.2.2.2.1 hT.1 hT.2.1 (hts _ hT.2.2.1) (hts _ hT.2.2.2.1) hsa (xTh_hat C hT) hT.2.2.2.2.2 hS.2.2.2.2.2.1.1 hS.2.2.2.2.2.1.2 N.2.2.2 (L.1.trans C.2.2.2.1.symm) d0 d3 d4 d7 d10 (fun x hx => by rw [ht] at hx; cases hx) (by have := C.2.2.2.2.2.2.2.2.2.2.1; omega) (by rw [xv_cats]; exact Nat.le_trans hl C.2.2.2.2.2.2.2.2.2.2.2.1) (by omega) (by omega) C.2.2.2.2.2.2.1 (fun t _ h1 h2 => xthrown N h t h1 h2) (fun z hz => N.2.2.2.2.2 z hz) (by omega) (by omega)
end VCALL
end
