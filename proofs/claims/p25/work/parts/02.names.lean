def RX0 : String := "AreaPicker$AreaFinder"
def TX0 : u_T := fun k => match k with
  | 0 => ("AreaPicker$AreaFinder", "alike", "[Z", true)
  | 1 => ("AreaPicker$AreaFinder", "sides", "[I", true)
  | 2 => ("AreaPicker$AreaFinder", "joined", "[Z", true)
  | 3 => ("AreaPicker$AreaFinder", "area", "[Z", true)
  | 4 => ("AreaPicker$AreaFinder", "queue", "[I", true)
  | 5 => ("AreaPicker$AreaFinder", "queued", "I", false)
  | _ => ("AreaPicker$AreaFinder", "width", "I", false)
def tyX0 : Nat → FieldType := fun k => match k with
  | 0 => .array .boolean
  | 1 => .array .int
  | 2 => .array .boolean
  | 3 => .array .boolean
  | 4 => .array .int
  | 5 => .int
  | _ => .int
theorem nmX0 : ∀ a, a < 7 → ∀ b, b < 7 → a ≠ b → (TX0 a).2.1 ≠ (TX0 b).2.1 := by decide +kernel
theorem tyX0_ok : ∀ k, k < 7 → parseFieldDescriptor (TX0 k).2.2.1 = some (tyX0 k) := by decide +kernel
abbrev cX0_init : ByteArray := prog_2_method_1_code
def yX0_init : MethodName := ⟨RX0, "<init>", "()V"⟩
abbrev cX0_search : ByteArray := prog_2_method_2_code
def yX0_search : MethodName := ⟨RX0, "search", "([IIIII)I"⟩
abbrev cX0_softLevels : ByteArray := prog_2_method_6_code
def yX0_softLevels : MethodName := ⟨RX0, "softLevels", "(I)[I"⟩
abbrev cX0_clear : ByteArray := prog_2_method_7_code
def yX0_clear : MethodName := ⟨RX0, "clear", "([Z)V"⟩
abbrev cX0_findAlike : ByteArray := prog_2_method_8_code
def yX0_findAlike : MethodName := ⟨RX0, "findAlike", "([IIII)I"⟩
abbrev cX0_flood : ByteArray := prog_2_method_9_code
def yX0_flood : MethodName := ⟨RX0, "flood", "([III)I"⟩
abbrev cX0_enter : ByteArray := prog_2_method_10_code
def yX0_enter : MethodName := ⟨RX0, "enter", "([ZI)V"⟩
abbrev cX0_spread : ByteArray := prog_2_method_11_code
def yX0_spread : MethodName := ⟨RX0, "spread", "(II)I"⟩
abbrev cX0_measureSquares : ByteArray := prog_2_method_12_code
def yX0_measureSquares : MethodName := ⟨RX0, "measureSquares", "()V"⟩
abbrev cX0_sideAt : ByteArray := prog_2_method_13_code
def yX0_sideAt : MethodName := ⟨RX0, "sideAt", "(II)I"⟩
abbrev cX0_liesInSquare : ByteArray := prog_2_method_14_code
def yX0_liesInSquare : MethodName := ⟨RX0, "liesInSquare", "(I)Z"⟩
abbrev cX0_joinSquaresOver : ByteArray := prog_2_method_15_code
def yX0_joinSquaresOver : MethodName := ⟨RX0, "joinSquaresOver", "(I)V"⟩
abbrev cX0_joinAround : ByteArray := prog_2_method_16_code
def yX0_joinAround : MethodName := ⟨RX0, "joinAround", "(I)V"⟩
abbrev cX0_join : ByteArray := prog_2_method_17_code
def yX0_join : MethodName := ⟨RX0, "join", "(II)V"⟩
abbrev cX0_coverSquares : ByteArray := prog_2_method_18_code
def yX0_coverSquares : MethodName := ⟨RX0, "coverSquares", "()I"⟩
abbrev cX0_coverSquare : ByteArray := prog_2_method_19_code
def yX0_coverSquare : MethodName := ⟨RX0, "coverSquare", "(I)V"⟩
abbrev cX0_addRing : ByteArray := prog_2_method_20_code
def yX0_addRing : MethodName := ⟨RX0, "addRing", "([III)V"⟩
abbrev cX0_touches : ByteArray := prog_2_method_21_code
def yX0_touches : MethodName := ⟨RX0, "touches", "([III)Z"⟩
def RX1 : String := "AreaPicker$Found"
def TX1 : u_T := fun k => match k with
  | 0 => ("AreaPicker$Found", "first", "I", true)
  | 1 => ("AreaPicker$Found", "likeness", "I", true)
  | 2 => ("AreaPicker$Found", "way", "I", true)
  | 3 => ("AreaPicker$Found", "gap", "I", true)
  | 4 => ("AreaPicker$Found", "softness", "I", true)
  | 5 => ("AreaPicker$Found", "width", "I", true)
  | _ => ("AreaPicker$Found", "levels", "[I", true)
def tyX1 : Nat → FieldType := fun k => match k with
  | 0 => .int
  | 1 => .int
  | 2 => .int
  | 3 => .int
  | 4 => .int
  | 5 => .int
  | _ => .array .int
theorem nmX1 : ∀ a, a < 7 → ∀ b, b < 7 → a ≠ b → (TX1 a).2.1 ≠ (TX1 b).2.1 := by decide +kernel
theorem tyX1_ok : ∀ k, k < 7 → parseFieldDescriptor (TX1 k).2.2.1 = some (tyX1 k) := by decide +kernel
abbrev cX1_init : ByteArray := prog_3_method_1_code
def yX1_init : MethodName := ⟨RX1, "<init>", "(IIIIII[I)V"⟩
def RX2 : String := "AreaPicker$History"
def TX2 : u_T := fun k => match k with
  | 0 => ("AreaPicker$History", "states", "[LAreaPicker$State;", true)
  | _ => ("AreaPicker$History", "kept", "I", false)
def tyX2 : Nat → FieldType := fun k => match k with
  | 0 => .array (.object "AreaPicker$State")
  | _ => .int
theorem nmX2 : ∀ a, a < 2 → ∀ b, b < 2 → a ≠ b → (TX2 a).2.1 ≠ (TX2 b).2.1 := by decide +kernel
theorem tyX2_ok : ∀ k, k < 2 → parseFieldDescriptor (TX2 k).2.2.1 = some (tyX2 k) := by decide +kernel
abbrev cX2_init : ByteArray := prog_4_method_1_code
def yX2_init : MethodName := ⟨RX2, "<init>", "(LAreaPicker$Pick;)V"⟩
abbrev cX2_keep : ByteArray := prog_4_method_2_code
def yX2_keep : MethodName := ⟨RX2, "keep", "(LAreaPicker$State;)V"⟩
abbrev cX2_dropOldest : ByteArray := prog_4_method_3_code
def yX2_dropOldest : MethodName := ⟨RX2, "dropOldest", "()V"⟩
abbrev cX2_restore : ByteArray := prog_4_method_4_code
def yX2_restore : MethodName := ⟨RX2, "restore", "(LAreaPicker$State;)V"⟩
def RX3 : String := "AreaPicker$Pick"
def TX3 : u_T := fun k => match k with
  | 0 => ("AreaPicker$Pick", "found", "LAreaPicker$Found;", true)
  | 1 => ("AreaPicker$Pick", "kind", "I", true)
  | _ => ("AreaPicker$Pick", "in", "Z", true)
def tyX3 : Nat → FieldType := fun k => match k with
  | 0 => .object "AreaPicker$Found"
  | 1 => .int
  | _ => .boolean
theorem nmX3 : ∀ a, a < 3 → ∀ b, b < 3 → a ≠ b → (TX3 a).2.1 ≠ (TX3 b).2.1 := by decide +kernel
theorem tyX3_ok : ∀ k, k < 3 → parseFieldDescriptor (TX3 k).2.2.1 = some (tyX3 k) := by decide +kernel
abbrev cX3_init : ByteArray := prog_5_method_1_code
def yX3_init : MethodName := ⟨RX3, "<init>", "(LAreaPicker$Found;IZ)V"⟩
abbrev cX3_over : ByteArray := prog_5_method_2_code
def yX3_over : MethodName := ⟨RX3, "over", "(II)I"⟩
abbrev cX3_property : ByteArray := prog_5_method_3_code
def yX3_property : MethodName := ⟨RX3, "property", "(I)I"⟩
def RX4 : String := "AreaPicker$PictureText"
def TX4 : u_T := fun k => match k with
  | 0 => ("AreaPicker$PictureText", "codes", "[I", true)
  | _ => ("AreaPicker$PictureText", "length", "I", false)
def tyX4 : Nat → FieldType := fun k => match k with
  | 0 => .array .int
  | _ => .int
theorem nmX4 : ∀ a, a < 2 → ∀ b, b < 2 → a ≠ b → (TX4 a).2.1 ≠ (TX4 b).2.1 := by decide +kernel
theorem tyX4_ok : ∀ k, k < 2 → parseFieldDescriptor (TX4 k).2.2.1 = some (tyX4 k) := by decide +kernel
abbrev cX4_init : ByteArray := prog_6_method_1_code
def yX4_init : MethodName := ⟨RX4, "<init>", "()V"⟩
def RX5 : String := "AreaPicker$State"
def TX5 : u_T := fun k => match k with
  | 0 => ("AreaPicker$State", "shades", "[I", true)
  | 1 => ("AreaPicker$State", "picks", "[LAreaPicker$Pick;", true)
  | _ => ("AreaPicker$State", "pickCount", "I", false)
def tyX5 : Nat → FieldType := fun k => match k with
  | 0 => .array .int
  | 1 => .array (.object "AreaPicker$Pick")
  | _ => .int
theorem nmX5 : ∀ a, a < 3 → ∀ b, b < 3 → a ≠ b → (TX5 a).2.1 ≠ (TX5 b).2.1 := by decide +kernel
theorem tyX5_ok : ∀ k, k < 3 → parseFieldDescriptor (TX5 k).2.2.1 = some (tyX5 k) := by decide +kernel
abbrev cX5_init : ByteArray := prog_7_method_1_code
def yX5_init : MethodName := ⟨RX5, "<init>", "(LAreaPicker$Pick;)V"⟩
abbrev cX5_become : ByteArray := prog_7_method_2_code
def yX5_become : MethodName := ⟨RX5, "become", "(LAreaPicker$State;)V"⟩
abbrev cX5_paint : ByteArray := prog_7_method_3_code
def yX5_paint : MethodName := ⟨RX5, "paint", "(II)I"⟩
abbrev cX5_addPick : ByteArray := prog_7_method_4_code
def yX5_addPick : MethodName := ⟨RX5, "addPick", "(LAreaPicker$Pick;)V"⟩
abbrev cX5_movePick : ByteArray := prog_7_method_5_code
def yX5_movePick : MethodName := ⟨RX5, "movePick", "(II)V"⟩
abbrev cX5_removePicksThatAreOut : ByteArray := prog_7_method_6_code
def yX5_removePicksThatAreOut : MethodName := ⟨RX5, "removePicksThatAreOut", "()I"⟩
abbrev cX5_picksThatAreIn : ByteArray := prog_7_method_7_code
def yX5_picksThatAreIn : MethodName := ⟨RX5, "picksThatAreIn", "()I"⟩
abbrev cX5_makeMask : ByteArray := prog_7_method_8_code
def yX5_makeMask : MethodName := ⟨RX5, "makeMask", "([I)V"⟩
abbrev cX5_maskLevel : ByteArray := prog_7_method_9_code
def yX5_maskLevel : MethodName := ⟨RX5, "maskLevel", "(I)I"⟩
abbrev cX5_picksOver : ByteArray := prog_7_method_10_code
def yX5_picksOver : MethodName := ⟨RX5, "picksOver", "(I)I"⟩
abbrev cX5_cellProperty : ByteArray := prog_7_method_11_code
def yX5_cellProperty : MethodName := ⟨RX5, "cellProperty", "(II)I"⟩
def RX6 : String := "AreaPicker"
def TX6 : u_T := fun k => match k with
  | 0 => ("AreaPicker", "now", "LAreaPicker$State;", true)
  | 1 => ("AreaPicker", "history", "LAreaPicker$History;", true)
  | 2 => ("AreaPicker", "text", "LAreaPicker$PictureText;", true)
  | 3 => ("AreaPicker", "finder", "LAreaPicker$AreaFinder;", true)
  | 4 => ("AreaPicker", "mask", "[I", true)
  | _ => ("AreaPicker", "before", "[I", true)
def tyX6 : Nat → FieldType := fun k => match k with
  | 0 => .object "AreaPicker$State"
  | 1 => .object "AreaPicker$History"
  | 2 => .object "AreaPicker$PictureText"
  | 3 => .object "AreaPicker$AreaFinder"
  | 4 => .array .int
  | _ => .array .int
theorem nmX6 : ∀ a, a < 6 → ∀ b, b < 6 → a ≠ b → (TX6 a).2.1 ≠ (TX6 b).2.1 := by decide +kernel
theorem tyX6_ok : ∀ k, k < 6 → parseFieldDescriptor (TX6 k).2.2.1 = some (tyX6 k) := by decide +kernel
abbrev cX6_init : ByteArray := prog_1_method_1_code
def yX6_init : MethodName := ⟨RX6, "<init>", "()V"⟩
abbrev cX6_draw : ByteArray := prog_1_method_2_code
def yX6_draw : MethodName := ⟨RX6, "draw", "(IIIII)I"⟩
abbrev cX6_fill : ByteArray := prog_1_method_3_code
def yX6_fill : MethodName := ⟨RX6, "fill", "(I)I"⟩
abbrev cX6_pick : ByteArray := prog_1_method_4_code
def yX6_pick : MethodName := ⟨RX6, "pick", "(IIIIII)I"⟩
abbrev cX6_toggle : ByteArray := prog_1_method_5_code
def yX6_toggle : MethodName := ⟨RX6, "toggle", "(I)I"⟩
abbrev cX6_setKind : ByteArray := prog_1_method_6_code
def yX6_setKind : MethodName := ⟨RX6, "setKind", "(II)I"⟩
abbrev cX6_reorder : ByteArray := prog_1_method_7_code
def yX6_reorder : MethodName := ⟨RX6, "reorder", "(II)I"⟩
abbrev cX6_clean : ByteArray := prog_1_method_8_code
def yX6_clean : MethodName := ⟨RX6, "clean", "()I"⟩
abbrev cX6_undo : ByteArray := prog_1_method_13_code
def yX6_undo : MethodName := ⟨RX6, "undo", "()I"⟩
abbrev cX6_cell : ByteArray := prog_1_method_14_code
def yX6_cell : MethodName := ⟨RX6, "cell", "(III)I"⟩
abbrev cX6_picked : ByteArray := prog_1_method_15_code
def yX6_picked : MethodName := ⟨RX6, "picked", "(II)I"⟩
abbrev cX6_level : ByteArray := prog_1_method_16_code
def yX6_level : MethodName := ⟨RX6, "level", "(III)I"⟩
abbrev cX6_count : ByteArray := prog_1_method_17_code
def yX6_count : MethodName := ⟨RX6, "count", "(I)I"⟩
abbrev cX6_areaOf : ByteArray := prog_1_method_18_code
def yX6_areaOf : MethodName := ⟨RX6, "areaOf", "(IIIII)I"⟩
abbrev cX6_coverage : ByteArray := prog_1_method_22_code
def yX6_coverage : MethodName := ⟨RX6, "coverage", "()D"⟩
abbrev cX6_number : ByteArray := prog_1_method_28_code
def yX6_number : MethodName := ⟨RX6, "number", "(I)I"⟩
abbrev cX6_maskNumber : ByteArray := prog_1_method_29_code
def yX6_maskNumber : MethodName := ⟨RX6, "maskNumber", "(I)I"⟩
abbrev cX6_edgeLength : ByteArray := prog_1_method_30_code
def yX6_edgeLength : MethodName := ⟨RX6, "edgeLength", "([I)I"⟩
abbrev cX6_openSides : ByteArray := prog_1_method_31_code
def yX6_openSides : MethodName := ⟨RX6, "openSides", "([II)I"⟩
abbrev cX6_atLeast : ByteArray := prog_1_method_32_code
def yX6_atLeast : MethodName := ⟨RX6, "atLeast", "([II)I"⟩
abbrev cX6_sum : ByteArray := prog_1_method_33_code
def yX6_sum : MethodName := ⟨RX6, "sum", "([I)I"⟩
abbrev cX6_differences : ByteArray := prog_1_method_34_code
def yX6_differences : MethodName := ⟨RX6, "differences", "([I[I)I"⟩
abbrev cX6_differentShades : ByteArray := prog_1_method_35_code
def yX6_differentShades : MethodName := ⟨RX6, "differentShades", "([I)I"⟩
abbrev cX6_isCell : ByteArray := prog_1_method_36_code
def yX6_isCell : MethodName := ⟨RX6, "isCell", "(II)Z"⟩
abbrev cX6_cellAt : ByteArray := prog_1_method_37_code
def yX6_cellAt : MethodName := ⟨RX6, "cellAt", "(II)I"⟩
abbrev cX6_neighbor : ByteArray := prog_1_method_38_code
def yX6_neighbor : MethodName := ⟨RX6, "neighbor", "(II)I"⟩
abbrev cX6_needCell : ByteArray := prog_1_method_39_code
def yX6_needCell : MethodName := ⟨RX6, "needCell", "(II)V"⟩
abbrev cX6_needPick : ByteArray := prog_1_method_40_code
def yX6_needPick : MethodName := ⟨RX6, "needPick", "(I)V"⟩
abbrev cX6_needRange : ByteArray := prog_1_method_41_code
def yX6_needRange : MethodName := ⟨RX6, "needRange", "(III)V"⟩
abbrev cX6_needSearch : ByteArray := prog_1_method_42_code
def yX6_needSearch : MethodName := ⟨RX6, "needSearch", "(III)V"⟩
def RX7 : String := "AreaPickerModel"
def TX7 : u_T := fun k => match k with
  | _ => ("", "", "", false)
def tyX7 : Nat → FieldType := fun k => match k with
  | _ => .int
theorem nmX7 : ∀ a, a < 0 → ∀ b, b < 0 → a ≠ b → (TX7 a).2.1 ≠ (TX7 b).2.1 := by decide +kernel
theorem tyX7_ok : ∀ k, k < 0 → parseFieldDescriptor (TX7 k).2.2.1 = some (tyX7 k) := by decide +kernel
def RJ13 : String := "java/lang/Long"
def TJ13 : u_T := fun k => match k with
  | _ => ("", "", "", false)
def tyJ13 : Nat → FieldType := fun k => match k with
  | _ => .int
theorem nmJ13 : ∀ a, a < 0 → ∀ b, b < 0 → a ≠ b → (TJ13 a).2.1 ≠ (TJ13 b).2.1 := by decide +kernel
theorem tyJ13_ok : ∀ k, k < 0 → parseFieldDescriptor (TJ13 k).2.2.1 = some (tyJ13 k) := by decide +kernel
abbrev cJ13_bitCount_95d88 : ByteArray := prog_14_method_50_code
def yJ13_bitCount_95d88 : MethodName := ⟨RJ13, "bitCount", "(J)I"⟩
def RJ9 : String := "java/lang/Math"
def TJ9 : u_T := fun k => match k with
  | _ => ("", "", "", false)
def tyJ9 : Nat → FieldType := fun k => match k with
  | _ => .int
theorem nmJ9 : ∀ a, a < 0 → ∀ b, b < 0 → a ≠ b → (TJ9 a).2.1 ≠ (TJ9 b).2.1 := by decide +kernel
theorem tyJ9_ok : ∀ k, k < 0 → parseFieldDescriptor (TJ9 k).2.2.1 = some (tyJ9 k) := by decide +kernel
abbrev cJ9_abs_0f7a4 : ByteArray := prog_15_method_59_code
def yJ9_abs_0f7a4 : MethodName := ⟨RJ9, "abs", "(I)I"⟩
abbrev cJ9_max_7cf53 : ByteArray := prog_15_method_65_code
def yJ9_max_7cf53 : MethodName := ⟨RJ9, "max", "(II)I"⟩
abbrev cJ9_min_7cf53 : ByteArray := prog_15_method_69_code
def yJ9_min_7cf53 : MethodName := ⟨RJ9, "min", "(II)I"⟩
def RJ0 : String := "java/lang/String"
def TJ0 : u_T := fun k => match k with
  | _ => ("", "", "", false)
def tyJ0 : Nat → FieldType := fun k => match k with
  | _ => .int
theorem nmJ0 : ∀ a, a < 0 → ∀ b, b < 0 → a ≠ b → (TJ0 a).2.1 ≠ (TJ0 b).2.1 := by decide +kernel
theorem tyJ0_ok : ∀ k, k < 0 → parseFieldDescriptor (TJ0 k).2.2.1 = some (tyJ0 k) := by decide +kernel
def RJ10 : String := "java/lang/System"
def TJ10 : u_T := fun k => match k with
  | _ => ("", "", "", false)
def tyJ10 : Nat → FieldType := fun k => match k with
  | _ => .int
theorem nmJ10 : ∀ a, a < 0 → ∀ b, b < 0 → a ≠ b → (TJ10 a).2.1 ≠ (TJ10 b).2.1 := by decide +kernel
theorem tyJ10_ok : ∀ k, k < 0 → parseFieldDescriptor (TJ10 k).2.2.1 = some (tyJ10 k) := by decide +kernel
def RL : String := "AreaPickerLaw"
abbrev cL_cell : ByteArray := method_2_code
def yL_cell : MethodName := ⟨RL, "cell", "([II)I"⟩
abbrev cL_at : ByteArray := method_3_code
def yL_at : MethodName := ⟨RL, "at", "(II)I"⟩
abbrev cL_of : ByteArray := method_4_code
def yL_of : MethodName := ⟨RL, "of", "([JIII)I"⟩
abbrev cL_put : ByteArray := method_5_code
def yL_put : MethodName := ⟨RL, "put", "([JIIII)V"⟩
abbrev cL_abs : ByteArray := method_6_code
def yL_abs : MethodName := ⟨RL, "abs", "(I)I"⟩
abbrev cL_is : ByteArray := method_7_code
def yL_is : MethodName := ⟨RL, "is", "([III)Z"⟩
abbrev cL_alike : ByteArray := method_8_code
def yL_alike : MethodName := ⟨RL, "alike", "(IIII[J[I)V"⟩
abbrev cL_squares : ByteArray := method_9_code
def yL_squares : MethodName := ⟨RL, "squares", "(I[I[I)V"⟩
abbrev cL_area : ByteArray := method_10_code
def yL_area : MethodName := ⟨RL, "area", "(IIIII[J[I)I"⟩
abbrev cL_size : ByteArray := method_11_code
def yL_size : MethodName := ⟨RL, "size", "([I)I"⟩
abbrev cL_soften : ByteArray := method_12_code
def yL_soften : MethodName := ⟨RL, "soften", "(II[I[J)V"⟩
abbrev cL_mask : ByteArray := method_13_code
def yL_mask : MethodName := ⟨RL, "mask", "(II[J[I[I)I"⟩
abbrev cL_told : ByteArray := method_14_code
def yL_told : MethodName := ⟨RL, "told", "(LAreaPicker;I[J[J[I[I)Z"⟩
abbrev cL_move : ByteArray := method_15_code
def yL_move : MethodName := ⟨RL, "move", "(II[J[I)V"⟩
abbrev cL_act : ByteArray := method_16_code
def yL_act : MethodName := ⟨RL, "act", "(LAreaPicker;III[J[J[I[I)Z"⟩
abbrev cL_law : ByteArray := code
def yL_law : MethodName := ⟨RL, "law", "([I)Z"⟩
abbrev vwCl : List vw_C := [(RX0, TX0, 7), (RX1, TX1, 7), (RX2, TX2, 2), (RX3, TX3, 3), (RX4, TX4, 2), (RX5, TX5, 3), (RX6, TX6, 6)]
