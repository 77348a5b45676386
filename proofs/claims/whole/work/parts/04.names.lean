/-! ===== BEGIN printed: names, fields, word lists, decode rows ===== -/
def RX0 : String := "PictureDeck$Blocks"
def TX0 : u_T := fun k => match k with
  | 0 => ("PictureDeck$Blocks", "matrices", "[[I", true)
  | 1 => ("PictureDeck$Blocks", "pasts", "[I", true)
  | 2 => ("PictureDeck$Blocks", "turned", "[I", true)
  | 3 => ("PictureDeck$Blocks", "factor", "I", false)
  | 4 => ("PictureDeck$Blocks", "coefficients", "[I", true)
  | _ => ("PictureDeck$Blocks", "halfTurned", "[I", true)
def tyX0 : Nat → FieldType := fun k => match k with
  | 0 => .array (.array .int)
  | 1 => .array .int
  | 2 => .array .int
  | 3 => .int
  | 4 => .array .int
  | _ => .array .int
abbrev wsX00 : List Cond := u_ws RX0 TX0 6
theorem nmX0 : ∀ a, a < 6 → ∀ b, b < 6 → a ≠ b → (TX0 a).2.1 ≠ (TX0 b).2.1 := by decide +kernel
theorem tyX0_ok : ∀ k, k < 6 → parseFieldDescriptor (TX0 k).2.2.1 = some (tyX0 k) := by decide +kernel
abbrev cX0_init : ByteArray := prog_2_method_1_code
def yX0_init : MethodName := ⟨RX0, "<init>", "()V"⟩
abbrev cX0_clear : ByteArray := prog_2_method_2_code
def yX0_clear : MethodName := ⟨RX0, "clear", "()V"⟩
abbrev cX0_prepare : ByteArray := prog_2_method_3_code
def yX0_prepare : MethodName := ⟨RX0, "prepare", "()V"⟩
abbrev cX0_forgetPasts : ByteArray := prog_2_method_4_code
def yX0_forgetPasts : MethodName := ⟨RX0, "forgetPasts", "()V"⟩
abbrev cX0_turnForItself : ByteArray := prog_2_method_5_code
def yX0_turnForItself : MethodName := ⟨RX0, "turnForItself", "([II)V"⟩
abbrev cX0_turnDifference : ByteArray := prog_2_method_6_code
def yX0_turnDifference : MethodName := ⟨RX0, "turnDifference", "([II)V"⟩
abbrev cX0_scaled : ByteArray := prog_2_method_7_code
def yX0_scaled : MethodName := ⟨RX0, "scaled", "(II)I"⟩
abbrev cX0_turn : ByteArray := prog_2_method_8_code
def yX0_turn : MethodName := ⟨RX0, "turn", "()V"⟩
abbrev cX0_alongRow : ByteArray := prog_2_method_9_code
def yX0_alongRow : MethodName := ⟨RX0, "alongRow", "(II)I"⟩
abbrev cX0_alongColumn : ByteArray := prog_2_method_10_code
def yX0_alongColumn : MethodName := ⟨RX0, "alongColumn", "(II)I"⟩
abbrev cX0_wave : ByteArray := prog_2_method_11_code
def yX0_wave : MethodName := ⟨RX0, "wave", "(II)I"⟩
def RX1 : String := "PictureDeck$Coming"
def TX1 : u_T := fun k => match k with
  | 0 => ("PictureDeck$Coming", "levels", "[I", true)
  | 1 => ("PictureDeck$Coming", "forItself", "Z", false)
  | 2 => ("PictureDeck$Coming", "directions", "I", false)
  | _ => ("PictureDeck$Coming", "anything", "Z", false)
def tyX1 : Nat → FieldType := fun k => match k with
  | 0 => .array .int
  | 1 => .boolean
  | 2 => .int
  | _ => .boolean
abbrev wsX10 : List Cond := u_ws RX1 TX1 4
theorem nmX1 : ∀ a, a < 4 → ∀ b, b < 4 → a ≠ b → (TX1 a).2.1 ≠ (TX1 b).2.1 := by decide +kernel
theorem tyX1_ok : ∀ k, k < 4 → parseFieldDescriptor (TX1 k).2.2.1 = some (tyX1 k) := by decide +kernel
abbrev cX1_init : ByteArray := prog_3_method_1_code
def yX1_init : MethodName := ⟨RX1, "<init>", "()V"⟩
abbrev cX1_clear : ByteArray := prog_3_method_2_code
def yX1_clear : MethodName := ⟨RX1, "clear", "()V"⟩
def RX2 : String := "PictureDeck$Motion"
def TX2 : u_T := fun k => match k with
  | 0 => ("PictureDeck$Motion", "parts", "[I", true)
  | 1 => ("PictureDeck$Motion", "most", "[I", true)
  | _ => ("PictureDeck$Motion", "whole", "Z", false)
def tyX2 : Nat → FieldType := fun k => match k with
  | 0 => .array .int
  | 1 => .array .int
  | _ => .boolean
abbrev wsX20 : List Cond := u_ws RX2 TX2 3
theorem nmX2 : ∀ a, a < 3 → ∀ b, b < 3 → a ≠ b → (TX2 a).2.1 ≠ (TX2 b).2.1 := by decide +kernel
theorem tyX2_ok : ∀ k, k < 3 → parseFieldDescriptor (TX2 k).2.2.1 = some (tyX2 k) := by decide +kernel
abbrev cX2_init : ByteArray := prog_4_method_1_code
def yX2_init : MethodName := ⟨RX2, "<init>", "()V"⟩
abbrev cX2_prepare : ByteArray := prog_4_method_2_code
def yX2_prepare : MethodName := ⟨RX2, "prepare", "(IIZ)V"⟩
abbrev cX2_rest : ByteArray := prog_4_method_3_code
def yX2_rest : MethodName := ⟨RX2, "rest", "()V"⟩
abbrev cX2_reaches : ByteArray := prog_4_method_4_code
def yX2_reaches : MethodName := ⟨RX2, "reaches", "(II)Z"⟩
abbrev cX2_move : ByteArray := prog_4_method_5_code
def yX2_move : MethodName := ⟨RX2, "move", "(III)V"⟩
abbrev cX2_used : ByteArray := prog_4_method_6_code
def yX2_used : MethodName := ⟨RX2, "used", "(II)I"⟩
abbrev cX2_wrapped : ByteArray := prog_4_method_7_code
def yX2_wrapped : MethodName := ⟨RX2, "wrapped", "(II)I"⟩
def RX3 : String := "PictureDeck$Picture"
def TX3 : u_T := fun k => match k with
  | _ => ("PictureDeck$Picture", "planes", "[LPictureDeck$Plane;", true)
def tyX3 : Nat → FieldType := fun k => match k with
  | _ => .array (.object "PictureDeck$Plane")
abbrev wsX30 : List Cond := u_ws RX3 TX3 1
theorem nmX3 : ∀ a, a < 1 → ∀ b, b < 1 → a ≠ b → (TX3 a).2.1 ≠ (TX3 b).2.1 := by decide +kernel
theorem tyX3_ok : ∀ k, k < 1 → parseFieldDescriptor (TX3 k).2.2.1 = some (tyX3 k) := by decide +kernel
abbrev cX3_init : ByteArray := prog_5_method_1_code
def yX3_init : MethodName := ⟨RX3, "<init>", "()V"⟩
abbrev cX3_clear : ByteArray := prog_5_method_2_code
def yX3_clear : MethodName := ⟨RX3, "clear", "(II)V"⟩
abbrev cX3_copyFrom : ByteArray := prog_5_method_3_code
def yX3_copyFrom : MethodName := ⟨RX3, "copyFrom", "(LPictureDeck$Picture;)V"⟩
abbrev cX3_mixed : ByteArray := prog_5_method_4_code
def yX3_mixed : MethodName := ⟨RX3, "mixed", "(II)I"⟩
abbrev cX3_tone : ByteArray := prog_5_method_5_code
def yX3_tone : MethodName := ⟨RX3, "tone", "(F)I"⟩
def RX4 : String := "PictureDeck$Plane"
def TX4 : u_T := fun k => match k with
  | 0 => ("PictureDeck$Plane", "side", "I", true)
  | 1 => ("PictureDeck$Plane", "samples", "[I", true)
  | 2 => ("PictureDeck$Plane", "width", "I", false)
  | _ => ("PictureDeck$Plane", "height", "I", false)
def tyX4 : Nat → FieldType := fun k => match k with
  | 0 => .int
  | 1 => .array .int
  | 2 => .int
  | _ => .int
abbrev wsX40 : List Cond := u_ws RX4 TX4 4
theorem nmX4 : ∀ a, a < 4 → ∀ b, b < 4 → a ≠ b → (TX4 a).2.1 ≠ (TX4 b).2.1 := by decide +kernel
theorem tyX4_ok : ∀ k, k < 4 → parseFieldDescriptor (TX4 k).2.2.1 = some (tyX4 k) := by decide +kernel
abbrev cX4_init : ByteArray := prog_6_method_1_code
def yX4_init : MethodName := ⟨RX4, "<init>", "(I)V"⟩
abbrev cX4_clear : ByteArray := prog_6_method_2_code
def yX4_clear : MethodName := ⟨RX4, "clear", "(II)V"⟩
abbrev cX4_copyFrom : ByteArray := prog_6_method_3_code
def yX4_copyFrom : MethodName := ⟨RX4, "copyFrom", "(LPictureDeck$Plane;)V"⟩
abbrev cX4_holds : ByteArray := prog_6_method_4_code
def yX4_holds : MethodName := ⟨RX4, "holds", "(II)Z"⟩
abbrev cX4_nearest : ByteArray := prog_6_method_5_code
def yX4_nearest : MethodName := ⟨RX4, "nearest", "(II)I"⟩
abbrev cX4_put : ByteArray := prog_6_method_6_code
def yX4_put : MethodName := ⟨RX4, "put", "(III)V"⟩
abbrev cX4_putBlock : ByteArray := prog_6_method_7_code
def yX4_putBlock : MethodName := ⟨RX4, "putBlock", "(II[IZ)V"⟩
abbrev cX4_fetchSquare : ByteArray := prog_6_method_8_code
def yX4_fetchSquare : MethodName := ⟨RX4, "fetchSquare", "(LPictureDeck$Plane;IIIIZ)V"⟩
abbrev cX4_fetched : ByteArray := prog_6_method_9_code
def yX4_fetched : MethodName := ⟨RX4, "fetched", "(IIII)I"⟩
abbrev cX4_brighten : ByteArray := prog_6_method_10_code
def yX4_brighten : MethodName := ⟨RX4, "brighten", "(FF)V"⟩
abbrev cX4_meanSquareTo : ByteArray := prog_6_method_11_code
def yX4_meanSquareTo : MethodName := ⟨RX4, "meanSquareTo", "(LPictureDeck$Plane;)F"⟩
def RX5 : String := "PictureDeck$Shelf"
def TX5 : u_T := fun k => match k with
  | 0 => ("PictureDeck$Shelf", "older", "LPictureDeck$Picture;", false)
  | 1 => ("PictureDeck$Shelf", "newer", "LPictureDeck$Picture;", false)
  | 2 => ("PictureDeck$Shelf", "open", "LPictureDeck$Picture;", false)
  | 3 => ("PictureDeck$Shelf", "shown", "LPictureDeck$Picture;", false)
  | 4 => ("PictureDeck$Shelf", "kept", "LPictureDeck$Plane;", true)
  | 5 => ("PictureDeck$Shelf", "hasKept", "Z", false)
  | 6 => ("PictureDeck$Shelf", "newerWaits", "Z", false)
  | 7 => ("PictureDeck$Shelf", "doneCount", "I", false)
  | _ => ("PictureDeck$Shelf", "shownCount", "I", false)
def tyX5 : Nat → FieldType := fun k => match k with
  | 0 => .object "PictureDeck$Picture"
  | 1 => .object "PictureDeck$Picture"
  | 2 => .object "PictureDeck$Picture"
  | 3 => .object "PictureDeck$Picture"
  | 4 => .object "PictureDeck$Plane"
  | 5 => .boolean
  | 6 => .boolean
  | 7 => .int
  | _ => .int
abbrev wsX50 : List Cond := u_ws RX5 TX5 9
theorem nmX5 : ∀ a, a < 9 → ∀ b, b < 9 → a ≠ b → (TX5 a).2.1 ≠ (TX5 b).2.1 := by decide +kernel
theorem tyX5_ok : ∀ k, k < 9 → parseFieldDescriptor (TX5 k).2.2.1 = some (tyX5 k) := by decide +kernel
abbrev cX5_init : ByteArray := prog_7_method_1_code
def yX5_init : MethodName := ⟨RX5, "<init>", "()V"⟩
abbrev cX5_clear : ByteArray := prog_7_method_2_code
def yX5_clear : MethodName := ⟨RX5, "clear", "(II)V"⟩
abbrev cX5_showOpen : ByteArray := prog_7_method_3_code
def yX5_showOpen : MethodName := ⟨RX5, "showOpen", "()V"⟩
abbrev cX5_showNewer : ByteArray := prog_7_method_4_code
def yX5_showNewer : MethodName := ⟨RX5, "showNewer", "()V"⟩
abbrev cX5_turnOpenIntoReference : ByteArray := prog_7_method_5_code
def yX5_turnOpenIntoReference : MethodName := ⟨RX5, "turnOpenIntoReference", "()V"⟩
abbrev cX5_keepShown : ByteArray := prog_7_method_6_code
def yX5_keepShown : MethodName := ⟨RX5, "keepShown", "()V"⟩
def RX6 : String := "PictureDeck"
def TX6 : u_T := fun k => match k with
  | 0 => ("PictureDeck", "shelf", "LPictureDeck$Shelf;", true)
  | 1 => ("PictureDeck", "blocks", "LPictureDeck$Blocks;", true)
  | 2 => ("PictureDeck", "motion", "LPictureDeck$Motion;", true)
  | 3 => ("PictureDeck", "coming", "LPictureDeck$Coming;", true)
  | 4 => ("PictureDeck", "across", "I", false)
  | 5 => ("PictureDeck", "down", "I", false)
  | 6 => ("PictureDeck", "kind", "I", false)
  | 7 => ("PictureDeck", "made", "I", false)
  | _ => ("PictureDeck", "fetchedBy", "I", false)
def tyX6 : Nat → FieldType := fun k => match k with
  | 0 => .object "PictureDeck$Shelf"
  | 1 => .object "PictureDeck$Blocks"
  | 2 => .object "PictureDeck$Motion"
  | 3 => .object "PictureDeck$Coming"
  | 4 => .int
  | 5 => .int
  | 6 => .int
  | 7 => .int
  | _ => .int
abbrev wsX60 : List Cond := u_ws RX6 TX6 9
theorem nmX6 : ∀ a, a < 9 → ∀ b, b < 9 → a ≠ b → (TX6 a).2.1 ≠ (TX6 b).2.1 := by decide +kernel
theorem tyX6_ok : ∀ k, k < 9 → parseFieldDescriptor (TX6 k).2.2.1 = some (tyX6 k) := by decide +kernel
abbrev cX6_init : ByteArray := prog_1_method_1_code
def yX6_init : MethodName := ⟨RX6, "<init>", "()V"⟩
abbrev cX6_size : ByteArray := prog_1_method_2_code
def yX6_size : MethodName := ⟨RX6, "size", "(II)V"⟩
abbrev cX6_matrix : ByteArray := prog_1_method_3_code
def yX6_matrix : MethodName := ⟨RX6, "matrix", "(III)I"⟩
abbrev cX6_begin : ByteArray := prog_1_method_4_code
def yX6_begin : MethodName := ⟨RX6, "begin", "(IIIZ)V"⟩
abbrev cX6_scale : ByteArray := prog_1_method_5_code
def yX6_scale : MethodName := ⟨RX6, "scale", "(I)V"⟩
abbrev cX6_itself : ByteArray := prog_1_method_6_code
def yX6_itself : MethodName := ⟨RX6, "itself", "()V"⟩
abbrev cX6_vector : ByteArray := prog_1_method_7_code
def yX6_vector : MethodName := ⟨RX6, "vector", "(III)V"⟩
abbrev cX6_level : ByteArray := prog_1_method_8_code
def yX6_level : MethodName := ⟨RX6, "level", "(III)V"⟩
abbrev cX6_square : ByteArray := prog_1_method_9_code
def yX6_square : MethodName := ⟨RX6, "square", "()I"⟩
abbrev cX6_leave : ByteArray := prog_1_method_10_code
def yX6_leave : MethodName := ⟨RX6, "leave", "(I)I"⟩
abbrev cX6_done : ByteArray := prog_1_method_11_code
def yX6_done : MethodName := ⟨RX6, "done", "()I"⟩
abbrev cX6_last : ByteArray := prog_1_method_12_code
def yX6_last : MethodName := ⟨RX6, "last", "()I"⟩
abbrev cX6_sample : ByteArray := prog_1_method_13_code
def yX6_sample : MethodName := ⟨RX6, "sample", "(III)I"⟩
abbrev cX6_colour : ByteArray := prog_1_method_14_code
def yX6_colour : MethodName := ⟨RX6, "colour", "(II)I"⟩
abbrev cX6_light : ByteArray := prog_1_method_15_code
def yX6_light : MethodName := ⟨RX6, "light", "(FF)V"⟩
abbrev cX6_keep : ByteArray := prog_1_method_16_code
def yX6_keep : MethodName := ⟨RX6, "keep", "()V"⟩
abbrev cX6_error : ByteArray := prog_1_method_17_code
def yX6_error : MethodName := ⟨RX6, "error", "()F"⟩
abbrev cX6_told : ByteArray := prog_1_method_18_code
def yX6_told : MethodName := ⟨RX6, "told", "(I)I"⟩
abbrev cX6_beginAnew : ByteArray := prog_1_method_19_code
def yX6_beginAnew : MethodName := ⟨RX6, "beginAnew", "(II)V"⟩
abbrev cX6_squaresLeft : ByteArray := prog_1_method_20_code
def yX6_squaresLeft : MethodName := ⟨RX6, "squaresLeft", "()I"⟩
abbrev cX6_kindHas : ByteArray := prog_1_method_21_code
def yX6_kindHas : MethodName := ⟨RX6, "kindHas", "(I)Z"⟩
abbrev cX6_isEnoughTold : ByteArray := prog_1_method_22_code
def yX6_isEnoughTold : MethodName := ⟨RX6, "isEnoughTold", "()Z"⟩
abbrev cX6_mayLeaveOut : ByteArray := prog_1_method_23_code
def yX6_mayLeaveOut : MethodName := ⟨RX6, "mayLeaveOut", "()Z"⟩
abbrev cX6_makeForItself : ByteArray := prog_1_method_24_code
def yX6_makeForItself : MethodName := ⟨RX6, "makeForItself", "()V"⟩
abbrev cX6_makeFetched : ByteArray := prog_1_method_25_code
def yX6_makeFetched : MethodName := ⟨RX6, "makeFetched", "()V"⟩
abbrev cX6_placeBlock : ByteArray := prog_1_method_26_code
def yX6_placeBlock : MethodName := ⟨RX6, "placeBlock", "(IZ)V"⟩
abbrev cX6_fetchSquare : ByteArray := prog_1_method_27_code
def yX6_fetchSquare : MethodName := ⟨RX6, "fetchSquare", "()V"⟩
abbrev cX6_fetchBy : ByteArray := prog_1_method_28_code
def yX6_fetchBy : MethodName := ⟨RX6, "fetchBy", "(ILPictureDeck$Picture;Z)V"⟩
abbrev cX6_squareLeft : ByteArray := prog_1_method_29_code
def yX6_squareLeft : MethodName := ⟨RX6, "squareLeft", "(I)I"⟩
abbrev cX6_squareTop : ByteArray := prog_1_method_30_code
def yX6_squareTop : MethodName := ⟨RX6, "squareTop", "(I)I"⟩
abbrev cX6_squareSide : ByteArray := prog_1_method_31_code
def yX6_squareSide : MethodName := ⟨RX6, "squareSide", "(I)I"⟩
abbrev cX6_planeOf : ByteArray := prog_1_method_32_code
def yX6_planeOf : MethodName := ⟨RX6, "planeOf", "(I)I"⟩
abbrev cX6_isWithin : ByteArray := prog_1_method_33_code
def yX6_isWithin : MethodName := ⟨RX6, "isWithin", "(III)Z"⟩
abbrev cX6_bounded : ByteArray := prog_1_method_34_code
def yX6_bounded : MethodName := ⟨RX6, "bounded", "(III)I"⟩
def RX7 : String := "PictureDeckModel"
def TX7 : u_T := fun k => match k with
  | 0 => ("PictureDeckModel", "thrown", "I", false)
  | 1 => ("PictureDeckModel", "w", "I", false)
  | 2 => ("PictureDeckModel", "h", "I", false)
  | 3 => ("PictureDeckModel", "matrices", "[I", true)
  | 4 => ("PictureDeckModel", "quarter", "[I", true)
  | 5 => ("PictureDeckModel", "zigzag", "[I", true)
  | 6 => ("PictureDeckModel", "now", "[I", true)
  | 7 => ("PictureDeckModel", "oldOne", "[I", true)
  | 8 => ("PictureDeckModel", "newOne", "[I", true)
  | 9 => ("PictureDeckModel", "seen", "[I", true)
  | 10 => ("PictureDeckModel", "kept", "[I", true)
  | 11 => ("PictureDeckModel", "newCame", "Z", false)
  | 12 => ("PictureDeckModel", "newSeen", "Z", false)
  | 13 => ("PictureDeckModel", "isSeen", "Z", false)
  | 14 => ("PictureDeckModel", "isKept", "Z", false)
  | 15 => ("PictureDeckModel", "doneCount", "I", false)
  | 16 => ("PictureDeckModel", "seenCount", "I", false)
  | 17 => ("PictureDeckModel", "kind", "I", false)
  | 18 => ("PictureDeckModel", "count", "I", false)
  | 19 => ("PictureDeckModel", "whole", "Z", false)
  | 20 => ("PictureDeckModel", "scale", "I", false)
  | 21 => ("PictureDeckModel", "reaches", "[I", true)
  | 22 => ("PictureDeckModel", "vectors", "[I", true)
  | 23 => ("PictureDeckModel", "pasts", "[I", true)
  | 24 => ("PictureDeckModel", "own", "Z", false)
  | 25 => ("PictureDeckModel", "told0", "Z", false)
  | 26 => ("PictureDeckModel", "directions", "[Z", true)
  | 27 => ("PictureDeckModel", "levels", "[I", true)
  | 28 => ("PictureDeckModel", "before", "Z", false)
  | 29 => ("PictureDeckModel", "beforeOwn", "Z", false)
  | 30 => ("PictureDeckModel", "beforeDirections", "[Z", true)
  | 31 => ("PictureDeckModel", "coefficients", "[I", true)
  | 32 => ("PictureDeckModel", "between", "[I", true)
  | _ => ("PictureDeckModel", "made", "[I", true)
def tyX7 : Nat → FieldType := fun k => match k with
  | 0 => .int
  | 1 => .int
  | 2 => .int
  | 3 => .array .int
  | 4 => .array .int
  | 5 => .array .int
  | 6 => .array .int
  | 7 => .array .int
  | 8 => .array .int
  | 9 => .array .int
  | 10 => .array .int
  | 11 => .boolean
  | 12 => .boolean
  | 13 => .boolean
  | 14 => .boolean
  | 15 => .int
  | 16 => .int
  | 17 => .int
  | 18 => .int
  | 19 => .boolean
  | 20 => .int
  | 21 => .array .int
  | 22 => .array .int
  | 23 => .array .int
  | 24 => .boolean
  | 25 => .boolean
  | 26 => .array .boolean
  | 27 => .array .int
  | 28 => .boolean
  | 29 => .boolean
  | 30 => .array .boolean
  | 31 => .array .int
  | 32 => .array .int
  | _ => .array .int
abbrev wsX70 : List Cond := u_ws RX7 TX7 34
theorem nmX7 : ∀ a, a < 34 → ∀ b, b < 34 → a ≠ b → (TX7 a).2.1 ≠ (TX7 b).2.1 := by decide +kernel
theorem tyX7_ok : ∀ k, k < 34 → parseFieldDescriptor (TX7 k).2.2.1 = some (tyX7 k) := by decide +kernel
abbrev cX7_init : ByteArray := prog_9_method_1_code
def yX7_init : MethodName := ⟨RX7, "<init>", "()V"⟩
abbrev cX7_thrown : ByteArray := prog_9_method_2_code
def yX7_thrown : MethodName := ⟨RX7, "thrown", "()I"⟩
abbrev cX7_size : ByteArray := prog_9_method_3_code
def yX7_size : MethodName := ⟨RX7, "size", "(II)V"⟩
abbrev cX7_clearVectors : ByteArray := prog_9_method_4_code
def yX7_clearVectors : MethodName := ⟨RX7, "clearVectors", "()V"⟩
abbrev cX7_clearPasts : ByteArray := prog_9_method_5_code
def yX7_clearPasts : MethodName := ⟨RX7, "clearPasts", "()V"⟩
abbrev cX7_forget : ByteArray := prog_9_method_6_code
def yX7_forget : MethodName := ⟨RX7, "forget", "()V"⟩
abbrev cX7_matrix : ByteArray := prog_9_method_7_code
def yX7_matrix : MethodName := ⟨RX7, "matrix", "(III)I"⟩
abbrev cX7_begin : ByteArray := prog_9_method_8_code
def yX7_begin : MethodName := ⟨RX7, "begin", "(IIIZ)V"⟩
abbrev cX7_scale : ByteArray := prog_9_method_9_code
def yX7_scale : MethodName := ⟨RX7, "scale", "(I)V"⟩
abbrev cX7_isFull : ByteArray := prog_9_method_10_code
def yX7_isFull : MethodName := ⟨RX7, "isFull", "()Z"⟩
abbrev cX7_itself : ByteArray := prog_9_method_11_code
def yX7_itself : MethodName := ⟨RX7, "itself", "()V"⟩
abbrev cX7_moved : ByteArray := prog_9_method_12_code
def yX7_moved : MethodName := ⟨RX7, "moved", "(III)I"⟩
abbrev cX7_vector : ByteArray := prog_9_method_13_code
def yX7_vector : MethodName := ⟨RX7, "vector", "(III)V"⟩
abbrev cX7_level : ByteArray := prog_9_method_14_code
def yX7_level : MethodName := ⟨RX7, "level", "(III)V"⟩
abbrev cX7_within : ByteArray := prog_9_method_15_code
def yX7_within : MethodName := ⟨RX7, "within", "(III)I"⟩
abbrev cX7_planeOf : ByteArray := prog_9_method_16_code
def yX7_planeOf : MethodName := ⟨RX7, "planeOf", "(I)I"⟩
abbrev cX7_scaleAll : ByteArray := prog_9_method_17_code
def yX7_scaleAll : MethodName := ⟨RX7, "scaleAll", "(I)V"⟩
abbrev cX7_factor : ByteArray := prog_9_method_18_code
def yX7_factor : MethodName := ⟨RX7, "factor", "(II)I"⟩
abbrev cX7_makeSamples : ByteArray := prog_9_method_19_code
def yX7_makeSamples : MethodName := ⟨RX7, "makeSamples", "()V"⟩
abbrev cX7_wideOf : ByteArray := prog_9_method_20_code
def yX7_wideOf : MethodName := ⟨RX7, "wideOf", "(I)I"⟩
abbrev cX7_highOf : ByteArray := prog_9_method_21_code
def yX7_highOf : MethodName := ⟨RX7, "highOf", "(I)I"⟩
abbrev cX7_place : ByteArray := prog_9_method_22_code
def yX7_place : MethodName := ⟨RX7, "place", "(III)I"⟩
abbrev cX7_look : ByteArray := prog_9_method_23_code
def yX7_look : MethodName := ⟨RX7, "look", "(IIII)I"⟩
abbrev cX7_fetch : ByteArray := prog_9_method_24_code
def yX7_fetch : MethodName := ⟨RX7, "fetch", "(IIII)I"⟩
abbrev cX7_fetched : ByteArray := prog_9_method_25_code
def yX7_fetched : MethodName := ⟨RX7, "fetched", "(ZZIII)I"⟩
abbrev cX7_putBlock : ByteArray := prog_9_method_26_code
def yX7_putBlock : MethodName := ⟨RX7, "putBlock", "(IZZ)V"⟩
abbrev cX7_square : ByteArray := prog_9_method_27_code
def yX7_square : MethodName := ⟨RX7, "square", "()I"⟩
abbrev cX7_leave : ByteArray := prog_9_method_28_code
def yX7_leave : MethodName := ⟨RX7, "leave", "(I)I"⟩
abbrev cX7_show : ByteArray := prog_9_method_29_code
def yX7_show : MethodName := ⟨RX7, "show", "([I)V"⟩
abbrev cX7_done : ByteArray := prog_9_method_30_code
def yX7_done : MethodName := ⟨RX7, "done", "()I"⟩
abbrev cX7_last : ByteArray := prog_9_method_31_code
def yX7_last : MethodName := ⟨RX7, "last", "()I"⟩
abbrev cX7_sample : ByteArray := prog_9_method_32_code
def yX7_sample : MethodName := ⟨RX7, "sample", "(III)I"⟩
abbrev cX7_cutOff : ByteArray := prog_9_method_33_code
def yX7_cutOff : MethodName := ⟨RX7, "cutOff", "(F)I"⟩
abbrev cX7_colour : ByteArray := prog_9_method_34_code
def yX7_colour : MethodName := ⟨RX7, "colour", "(II)I"⟩
abbrev cX7_light : ByteArray := prog_9_method_35_code
def yX7_light : MethodName := ⟨RX7, "light", "(FF)V"⟩
abbrev cX7_keep : ByteArray := prog_9_method_36_code
def yX7_keep : MethodName := ⟨RX7, "keep", "()V"⟩
abbrev cX7_error : ByteArray := prog_9_method_37_code
def yX7_error : MethodName := ⟨RX7, "error", "()F"⟩
abbrev cX7_told : ByteArray := prog_9_method_38_code
def yX7_told : MethodName := ⟨RX7, "told", "(I)I"⟩
def RJ6 : String := "java/lang/Integer"
def TJ6 : u_T := fun k => match k with
  | _ => ("", "", "", false)
def tyJ6 : Nat → FieldType := fun k => match k with
  | _ => .int
abbrev wsJ60 : List Cond := u_ws RJ6 TJ6 0
theorem nmJ6 : ∀ a, a < 0 → ∀ b, b < 0 → a ≠ b → (TJ6 a).2.1 ≠ (TJ6 b).2.1 := by decide +kernel
theorem tyJ6_ok : ∀ k, k < 0 → parseFieldDescriptor (TJ6 k).2.2.1 = some (tyJ6 k) := by decide +kernel
abbrev cJ6_signum_0f7a4 : ByteArray := prog_14_method_56_code
def yJ6_signum_0f7a4 : MethodName := ⟨RJ6, "signum", "(I)I"⟩
def RJ0 : String := "java/lang/String"
def TJ0 : u_T := fun k => match k with
  | _ => ("", "", "", false)
def tyJ0 : Nat → FieldType := fun k => match k with
  | _ => .int
abbrev wsJ00 : List Cond := u_ws RJ0 TJ0 0
theorem nmJ0 : ∀ a, a < 0 → ∀ b, b < 0 → a ≠ b → (TJ0 a).2.1 ≠ (TJ0 b).2.1 := by decide +kernel
theorem tyJ0_ok : ∀ k, k < 0 → parseFieldDescriptor (TJ0 k).2.2.1 = some (tyJ0 k) := by decide +kernel
def RJ10 : String := "java/lang/System"
def TJ10 : u_T := fun k => match k with
  | _ => ("", "", "", false)
def tyJ10 : Nat → FieldType := fun k => match k with
  | _ => .int
abbrev wsJ100 : List Cond := u_ws RJ10 TJ10 0
theorem nmJ10 : ∀ a, a < 0 → ∀ b, b < 0 → a ≠ b → (TJ10 a).2.1 ≠ (TJ10 b).2.1 := by decide +kernel
theorem tyJ10_ok : ∀ k, k < 0 → parseFieldDescriptor (TJ10 k).2.2.1 = some (tyJ10 k) := by decide +kernel
def RJ7 : String := "java/util/Arrays"
def TJ7 : u_T := fun k => match k with
  | _ => ("", "", "", false)
def tyJ7 : Nat → FieldType := fun k => match k with
  | _ => .int
abbrev wsJ70 : List Cond := u_ws RJ7 TJ7 0
theorem nmJ7 : ∀ a, a < 0 → ∀ b, b < 0 → a ≠ b → (TJ7 a).2.1 ≠ (TJ7 b).2.1 := by decide +kernel
theorem tyJ7_ok : ∀ k, k < 0 → parseFieldDescriptor (TJ7 k).2.2.1 = some (tyJ7 k) := by decide +kernel
abbrev cJ7_fill_53178 : ByteArray := prog_19_method_103_code
def yJ7_fill_53178 : MethodName := ⟨RJ7, "fill", "([II)V"⟩
def RL : String := "PictureDeckLaw"
abbrev cL_size : ByteArray := method_3_code
def yL_size : MethodName := ⟨RL, "size", "(LPictureDeck;II)I"⟩
abbrev cL_matrix : ByteArray := method_4_code
def yL_matrix : MethodName := ⟨RL, "matrix", "(LPictureDeck;III[J)I"⟩
abbrev cL_begin : ByteArray := method_5_code
def yL_begin : MethodName := ⟨RL, "begin", "(LPictureDeck;IIIZ)I"⟩
abbrev cL_scale : ByteArray := method_6_code
def yL_scale : MethodName := ⟨RL, "scale", "(LPictureDeck;I)I"⟩
abbrev cL_itself : ByteArray := method_7_code
def yL_itself : MethodName := ⟨RL, "itself", "(LPictureDeck;)I"⟩
abbrev cL_vector : ByteArray := method_8_code
def yL_vector : MethodName := ⟨RL, "vector", "(LPictureDeck;III)I"⟩
abbrev cL_level : ByteArray := method_9_code
def yL_level : MethodName := ⟨RL, "level", "(LPictureDeck;III)I"⟩
abbrev cL_square : ByteArray := method_10_code
def yL_square : MethodName := ⟨RL, "square", "(LPictureDeck;[J)I"⟩
abbrev cL_leave : ByteArray := method_11_code
def yL_leave : MethodName := ⟨RL, "leave", "(LPictureDeck;I[J)I"⟩
abbrev cL_done : ByteArray := method_12_code
def yL_done : MethodName := ⟨RL, "done", "(LPictureDeck;[J)I"⟩
abbrev cL_last : ByteArray := method_13_code
def yL_last : MethodName := ⟨RL, "last", "(LPictureDeck;[J)I"⟩
abbrev cL_sample : ByteArray := method_14_code
def yL_sample : MethodName := ⟨RL, "sample", "(LPictureDeck;III[J)I"⟩
abbrev cL_colour : ByteArray := method_15_code
def yL_colour : MethodName := ⟨RL, "colour", "(LPictureDeck;II[J)I"⟩
abbrev cL_light : ByteArray := method_16_code
def yL_light : MethodName := ⟨RL, "light", "(LPictureDeck;FF)I"⟩
abbrev cL_keep : ByteArray := method_17_code
def yL_keep : MethodName := ⟨RL, "keep", "(LPictureDeck;)I"⟩
abbrev cL_error : ByteArray := method_18_code
def yL_error : MethodName := ⟨RL, "error", "(LPictureDeck;[D)I"⟩
abbrev cL_told : ByteArray := method_19_code
def yL_told : MethodName := ⟨RL, "told", "(LPictureDeck;I[J)I"⟩
def wsX0_init : List Cond := .code yX0_init cX0_init 1 none :: ([.methodLink RX0 3 objectInit, .instanceMethod objectInit, .code objectInit ⟨#[0xb1]⟩ 1 none, .classLink RX0 9 "[[I", .arrayClass .int, .fieldLink RX0 11 "PictureDeck$Blocks" "matrices" "[[I", .fieldLink RX0 16 "PictureDeck$Blocks" "pasts" "[I", .fieldLink RX0 20 "PictureDeck$Blocks" "turned" "[I", .fieldLink RX0 23 "PictureDeck$Blocks" "coefficients" "[I", .fieldLink RX0 26 "PictureDeck$Blocks" "halfTurned" "[I"] ++ wsX00)
def wsJ7_fill_53178 : List Cond := .code yJ7_fill_53178 cJ7_fill_53178 4 none :: ([])
def wsX0_forgetPasts : List Cond := .code yX0_forgetPasts cX0_forgetPasts 1 none :: ([.fieldLink RX0 16 "PictureDeck$Blocks" "pasts" "[I", .methodLink RX0 29 yJ7_fill_53178, .static yJ7_fill_53178, .initialized RJ7, .code yJ7_fill_53178 cJ7_fill_53178 4 none] ++ wsX00)
def wsX0_prepare : List Cond := .code yX0_prepare cX0_prepare 1 none :: ([.fieldLink RX0 38 "PictureDeck$Blocks" "factor" "I", .methodLink RX0 42 yX0_forgetPasts, .instanceMethod yX0_forgetPasts, .selects RX0 yX0_forgetPasts yX0_forgetPasts, .initialized RX0, .code yX0_forgetPasts cX0_forgetPasts 1 none, .fieldLink RX0 16 "PictureDeck$Blocks" "pasts" "[I", .methodLink RX0 29 yJ7_fill_53178, .static yJ7_fill_53178, .initialized RJ7, .code yJ7_fill_53178 cJ7_fill_53178 4 none] ++ wsX00)
def wsX0_clear : List Cond := .code yX0_clear cX0_clear 1 none :: ([.fieldLink RX0 11 "PictureDeck$Blocks" "matrices" "[[I", .methodLink RX0 29 yJ7_fill_53178, .static yJ7_fill_53178, .initialized RJ7, .code yJ7_fill_53178 cJ7_fill_53178 4 none, .methodLink RX0 35 yX0_prepare, .instanceMethod yX0_prepare, .selects RX0 yX0_prepare yX0_prepare, .initialized RX0, .code yX0_prepare cX0_prepare 1 none, .fieldLink RX0 38 "PictureDeck$Blocks" "factor" "I", .methodLink RX0 42 yX0_forgetPasts, .instanceMethod yX0_forgetPasts, .selects RX0 yX0_forgetPasts yX0_forgetPasts, .code yX0_forgetPasts cX0_forgetPasts 1 none, .fieldLink RX0 16 "PictureDeck$Blocks" "pasts" "[I"] ++ wsX00)
def wsX6_planeOf : List Cond := .code yX6_planeOf cX6_planeOf 1 (some .int) :: ([])
def wsX6_bounded : List Cond := .code yX6_bounded cX6_bounded 3 (some .int) :: ([])
def wsJ6_signum_0f7a4 : List Cond := .code yJ6_signum_0f7a4 cJ6_signum_0f7a4 1 (some .int) :: ([])
def wsX0_scaled : List Cond := .code yX0_scaled cX0_scaled 4 (some .int) :: ([.fieldLink RX0 38 "PictureDeck$Blocks" "factor" "I", .methodLink RX0 63 yJ6_signum_0f7a4, .static yJ6_signum_0f7a4, .initialized RJ6, .code yJ6_signum_0f7a4 cJ6_signum_0f7a4 1 (some .int), .static yX6_bounded, .initialized RX6, .code yX6_bounded cX6_bounded 3 (some .int)] ++ wsX00)
def wsX0_wave : List Cond := .code yX0_wave cX0_wave 2 (some .int) :: ([.fieldLink RX0 77 "PictureDeck$Blocks" "WAVE" "[I"])
def wsX0_alongRow : List Cond := .code yX0_alongRow cX0_alongRow 5 (some .int) :: ([.fieldLink RX0 23 "PictureDeck$Blocks" "coefficients" "[I", .methodLink RX0 74 yX0_wave, .static yX0_wave, .initialized RX0, .code yX0_wave cX0_wave 2 (some .int), .fieldLink RX0 77 "PictureDeck$Blocks" "WAVE" "[I"] ++ wsX00)
def wsX0_alongColumn : List Cond := .code yX0_alongColumn cX0_alongColumn 5 (some .int) :: ([.fieldLink RX0 26 "PictureDeck$Blocks" "halfTurned" "[I", .methodLink RX0 74 yX0_wave, .static yX0_wave, .initialized RX0, .code yX0_wave cX0_wave 2 (some .int), .fieldLink RX0 77 "PictureDeck$Blocks" "WAVE" "[I"] ++ wsX00)
def wsX0_turn : List Cond := .code yX0_turn cX0_turn 2 none :: ([.fieldLink RX0 26 "PictureDeck$Blocks" "halfTurned" "[I", .fieldLink RX0 20 "PictureDeck$Blocks" "turned" "[I", .methodLink RX0 68 yX0_alongRow, .instanceMethod yX0_alongRow, .selects RX0 yX0_alongRow yX0_alongRow, .initialized RX0, .code yX0_alongRow cX0_alongRow 5 (some .int), .fieldLink RX0 23 "PictureDeck$Blocks" "coefficients" "[I", .methodLink RX0 74 yX0_wave, .static yX0_wave, .code yX0_wave cX0_wave 2 (some .int), .fieldLink RX0 77 "PictureDeck$Blocks" "WAVE" "[I", .methodLink RX0 71 yX0_alongColumn, .instanceMethod yX0_alongColumn, .selects RX0 yX0_alongColumn yX0_alongColumn, .code yX0_alongColumn cX0_alongColumn 5 (some .int)] ++ wsX00)
def wsX0_turnForItself_r1 : List Cond := [Cond.fieldLink RX0 16 "PictureDeck$Blocks" "pasts" "[I", Cond.fieldLink RX0 23 "PictureDeck$Blocks" "coefficients" "[I", Cond.fieldLink RX0 53 "PictureDeck$Blocks" "ZIGZAG" "[I", Cond.fieldLink RX0 11 "PictureDeck$Blocks" "matrices" "[[I", Cond.static yX6_planeOf, Cond.initialized RX6, Cond.code yX6_planeOf cX6_planeOf 1 (some .int), Cond.static yX6_bounded, Cond.code yX6_bounded cX6_bounded 3 (some .int), Cond.methodLink RX0 56 yX0_scaled, Cond.instanceMethod yX0_scaled, Cond.selects RX0 yX0_scaled yX0_scaled, Cond.initialized RX0, Cond.code yX0_scaled cX0_scaled 4 (some .int), Cond.fieldLink RX0 38 "PictureDeck$Blocks" "factor" "I", Cond.methodLink RX0 63 yJ6_signum_0f7a4, Cond.static yJ6_signum_0f7a4, Cond.initialized RJ6, Cond.code yJ6_signum_0f7a4 cJ6_signum_0f7a4 1 (some .int), Cond.methodLink RX0 60 yX0_turn, Cond.instanceMethod yX0_turn, Cond.selects RX0 yX0_turn yX0_turn, Cond.code yX0_turn cX0_turn 2 none, Cond.fieldLink RX0 26 "PictureDeck$Blocks" "halfTurned" "[I"]
def wsX0_turnForItself_r2 : List Cond := [Cond.fieldLink RX0 20 "PictureDeck$Blocks" "turned" "[I", Cond.methodLink RX0 68 yX0_alongRow, Cond.instanceMethod yX0_alongRow, Cond.selects RX0 yX0_alongRow yX0_alongRow, Cond.code yX0_alongRow cX0_alongRow 5 (some .int), Cond.methodLink RX0 74 yX0_wave, Cond.static yX0_wave, Cond.code yX0_wave cX0_wave 2 (some .int), Cond.fieldLink RX0 77 "PictureDeck$Blocks" "WAVE" "[I", Cond.methodLink RX0 71 yX0_alongColumn, Cond.instanceMethod yX0_alongColumn, Cond.selects RX0 yX0_alongColumn yX0_alongColumn, Cond.code yX0_alongColumn cX0_alongColumn 5 (some .int)]
def wsX0_turnForItself : List Cond := .code yX0_turnForItself cX0_turnForItself 6 none :: ((wsX0_turnForItself_r1 ++ wsX0_turnForItself_r2) ++ wsX00)
def wsX0_turnDifference_r1 : List Cond := [Cond.fieldLink RX0 23 "PictureDeck$Blocks" "coefficients" "[I", Cond.fieldLink RX0 53 "PictureDeck$Blocks" "ZIGZAG" "[I", Cond.fieldLink RX0 11 "PictureDeck$Blocks" "matrices" "[[I", Cond.methodLink RX0 63 yJ6_signum_0f7a4, Cond.static yJ6_signum_0f7a4, Cond.initialized RJ6, Cond.code yJ6_signum_0f7a4 cJ6_signum_0f7a4 1 (some .int), Cond.methodLink RX0 56 yX0_scaled, Cond.instanceMethod yX0_scaled, Cond.selects RX0 yX0_scaled yX0_scaled, Cond.initialized RX0, Cond.code yX0_scaled cX0_scaled 4 (some .int), Cond.fieldLink RX0 38 "PictureDeck$Blocks" "factor" "I", Cond.static yX6_bounded, Cond.initialized RX6, Cond.code yX6_bounded cX6_bounded 3 (some .int), Cond.methodLink RX0 60 yX0_turn, Cond.instanceMethod yX0_turn, Cond.selects RX0 yX0_turn yX0_turn, Cond.code yX0_turn cX0_turn 2 none, Cond.fieldLink RX0 26 "PictureDeck$Blocks" "halfTurned" "[I", Cond.fieldLink RX0 20 "PictureDeck$Blocks" "turned" "[I", Cond.methodLink RX0 68 yX0_alongRow, Cond.instanceMethod yX0_alongRow]
def wsX0_turnDifference_r2 : List Cond := [Cond.selects RX0 yX0_alongRow yX0_alongRow, Cond.code yX0_alongRow cX0_alongRow 5 (some .int), Cond.methodLink RX0 74 yX0_wave, Cond.static yX0_wave, Cond.code yX0_wave cX0_wave 2 (some .int), Cond.fieldLink RX0 77 "PictureDeck$Blocks" "WAVE" "[I", Cond.methodLink RX0 71 yX0_alongColumn, Cond.instanceMethod yX0_alongColumn, Cond.selects RX0 yX0_alongColumn yX0_alongColumn, Cond.code yX0_alongColumn cX0_alongColumn 5 (some .int)]
def wsX0_turnDifference : List Cond := .code yX0_turnDifference cX0_turnDifference 6 none :: ((wsX0_turnDifference_r1 ++ wsX0_turnDifference_r2) ++ wsX00)
def wsX1_init : List Cond := .code yX1_init cX1_init 1 none :: ([.methodLink RX1 3 objectInit, .instanceMethod objectInit, .code objectInit ⟨#[0xb1]⟩ 1 none, .arrayClass .int, .fieldLink RX1 9 "PictureDeck$Coming" "levels" "[I"] ++ wsX10)
def wsX1_clear : List Cond := .code yX1_clear cX1_clear 1 none :: ([.fieldLink RX1 9 "PictureDeck$Coming" "levels" "[I", .fieldLink RX1 21 "PictureDeck$Coming" "forItself" "Z", .fieldLink RX1 25 "PictureDeck$Coming" "directions" "I", .fieldLink RX1 29 "PictureDeck$Coming" "anything" "Z", .methodLink RX1 15 yJ7_fill_53178, .static yJ7_fill_53178, .initialized RJ7, .code yJ7_fill_53178 cJ7_fill_53178 4 none] ++ wsX10)
def wsX2_init : List Cond := .code yX2_init cX2_init 1 none :: ([.methodLink RX2 1 objectInit, .instanceMethod objectInit, .code objectInit ⟨#[0xb1]⟩ 1 none, .arrayClass .int, .fieldLink RX2 7 "PictureDeck$Motion" "parts" "[I", .fieldLink RX2 13 "PictureDeck$Motion" "most" "[I"] ++ wsX20)
def wsX2_rest : List Cond := .code yX2_rest cX2_rest 1 none :: ([.fieldLink RX2 7 "PictureDeck$Motion" "parts" "[I", .methodLink RX2 23 yJ7_fill_53178, .static yJ7_fill_53178, .initialized RJ7, .code yJ7_fill_53178 cJ7_fill_53178 4 none] ++ wsX20)
def wsX2_prepare : List Cond := .code yX2_prepare cX2_prepare 4 none :: ([.fieldLink RX2 13 "PictureDeck$Motion" "most" "[I", .fieldLink RX2 16 "PictureDeck$Motion" "whole" "Z", .methodLink RX2 20 yX2_rest, .instanceMethod yX2_rest, .selects RX2 yX2_rest yX2_rest, .initialized RX2, .code yX2_rest cX2_rest 1 none, .fieldLink RX2 7 "PictureDeck$Motion" "parts" "[I", .methodLink RX2 23 yJ7_fill_53178, .static yJ7_fill_53178, .initialized RJ7, .code yJ7_fill_53178 cJ7_fill_53178 4 none] ++ wsX20)
def wsX6_isWithin : List Cond := .code yX6_isWithin cX6_isWithin 3 (some .boolean) :: ([])
def wsX2_reaches : List Cond := .code yX2_reaches cX2_reaches 3 (some .boolean) :: ([.fieldLink RX2 13 "PictureDeck$Motion" "most" "[I", .static yX6_isWithin, .initialized RX6, .code yX6_isWithin cX6_isWithin 3 (some .boolean)] ++ wsX20)
def wsX2_wrapped : List Cond := .code yX2_wrapped cX2_wrapped 2 (some .int) :: ([])
def wsX2_move : List Cond := .code yX2_move cX2_move 5 none :: ([.fieldLink RX2 7 "PictureDeck$Motion" "parts" "[I", .fieldLink RX2 13 "PictureDeck$Motion" "most" "[I", .methodLink RX2 35 yX2_wrapped, .static yX2_wrapped, .initialized RX2, .code yX2_wrapped cX2_wrapped 2 (some .int)] ++ wsX20)
def wsX2_used : List Cond := .code yX2_used cX2_used 4 (some .int) :: ([.fieldLink RX2 16 "PictureDeck$Motion" "whole" "Z", .fieldLink RX2 7 "PictureDeck$Motion" "parts" "[I"] ++ wsX20)
def wsX6_squareSide : List Cond := .code yX6_squareSide cX6_squareSide 1 (some .int) :: ([])
def wsX4_init : List Cond := .code yX4_init cX4_init 2 none :: ([.methodLink RX4 3 objectInit, .instanceMethod objectInit, .code objectInit ⟨#[0xb1]⟩ 1 none, .fieldLink RX4 9 "PictureDeck$Plane" "side" "I", .arrayClass .int, .fieldLink RX4 15 "PictureDeck$Plane" "samples" "[I", .fieldLink RX4 19 "PictureDeck$Plane" "width" "I", .fieldLink RX4 22 "PictureDeck$Plane" "height" "I"] ++ wsX40)
def wsX3_init : List Cond := .code yX3_init cX3_init 2 none :: ([.methodLink RX3 3 objectInit, .instanceMethod objectInit, .code objectInit ⟨#[0xb1]⟩ 1 none, .classLink RX3 9 RX4, .fieldLink RX3 11 "PictureDeck$Picture" "planes" "[LPictureDeck$Plane;", .instantiable RX4 4, .initialized RX4, .static yX6_squareSide, .initialized RX6, .code yX6_squareSide cX6_squareSide 1 (some .int), .methodLink RX3 21 yX4_init, .instanceMethod yX4_init, .code yX4_init cX4_init 2 none, .methodLink RX4 3 objectInit, .fieldLink RX4 9 "PictureDeck$Plane" "side" "I", .arrayClass .int, .fieldLink RX4 15 "PictureDeck$Plane" "samples" "[I", .fieldLink RX4 19 "PictureDeck$Plane" "width" "I", .fieldLink RX4 22 "PictureDeck$Plane" "height" "I"] ++ wsX30 ++ wsX40)
def wsX4_clear : List Cond := .code yX4_clear cX4_clear 3 none :: ([.fieldLink RX4 9 "PictureDeck$Plane" "side" "I", .fieldLink RX4 19 "PictureDeck$Plane" "width" "I", .fieldLink RX4 22 "PictureDeck$Plane" "height" "I", .fieldLink RX4 15 "PictureDeck$Plane" "samples" "[I", .methodLink RX4 25 yJ7_fill_53178, .static yJ7_fill_53178, .initialized RJ7, .code yJ7_fill_53178 cJ7_fill_53178 4 none] ++ wsX40)
def wsX3_clear : List Cond := .code yX3_clear cX3_clear 4 none :: ([.fieldLink RX3 11 "PictureDeck$Picture" "planes" "[LPictureDeck$Plane;", .methodLink RX3 24 yX4_clear, .instanceMethod yX4_clear, .selects RX4 yX4_clear yX4_clear, .initialized RX4, .code yX4_clear cX4_clear 3 none, .fieldLink RX4 9 "PictureDeck$Plane" "side" "I", .fieldLink RX4 19 "PictureDeck$Plane" "width" "I", .fieldLink RX4 22 "PictureDeck$Plane" "height" "I", .fieldLink RX4 15 "PictureDeck$Plane" "samples" "[I", .methodLink RX4 25 yJ7_fill_53178, .static yJ7_fill_53178, .initialized RJ7, .code yJ7_fill_53178 cJ7_fill_53178 4 none] ++ wsX30 ++ wsX40)
def wsX4_copyFrom : List Cond := .code yX4_copyFrom cX4_copyFrom 2 none :: ([.fieldLink RX4 15 "PictureDeck$Plane" "samples" "[I", .fieldLink RX4 19 "PictureDeck$Plane" "width" "I", .fieldLink RX4 22 "PictureDeck$Plane" "height" "I", .methodLink RX4 31 arraycopyName, .native arraycopyName, .static arraycopyName, .initialized "java/lang/System"] ++ wsX40)
def wsX3_copyFrom : List Cond := .code yX3_copyFrom cX3_copyFrom 3 none :: ([.fieldLink RX3 11 "PictureDeck$Picture" "planes" "[LPictureDeck$Plane;", .methodLink RX3 28 yX4_copyFrom, .instanceMethod yX4_copyFrom, .selects RX4 yX4_copyFrom yX4_copyFrom, .initialized RX4, .code yX4_copyFrom cX4_copyFrom 2 none, .fieldLink RX4 15 "PictureDeck$Plane" "samples" "[I", .fieldLink RX4 19 "PictureDeck$Plane" "width" "I", .fieldLink RX4 22 "PictureDeck$Plane" "height" "I", .methodLink RX4 31 arraycopyName, .native arraycopyName, .static arraycopyName, .initialized "java/lang/System"] ++ wsX30 ++ wsX40)
def wsX4_nearest : List Cond := .code yX4_nearest cX4_nearest 3 (some .int) :: ([.fieldLink RX4 15 "PictureDeck$Plane" "samples" "[I", .fieldLink RX4 22 "PictureDeck$Plane" "height" "I", .fieldLink RX4 19 "PictureDeck$Plane" "width" "I", .static yX6_bounded, .initialized RX6, .code yX6_bounded cX6_bounded 3 (some .int)] ++ wsX40)
def wsX3_tone : List Cond := .code yX3_tone cX3_tone 1 (some .int) :: ([.constantFloat RX3 45 (1056964608), .static yX6_bounded, .initialized RX6, .code yX6_bounded cX6_bounded 3 (some .int)])
def wsX3_mixed : List Cond := .code yX3_mixed cX3_mixed 9 (some .int) :: ([.fieldLink RX3 11 "PictureDeck$Picture" "planes" "[LPictureDeck$Plane;", .constantFloat RX3 36 (1068725436), .constantFloat RX3 41 (1051734680), .constantFloat RX3 42 (1060557214), .constantFloat RX3 43 (1071829221), .constant RX3 44 (65536), .methodLink RX3 32 yX4_nearest, .instanceMethod yX4_nearest, .selects RX4 yX4_nearest yX4_nearest, .initialized RX4, .code yX4_nearest cX4_nearest 3 (some .int), .fieldLink RX4 15 "PictureDeck$Plane" "samples" "[I", .fieldLink RX4 22 "PictureDeck$Plane" "height" "I", .fieldLink RX4 19 "PictureDeck$Plane" "width" "I", .static yX6_bounded, .initialized RX6, .code yX6_bounded cX6_bounded 3 (some .int), .methodLink RX3 37 yX3_tone, .static yX3_tone, .initialized RX3, .code yX3_tone cX3_tone 1 (some .int), .constantFloat RX3 45 (1056964608)] ++ wsX30 ++ wsX40)
def wsX4_holds : List Cond := .code yX4_holds cX4_holds 3 (some .boolean) :: ([.fieldLink RX4 19 "PictureDeck$Plane" "width" "I", .fieldLink RX4 22 "PictureDeck$Plane" "height" "I", .static yX6_isWithin, .initialized RX6, .code yX6_isWithin cX6_isWithin 3 (some .boolean)] ++ wsX40)
def wsX4_put : List Cond := .code yX4_put cX4_put 4 none :: ([.fieldLink RX4 15 "PictureDeck$Plane" "samples" "[I", .fieldLink RX4 19 "PictureDeck$Plane" "width" "I", .methodLink RX4 45 yX4_holds, .instanceMethod yX4_holds, .selects RX4 yX4_holds yX4_holds, .initialized RX4, .code yX4_holds cX4_holds 3 (some .boolean), .fieldLink RX4 22 "PictureDeck$Plane" "height" "I", .static yX6_isWithin, .initialized RX6, .code yX6_isWithin cX6_isWithin 3 (some .boolean), .static yX6_bounded, .code yX6_bounded cX6_bounded 3 (some .int)] ++ wsX40)
def wsX4_putBlock : List Cond := .code yX4_putBlock cX4_putBlock 8 none :: ([.methodLink RX4 49 yX4_nearest, .instanceMethod yX4_nearest, .selects RX4 yX4_nearest yX4_nearest, .initialized RX4, .code yX4_nearest cX4_nearest 3 (some .int), .fieldLink RX4 15 "PictureDeck$Plane" "samples" "[I", .fieldLink RX4 22 "PictureDeck$Plane" "height" "I", .fieldLink RX4 19 "PictureDeck$Plane" "width" "I", .static yX6_bounded, .initialized RX6, .code yX6_bounded cX6_bounded 3 (some .int), .methodLink RX4 53 yX4_put, .instanceMethod yX4_put, .selects RX4 yX4_put yX4_put, .code yX4_put cX4_put 4 none, .methodLink RX4 45 yX4_holds, .instanceMethod yX4_holds, .selects RX4 yX4_holds yX4_holds, .code yX4_holds cX4_holds 3 (some .boolean), .static yX6_isWithin, .code yX6_isWithin cX6_isWithin 3 (some .boolean)] ++ wsX40)
def wsX4_fetched : List Cond := .code yX4_fetched cX4_fetched 10 (some .int) :: ([.methodLink RX4 49 yX4_nearest, .instanceMethod yX4_nearest, .selects RX4 yX4_nearest yX4_nearest, .initialized RX4, .code yX4_nearest cX4_nearest 3 (some .int), .fieldLink RX4 15 "PictureDeck$Plane" "samples" "[I", .fieldLink RX4 22 "PictureDeck$Plane" "height" "I", .fieldLink RX4 19 "PictureDeck$Plane" "width" "I", .static yX6_bounded, .initialized RX6, .code yX6_bounded cX6_bounded 3 (some .int)] ++ wsX40)
def wsX4_fetchSquare_r1 : List Cond := [Cond.fieldLink RX4 9 "PictureDeck$Plane" "side" "I", Cond.methodLink RX4 57 yX4_fetched, Cond.instanceMethod yX4_fetched, Cond.selects RX4 yX4_fetched yX4_fetched, Cond.initialized RX4, Cond.code yX4_fetched cX4_fetched 10 (some .int), Cond.methodLink RX4 49 yX4_nearest, Cond.instanceMethod yX4_nearest, Cond.selects RX4 yX4_nearest yX4_nearest, Cond.code yX4_nearest cX4_nearest 3 (some .int), Cond.fieldLink RX4 15 "PictureDeck$Plane" "samples" "[I", Cond.fieldLink RX4 22 "PictureDeck$Plane" "height" "I", Cond.fieldLink RX4 19 "PictureDeck$Plane" "width" "I", Cond.static yX6_bounded, Cond.initialized RX6, Cond.code yX6_bounded cX6_bounded 3 (some .int), Cond.methodLink RX4 53 yX4_put, Cond.instanceMethod yX4_put, Cond.selects RX4 yX4_put yX4_put, Cond.code yX4_put cX4_put 4 none, Cond.methodLink RX4 45 yX4_holds, Cond.instanceMethod yX4_holds, Cond.selects RX4 yX4_holds yX4_holds, Cond.code yX4_holds cX4_holds 3 (some .boolean)]
def wsX4_fetchSquare_r2 : List Cond := [Cond.static yX6_isWithin, Cond.code yX6_isWithin cX6_isWithin 3 (some .boolean)]
def wsX4_fetchSquare : List Cond := .code yX4_fetchSquare cX4_fetchSquare 10 none :: ((wsX4_fetchSquare_r1 ++ wsX4_fetchSquare_r2) ++ wsX40)
def wsX4_brighten : List Cond := .code yX4_brighten cX4_brighten 4 none :: ([.fieldLink RX4 19 "PictureDeck$Plane" "width" "I", .fieldLink RX4 22 "PictureDeck$Plane" "height" "I", .fieldLink RX4 15 "PictureDeck$Plane" "samples" "[I", .static yX6_bounded, .initialized RX6, .code yX6_bounded cX6_bounded 3 (some .int)] ++ wsX40)
def wsX4_meanSquareTo : List Cond := .code yX4_meanSquareTo cX4_meanSquareTo 6 (some .float) :: ([.fieldLink RX4 19 "PictureDeck$Plane" "width" "I", .fieldLink RX4 22 "PictureDeck$Plane" "height" "I", .fieldLink RX4 15 "PictureDeck$Plane" "samples" "[I"] ++ wsX40)
def wsX5_init_r1 : List Cond := [Cond.methodLink RX5 1 objectInit, Cond.instanceMethod objectInit, Cond.code objectInit ⟨#[0xb1]⟩ 1 none, Cond.classLink RX5 7 RX3, Cond.instantiable RX3 1, Cond.initialized RX3, Cond.fieldLink RX5 10 "PictureDeck$Shelf" "older" "LPictureDeck$Picture;", Cond.fieldLink RX5 16 "PictureDeck$Shelf" "newer" "LPictureDeck$Picture;", Cond.fieldLink RX5 19 "PictureDeck$Shelf" "open" "LPictureDeck$Picture;", Cond.fieldLink RX5 22 "PictureDeck$Shelf" "shown" "LPictureDeck$Picture;", Cond.classLink RX5 25 RX4, Cond.instantiable RX4 4, Cond.initialized RX4, Cond.fieldLink RX5 36 "PictureDeck$Shelf" "kept" "LPictureDeck$Plane;", Cond.methodLink RX5 9 yX3_init, Cond.instanceMethod yX3_init, Cond.code yX3_init cX3_init 2 none, Cond.methodLink RX3 3 objectInit, Cond.classLink RX3 9 RX4, Cond.fieldLink RX3 11 "PictureDeck$Picture" "planes" "[LPictureDeck$Plane;", Cond.static yX6_squareSide, Cond.initialized RX6, Cond.code yX6_squareSide cX6_squareSide 1 (some .int), Cond.methodLink RX3 21 yX4_init]
def wsX5_init_r2 : List Cond := [Cond.instanceMethod yX4_init, Cond.code yX4_init cX4_init 2 none, Cond.methodLink RX4 3 objectInit, Cond.fieldLink RX4 9 "PictureDeck$Plane" "side" "I", Cond.arrayClass .int, Cond.fieldLink RX4 15 "PictureDeck$Plane" "samples" "[I", Cond.fieldLink RX4 19 "PictureDeck$Plane" "width" "I", Cond.fieldLink RX4 22 "PictureDeck$Plane" "height" "I", Cond.methodLink RX5 33 yX4_init]
def wsX5_init : List Cond := .code yX5_init cX5_init 1 none :: ((wsX5_init_r1 ++ wsX5_init_r2) ++ wsX30 ++ wsX50 ++ wsX40)
def wsX5_clear_r1 : List Cond := [Cond.fieldLink RX5 10 "PictureDeck$Shelf" "older" "LPictureDeck$Picture;", Cond.fieldLink RX5 16 "PictureDeck$Shelf" "newer" "LPictureDeck$Picture;", Cond.fieldLink RX5 19 "PictureDeck$Shelf" "open" "LPictureDeck$Picture;", Cond.fieldLink RX5 22 "PictureDeck$Shelf" "shown" "LPictureDeck$Picture;", Cond.fieldLink RX5 36 "PictureDeck$Shelf" "kept" "LPictureDeck$Plane;", Cond.fieldLink RX5 45 "PictureDeck$Shelf" "hasKept" "Z", Cond.fieldLink RX5 49 "PictureDeck$Shelf" "newerWaits" "Z", Cond.fieldLink RX5 52 "PictureDeck$Shelf" "doneCount" "I", Cond.fieldLink RX5 56 "PictureDeck$Shelf" "shownCount" "I", Cond.methodLink RX5 40 yX3_clear, Cond.instanceMethod yX3_clear, Cond.selects RX3 yX3_clear yX3_clear, Cond.initialized RX3, Cond.code yX3_clear cX3_clear 4 none, Cond.fieldLink RX3 11 "PictureDeck$Picture" "planes" "[LPictureDeck$Plane;", Cond.methodLink RX3 24 yX4_clear, Cond.instanceMethod yX4_clear, Cond.selects RX4 yX4_clear yX4_clear, Cond.initialized RX4, Cond.code yX4_clear cX4_clear 3 none, Cond.fieldLink RX4 9 "PictureDeck$Plane" "side" "I", Cond.fieldLink RX4 19 "PictureDeck$Plane" "width" "I", Cond.fieldLink RX4 22 "PictureDeck$Plane" "height" "I", Cond.fieldLink RX4 15 "PictureDeck$Plane" "samples" "[I"]
def wsX5_clear_r2 : List Cond := [Cond.methodLink RX4 25 yJ7_fill_53178, Cond.static yJ7_fill_53178, Cond.initialized RJ7, Cond.code yJ7_fill_53178 cJ7_fill_53178 4 none, Cond.methodLink RX5 44 yX4_clear]
def wsX5_clear : List Cond := .code yX5_clear cX5_clear 3 none :: ((wsX5_clear_r1 ++ wsX5_clear_r2) ++ wsX50 ++ wsX30 ++ wsX40)
def wsX5_showOpen : List Cond := .code yX5_showOpen cX5_showOpen 2 none :: ([.fieldLink RX5 22 "PictureDeck$Shelf" "shown" "LPictureDeck$Picture;", .fieldLink RX5 19 "PictureDeck$Shelf" "open" "LPictureDeck$Picture;", .fieldLink RX5 56 "PictureDeck$Shelf" "shownCount" "I"] ++ wsX50)
def wsX5_showNewer : List Cond := .code yX5_showNewer cX5_showNewer 1 none :: ([.fieldLink RX5 49 "PictureDeck$Shelf" "newerWaits" "Z", .fieldLink RX5 22 "PictureDeck$Shelf" "shown" "LPictureDeck$Picture;", .fieldLink RX5 16 "PictureDeck$Shelf" "newer" "LPictureDeck$Picture;", .fieldLink RX5 56 "PictureDeck$Shelf" "shownCount" "I", .methodLink RX5 59 yX3_copyFrom, .instanceMethod yX3_copyFrom, .selects RX3 yX3_copyFrom yX3_copyFrom, .initialized RX3, .code yX3_copyFrom cX3_copyFrom 3 none, .fieldLink RX3 11 "PictureDeck$Picture" "planes" "[LPictureDeck$Plane;", .methodLink RX3 28 yX4_copyFrom, .instanceMethod yX4_copyFrom, .selects RX4 yX4_copyFrom yX4_copyFrom, .initialized RX4, .code yX4_copyFrom cX4_copyFrom 2 none, .fieldLink RX4 15 "PictureDeck$Plane" "samples" "[I", .fieldLink RX4 19 "PictureDeck$Plane" "width" "I", .fieldLink RX4 22 "PictureDeck$Plane" "height" "I", .methodLink RX4 31 arraycopyName, .native arraycopyName, .static arraycopyName, .initialized "java/lang/System"] ++ wsX50 ++ wsX30 ++ wsX40)
def wsX5_turnOpenIntoReference_r1 : List Cond := [Cond.fieldLink RX5 10 "PictureDeck$Shelf" "older" "LPictureDeck$Picture;", Cond.fieldLink RX5 16 "PictureDeck$Shelf" "newer" "LPictureDeck$Picture;", Cond.fieldLink RX5 19 "PictureDeck$Shelf" "open" "LPictureDeck$Picture;", Cond.fieldLink RX5 49 "PictureDeck$Shelf" "newerWaits" "Z", Cond.methodLink RX5 63 yX5_showNewer, Cond.instanceMethod yX5_showNewer, Cond.selects RX5 yX5_showNewer yX5_showNewer, Cond.initialized RX5, Cond.code yX5_showNewer cX5_showNewer 1 none, Cond.fieldLink RX5 22 "PictureDeck$Shelf" "shown" "LPictureDeck$Picture;", Cond.fieldLink RX5 56 "PictureDeck$Shelf" "shownCount" "I", Cond.methodLink RX5 59 yX3_copyFrom, Cond.instanceMethod yX3_copyFrom, Cond.selects RX3 yX3_copyFrom yX3_copyFrom, Cond.initialized RX3, Cond.code yX3_copyFrom cX3_copyFrom 3 none, Cond.fieldLink RX3 11 "PictureDeck$Picture" "planes" "[LPictureDeck$Plane;", Cond.methodLink RX3 28 yX4_copyFrom, Cond.instanceMethod yX4_copyFrom, Cond.selects RX4 yX4_copyFrom yX4_copyFrom, Cond.initialized RX4, Cond.code yX4_copyFrom cX4_copyFrom 2 none, Cond.fieldLink RX4 15 "PictureDeck$Plane" "samples" "[I", Cond.fieldLink RX4 19 "PictureDeck$Plane" "width" "I"]
def wsX5_turnOpenIntoReference_r2 : List Cond := [Cond.fieldLink RX4 22 "PictureDeck$Plane" "height" "I", Cond.methodLink RX4 31 arraycopyName, Cond.native arraycopyName, Cond.static arraycopyName, Cond.initialized "java/lang/System"]
def wsX5_turnOpenIntoReference : List Cond := .code yX5_turnOpenIntoReference cX5_turnOpenIntoReference 2 none :: ((wsX5_turnOpenIntoReference_r1 ++ wsX5_turnOpenIntoReference_r2) ++ wsX50 ++ wsX30 ++ wsX40)
def wsX5_keepShown : List Cond := .code yX5_keepShown cX5_keepShown 1 none :: ([.fieldLink RX5 36 "PictureDeck$Shelf" "kept" "LPictureDeck$Plane;", .fieldLink RX5 22 "PictureDeck$Shelf" "shown" "LPictureDeck$Picture;", .fieldLink RX5 66 "PictureDeck$Picture" "planes" "[LPictureDeck$Plane;", .fieldLink RX5 45 "PictureDeck$Shelf" "hasKept" "Z", .methodLink RX5 70 yX4_copyFrom, .instanceMethod yX4_copyFrom, .selects RX4 yX4_copyFrom yX4_copyFrom, .initialized RX4, .code yX4_copyFrom cX4_copyFrom 2 none, .fieldLink RX4 15 "PictureDeck$Plane" "samples" "[I", .fieldLink RX4 19 "PictureDeck$Plane" "width" "I", .fieldLink RX4 22 "PictureDeck$Plane" "height" "I", .methodLink RX4 31 arraycopyName, .native arraycopyName, .static arraycopyName, .initialized "java/lang/System"] ++ wsX50 ++ wsX30 ++ wsX40)
def wsX6_beginAnew_r1 : List Cond := [Cond.fieldLink RX6 239 "PictureDeck" "across" "I", Cond.fieldLink RX6 242 "PictureDeck" "down" "I", Cond.fieldLink RX6 60 "PictureDeck" "kind" "I", Cond.fieldLink RX6 140 "PictureDeck" "made" "I", Cond.fieldLink RX6 10 "PictureDeck" "shelf" "LPictureDeck$Shelf;", Cond.fieldLink RX6 19 "PictureDeck" "blocks" "LPictureDeck$Blocks;", Cond.fieldLink RX6 26 "PictureDeck" "motion" "LPictureDeck$Motion;", Cond.fieldLink RX6 33 "PictureDeck" "coming" "LPictureDeck$Coming;", Cond.methodLink RX6 245 yX5_clear, Cond.instanceMethod yX5_clear, Cond.selects RX5 yX5_clear yX5_clear, Cond.initialized RX5, Cond.code yX5_clear cX5_clear 3 none, Cond.fieldLink RX5 10 "PictureDeck$Shelf" "older" "LPictureDeck$Picture;", Cond.fieldLink RX5 16 "PictureDeck$Shelf" "newer" "LPictureDeck$Picture;", Cond.fieldLink RX5 19 "PictureDeck$Shelf" "open" "LPictureDeck$Picture;", Cond.fieldLink RX5 22 "PictureDeck$Shelf" "shown" "LPictureDeck$Picture;", Cond.fieldLink RX5 36 "PictureDeck$Shelf" "kept" "LPictureDeck$Plane;", Cond.fieldLink RX5 45 "PictureDeck$Shelf" "hasKept" "Z", Cond.fieldLink RX5 49 "PictureDeck$Shelf" "newerWaits" "Z", Cond.fieldLink RX5 52 "PictureDeck$Shelf" "doneCount" "I", Cond.fieldLink RX5 56 "PictureDeck$Shelf" "shownCount" "I", Cond.methodLink RX5 40 yX3_clear, Cond.instanceMethod yX3_clear]
def wsX6_beginAnew_r2 : List Cond := [Cond.selects RX3 yX3_clear yX3_clear, Cond.initialized RX3, Cond.code yX3_clear cX3_clear 4 none, Cond.fieldLink RX3 11 "PictureDeck$Picture" "planes" "[LPictureDeck$Plane;", Cond.methodLink RX3 24 yX4_clear, Cond.instanceMethod yX4_clear, Cond.selects RX4 yX4_clear yX4_clear, Cond.initialized RX4, Cond.code yX4_clear cX4_clear 3 none, Cond.fieldLink RX4 9 "PictureDeck$Plane" "side" "I", Cond.fieldLink RX4 19 "PictureDeck$Plane" "width" "I", Cond.fieldLink RX4 22 "PictureDeck$Plane" "height" "I", Cond.fieldLink RX4 15 "PictureDeck$Plane" "samples" "[I", Cond.methodLink RX4 25 yJ7_fill_53178, Cond.static yJ7_fill_53178, Cond.initialized RJ7, Cond.code yJ7_fill_53178 cJ7_fill_53178 4 none, Cond.methodLink RX5 44 yX4_clear, Cond.methodLink RX6 247 yX0_clear, Cond.instanceMethod yX0_clear, Cond.selects RX0 yX0_clear yX0_clear, Cond.initialized RX0, Cond.code yX0_clear cX0_clear 1 none, Cond.fieldLink RX0 11 "PictureDeck$Blocks" "matrices" "[[I"]
def wsX6_beginAnew_r3 : List Cond := [Cond.methodLink RX0 29 yJ7_fill_53178, Cond.methodLink RX0 35 yX0_prepare, Cond.instanceMethod yX0_prepare, Cond.selects RX0 yX0_prepare yX0_prepare, Cond.code yX0_prepare cX0_prepare 1 none, Cond.fieldLink RX0 38 "PictureDeck$Blocks" "factor" "I", Cond.methodLink RX0 42 yX0_forgetPasts, Cond.instanceMethod yX0_forgetPasts, Cond.selects RX0 yX0_forgetPasts yX0_forgetPasts, Cond.code yX0_forgetPasts cX0_forgetPasts 1 none, Cond.fieldLink RX0 16 "PictureDeck$Blocks" "pasts" "[I", Cond.methodLink RX6 72 yX2_prepare, Cond.instanceMethod yX2_prepare, Cond.selects RX2 yX2_prepare yX2_prepare, Cond.initialized RX2, Cond.code yX2_prepare cX2_prepare 4 none, Cond.fieldLink RX2 13 "PictureDeck$Motion" "most" "[I", Cond.fieldLink RX2 16 "PictureDeck$Motion" "whole" "Z", Cond.methodLink RX2 20 yX2_rest, Cond.instanceMethod yX2_rest, Cond.selects RX2 yX2_rest yX2_rest, Cond.code yX2_rest cX2_rest 1 none, Cond.fieldLink RX2 7 "PictureDeck$Motion" "parts" "[I", Cond.methodLink RX2 23 yJ7_fill_53178]
def wsX6_beginAnew_r4 : List Cond := [Cond.methodLink RX6 137 yX1_clear, Cond.instanceMethod yX1_clear, Cond.selects RX1 yX1_clear yX1_clear, Cond.initialized RX1, Cond.code yX1_clear cX1_clear 1 none, Cond.fieldLink RX1 9 "PictureDeck$Coming" "levels" "[I", Cond.fieldLink RX1 21 "PictureDeck$Coming" "forItself" "Z", Cond.fieldLink RX1 25 "PictureDeck$Coming" "directions" "I", Cond.fieldLink RX1 29 "PictureDeck$Coming" "anything" "Z", Cond.methodLink RX1 15 yJ7_fill_53178]
def wsX6_beginAnew : List Cond := .code yX6_beginAnew cX6_beginAnew 3 none :: ((wsX6_beginAnew_r1 ++ (wsX6_beginAnew_r2 ++ (wsX6_beginAnew_r3 ++ wsX6_beginAnew_r4))) ++ wsX60 ++ wsX50 ++ wsX30 ++ wsX40 ++ wsX00 ++ wsX20 ++ wsX10)
def wsX6_init_r1 : List Cond := [Cond.methodLink RX6 1 objectInit, Cond.instanceMethod objectInit, Cond.code objectInit ⟨#[0xb1]⟩ 1 none, Cond.classLink RX6 7 RX5, Cond.instantiable RX5 9, Cond.initialized RX5, Cond.fieldLink RX6 10 "PictureDeck" "shelf" "LPictureDeck$Shelf;", Cond.classLink RX6 16 RX0, Cond.instantiable RX0 6, Cond.initialized RX0, Cond.fieldLink RX6 19 "PictureDeck" "blocks" "LPictureDeck$Blocks;", Cond.classLink RX6 23 RX2, Cond.instantiable RX2 3, Cond.initialized RX2, Cond.fieldLink RX6 26 "PictureDeck" "motion" "LPictureDeck$Motion;", Cond.classLink RX6 30 RX1, Cond.instantiable RX1 4, Cond.initialized RX1, Cond.fieldLink RX6 33 "PictureDeck" "coming" "LPictureDeck$Coming;", Cond.instanceMethod yX5_init, Cond.code yX5_init cX5_init 1 none, Cond.methodLink RX5 1 objectInit, Cond.classLink RX5 7 RX3, Cond.instantiable RX3 1]
def wsX6_init_r2 : List Cond := [Cond.initialized RX3, Cond.fieldLink RX5 10 "PictureDeck$Shelf" "older" "LPictureDeck$Picture;", Cond.fieldLink RX5 16 "PictureDeck$Shelf" "newer" "LPictureDeck$Picture;", Cond.fieldLink RX5 19 "PictureDeck$Shelf" "open" "LPictureDeck$Picture;", Cond.fieldLink RX5 22 "PictureDeck$Shelf" "shown" "LPictureDeck$Picture;", Cond.classLink RX5 25 RX4, Cond.instantiable RX4 4, Cond.initialized RX4, Cond.fieldLink RX5 36 "PictureDeck$Shelf" "kept" "LPictureDeck$Plane;", Cond.methodLink RX5 9 yX3_init, Cond.instanceMethod yX3_init, Cond.code yX3_init cX3_init 2 none, Cond.methodLink RX3 3 objectInit, Cond.classLink RX3 9 RX4, Cond.fieldLink RX3 11 "PictureDeck$Picture" "planes" "[LPictureDeck$Plane;", Cond.static yX6_squareSide, Cond.initialized RX6, Cond.code yX6_squareSide cX6_squareSide 1 (some .int), Cond.methodLink RX3 21 yX4_init, Cond.instanceMethod yX4_init, Cond.code yX4_init cX4_init 2 none, Cond.methodLink RX4 3 objectInit, Cond.fieldLink RX4 9 "PictureDeck$Plane" "side" "I", Cond.arrayClass .int]
def wsX6_init_r3 : List Cond := [Cond.fieldLink RX4 15 "PictureDeck$Plane" "samples" "[I", Cond.fieldLink RX4 19 "PictureDeck$Plane" "width" "I", Cond.fieldLink RX4 22 "PictureDeck$Plane" "height" "I", Cond.methodLink RX5 33 yX4_init, Cond.instanceMethod yX0_init, Cond.code yX0_init cX0_init 1 none, Cond.methodLink RX0 3 objectInit, Cond.classLink RX0 9 "[[I", Cond.fieldLink RX0 11 "PictureDeck$Blocks" "matrices" "[[I", Cond.fieldLink RX0 16 "PictureDeck$Blocks" "pasts" "[I", Cond.fieldLink RX0 20 "PictureDeck$Blocks" "turned" "[I", Cond.fieldLink RX0 23 "PictureDeck$Blocks" "coefficients" "[I", Cond.fieldLink RX0 26 "PictureDeck$Blocks" "halfTurned" "[I", Cond.instanceMethod yX2_init, Cond.code yX2_init cX2_init 1 none, Cond.methodLink RX2 1 objectInit, Cond.fieldLink RX2 7 "PictureDeck$Motion" "parts" "[I", Cond.fieldLink RX2 13 "PictureDeck$Motion" "most" "[I", Cond.instanceMethod yX1_init, Cond.code yX1_init cX1_init 1 none, Cond.methodLink RX1 3 objectInit, Cond.fieldLink RX1 9 "PictureDeck$Coming" "levels" "[I", Cond.methodLink RX6 37 yX6_beginAnew, Cond.instanceMethod yX6_beginAnew]
def wsX6_init_r4 : List Cond := [Cond.selects RX6 yX6_beginAnew yX6_beginAnew, Cond.code yX6_beginAnew cX6_beginAnew 3 none, Cond.fieldLink RX6 239 "PictureDeck" "across" "I", Cond.fieldLink RX6 242 "PictureDeck" "down" "I", Cond.fieldLink RX6 60 "PictureDeck" "kind" "I", Cond.fieldLink RX6 140 "PictureDeck" "made" "I", Cond.methodLink RX6 245 yX5_clear, Cond.instanceMethod yX5_clear, Cond.selects RX5 yX5_clear yX5_clear, Cond.code yX5_clear cX5_clear 3 none, Cond.fieldLink RX5 45 "PictureDeck$Shelf" "hasKept" "Z", Cond.fieldLink RX5 49 "PictureDeck$Shelf" "newerWaits" "Z", Cond.fieldLink RX5 52 "PictureDeck$Shelf" "doneCount" "I", Cond.fieldLink RX5 56 "PictureDeck$Shelf" "shownCount" "I", Cond.methodLink RX5 40 yX3_clear, Cond.instanceMethod yX3_clear, Cond.selects RX3 yX3_clear yX3_clear, Cond.code yX3_clear cX3_clear 4 none, Cond.methodLink RX3 24 yX4_clear, Cond.instanceMethod yX4_clear, Cond.selects RX4 yX4_clear yX4_clear, Cond.code yX4_clear cX4_clear 3 none, Cond.methodLink RX4 25 yJ7_fill_53178, Cond.static yJ7_fill_53178]
def wsX6_init_r5 : List Cond := [Cond.initialized RJ7, Cond.code yJ7_fill_53178 cJ7_fill_53178 4 none, Cond.methodLink RX5 44 yX4_clear, Cond.methodLink RX6 247 yX0_clear, Cond.instanceMethod yX0_clear, Cond.selects RX0 yX0_clear yX0_clear, Cond.code yX0_clear cX0_clear 1 none, Cond.methodLink RX0 29 yJ7_fill_53178, Cond.methodLink RX0 35 yX0_prepare, Cond.instanceMethod yX0_prepare, Cond.selects RX0 yX0_prepare yX0_prepare, Cond.code yX0_prepare cX0_prepare 1 none, Cond.fieldLink RX0 38 "PictureDeck$Blocks" "factor" "I", Cond.methodLink RX0 42 yX0_forgetPasts, Cond.instanceMethod yX0_forgetPasts, Cond.selects RX0 yX0_forgetPasts yX0_forgetPasts, Cond.code yX0_forgetPasts cX0_forgetPasts 1 none, Cond.methodLink RX6 72 yX2_prepare, Cond.instanceMethod yX2_prepare, Cond.selects RX2 yX2_prepare yX2_prepare, Cond.code yX2_prepare cX2_prepare 4 none, Cond.fieldLink RX2 16 "PictureDeck$Motion" "whole" "Z", Cond.methodLink RX2 20 yX2_rest, Cond.instanceMethod yX2_rest]
def wsX6_init_r6 : List Cond := [Cond.selects RX2 yX2_rest yX2_rest, Cond.code yX2_rest cX2_rest 1 none, Cond.methodLink RX2 23 yJ7_fill_53178, Cond.methodLink RX6 137 yX1_clear, Cond.instanceMethod yX1_clear, Cond.selects RX1 yX1_clear yX1_clear, Cond.code yX1_clear cX1_clear 1 none, Cond.fieldLink RX1 21 "PictureDeck$Coming" "forItself" "Z", Cond.fieldLink RX1 25 "PictureDeck$Coming" "directions" "I", Cond.fieldLink RX1 29 "PictureDeck$Coming" "anything" "Z", Cond.methodLink RX1 15 yJ7_fill_53178]
def wsX6_init : List Cond := .code yX6_init cX6_init 1 none :: ((wsX6_init_r1 ++ (wsX6_init_r2 ++ (wsX6_init_r3 ++ (wsX6_init_r4 ++ (wsX6_init_r5 ++ wsX6_init_r6))))) ++ wsX50 ++ wsX60 ++ wsX00 ++ wsX20 ++ wsX10 ++ wsX30 ++ wsX40)
def wsX6_size_r1 : List Cond := [Cond.classLink RX6 45 "java/lang/IllegalArgumentException", Cond.initialized "java/lang/IllegalArgumentException", Cond.methodLink RX6 41 yX6_isWithin, Cond.static yX6_isWithin, Cond.initialized RX6, Cond.code yX6_isWithin cX6_isWithin 3 (some .boolean), Cond.methodLink RX6 37 yX6_beginAnew, Cond.instanceMethod yX6_beginAnew, Cond.selects RX6 yX6_beginAnew yX6_beginAnew, Cond.code yX6_beginAnew cX6_beginAnew 3 none, Cond.fieldLink RX6 239 "PictureDeck" "across" "I", Cond.fieldLink RX6 242 "PictureDeck" "down" "I", Cond.fieldLink RX6 60 "PictureDeck" "kind" "I", Cond.fieldLink RX6 140 "PictureDeck" "made" "I", Cond.fieldLink RX6 10 "PictureDeck" "shelf" "LPictureDeck$Shelf;", Cond.fieldLink RX6 19 "PictureDeck" "blocks" "LPictureDeck$Blocks;", Cond.fieldLink RX6 26 "PictureDeck" "motion" "LPictureDeck$Motion;", Cond.fieldLink RX6 33 "PictureDeck" "coming" "LPictureDeck$Coming;", Cond.methodLink RX6 245 yX5_clear, Cond.instanceMethod yX5_clear, Cond.selects RX5 yX5_clear yX5_clear, Cond.initialized RX5, Cond.code yX5_clear cX5_clear 3 none, Cond.fieldLink RX5 10 "PictureDeck$Shelf" "older" "LPictureDeck$Picture;"]
def wsX6_size_r2 : List Cond := [Cond.fieldLink RX5 16 "PictureDeck$Shelf" "newer" "LPictureDeck$Picture;", Cond.fieldLink RX5 19 "PictureDeck$Shelf" "open" "LPictureDeck$Picture;", Cond.fieldLink RX5 22 "PictureDeck$Shelf" "shown" "LPictureDeck$Picture;", Cond.fieldLink RX5 36 "PictureDeck$Shelf" "kept" "LPictureDeck$Plane;", Cond.fieldLink RX5 45 "PictureDeck$Shelf" "hasKept" "Z", Cond.fieldLink RX5 49 "PictureDeck$Shelf" "newerWaits" "Z", Cond.fieldLink RX5 52 "PictureDeck$Shelf" "doneCount" "I", Cond.fieldLink RX5 56 "PictureDeck$Shelf" "shownCount" "I", Cond.methodLink RX5 40 yX3_clear, Cond.instanceMethod yX3_clear, Cond.selects RX3 yX3_clear yX3_clear, Cond.initialized RX3, Cond.code yX3_clear cX3_clear 4 none, Cond.fieldLink RX3 11 "PictureDeck$Picture" "planes" "[LPictureDeck$Plane;", Cond.methodLink RX3 24 yX4_clear, Cond.instanceMethod yX4_clear, Cond.selects RX4 yX4_clear yX4_clear, Cond.initialized RX4, Cond.code yX4_clear cX4_clear 3 none, Cond.fieldLink RX4 9 "PictureDeck$Plane" "side" "I", Cond.fieldLink RX4 19 "PictureDeck$Plane" "width" "I", Cond.fieldLink RX4 22 "PictureDeck$Plane" "height" "I", Cond.fieldLink RX4 15 "PictureDeck$Plane" "samples" "[I", Cond.methodLink RX4 25 yJ7_fill_53178]
def wsX6_size_r3 : List Cond := [Cond.static yJ7_fill_53178, Cond.initialized RJ7, Cond.code yJ7_fill_53178 cJ7_fill_53178 4 none, Cond.methodLink RX5 44 yX4_clear, Cond.methodLink RX6 247 yX0_clear, Cond.instanceMethod yX0_clear, Cond.selects RX0 yX0_clear yX0_clear, Cond.initialized RX0, Cond.code yX0_clear cX0_clear 1 none, Cond.fieldLink RX0 11 "PictureDeck$Blocks" "matrices" "[[I", Cond.methodLink RX0 29 yJ7_fill_53178, Cond.methodLink RX0 35 yX0_prepare, Cond.instanceMethod yX0_prepare, Cond.selects RX0 yX0_prepare yX0_prepare, Cond.code yX0_prepare cX0_prepare 1 none, Cond.fieldLink RX0 38 "PictureDeck$Blocks" "factor" "I", Cond.methodLink RX0 42 yX0_forgetPasts, Cond.instanceMethod yX0_forgetPasts, Cond.selects RX0 yX0_forgetPasts yX0_forgetPasts, Cond.code yX0_forgetPasts cX0_forgetPasts 1 none, Cond.fieldLink RX0 16 "PictureDeck$Blocks" "pasts" "[I", Cond.methodLink RX6 72 yX2_prepare, Cond.instanceMethod yX2_prepare, Cond.selects RX2 yX2_prepare yX2_prepare]
def wsX6_size_r4 : List Cond := [Cond.initialized RX2, Cond.code yX2_prepare cX2_prepare 4 none, Cond.fieldLink RX2 13 "PictureDeck$Motion" "most" "[I", Cond.fieldLink RX2 16 "PictureDeck$Motion" "whole" "Z", Cond.methodLink RX2 20 yX2_rest, Cond.instanceMethod yX2_rest, Cond.selects RX2 yX2_rest yX2_rest, Cond.code yX2_rest cX2_rest 1 none, Cond.fieldLink RX2 7 "PictureDeck$Motion" "parts" "[I", Cond.methodLink RX2 23 yJ7_fill_53178, Cond.methodLink RX6 137 yX1_clear, Cond.instanceMethod yX1_clear, Cond.selects RX1 yX1_clear yX1_clear, Cond.initialized RX1, Cond.code yX1_clear cX1_clear 1 none, Cond.fieldLink RX1 9 "PictureDeck$Coming" "levels" "[I", Cond.fieldLink RX1 21 "PictureDeck$Coming" "forItself" "Z", Cond.fieldLink RX1 25 "PictureDeck$Coming" "directions" "I", Cond.fieldLink RX1 29 "PictureDeck$Coming" "anything" "Z", Cond.methodLink RX1 15 yJ7_fill_53178]
def wsX6_size : List Cond := .code yX6_size cX6_size 3 none :: ((wsX6_size_r1 ++ (wsX6_size_r2 ++ (wsX6_size_r3 ++ wsX6_size_r4))) ++ wsX60 ++ wsX50 ++ wsX30 ++ wsX40 ++ wsX00 ++ wsX20 ++ wsX10 ++ (vx_atS RX6 49 "java/lang/IllegalArgumentException" ["java/lang/RuntimeException", "java/lang/Exception"]).filter goodWord)
def wsX6_matrix : List Cond := .code yX6_matrix cX6_matrix 5 (some .int) :: ([.classLink RX6 45 "java/lang/IllegalArgumentException", .initialized "java/lang/IllegalArgumentException", .fieldLink RX6 19 "PictureDeck" "blocks" "LPictureDeck$Blocks;", .fieldLink RX6 54 "PictureDeck$Blocks" "matrices" "[[I", .methodLink RX6 41 yX6_isWithin, .static yX6_isWithin, .initialized RX6, .code yX6_isWithin cX6_isWithin 3 (some .boolean)] ++ wsX60 ++ wsX00 ++ (vx_atS RX6 49 "java/lang/IllegalArgumentException" ["java/lang/RuntimeException", "java/lang/Exception"]).filter goodWord)
def wsX6_begin_r1 : List Cond := [Cond.classLink RX6 45 "java/lang/IllegalArgumentException", Cond.initialized "java/lang/IllegalArgumentException", Cond.classLink RX6 64 "java/lang/IllegalStateException", Cond.initialized "java/lang/IllegalStateException", Cond.fieldLink RX6 60 "PictureDeck" "kind" "I", Cond.fieldLink RX6 69 "PictureDeck" "fetchedBy" "I", Cond.fieldLink RX6 26 "PictureDeck" "motion" "LPictureDeck$Motion;", Cond.fieldLink RX6 19 "PictureDeck" "blocks" "LPictureDeck$Blocks;", Cond.methodLink RX6 41 yX6_isWithin, Cond.static yX6_isWithin, Cond.initialized RX6, Cond.code yX6_isWithin cX6_isWithin 3 (some .boolean), Cond.methodLink RX6 72 yX2_prepare, Cond.instanceMethod yX2_prepare, Cond.selects RX2 yX2_prepare yX2_prepare, Cond.initialized RX2, Cond.code yX2_prepare cX2_prepare 4 none, Cond.fieldLink RX2 13 "PictureDeck$Motion" "most" "[I", Cond.fieldLink RX2 16 "PictureDeck$Motion" "whole" "Z", Cond.methodLink RX2 20 yX2_rest, Cond.instanceMethod yX2_rest, Cond.selects RX2 yX2_rest yX2_rest, Cond.code yX2_rest cX2_rest 1 none, Cond.fieldLink RX2 7 "PictureDeck$Motion" "parts" "[I"]
def wsX6_begin_r2 : List Cond := [Cond.methodLink RX2 23 yJ7_fill_53178, Cond.static yJ7_fill_53178, Cond.initialized RJ7, Cond.code yJ7_fill_53178 cJ7_fill_53178 4 none, Cond.methodLink RX6 76 yX0_prepare, Cond.instanceMethod yX0_prepare, Cond.selects RX0 yX0_prepare yX0_prepare, Cond.initialized RX0, Cond.code yX0_prepare cX0_prepare 1 none, Cond.fieldLink RX0 38 "PictureDeck$Blocks" "factor" "I", Cond.methodLink RX0 42 yX0_forgetPasts, Cond.instanceMethod yX0_forgetPasts, Cond.selects RX0 yX0_forgetPasts yX0_forgetPasts, Cond.code yX0_forgetPasts cX0_forgetPasts 1 none, Cond.fieldLink RX0 16 "PictureDeck$Blocks" "pasts" "[I", Cond.methodLink RX0 29 yJ7_fill_53178]
def wsX6_begin : List Cond := .code yX6_begin cX6_begin 5 none :: ((wsX6_begin_r1 ++ wsX6_begin_r2) ++ wsX60 ++ wsX20 ++ wsX00 ++ (vx_atS RX6 49 "java/lang/IllegalArgumentException" ["java/lang/RuntimeException", "java/lang/Exception"]).filter goodWord ++ (vx_atS RX6 68 "java/lang/IllegalStateException" ["java/lang/RuntimeException", "java/lang/Exception"]).filter goodWord)
def wsX6_scale : List Cond := .code yX6_scale cX6_scale 2 none :: ([.classLink RX6 45 "java/lang/IllegalArgumentException", .initialized "java/lang/IllegalArgumentException", .classLink RX6 64 "java/lang/IllegalStateException", .initialized "java/lang/IllegalStateException", .fieldLink RX6 60 "PictureDeck" "kind" "I", .fieldLink RX6 19 "PictureDeck" "blocks" "LPictureDeck$Blocks;", .fieldLink RX6 82 "PictureDeck$Blocks" "factor" "I", .methodLink RX6 41 yX6_isWithin, .static yX6_isWithin, .initialized RX6, .code yX6_isWithin cX6_isWithin 3 (some .boolean)] ++ wsX60 ++ wsX00 ++ (vx_atS RX6 49 "java/lang/IllegalArgumentException" ["java/lang/RuntimeException", "java/lang/Exception"]).filter goodWord ++ (vx_atS RX6 68 "java/lang/IllegalStateException" ["java/lang/RuntimeException", "java/lang/Exception"]).filter goodWord)
def wsX6_squaresLeft : List Cond := .code yX6_squaresLeft cX6_squaresLeft 1 (some .int) :: ([.fieldLink RX6 60 "PictureDeck" "kind" "I", .fieldLink RX6 239 "PictureDeck" "across" "I", .fieldLink RX6 242 "PictureDeck" "down" "I", .fieldLink RX6 140 "PictureDeck" "made" "I"] ++ wsX60)
def wsX6_itself : List Cond := .code yX6_itself cX6_itself 1 none :: ([.classLink RX6 64 "java/lang/IllegalStateException", .initialized "java/lang/IllegalStateException", .fieldLink RX6 33 "PictureDeck" "coming" "LPictureDeck$Coming;", .fieldLink RX6 89 "PictureDeck$Coming" "directions" "I", .fieldLink RX6 94 "PictureDeck$Coming" "forItself" "Z", .fieldLink RX6 98 "PictureDeck$Coming" "anything" "Z", .methodLink RX6 85 yX6_squaresLeft, .instanceMethod yX6_squaresLeft, .selects RX6 yX6_squaresLeft yX6_squaresLeft, .initialized RX6, .code yX6_squaresLeft cX6_squaresLeft 1 (some .int), .fieldLink RX6 60 "PictureDeck" "kind" "I", .fieldLink RX6 239 "PictureDeck" "across" "I", .fieldLink RX6 242 "PictureDeck" "down" "I", .fieldLink RX6 140 "PictureDeck" "made" "I"] ++ wsX60 ++ wsX10 ++ (vx_atS RX6 68 "java/lang/IllegalStateException" ["java/lang/RuntimeException", "java/lang/Exception"]).filter goodWord)
def wsX6_kindHas : List Cond := .code yX6_kindHas cX6_kindHas 2 (some .boolean) :: ([.fieldLink RX6 60 "PictureDeck" "kind" "I"] ++ wsX60)
def wsX6_vector_r1 : List Cond := [Cond.classLink RX6 45 "java/lang/IllegalArgumentException", Cond.initialized "java/lang/IllegalArgumentException", Cond.classLink RX6 64 "java/lang/IllegalStateException", Cond.initialized "java/lang/IllegalStateException", Cond.fieldLink RX6 26 "PictureDeck" "motion" "LPictureDeck$Motion;", Cond.fieldLink RX6 33 "PictureDeck" "coming" "LPictureDeck$Coming;", Cond.fieldLink RX6 94 "PictureDeck$Coming" "forItself" "Z", Cond.fieldLink RX6 89 "PictureDeck$Coming" "directions" "I", Cond.fieldLink RX6 98 "PictureDeck$Coming" "anything" "Z", Cond.methodLink RX6 41 yX6_isWithin, Cond.static yX6_isWithin, Cond.initialized RX6, Cond.code yX6_isWithin cX6_isWithin 3 (some .boolean), Cond.methodLink RX6 101 yX2_reaches, Cond.instanceMethod yX2_reaches, Cond.selects RX2 yX2_reaches yX2_reaches, Cond.initialized RX2, Cond.code yX2_reaches cX2_reaches 3 (some .boolean), Cond.fieldLink RX2 13 "PictureDeck$Motion" "most" "[I", Cond.methodLink RX6 85 yX6_squaresLeft, Cond.instanceMethod yX6_squaresLeft, Cond.selects RX6 yX6_squaresLeft yX6_squaresLeft, Cond.code yX6_squaresLeft cX6_squaresLeft 1 (some .int), Cond.fieldLink RX6 60 "PictureDeck" "kind" "I"]
def wsX6_vector_r2 : List Cond := [Cond.fieldLink RX6 239 "PictureDeck" "across" "I", Cond.fieldLink RX6 242 "PictureDeck" "down" "I", Cond.fieldLink RX6 140 "PictureDeck" "made" "I", Cond.methodLink RX6 107 yX6_kindHas, Cond.instanceMethod yX6_kindHas, Cond.selects RX6 yX6_kindHas yX6_kindHas, Cond.code yX6_kindHas cX6_kindHas 2 (some .boolean), Cond.methodLink RX6 113 yX2_move, Cond.instanceMethod yX2_move, Cond.selects RX2 yX2_move yX2_move, Cond.code yX2_move cX2_move 5 none, Cond.fieldLink RX2 7 "PictureDeck$Motion" "parts" "[I", Cond.methodLink RX2 35 yX2_wrapped, Cond.static yX2_wrapped, Cond.code yX2_wrapped cX2_wrapped 2 (some .int)]
def wsX6_vector : List Cond := .code yX6_vector cX6_vector 4 none :: ((wsX6_vector_r1 ++ wsX6_vector_r2) ++ wsX60 ++ wsX10 ++ wsX20 ++ (vx_atS RX6 49 "java/lang/IllegalArgumentException" ["java/lang/RuntimeException", "java/lang/Exception"]).filter goodWord ++ (vx_atS RX6 68 "java/lang/IllegalStateException" ["java/lang/RuntimeException", "java/lang/Exception"]).filter goodWord)
def wsX6_level : List Cond := .code yX6_level cX6_level 4 none :: ([.classLink RX6 45 "java/lang/IllegalArgumentException", .initialized "java/lang/IllegalArgumentException", .classLink RX6 64 "java/lang/IllegalStateException", .initialized "java/lang/IllegalStateException", .fieldLink RX6 33 "PictureDeck" "coming" "LPictureDeck$Coming;", .fieldLink RX6 121 "PictureDeck$Coming" "levels" "[I", .fieldLink RX6 98 "PictureDeck$Coming" "anything" "Z", .methodLink RX6 41 yX6_isWithin, .static yX6_isWithin, .initialized RX6, .code yX6_isWithin cX6_isWithin 3 (some .boolean), .methodLink RX6 85 yX6_squaresLeft, .instanceMethod yX6_squaresLeft, .selects RX6 yX6_squaresLeft yX6_squaresLeft, .code yX6_squaresLeft cX6_squaresLeft 1 (some .int), .fieldLink RX6 60 "PictureDeck" "kind" "I", .fieldLink RX6 239 "PictureDeck" "across" "I", .fieldLink RX6 242 "PictureDeck" "down" "I", .fieldLink RX6 140 "PictureDeck" "made" "I"] ++ wsX60 ++ wsX10 ++ (vx_atS RX6 49 "java/lang/IllegalArgumentException" ["java/lang/RuntimeException", "java/lang/Exception"]).filter goodWord ++ (vx_atS RX6 68 "java/lang/IllegalStateException" ["java/lang/RuntimeException", "java/lang/Exception"]).filter goodWord)
def wsX6_isEnoughTold : List Cond := .code yX6_isEnoughTold cX6_isEnoughTold 1 (some .boolean) :: ([.fieldLink RX6 33 "PictureDeck" "coming" "LPictureDeck$Coming;", .fieldLink RX6 94 "PictureDeck$Coming" "forItself" "Z", .fieldLink RX6 60 "PictureDeck" "kind" "I", .fieldLink RX6 89 "PictureDeck$Coming" "directions" "I"] ++ wsX60 ++ wsX10)
def wsX6_squareLeft : List Cond := .code yX6_squareLeft cX6_squareLeft 2 (some .int) :: ([.fieldLink RX6 140 "PictureDeck" "made" "I", .fieldLink RX6 239 "PictureDeck" "across" "I", .methodLink RX6 295 yX6_squareSide, .static yX6_squareSide, .initialized RX6, .code yX6_squareSide cX6_squareSide 1 (some .int)] ++ wsX60)
def wsX6_squareTop : List Cond := .code yX6_squareTop cX6_squareTop 2 (some .int) :: ([.fieldLink RX6 140 "PictureDeck" "made" "I", .fieldLink RX6 239 "PictureDeck" "across" "I", .methodLink RX6 295 yX6_squareSide, .static yX6_squareSide, .initialized RX6, .code yX6_squareSide cX6_squareSide 1 (some .int)] ++ wsX60)
def wsX6_placeBlock_r1 : List Cond := [Cond.fieldLink RX6 10 "PictureDeck" "shelf" "LPictureDeck$Shelf;", Cond.fieldLink RX6 269 "PictureDeck$Shelf" "open" "LPictureDeck$Picture;", Cond.fieldLink RX6 182 "PictureDeck$Picture" "planes" "[LPictureDeck$Plane;", Cond.fieldLink RX6 19 "PictureDeck" "blocks" "LPictureDeck$Blocks;", Cond.fieldLink RX6 272 "PictureDeck$Blocks" "turned" "[I", Cond.methodLink RX6 259 yX6_planeOf, Cond.static yX6_planeOf, Cond.initialized RX6, Cond.code yX6_planeOf cX6_planeOf 1 (some .int), Cond.methodLink RX6 263 yX6_squareLeft, Cond.instanceMethod yX6_squareLeft, Cond.selects RX6 yX6_squareLeft yX6_squareLeft, Cond.code yX6_squareLeft cX6_squareLeft 2 (some .int), Cond.fieldLink RX6 140 "PictureDeck" "made" "I", Cond.fieldLink RX6 239 "PictureDeck" "across" "I", Cond.methodLink RX6 295 yX6_squareSide, Cond.static yX6_squareSide, Cond.code yX6_squareSide cX6_squareSide 1 (some .int), Cond.methodLink RX6 266 yX6_squareTop, Cond.instanceMethod yX6_squareTop, Cond.selects RX6 yX6_squareTop yX6_squareTop, Cond.code yX6_squareTop cX6_squareTop 2 (some .int), Cond.methodLink RX6 275 yX4_putBlock, Cond.instanceMethod yX4_putBlock]
def wsX6_placeBlock_r2 : List Cond := [Cond.selects RX4 yX4_putBlock yX4_putBlock, Cond.initialized RX4, Cond.code yX4_putBlock cX4_putBlock 8 none, Cond.methodLink RX4 49 yX4_nearest, Cond.instanceMethod yX4_nearest, Cond.selects RX4 yX4_nearest yX4_nearest, Cond.code yX4_nearest cX4_nearest 3 (some .int), Cond.fieldLink RX4 15 "PictureDeck$Plane" "samples" "[I", Cond.fieldLink RX4 22 "PictureDeck$Plane" "height" "I", Cond.fieldLink RX4 19 "PictureDeck$Plane" "width" "I", Cond.static yX6_bounded, Cond.code yX6_bounded cX6_bounded 3 (some .int), Cond.methodLink RX4 53 yX4_put, Cond.instanceMethod yX4_put, Cond.selects RX4 yX4_put yX4_put, Cond.code yX4_put cX4_put 4 none, Cond.methodLink RX4 45 yX4_holds, Cond.instanceMethod yX4_holds, Cond.selects RX4 yX4_holds yX4_holds, Cond.code yX4_holds cX4_holds 3 (some .boolean), Cond.static yX6_isWithin, Cond.code yX6_isWithin cX6_isWithin 3 (some .boolean)]
def wsX6_placeBlock : List Cond := .code yX6_placeBlock cX6_placeBlock 6 none :: ((wsX6_placeBlock_r1 ++ wsX6_placeBlock_r2) ++ wsX60 ++ wsX50 ++ wsX30 ++ wsX00 ++ wsX40)
def wsX6_makeForItself_r1 : List Cond := [Cond.fieldLink RX6 26 "PictureDeck" "motion" "LPictureDeck$Motion;", Cond.fieldLink RX6 69 "PictureDeck" "fetchedBy" "I", Cond.fieldLink RX6 19 "PictureDeck" "blocks" "LPictureDeck$Blocks;", Cond.fieldLink RX6 33 "PictureDeck" "coming" "LPictureDeck$Coming;", Cond.fieldLink RX6 121 "PictureDeck$Coming" "levels" "[I", Cond.methodLink RX6 150 yX2_rest, Cond.instanceMethod yX2_rest, Cond.selects RX2 yX2_rest yX2_rest, Cond.initialized RX2, Cond.code yX2_rest cX2_rest 1 none, Cond.fieldLink RX2 7 "PictureDeck$Motion" "parts" "[I", Cond.methodLink RX2 23 yJ7_fill_53178, Cond.static yJ7_fill_53178, Cond.initialized RJ7, Cond.code yJ7_fill_53178 cJ7_fill_53178 4 none, Cond.methodLink RX6 248 yX0_turnForItself, Cond.instanceMethod yX0_turnForItself, Cond.selects RX0 yX0_turnForItself yX0_turnForItself, Cond.initialized RX0, Cond.code yX0_turnForItself cX0_turnForItself 6 none, Cond.fieldLink RX0 16 "PictureDeck$Blocks" "pasts" "[I", Cond.fieldLink RX0 23 "PictureDeck$Blocks" "coefficients" "[I", Cond.fieldLink RX0 53 "PictureDeck$Blocks" "ZIGZAG" "[I", Cond.fieldLink RX0 11 "PictureDeck$Blocks" "matrices" "[[I"]
def wsX6_makeForItself_r2 : List Cond := [Cond.static yX6_planeOf, Cond.initialized RX6, Cond.code yX6_planeOf cX6_planeOf 1 (some .int), Cond.static yX6_bounded, Cond.code yX6_bounded cX6_bounded 3 (some .int), Cond.methodLink RX0 56 yX0_scaled, Cond.instanceMethod yX0_scaled, Cond.selects RX0 yX0_scaled yX0_scaled, Cond.code yX0_scaled cX0_scaled 4 (some .int), Cond.fieldLink RX0 38 "PictureDeck$Blocks" "factor" "I", Cond.methodLink RX0 63 yJ6_signum_0f7a4, Cond.static yJ6_signum_0f7a4, Cond.initialized RJ6, Cond.code yJ6_signum_0f7a4 cJ6_signum_0f7a4 1 (some .int), Cond.methodLink RX0 60 yX0_turn, Cond.instanceMethod yX0_turn, Cond.selects RX0 yX0_turn yX0_turn, Cond.code yX0_turn cX0_turn 2 none, Cond.fieldLink RX0 26 "PictureDeck$Blocks" "halfTurned" "[I", Cond.fieldLink RX0 20 "PictureDeck$Blocks" "turned" "[I", Cond.methodLink RX0 68 yX0_alongRow, Cond.instanceMethod yX0_alongRow, Cond.selects RX0 yX0_alongRow yX0_alongRow, Cond.code yX0_alongRow cX0_alongRow 5 (some .int)]
def wsX6_makeForItself_r3 : List Cond := [Cond.methodLink RX0 74 yX0_wave, Cond.static yX0_wave, Cond.code yX0_wave cX0_wave 2 (some .int), Cond.fieldLink RX0 77 "PictureDeck$Blocks" "WAVE" "[I", Cond.methodLink RX0 71 yX0_alongColumn, Cond.instanceMethod yX0_alongColumn, Cond.selects RX0 yX0_alongColumn yX0_alongColumn, Cond.code yX0_alongColumn cX0_alongColumn 5 (some .int), Cond.methodLink RX6 252 yX6_placeBlock, Cond.instanceMethod yX6_placeBlock, Cond.selects RX6 yX6_placeBlock yX6_placeBlock, Cond.code yX6_placeBlock cX6_placeBlock 6 none, Cond.fieldLink RX6 10 "PictureDeck" "shelf" "LPictureDeck$Shelf;", Cond.fieldLink RX6 269 "PictureDeck$Shelf" "open" "LPictureDeck$Picture;", Cond.fieldLink RX6 182 "PictureDeck$Picture" "planes" "[LPictureDeck$Plane;", Cond.fieldLink RX6 272 "PictureDeck$Blocks" "turned" "[I", Cond.methodLink RX6 259 yX6_planeOf, Cond.methodLink RX6 263 yX6_squareLeft, Cond.instanceMethod yX6_squareLeft, Cond.selects RX6 yX6_squareLeft yX6_squareLeft, Cond.code yX6_squareLeft cX6_squareLeft 2 (some .int), Cond.fieldLink RX6 140 "PictureDeck" "made" "I", Cond.fieldLink RX6 239 "PictureDeck" "across" "I", Cond.methodLink RX6 295 yX6_squareSide]
def wsX6_makeForItself_r4 : List Cond := [Cond.static yX6_squareSide, Cond.code yX6_squareSide cX6_squareSide 1 (some .int), Cond.methodLink RX6 266 yX6_squareTop, Cond.instanceMethod yX6_squareTop, Cond.selects RX6 yX6_squareTop yX6_squareTop, Cond.code yX6_squareTop cX6_squareTop 2 (some .int), Cond.methodLink RX6 275 yX4_putBlock, Cond.instanceMethod yX4_putBlock, Cond.selects RX4 yX4_putBlock yX4_putBlock, Cond.initialized RX4, Cond.code yX4_putBlock cX4_putBlock 8 none, Cond.methodLink RX4 49 yX4_nearest, Cond.instanceMethod yX4_nearest, Cond.selects RX4 yX4_nearest yX4_nearest, Cond.code yX4_nearest cX4_nearest 3 (some .int), Cond.fieldLink RX4 15 "PictureDeck$Plane" "samples" "[I", Cond.fieldLink RX4 22 "PictureDeck$Plane" "height" "I", Cond.fieldLink RX4 19 "PictureDeck$Plane" "width" "I", Cond.methodLink RX4 53 yX4_put, Cond.instanceMethod yX4_put, Cond.selects RX4 yX4_put yX4_put, Cond.code yX4_put cX4_put 4 none, Cond.methodLink RX4 45 yX4_holds, Cond.instanceMethod yX4_holds]
def wsX6_makeForItself_r5 : List Cond := [Cond.selects RX4 yX4_holds yX4_holds, Cond.code yX4_holds cX4_holds 3 (some .boolean), Cond.static yX6_isWithin, Cond.code yX6_isWithin cX6_isWithin 3 (some .boolean)]
def wsX6_makeForItself : List Cond := .code yX6_makeForItself cX6_makeForItself 2 none :: ((wsX6_makeForItself_r1 ++ (wsX6_makeForItself_r2 ++ (wsX6_makeForItself_r3 ++ (wsX6_makeForItself_r4 ++ wsX6_makeForItself_r5)))) ++ wsX60 ++ wsX10 ++ wsX20 ++ wsX00 ++ wsX50 ++ wsX30 ++ wsX40)
def wsX6_fetchBy_r1 : List Cond := [Cond.fieldLink RX6 26 "PictureDeck" "motion" "LPictureDeck$Motion;", Cond.fieldLink RX6 10 "PictureDeck" "shelf" "LPictureDeck$Shelf;", Cond.fieldLink RX6 269 "PictureDeck$Shelf" "open" "LPictureDeck$Picture;", Cond.fieldLink RX6 182 "PictureDeck$Picture" "planes" "[LPictureDeck$Plane;", Cond.methodLink RX6 289 yX2_used, Cond.instanceMethod yX2_used, Cond.selects RX2 yX2_used yX2_used, Cond.initialized RX2, Cond.code yX2_used cX2_used 4 (some .int), Cond.fieldLink RX2 16 "PictureDeck$Motion" "whole" "Z", Cond.fieldLink RX2 7 "PictureDeck$Motion" "parts" "[I", Cond.methodLink RX6 263 yX6_squareLeft, Cond.instanceMethod yX6_squareLeft, Cond.selects RX6 yX6_squareLeft yX6_squareLeft, Cond.initialized RX6, Cond.code yX6_squareLeft cX6_squareLeft 2 (some .int), Cond.fieldLink RX6 140 "PictureDeck" "made" "I", Cond.fieldLink RX6 239 "PictureDeck" "across" "I", Cond.methodLink RX6 295 yX6_squareSide, Cond.static yX6_squareSide, Cond.code yX6_squareSide cX6_squareSide 1 (some .int), Cond.methodLink RX6 266 yX6_squareTop, Cond.instanceMethod yX6_squareTop, Cond.selects RX6 yX6_squareTop yX6_squareTop]
def wsX6_fetchBy_r2 : List Cond := [Cond.code yX6_squareTop cX6_squareTop 2 (some .int), Cond.methodLink RX6 292 yX4_fetchSquare, Cond.instanceMethod yX4_fetchSquare, Cond.selects RX4 yX4_fetchSquare yX4_fetchSquare, Cond.initialized RX4, Cond.code yX4_fetchSquare cX4_fetchSquare 10 none, Cond.fieldLink RX4 9 "PictureDeck$Plane" "side" "I", Cond.methodLink RX4 57 yX4_fetched, Cond.instanceMethod yX4_fetched, Cond.selects RX4 yX4_fetched yX4_fetched, Cond.code yX4_fetched cX4_fetched 10 (some .int), Cond.methodLink RX4 49 yX4_nearest, Cond.instanceMethod yX4_nearest, Cond.selects RX4 yX4_nearest yX4_nearest, Cond.code yX4_nearest cX4_nearest 3 (some .int), Cond.fieldLink RX4 15 "PictureDeck$Plane" "samples" "[I", Cond.fieldLink RX4 22 "PictureDeck$Plane" "height" "I", Cond.fieldLink RX4 19 "PictureDeck$Plane" "width" "I", Cond.static yX6_bounded, Cond.code yX6_bounded cX6_bounded 3 (some .int), Cond.methodLink RX4 53 yX4_put, Cond.instanceMethod yX4_put, Cond.selects RX4 yX4_put yX4_put, Cond.code yX4_put cX4_put 4 none]
def wsX6_fetchBy_r3 : List Cond := [Cond.methodLink RX4 45 yX4_holds, Cond.instanceMethod yX4_holds, Cond.selects RX4 yX4_holds yX4_holds, Cond.code yX4_holds cX4_holds 3 (some .boolean), Cond.static yX6_isWithin, Cond.code yX6_isWithin cX6_isWithin 3 (some .boolean)]
def wsX6_fetchBy : List Cond := .code yX6_fetchBy cX6_fetchBy 8 none :: ((wsX6_fetchBy_r1 ++ (wsX6_fetchBy_r2 ++ wsX6_fetchBy_r3)) ++ wsX60 ++ wsX50 ++ wsX30 ++ wsX20 ++ wsX40)
def wsX6_fetchSquare_r1 : List Cond := [Cond.fieldLink RX6 69 "PictureDeck" "fetchedBy" "I", Cond.fieldLink RX6 60 "PictureDeck" "kind" "I", Cond.fieldLink RX6 10 "PictureDeck" "shelf" "LPictureDeck$Shelf;", Cond.fieldLink RX6 279 "PictureDeck$Shelf" "newer" "LPictureDeck$Picture;", Cond.fieldLink RX6 282 "PictureDeck$Shelf" "older" "LPictureDeck$Picture;", Cond.methodLink RX6 285 yX6_fetchBy, Cond.instanceMethod yX6_fetchBy, Cond.selects RX6 yX6_fetchBy yX6_fetchBy, Cond.initialized RX6, Cond.code yX6_fetchBy cX6_fetchBy 8 none, Cond.fieldLink RX6 26 "PictureDeck" "motion" "LPictureDeck$Motion;", Cond.fieldLink RX6 269 "PictureDeck$Shelf" "open" "LPictureDeck$Picture;", Cond.fieldLink RX6 182 "PictureDeck$Picture" "planes" "[LPictureDeck$Plane;", Cond.methodLink RX6 289 yX2_used, Cond.instanceMethod yX2_used, Cond.selects RX2 yX2_used yX2_used, Cond.initialized RX2, Cond.code yX2_used cX2_used 4 (some .int), Cond.fieldLink RX2 16 "PictureDeck$Motion" "whole" "Z", Cond.fieldLink RX2 7 "PictureDeck$Motion" "parts" "[I", Cond.methodLink RX6 263 yX6_squareLeft, Cond.instanceMethod yX6_squareLeft, Cond.selects RX6 yX6_squareLeft yX6_squareLeft, Cond.code yX6_squareLeft cX6_squareLeft 2 (some .int)]
def wsX6_fetchSquare_r2 : List Cond := [Cond.fieldLink RX6 140 "PictureDeck" "made" "I", Cond.fieldLink RX6 239 "PictureDeck" "across" "I", Cond.methodLink RX6 295 yX6_squareSide, Cond.static yX6_squareSide, Cond.code yX6_squareSide cX6_squareSide 1 (some .int), Cond.methodLink RX6 266 yX6_squareTop, Cond.instanceMethod yX6_squareTop, Cond.selects RX6 yX6_squareTop yX6_squareTop, Cond.code yX6_squareTop cX6_squareTop 2 (some .int), Cond.methodLink RX6 292 yX4_fetchSquare, Cond.instanceMethod yX4_fetchSquare, Cond.selects RX4 yX4_fetchSquare yX4_fetchSquare, Cond.initialized RX4, Cond.code yX4_fetchSquare cX4_fetchSquare 10 none, Cond.fieldLink RX4 9 "PictureDeck$Plane" "side" "I", Cond.methodLink RX4 57 yX4_fetched, Cond.instanceMethod yX4_fetched, Cond.selects RX4 yX4_fetched yX4_fetched, Cond.code yX4_fetched cX4_fetched 10 (some .int), Cond.methodLink RX4 49 yX4_nearest, Cond.instanceMethod yX4_nearest, Cond.selects RX4 yX4_nearest yX4_nearest, Cond.code yX4_nearest cX4_nearest 3 (some .int), Cond.fieldLink RX4 15 "PictureDeck$Plane" "samples" "[I"]
def wsX6_fetchSquare_r3 : List Cond := [Cond.fieldLink RX4 22 "PictureDeck$Plane" "height" "I", Cond.fieldLink RX4 19 "PictureDeck$Plane" "width" "I", Cond.static yX6_bounded, Cond.code yX6_bounded cX6_bounded 3 (some .int), Cond.methodLink RX4 53 yX4_put, Cond.instanceMethod yX4_put, Cond.selects RX4 yX4_put yX4_put, Cond.code yX4_put cX4_put 4 none, Cond.methodLink RX4 45 yX4_holds, Cond.instanceMethod yX4_holds, Cond.selects RX4 yX4_holds yX4_holds, Cond.code yX4_holds cX4_holds 3 (some .boolean), Cond.static yX6_isWithin, Cond.code yX6_isWithin cX6_isWithin 3 (some .boolean)]
def wsX6_fetchSquare : List Cond := .code yX6_fetchSquare cX6_fetchSquare 2 none :: ((wsX6_fetchSquare_r1 ++ (wsX6_fetchSquare_r2 ++ wsX6_fetchSquare_r3)) ++ wsX60 ++ wsX50 ++ wsX30 ++ wsX20 ++ wsX40)
def wsX6_makeFetched_r1 : List Cond := [Cond.fieldLink RX6 33 "PictureDeck" "coming" "LPictureDeck$Coming;", Cond.fieldLink RX6 89 "PictureDeck$Coming" "directions" "I", Cond.fieldLink RX6 26 "PictureDeck" "motion" "LPictureDeck$Motion;", Cond.fieldLink RX6 60 "PictureDeck" "kind" "I", Cond.fieldLink RX6 69 "PictureDeck" "fetchedBy" "I", Cond.fieldLink RX6 19 "PictureDeck" "blocks" "LPictureDeck$Blocks;", Cond.fieldLink RX6 121 "PictureDeck$Coming" "levels" "[I", Cond.methodLink RX6 150 yX2_rest, Cond.instanceMethod yX2_rest, Cond.selects RX2 yX2_rest yX2_rest, Cond.initialized RX2, Cond.code yX2_rest cX2_rest 1 none, Cond.fieldLink RX2 7 "PictureDeck$Motion" "parts" "[I", Cond.methodLink RX2 23 yJ7_fill_53178, Cond.static yJ7_fill_53178, Cond.initialized RJ7, Cond.code yJ7_fill_53178 cJ7_fill_53178 4 none, Cond.methodLink RX6 153 yX6_fetchSquare, Cond.instanceMethod yX6_fetchSquare, Cond.selects RX6 yX6_fetchSquare yX6_fetchSquare, Cond.initialized RX6, Cond.code yX6_fetchSquare cX6_fetchSquare 2 none, Cond.fieldLink RX6 10 "PictureDeck" "shelf" "LPictureDeck$Shelf;", Cond.fieldLink RX6 279 "PictureDeck$Shelf" "newer" "LPictureDeck$Picture;"]
def wsX6_makeFetched_r2 : List Cond := [Cond.fieldLink RX6 282 "PictureDeck$Shelf" "older" "LPictureDeck$Picture;", Cond.methodLink RX6 285 yX6_fetchBy, Cond.instanceMethod yX6_fetchBy, Cond.selects RX6 yX6_fetchBy yX6_fetchBy, Cond.code yX6_fetchBy cX6_fetchBy 8 none, Cond.fieldLink RX6 269 "PictureDeck$Shelf" "open" "LPictureDeck$Picture;", Cond.fieldLink RX6 182 "PictureDeck$Picture" "planes" "[LPictureDeck$Plane;", Cond.methodLink RX6 289 yX2_used, Cond.instanceMethod yX2_used, Cond.selects RX2 yX2_used yX2_used, Cond.code yX2_used cX2_used 4 (some .int), Cond.fieldLink RX2 16 "PictureDeck$Motion" "whole" "Z", Cond.methodLink RX6 263 yX6_squareLeft, Cond.instanceMethod yX6_squareLeft, Cond.selects RX6 yX6_squareLeft yX6_squareLeft, Cond.code yX6_squareLeft cX6_squareLeft 2 (some .int), Cond.fieldLink RX6 140 "PictureDeck" "made" "I", Cond.fieldLink RX6 239 "PictureDeck" "across" "I", Cond.methodLink RX6 295 yX6_squareSide, Cond.static yX6_squareSide, Cond.code yX6_squareSide cX6_squareSide 1 (some .int), Cond.methodLink RX6 266 yX6_squareTop, Cond.instanceMethod yX6_squareTop, Cond.selects RX6 yX6_squareTop yX6_squareTop]
def wsX6_makeFetched_r3 : List Cond := [Cond.code yX6_squareTop cX6_squareTop 2 (some .int), Cond.methodLink RX6 292 yX4_fetchSquare, Cond.instanceMethod yX4_fetchSquare, Cond.selects RX4 yX4_fetchSquare yX4_fetchSquare, Cond.initialized RX4, Cond.code yX4_fetchSquare cX4_fetchSquare 10 none, Cond.fieldLink RX4 9 "PictureDeck$Plane" "side" "I", Cond.methodLink RX4 57 yX4_fetched, Cond.instanceMethod yX4_fetched, Cond.selects RX4 yX4_fetched yX4_fetched, Cond.code yX4_fetched cX4_fetched 10 (some .int), Cond.methodLink RX4 49 yX4_nearest, Cond.instanceMethod yX4_nearest, Cond.selects RX4 yX4_nearest yX4_nearest, Cond.code yX4_nearest cX4_nearest 3 (some .int), Cond.fieldLink RX4 15 "PictureDeck$Plane" "samples" "[I", Cond.fieldLink RX4 22 "PictureDeck$Plane" "height" "I", Cond.fieldLink RX4 19 "PictureDeck$Plane" "width" "I", Cond.static yX6_bounded, Cond.code yX6_bounded cX6_bounded 3 (some .int), Cond.methodLink RX4 53 yX4_put, Cond.instanceMethod yX4_put, Cond.selects RX4 yX4_put yX4_put, Cond.code yX4_put cX4_put 4 none]
def wsX6_makeFetched_r4 : List Cond := [Cond.methodLink RX4 45 yX4_holds, Cond.instanceMethod yX4_holds, Cond.selects RX4 yX4_holds yX4_holds, Cond.code yX4_holds cX4_holds 3 (some .boolean), Cond.static yX6_isWithin, Cond.code yX6_isWithin cX6_isWithin 3 (some .boolean), Cond.methodLink RX6 256 yX0_turnDifference, Cond.instanceMethod yX0_turnDifference, Cond.selects RX0 yX0_turnDifference yX0_turnDifference, Cond.initialized RX0, Cond.code yX0_turnDifference cX0_turnDifference 6 none, Cond.fieldLink RX0 23 "PictureDeck$Blocks" "coefficients" "[I", Cond.fieldLink RX0 53 "PictureDeck$Blocks" "ZIGZAG" "[I", Cond.fieldLink RX0 11 "PictureDeck$Blocks" "matrices" "[[I", Cond.methodLink RX0 63 yJ6_signum_0f7a4, Cond.static yJ6_signum_0f7a4, Cond.initialized RJ6, Cond.code yJ6_signum_0f7a4 cJ6_signum_0f7a4 1 (some .int), Cond.methodLink RX0 56 yX0_scaled, Cond.instanceMethod yX0_scaled, Cond.selects RX0 yX0_scaled yX0_scaled, Cond.code yX0_scaled cX0_scaled 4 (some .int), Cond.fieldLink RX0 38 "PictureDeck$Blocks" "factor" "I", Cond.methodLink RX0 60 yX0_turn]
def wsX6_makeFetched_r5 : List Cond := [Cond.instanceMethod yX0_turn, Cond.selects RX0 yX0_turn yX0_turn, Cond.code yX0_turn cX0_turn 2 none, Cond.fieldLink RX0 26 "PictureDeck$Blocks" "halfTurned" "[I", Cond.fieldLink RX0 20 "PictureDeck$Blocks" "turned" "[I", Cond.methodLink RX0 68 yX0_alongRow, Cond.instanceMethod yX0_alongRow, Cond.selects RX0 yX0_alongRow yX0_alongRow, Cond.code yX0_alongRow cX0_alongRow 5 (some .int), Cond.methodLink RX0 74 yX0_wave, Cond.static yX0_wave, Cond.code yX0_wave cX0_wave 2 (some .int), Cond.fieldLink RX0 77 "PictureDeck$Blocks" "WAVE" "[I", Cond.methodLink RX0 71 yX0_alongColumn, Cond.instanceMethod yX0_alongColumn, Cond.selects RX0 yX0_alongColumn yX0_alongColumn, Cond.code yX0_alongColumn cX0_alongColumn 5 (some .int), Cond.methodLink RX6 252 yX6_placeBlock, Cond.instanceMethod yX6_placeBlock, Cond.selects RX6 yX6_placeBlock yX6_placeBlock, Cond.code yX6_placeBlock cX6_placeBlock 6 none, Cond.fieldLink RX6 272 "PictureDeck$Blocks" "turned" "[I", Cond.methodLink RX6 259 yX6_planeOf, Cond.static yX6_planeOf]
def wsX6_makeFetched_r6 : List Cond := [Cond.code yX6_planeOf cX6_planeOf 1 (some .int), Cond.methodLink RX6 275 yX4_putBlock, Cond.instanceMethod yX4_putBlock, Cond.selects RX4 yX4_putBlock yX4_putBlock, Cond.code yX4_putBlock cX4_putBlock 8 none, Cond.methodLink RX6 156 yX0_forgetPasts, Cond.instanceMethod yX0_forgetPasts, Cond.selects RX0 yX0_forgetPasts yX0_forgetPasts, Cond.code yX0_forgetPasts cX0_forgetPasts 1 none, Cond.fieldLink RX0 16 "PictureDeck$Blocks" "pasts" "[I", Cond.methodLink RX0 29 yJ7_fill_53178]
def wsX6_makeFetched : List Cond := .code yX6_makeFetched cX6_makeFetched 2 none :: ((wsX6_makeFetched_r1 ++ (wsX6_makeFetched_r2 ++ (wsX6_makeFetched_r3 ++ (wsX6_makeFetched_r4 ++ (wsX6_makeFetched_r5 ++ wsX6_makeFetched_r6))))) ++ wsX60 ++ wsX10 ++ wsX20 ++ wsX50 ++ wsX30 ++ wsX40 ++ wsX00)
def wsX6_square_r1 : List Cond := [Cond.classLink RX6 64 "java/lang/IllegalStateException", Cond.initialized "java/lang/IllegalStateException", Cond.fieldLink RX6 33 "PictureDeck" "coming" "LPictureDeck$Coming;", Cond.fieldLink RX6 94 "PictureDeck$Coming" "forItself" "Z", Cond.fieldLink RX6 140 "PictureDeck" "made" "I", Cond.methodLink RX6 85 yX6_squaresLeft, Cond.instanceMethod yX6_squaresLeft, Cond.selects RX6 yX6_squaresLeft yX6_squaresLeft, Cond.initialized RX6, Cond.code yX6_squaresLeft cX6_squaresLeft 1 (some .int), Cond.fieldLink RX6 60 "PictureDeck" "kind" "I", Cond.fieldLink RX6 239 "PictureDeck" "across" "I", Cond.fieldLink RX6 242 "PictureDeck" "down" "I", Cond.methodLink RX6 125 yX6_isEnoughTold, Cond.instanceMethod yX6_isEnoughTold, Cond.selects RX6 yX6_isEnoughTold yX6_isEnoughTold, Cond.code yX6_isEnoughTold cX6_isEnoughTold 1 (some .boolean), Cond.fieldLink RX6 89 "PictureDeck$Coming" "directions" "I", Cond.methodLink RX6 131 yX6_makeForItself, Cond.instanceMethod yX6_makeForItself, Cond.selects RX6 yX6_makeForItself yX6_makeForItself, Cond.code yX6_makeForItself cX6_makeForItself 2 none, Cond.fieldLink RX6 26 "PictureDeck" "motion" "LPictureDeck$Motion;", Cond.fieldLink RX6 69 "PictureDeck" "fetchedBy" "I"]
def wsX6_square_r2 : List Cond := [Cond.fieldLink RX6 19 "PictureDeck" "blocks" "LPictureDeck$Blocks;", Cond.fieldLink RX6 121 "PictureDeck$Coming" "levels" "[I", Cond.methodLink RX6 150 yX2_rest, Cond.instanceMethod yX2_rest, Cond.selects RX2 yX2_rest yX2_rest, Cond.initialized RX2, Cond.code yX2_rest cX2_rest 1 none, Cond.fieldLink RX2 7 "PictureDeck$Motion" "parts" "[I", Cond.methodLink RX2 23 yJ7_fill_53178, Cond.static yJ7_fill_53178, Cond.initialized RJ7, Cond.code yJ7_fill_53178 cJ7_fill_53178 4 none, Cond.methodLink RX6 248 yX0_turnForItself, Cond.instanceMethod yX0_turnForItself, Cond.selects RX0 yX0_turnForItself yX0_turnForItself, Cond.initialized RX0, Cond.code yX0_turnForItself cX0_turnForItself 6 none, Cond.fieldLink RX0 16 "PictureDeck$Blocks" "pasts" "[I", Cond.fieldLink RX0 23 "PictureDeck$Blocks" "coefficients" "[I", Cond.fieldLink RX0 53 "PictureDeck$Blocks" "ZIGZAG" "[I", Cond.fieldLink RX0 11 "PictureDeck$Blocks" "matrices" "[[I", Cond.static yX6_planeOf, Cond.code yX6_planeOf cX6_planeOf 1 (some .int), Cond.static yX6_bounded]
def wsX6_square_r3 : List Cond := [Cond.code yX6_bounded cX6_bounded 3 (some .int), Cond.methodLink RX0 56 yX0_scaled, Cond.instanceMethod yX0_scaled, Cond.selects RX0 yX0_scaled yX0_scaled, Cond.code yX0_scaled cX0_scaled 4 (some .int), Cond.fieldLink RX0 38 "PictureDeck$Blocks" "factor" "I", Cond.methodLink RX0 63 yJ6_signum_0f7a4, Cond.static yJ6_signum_0f7a4, Cond.initialized RJ6, Cond.code yJ6_signum_0f7a4 cJ6_signum_0f7a4 1 (some .int), Cond.methodLink RX0 60 yX0_turn, Cond.instanceMethod yX0_turn, Cond.selects RX0 yX0_turn yX0_turn, Cond.code yX0_turn cX0_turn 2 none, Cond.fieldLink RX0 26 "PictureDeck$Blocks" "halfTurned" "[I", Cond.fieldLink RX0 20 "PictureDeck$Blocks" "turned" "[I", Cond.methodLink RX0 68 yX0_alongRow, Cond.instanceMethod yX0_alongRow, Cond.selects RX0 yX0_alongRow yX0_alongRow, Cond.code yX0_alongRow cX0_alongRow 5 (some .int), Cond.methodLink RX0 74 yX0_wave, Cond.static yX0_wave, Cond.code yX0_wave cX0_wave 2 (some .int), Cond.fieldLink RX0 77 "PictureDeck$Blocks" "WAVE" "[I"]
def wsX6_square_r4 : List Cond := [Cond.methodLink RX0 71 yX0_alongColumn, Cond.instanceMethod yX0_alongColumn, Cond.selects RX0 yX0_alongColumn yX0_alongColumn, Cond.code yX0_alongColumn cX0_alongColumn 5 (some .int), Cond.methodLink RX6 252 yX6_placeBlock, Cond.instanceMethod yX6_placeBlock, Cond.selects RX6 yX6_placeBlock yX6_placeBlock, Cond.code yX6_placeBlock cX6_placeBlock 6 none, Cond.fieldLink RX6 10 "PictureDeck" "shelf" "LPictureDeck$Shelf;", Cond.fieldLink RX6 269 "PictureDeck$Shelf" "open" "LPictureDeck$Picture;", Cond.fieldLink RX6 182 "PictureDeck$Picture" "planes" "[LPictureDeck$Plane;", Cond.fieldLink RX6 272 "PictureDeck$Blocks" "turned" "[I", Cond.methodLink RX6 259 yX6_planeOf, Cond.methodLink RX6 263 yX6_squareLeft, Cond.instanceMethod yX6_squareLeft, Cond.selects RX6 yX6_squareLeft yX6_squareLeft, Cond.code yX6_squareLeft cX6_squareLeft 2 (some .int), Cond.methodLink RX6 295 yX6_squareSide, Cond.static yX6_squareSide, Cond.code yX6_squareSide cX6_squareSide 1 (some .int), Cond.methodLink RX6 266 yX6_squareTop, Cond.instanceMethod yX6_squareTop, Cond.selects RX6 yX6_squareTop yX6_squareTop, Cond.code yX6_squareTop cX6_squareTop 2 (some .int)]
def wsX6_square_r5 : List Cond := [Cond.methodLink RX6 275 yX4_putBlock, Cond.instanceMethod yX4_putBlock, Cond.selects RX4 yX4_putBlock yX4_putBlock, Cond.initialized RX4, Cond.code yX4_putBlock cX4_putBlock 8 none, Cond.methodLink RX4 49 yX4_nearest, Cond.instanceMethod yX4_nearest, Cond.selects RX4 yX4_nearest yX4_nearest, Cond.code yX4_nearest cX4_nearest 3 (some .int), Cond.fieldLink RX4 15 "PictureDeck$Plane" "samples" "[I", Cond.fieldLink RX4 22 "PictureDeck$Plane" "height" "I", Cond.fieldLink RX4 19 "PictureDeck$Plane" "width" "I", Cond.methodLink RX4 53 yX4_put, Cond.instanceMethod yX4_put, Cond.selects RX4 yX4_put yX4_put, Cond.code yX4_put cX4_put 4 none, Cond.methodLink RX4 45 yX4_holds, Cond.instanceMethod yX4_holds, Cond.selects RX4 yX4_holds yX4_holds, Cond.code yX4_holds cX4_holds 3 (some .boolean), Cond.static yX6_isWithin, Cond.code yX6_isWithin cX6_isWithin 3 (some .boolean), Cond.methodLink RX6 134 yX6_makeFetched, Cond.instanceMethod yX6_makeFetched]
def wsX6_square_r6 : List Cond := [Cond.selects RX6 yX6_makeFetched yX6_makeFetched, Cond.code yX6_makeFetched cX6_makeFetched 2 none, Cond.methodLink RX6 153 yX6_fetchSquare, Cond.instanceMethod yX6_fetchSquare, Cond.selects RX6 yX6_fetchSquare yX6_fetchSquare, Cond.code yX6_fetchSquare cX6_fetchSquare 2 none, Cond.fieldLink RX6 279 "PictureDeck$Shelf" "newer" "LPictureDeck$Picture;", Cond.fieldLink RX6 282 "PictureDeck$Shelf" "older" "LPictureDeck$Picture;", Cond.methodLink RX6 285 yX6_fetchBy, Cond.instanceMethod yX6_fetchBy, Cond.selects RX6 yX6_fetchBy yX6_fetchBy, Cond.code yX6_fetchBy cX6_fetchBy 8 none, Cond.methodLink RX6 289 yX2_used, Cond.instanceMethod yX2_used, Cond.selects RX2 yX2_used yX2_used, Cond.code yX2_used cX2_used 4 (some .int), Cond.fieldLink RX2 16 "PictureDeck$Motion" "whole" "Z", Cond.methodLink RX6 292 yX4_fetchSquare, Cond.instanceMethod yX4_fetchSquare, Cond.selects RX4 yX4_fetchSquare yX4_fetchSquare, Cond.code yX4_fetchSquare cX4_fetchSquare 10 none, Cond.fieldLink RX4 9 "PictureDeck$Plane" "side" "I", Cond.methodLink RX4 57 yX4_fetched, Cond.instanceMethod yX4_fetched]
def wsX6_square_r7 : List Cond := [Cond.selects RX4 yX4_fetched yX4_fetched, Cond.code yX4_fetched cX4_fetched 10 (some .int), Cond.methodLink RX6 256 yX0_turnDifference, Cond.instanceMethod yX0_turnDifference, Cond.selects RX0 yX0_turnDifference yX0_turnDifference, Cond.code yX0_turnDifference cX0_turnDifference 6 none, Cond.methodLink RX6 156 yX0_forgetPasts, Cond.instanceMethod yX0_forgetPasts, Cond.selects RX0 yX0_forgetPasts yX0_forgetPasts, Cond.code yX0_forgetPasts cX0_forgetPasts 1 none, Cond.methodLink RX0 29 yJ7_fill_53178, Cond.methodLink RX6 137 yX1_clear, Cond.instanceMethod yX1_clear, Cond.selects RX1 yX1_clear yX1_clear, Cond.initialized RX1, Cond.code yX1_clear cX1_clear 1 none, Cond.fieldLink RX1 9 "PictureDeck$Coming" "levels" "[I", Cond.fieldLink RX1 21 "PictureDeck$Coming" "forItself" "Z", Cond.fieldLink RX1 25 "PictureDeck$Coming" "directions" "I", Cond.fieldLink RX1 29 "PictureDeck$Coming" "anything" "Z", Cond.methodLink RX1 15 yJ7_fill_53178]
def wsX6_square : List Cond := .code yX6_square cX6_square 1 (some .int) :: ((wsX6_square_r1 ++ (wsX6_square_r2 ++ (wsX6_square_r3 ++ (wsX6_square_r4 ++ (wsX6_square_r5 ++ (wsX6_square_r6 ++ wsX6_square_r7)))))) ++ wsX60 ++ wsX10 ++ wsX20 ++ wsX00 ++ wsX50 ++ wsX30 ++ wsX40 ++ (vx_atS RX6 68 "java/lang/IllegalStateException" ["java/lang/RuntimeException", "java/lang/Exception"]).filter goodWord)
def wsX6_mayLeaveOut : List Cond := .code yX6_mayLeaveOut cX6_mayLeaveOut 1 (some .boolean) :: ([.fieldLink RX6 33 "PictureDeck" "coming" "LPictureDeck$Coming;", .fieldLink RX6 98 "PictureDeck$Coming" "anything" "Z", .fieldLink RX6 60 "PictureDeck" "kind" "I", .fieldLink RX6 69 "PictureDeck" "fetchedBy" "I"] ++ wsX60 ++ wsX10)
def wsX6_leave_r1 : List Cond := [Cond.classLink RX6 45 "java/lang/IllegalArgumentException", Cond.initialized "java/lang/IllegalArgumentException", Cond.classLink RX6 64 "java/lang/IllegalStateException", Cond.initialized "java/lang/IllegalStateException", Cond.fieldLink RX6 60 "PictureDeck" "kind" "I", Cond.fieldLink RX6 26 "PictureDeck" "motion" "LPictureDeck$Motion;", Cond.fieldLink RX6 69 "PictureDeck" "fetchedBy" "I", Cond.fieldLink RX6 140 "PictureDeck" "made" "I", Cond.fieldLink RX6 19 "PictureDeck" "blocks" "LPictureDeck$Blocks;", Cond.methodLink RX6 85 yX6_squaresLeft, Cond.instanceMethod yX6_squaresLeft, Cond.selects RX6 yX6_squaresLeft yX6_squaresLeft, Cond.initialized RX6, Cond.code yX6_squaresLeft cX6_squaresLeft 1 (some .int), Cond.fieldLink RX6 239 "PictureDeck" "across" "I", Cond.fieldLink RX6 242 "PictureDeck" "down" "I", Cond.methodLink RX6 41 yX6_isWithin, Cond.static yX6_isWithin, Cond.code yX6_isWithin cX6_isWithin 3 (some .boolean), Cond.methodLink RX6 145 yX6_mayLeaveOut, Cond.instanceMethod yX6_mayLeaveOut, Cond.selects RX6 yX6_mayLeaveOut yX6_mayLeaveOut, Cond.code yX6_mayLeaveOut cX6_mayLeaveOut 1 (some .boolean), Cond.fieldLink RX6 33 "PictureDeck" "coming" "LPictureDeck$Coming;"]
def wsX6_leave_r2 : List Cond := [Cond.fieldLink RX6 98 "PictureDeck$Coming" "anything" "Z", Cond.methodLink RX6 150 yX2_rest, Cond.instanceMethod yX2_rest, Cond.selects RX2 yX2_rest yX2_rest, Cond.initialized RX2, Cond.code yX2_rest cX2_rest 1 none, Cond.fieldLink RX2 7 "PictureDeck$Motion" "parts" "[I", Cond.methodLink RX2 23 yJ7_fill_53178, Cond.static yJ7_fill_53178, Cond.initialized RJ7, Cond.code yJ7_fill_53178 cJ7_fill_53178 4 none, Cond.methodLink RX6 153 yX6_fetchSquare, Cond.instanceMethod yX6_fetchSquare, Cond.selects RX6 yX6_fetchSquare yX6_fetchSquare, Cond.code yX6_fetchSquare cX6_fetchSquare 2 none, Cond.fieldLink RX6 10 "PictureDeck" "shelf" "LPictureDeck$Shelf;", Cond.fieldLink RX6 279 "PictureDeck$Shelf" "newer" "LPictureDeck$Picture;", Cond.fieldLink RX6 282 "PictureDeck$Shelf" "older" "LPictureDeck$Picture;", Cond.methodLink RX6 285 yX6_fetchBy, Cond.instanceMethod yX6_fetchBy, Cond.selects RX6 yX6_fetchBy yX6_fetchBy, Cond.code yX6_fetchBy cX6_fetchBy 8 none, Cond.fieldLink RX6 269 "PictureDeck$Shelf" "open" "LPictureDeck$Picture;", Cond.fieldLink RX6 182 "PictureDeck$Picture" "planes" "[LPictureDeck$Plane;"]
def wsX6_leave_r3 : List Cond := [Cond.methodLink RX6 289 yX2_used, Cond.instanceMethod yX2_used, Cond.selects RX2 yX2_used yX2_used, Cond.code yX2_used cX2_used 4 (some .int), Cond.fieldLink RX2 16 "PictureDeck$Motion" "whole" "Z", Cond.methodLink RX6 263 yX6_squareLeft, Cond.instanceMethod yX6_squareLeft, Cond.selects RX6 yX6_squareLeft yX6_squareLeft, Cond.code yX6_squareLeft cX6_squareLeft 2 (some .int), Cond.methodLink RX6 295 yX6_squareSide, Cond.static yX6_squareSide, Cond.code yX6_squareSide cX6_squareSide 1 (some .int), Cond.methodLink RX6 266 yX6_squareTop, Cond.instanceMethod yX6_squareTop, Cond.selects RX6 yX6_squareTop yX6_squareTop, Cond.code yX6_squareTop cX6_squareTop 2 (some .int), Cond.methodLink RX6 292 yX4_fetchSquare, Cond.instanceMethod yX4_fetchSquare, Cond.selects RX4 yX4_fetchSquare yX4_fetchSquare, Cond.initialized RX4, Cond.code yX4_fetchSquare cX4_fetchSquare 10 none, Cond.fieldLink RX4 9 "PictureDeck$Plane" "side" "I", Cond.methodLink RX4 57 yX4_fetched, Cond.instanceMethod yX4_fetched]
def wsX6_leave_r4 : List Cond := [Cond.selects RX4 yX4_fetched yX4_fetched, Cond.code yX4_fetched cX4_fetched 10 (some .int), Cond.methodLink RX4 49 yX4_nearest, Cond.instanceMethod yX4_nearest, Cond.selects RX4 yX4_nearest yX4_nearest, Cond.code yX4_nearest cX4_nearest 3 (some .int), Cond.fieldLink RX4 15 "PictureDeck$Plane" "samples" "[I", Cond.fieldLink RX4 22 "PictureDeck$Plane" "height" "I", Cond.fieldLink RX4 19 "PictureDeck$Plane" "width" "I", Cond.static yX6_bounded, Cond.code yX6_bounded cX6_bounded 3 (some .int), Cond.methodLink RX4 53 yX4_put, Cond.instanceMethod yX4_put, Cond.selects RX4 yX4_put yX4_put, Cond.code yX4_put cX4_put 4 none, Cond.methodLink RX4 45 yX4_holds, Cond.instanceMethod yX4_holds, Cond.selects RX4 yX4_holds yX4_holds, Cond.code yX4_holds cX4_holds 3 (some .boolean), Cond.methodLink RX6 156 yX0_forgetPasts, Cond.instanceMethod yX0_forgetPasts, Cond.selects RX0 yX0_forgetPasts yX0_forgetPasts, Cond.initialized RX0, Cond.code yX0_forgetPasts cX0_forgetPasts 1 none]
def wsX6_leave_r5 : List Cond := [Cond.fieldLink RX0 16 "PictureDeck$Blocks" "pasts" "[I", Cond.methodLink RX0 29 yJ7_fill_53178]
def wsX6_leave : List Cond := .code yX6_leave cX6_leave 3 (some .int) :: ((wsX6_leave_r1 ++ (wsX6_leave_r2 ++ (wsX6_leave_r3 ++ (wsX6_leave_r4 ++ wsX6_leave_r5)))) ++ wsX60 ++ wsX10 ++ wsX20 ++ wsX50 ++ wsX30 ++ wsX40 ++ wsX00 ++ (vx_atS RX6 49 "java/lang/IllegalArgumentException" ["java/lang/RuntimeException", "java/lang/Exception"]).filter goodWord ++ (vx_atS RX6 68 "java/lang/IllegalStateException" ["java/lang/RuntimeException", "java/lang/Exception"]).filter goodWord)
def wsX6_done_r1 : List Cond := [Cond.classLink RX6 64 "java/lang/IllegalStateException", Cond.initialized "java/lang/IllegalStateException", Cond.fieldLink RX6 60 "PictureDeck" "kind" "I", Cond.fieldLink RX6 10 "PictureDeck" "shelf" "LPictureDeck$Shelf;", Cond.fieldLink RX6 167 "PictureDeck$Shelf" "doneCount" "I", Cond.fieldLink RX6 140 "PictureDeck" "made" "I", Cond.fieldLink RX6 170 "PictureDeck$Shelf" "shownCount" "I", Cond.methodLink RX6 85 yX6_squaresLeft, Cond.instanceMethod yX6_squaresLeft, Cond.selects RX6 yX6_squaresLeft yX6_squaresLeft, Cond.initialized RX6, Cond.code yX6_squaresLeft cX6_squaresLeft 1 (some .int), Cond.fieldLink RX6 239 "PictureDeck" "across" "I", Cond.fieldLink RX6 242 "PictureDeck" "down" "I", Cond.methodLink RX6 161 yX5_showOpen, Cond.instanceMethod yX5_showOpen, Cond.selects RX5 yX5_showOpen yX5_showOpen, Cond.initialized RX5, Cond.code yX5_showOpen cX5_showOpen 2 none, Cond.fieldLink RX5 22 "PictureDeck$Shelf" "shown" "LPictureDeck$Picture;", Cond.fieldLink RX5 19 "PictureDeck$Shelf" "open" "LPictureDeck$Picture;", Cond.fieldLink RX5 56 "PictureDeck$Shelf" "shownCount" "I", Cond.methodLink RX6 164 yX5_turnOpenIntoReference, Cond.instanceMethod yX5_turnOpenIntoReference]
def wsX6_done_r2 : List Cond := [Cond.selects RX5 yX5_turnOpenIntoReference yX5_turnOpenIntoReference, Cond.code yX5_turnOpenIntoReference cX5_turnOpenIntoReference 2 none, Cond.fieldLink RX5 10 "PictureDeck$Shelf" "older" "LPictureDeck$Picture;", Cond.fieldLink RX5 16 "PictureDeck$Shelf" "newer" "LPictureDeck$Picture;", Cond.fieldLink RX5 49 "PictureDeck$Shelf" "newerWaits" "Z", Cond.methodLink RX5 63 yX5_showNewer, Cond.instanceMethod yX5_showNewer, Cond.selects RX5 yX5_showNewer yX5_showNewer, Cond.code yX5_showNewer cX5_showNewer 1 none, Cond.methodLink RX5 59 yX3_copyFrom, Cond.instanceMethod yX3_copyFrom, Cond.selects RX3 yX3_copyFrom yX3_copyFrom, Cond.initialized RX3, Cond.code yX3_copyFrom cX3_copyFrom 3 none, Cond.fieldLink RX3 11 "PictureDeck$Picture" "planes" "[LPictureDeck$Plane;", Cond.methodLink RX3 28 yX4_copyFrom, Cond.instanceMethod yX4_copyFrom, Cond.selects RX4 yX4_copyFrom yX4_copyFrom, Cond.initialized RX4, Cond.code yX4_copyFrom cX4_copyFrom 2 none, Cond.fieldLink RX4 15 "PictureDeck$Plane" "samples" "[I", Cond.fieldLink RX4 19 "PictureDeck$Plane" "width" "I", Cond.fieldLink RX4 22 "PictureDeck$Plane" "height" "I", Cond.methodLink RX4 31 arraycopyName]
def wsX6_done_r3 : List Cond := [Cond.native arraycopyName, Cond.static arraycopyName, Cond.initialized "java/lang/System"]
def wsX6_done : List Cond := .code yX6_done cX6_done 1 (some .int) :: ((wsX6_done_r1 ++ (wsX6_done_r2 ++ wsX6_done_r3)) ++ wsX60 ++ wsX50 ++ wsX30 ++ wsX40 ++ (vx_atS RX6 68 "java/lang/IllegalStateException" ["java/lang/RuntimeException", "java/lang/Exception"]).filter goodWord)
def wsX6_last_r1 : List Cond := [Cond.classLink RX6 64 "java/lang/IllegalStateException", Cond.initialized "java/lang/IllegalStateException", Cond.fieldLink RX6 60 "PictureDeck" "kind" "I", Cond.fieldLink RX6 10 "PictureDeck" "shelf" "LPictureDeck$Shelf;", Cond.fieldLink RX6 170 "PictureDeck$Shelf" "shownCount" "I", Cond.methodLink RX6 173 yX5_showNewer, Cond.instanceMethod yX5_showNewer, Cond.selects RX5 yX5_showNewer yX5_showNewer, Cond.initialized RX5, Cond.code yX5_showNewer cX5_showNewer 1 none, Cond.fieldLink RX5 49 "PictureDeck$Shelf" "newerWaits" "Z", Cond.fieldLink RX5 22 "PictureDeck$Shelf" "shown" "LPictureDeck$Picture;", Cond.fieldLink RX5 16 "PictureDeck$Shelf" "newer" "LPictureDeck$Picture;", Cond.fieldLink RX5 56 "PictureDeck$Shelf" "shownCount" "I", Cond.methodLink RX5 59 yX3_copyFrom, Cond.instanceMethod yX3_copyFrom, Cond.selects RX3 yX3_copyFrom yX3_copyFrom, Cond.initialized RX3, Cond.code yX3_copyFrom cX3_copyFrom 3 none, Cond.fieldLink RX3 11 "PictureDeck$Picture" "planes" "[LPictureDeck$Plane;", Cond.methodLink RX3 28 yX4_copyFrom, Cond.instanceMethod yX4_copyFrom, Cond.selects RX4 yX4_copyFrom yX4_copyFrom, Cond.initialized RX4]
def wsX6_last_r2 : List Cond := [Cond.code yX4_copyFrom cX4_copyFrom 2 none, Cond.fieldLink RX4 15 "PictureDeck$Plane" "samples" "[I", Cond.fieldLink RX4 19 "PictureDeck$Plane" "width" "I", Cond.fieldLink RX4 22 "PictureDeck$Plane" "height" "I", Cond.methodLink RX4 31 arraycopyName, Cond.native arraycopyName, Cond.static arraycopyName, Cond.initialized "java/lang/System"]
def wsX6_last : List Cond := .code yX6_last cX6_last 1 (some .int) :: ((wsX6_last_r1 ++ wsX6_last_r2) ++ wsX60 ++ wsX50 ++ wsX30 ++ wsX40 ++ (vx_atS RX6 68 "java/lang/IllegalStateException" ["java/lang/RuntimeException", "java/lang/Exception"]).filter goodWord)
def wsX6_sample_r1 : List Cond := [Cond.classLink RX6 64 "java/lang/IllegalStateException", Cond.initialized "java/lang/IllegalStateException", Cond.classLink RX6 193 "java/lang/IndexOutOfBoundsException", Cond.initialized "java/lang/IndexOutOfBoundsException", Cond.fieldLink RX6 10 "PictureDeck" "shelf" "LPictureDeck$Shelf;", Cond.fieldLink RX6 170 "PictureDeck$Shelf" "shownCount" "I", Cond.fieldLink RX6 178 "PictureDeck$Shelf" "shown" "LPictureDeck$Picture;", Cond.fieldLink RX6 182 "PictureDeck$Picture" "planes" "[LPictureDeck$Plane;", Cond.methodLink RX6 41 yX6_isWithin, Cond.static yX6_isWithin, Cond.initialized RX6, Cond.code yX6_isWithin cX6_isWithin 3 (some .boolean), Cond.methodLink RX6 188 yX4_holds, Cond.instanceMethod yX4_holds, Cond.selects RX4 yX4_holds yX4_holds, Cond.initialized RX4, Cond.code yX4_holds cX4_holds 3 (some .boolean), Cond.fieldLink RX4 19 "PictureDeck$Plane" "width" "I", Cond.fieldLink RX4 22 "PictureDeck$Plane" "height" "I", Cond.methodLink RX6 198 yX4_nearest, Cond.instanceMethod yX4_nearest, Cond.selects RX4 yX4_nearest yX4_nearest, Cond.code yX4_nearest cX4_nearest 3 (some .int), Cond.fieldLink RX4 15 "PictureDeck$Plane" "samples" "[I"]
def wsX6_sample_r2 : List Cond := [Cond.static yX6_bounded, Cond.code yX6_bounded cX6_bounded 3 (some .int)]
def wsX6_sample : List Cond := .code yX6_sample cX6_sample 4 (some .int) :: ((wsX6_sample_r1 ++ wsX6_sample_r2) ++ wsX60 ++ wsX50 ++ wsX30 ++ wsX40 ++ (vx_atS RX6 68 "java/lang/IllegalStateException" ["java/lang/RuntimeException", "java/lang/Exception"]).filter goodWord ++ (vx_atS RX6 197 "java/lang/IndexOutOfBoundsException" ["java/lang/RuntimeException", "java/lang/Exception"]).filter goodWord)
def wsX6_colour_r1 : List Cond := [Cond.classLink RX6 64 "java/lang/IllegalStateException", Cond.initialized "java/lang/IllegalStateException", Cond.classLink RX6 193 "java/lang/IndexOutOfBoundsException", Cond.initialized "java/lang/IndexOutOfBoundsException", Cond.fieldLink RX6 10 "PictureDeck" "shelf" "LPictureDeck$Shelf;", Cond.fieldLink RX6 170 "PictureDeck$Shelf" "shownCount" "I", Cond.fieldLink RX6 178 "PictureDeck$Shelf" "shown" "LPictureDeck$Picture;", Cond.fieldLink RX6 182 "PictureDeck$Picture" "planes" "[LPictureDeck$Plane;", Cond.methodLink RX6 188 yX4_holds, Cond.instanceMethod yX4_holds, Cond.selects RX4 yX4_holds yX4_holds, Cond.initialized RX4, Cond.code yX4_holds cX4_holds 3 (some .boolean), Cond.fieldLink RX4 19 "PictureDeck$Plane" "width" "I", Cond.fieldLink RX4 22 "PictureDeck$Plane" "height" "I", Cond.static yX6_isWithin, Cond.initialized RX6, Cond.code yX6_isWithin cX6_isWithin 3 (some .boolean), Cond.methodLink RX6 202 yX3_mixed, Cond.instanceMethod yX3_mixed, Cond.selects RX3 yX3_mixed yX3_mixed, Cond.initialized RX3, Cond.code yX3_mixed cX3_mixed 9 (some .int), Cond.fieldLink RX3 11 "PictureDeck$Picture" "planes" "[LPictureDeck$Plane;"]
def wsX6_colour_r2 : List Cond := [Cond.constantFloat RX3 36 (1068725436), Cond.constantFloat RX3 41 (1051734680), Cond.constantFloat RX3 42 (1060557214), Cond.constantFloat RX3 43 (1071829221), Cond.constant RX3 44 (65536), Cond.methodLink RX3 32 yX4_nearest, Cond.instanceMethod yX4_nearest, Cond.selects RX4 yX4_nearest yX4_nearest, Cond.code yX4_nearest cX4_nearest 3 (some .int), Cond.fieldLink RX4 15 "PictureDeck$Plane" "samples" "[I", Cond.static yX6_bounded, Cond.code yX6_bounded cX6_bounded 3 (some .int), Cond.methodLink RX3 37 yX3_tone, Cond.static yX3_tone, Cond.code yX3_tone cX3_tone 1 (some .int), Cond.constantFloat RX3 45 (1056964608)]
def wsX6_colour : List Cond := .code yX6_colour cX6_colour 3 (some .int) :: ((wsX6_colour_r1 ++ wsX6_colour_r2) ++ wsX60 ++ wsX50 ++ wsX30 ++ wsX40 ++ (vx_atS RX6 68 "java/lang/IllegalStateException" ["java/lang/RuntimeException", "java/lang/Exception"]).filter goodWord ++ (vx_atS RX6 197 "java/lang/IndexOutOfBoundsException" ["java/lang/RuntimeException", "java/lang/Exception"]).filter goodWord)
def wsX6_light : List Cond := .code yX6_light cX6_light 4 none :: ([.classLink RX6 45 "java/lang/IllegalArgumentException", .initialized "java/lang/IllegalArgumentException", .classLink RX6 64 "java/lang/IllegalStateException", .initialized "java/lang/IllegalStateException", .constantFloat RX6 205 (3296329728), .constantFloat RX6 206 (1148846080), .constantFloat RX6 207 (3351465984), .constantFloat RX6 208 (1203982336), .fieldLink RX6 10 "PictureDeck" "shelf" "LPictureDeck$Shelf;", .fieldLink RX6 170 "PictureDeck$Shelf" "shownCount" "I", .fieldLink RX6 178 "PictureDeck$Shelf" "shown" "LPictureDeck$Picture;", .fieldLink RX6 182 "PictureDeck$Picture" "planes" "[LPictureDeck$Plane;", .methodLink RX6 211 yX4_brighten, .instanceMethod yX4_brighten, .selects RX4 yX4_brighten yX4_brighten, .initialized RX4, .code yX4_brighten cX4_brighten 4 none, .fieldLink RX4 19 "PictureDeck$Plane" "width" "I", .fieldLink RX4 22 "PictureDeck$Plane" "height" "I", .fieldLink RX4 15 "PictureDeck$Plane" "samples" "[I", .static yX6_bounded, .initialized RX6, .code yX6_bounded cX6_bounded 3 (some .int)] ++ wsX60 ++ wsX50 ++ wsX30 ++ wsX40 ++ (vx_atS RX6 49 "java/lang/IllegalArgumentException" ["java/lang/RuntimeException", "java/lang/Exception"]).filter goodWord ++ (vx_atS RX6 68 "java/lang/IllegalStateException" ["java/lang/RuntimeException", "java/lang/Exception"]).filter goodWord)
def wsX6_keep_r1 : List Cond := [Cond.classLink RX6 64 "java/lang/IllegalStateException", Cond.initialized "java/lang/IllegalStateException", Cond.fieldLink RX6 10 "PictureDeck" "shelf" "LPictureDeck$Shelf;", Cond.fieldLink RX6 170 "PictureDeck$Shelf" "shownCount" "I", Cond.methodLink RX6 215 yX5_keepShown, Cond.instanceMethod yX5_keepShown, Cond.selects RX5 yX5_keepShown yX5_keepShown, Cond.initialized RX5, Cond.code yX5_keepShown cX5_keepShown 1 none, Cond.fieldLink RX5 36 "PictureDeck$Shelf" "kept" "LPictureDeck$Plane;", Cond.fieldLink RX5 22 "PictureDeck$Shelf" "shown" "LPictureDeck$Picture;", Cond.fieldLink RX5 66 "PictureDeck$Picture" "planes" "[LPictureDeck$Plane;", Cond.fieldLink RX5 45 "PictureDeck$Shelf" "hasKept" "Z", Cond.methodLink RX5 70 yX4_copyFrom, Cond.instanceMethod yX4_copyFrom, Cond.selects RX4 yX4_copyFrom yX4_copyFrom, Cond.initialized RX4, Cond.code yX4_copyFrom cX4_copyFrom 2 none, Cond.fieldLink RX4 15 "PictureDeck$Plane" "samples" "[I", Cond.fieldLink RX4 19 "PictureDeck$Plane" "width" "I", Cond.fieldLink RX4 22 "PictureDeck$Plane" "height" "I", Cond.methodLink RX4 31 arraycopyName, Cond.native arraycopyName, Cond.static arraycopyName]
def wsX6_keep_r2 : List Cond := [Cond.initialized "java/lang/System"]
def wsX6_keep : List Cond := .code yX6_keep cX6_keep 1 none :: ((wsX6_keep_r1 ++ wsX6_keep_r2) ++ wsX60 ++ wsX50 ++ wsX30 ++ wsX40 ++ (vx_atS RX6 68 "java/lang/IllegalStateException" ["java/lang/RuntimeException", "java/lang/Exception"]).filter goodWord)
def wsX6_error : List Cond := .code yX6_error cX6_error 1 (some .float) :: ([.classLink RX6 64 "java/lang/IllegalStateException", .initialized "java/lang/IllegalStateException", .fieldLink RX6 10 "PictureDeck" "shelf" "LPictureDeck$Shelf;", .fieldLink RX6 170 "PictureDeck$Shelf" "shownCount" "I", .fieldLink RX6 218 "PictureDeck$Shelf" "hasKept" "Z", .fieldLink RX6 178 "PictureDeck$Shelf" "shown" "LPictureDeck$Picture;", .fieldLink RX6 182 "PictureDeck$Picture" "planes" "[LPictureDeck$Plane;", .fieldLink RX6 223 "PictureDeck$Shelf" "kept" "LPictureDeck$Plane;", .methodLink RX6 227 yX4_meanSquareTo, .instanceMethod yX4_meanSquareTo, .selects RX4 yX4_meanSquareTo yX4_meanSquareTo, .initialized RX4, .code yX4_meanSquareTo cX4_meanSquareTo 6 (some .float), .fieldLink RX4 19 "PictureDeck$Plane" "width" "I", .fieldLink RX4 22 "PictureDeck$Plane" "height" "I", .fieldLink RX4 15 "PictureDeck$Plane" "samples" "[I"] ++ wsX60 ++ wsX50 ++ wsX30 ++ wsX40 ++ (vx_atS RX6 68 "java/lang/IllegalStateException" ["java/lang/RuntimeException", "java/lang/Exception"]).filter goodWord)
def wsX6_told : List Cond := .code yX6_told cX6_told 2 (some .int) :: ([.classLink RX6 45 "java/lang/IllegalArgumentException", .initialized "java/lang/IllegalArgumentException", .fieldLink RX6 19 "PictureDeck" "blocks" "LPictureDeck$Blocks;", .fieldLink RX6 233 "PictureDeck$Blocks" "pasts" "[I", .fieldLink RX6 26 "PictureDeck" "motion" "LPictureDeck$Motion;", .fieldLink RX6 236 "PictureDeck$Motion" "parts" "[I", .fieldLink RX6 60 "PictureDeck" "kind" "I", .fieldLink RX6 140 "PictureDeck" "made" "I", .fieldLink RX6 10 "PictureDeck" "shelf" "LPictureDeck$Shelf;", .fieldLink RX6 167 "PictureDeck$Shelf" "doneCount" "I", .fieldLink RX6 170 "PictureDeck$Shelf" "shownCount" "I", .methodLink RX6 41 yX6_isWithin, .static yX6_isWithin, .initialized RX6, .code yX6_isWithin cX6_isWithin 3 (some .boolean)] ++ wsX60 ++ wsX00 ++ wsX20 ++ wsX50 ++ (vx_atS RX6 49 "java/lang/IllegalArgumentException" ["java/lang/RuntimeException", "java/lang/Exception"]).filter goodWord)
def wsX7_clearVectors : List Cond := .code yX7_clearVectors cX7_clearVectors 2 none :: ([.fieldLink RX7 37 "PictureDeckModel" "vectors" "[I"] ++ wsX70)
def wsX7_clearPasts : List Cond := .code yX7_clearPasts cX7_clearPasts 2 none :: ([.fieldLink RX7 40 "PictureDeckModel" "pasts" "[I"] ++ wsX70)
def wsX7_forget : List Cond := .code yX7_forget cX7_forget 2 none :: ([.fieldLink RX7 110 "PictureDeckModel" "own" "Z", .fieldLink RX7 113 "PictureDeckModel" "told0" "Z", .fieldLink RX7 43 "PictureDeckModel" "directions" "[Z", .fieldLink RX7 47 "PictureDeckModel" "levels" "[I"] ++ wsX70)
def wsX7_size_r1 : List Cond := [Cond.fieldLink RX7 66 "PictureDeckModel" "thrown" "I", Cond.fieldLink RX7 70 "PictureDeckModel" "w" "I", Cond.fieldLink RX7 73 "PictureDeckModel" "h" "I", Cond.fieldLink RX7 7 "PictureDeckModel" "matrices" "[I", Cond.fieldLink RX7 22 "PictureDeckModel" "oldOne" "[I", Cond.fieldLink RX7 25 "PictureDeckModel" "newOne" "[I", Cond.fieldLink RX7 76 "PictureDeckModel" "newCame" "Z", Cond.fieldLink RX7 80 "PictureDeckModel" "newSeen" "Z", Cond.fieldLink RX7 83 "PictureDeckModel" "isSeen" "Z", Cond.fieldLink RX7 86 "PictureDeckModel" "isKept" "Z", Cond.fieldLink RX7 89 "PictureDeckModel" "doneCount" "I", Cond.fieldLink RX7 92 "PictureDeckModel" "seenCount" "I", Cond.fieldLink RX7 95 "PictureDeckModel" "kind" "I", Cond.fieldLink RX7 98 "PictureDeckModel" "count" "I", Cond.fieldLink RX7 34 "PictureDeckModel" "reaches" "[I", Cond.methodLink RX7 101 yX7_clearVectors, Cond.instanceMethod yX7_clearVectors, Cond.selects RX7 yX7_clearVectors yX7_clearVectors, Cond.initialized RX7, Cond.code yX7_clearVectors cX7_clearVectors 2 none, Cond.fieldLink RX7 37 "PictureDeckModel" "vectors" "[I", Cond.methodLink RX7 104 yX7_clearPasts, Cond.instanceMethod yX7_clearPasts, Cond.selects RX7 yX7_clearPasts yX7_clearPasts]
def wsX7_size_r2 : List Cond := [Cond.code yX7_clearPasts cX7_clearPasts 2 none, Cond.fieldLink RX7 40 "PictureDeckModel" "pasts" "[I", Cond.methodLink RX7 107 yX7_forget, Cond.instanceMethod yX7_forget, Cond.selects RX7 yX7_forget yX7_forget, Cond.code yX7_forget cX7_forget 2 none, Cond.fieldLink RX7 110 "PictureDeckModel" "own" "Z", Cond.fieldLink RX7 113 "PictureDeckModel" "told0" "Z", Cond.fieldLink RX7 43 "PictureDeckModel" "directions" "[Z", Cond.fieldLink RX7 47 "PictureDeckModel" "levels" "[I"]
def wsX7_size : List Cond := .code yX7_size cX7_size 4 none :: ((wsX7_size_r1 ++ wsX7_size_r2) ++ wsX70)
def wsX7_init_r1 : List Cond := [Cond.methodLink RX7 1 objectInit, Cond.instanceMethod objectInit, Cond.code objectInit ⟨#[0xb1]⟩ 1 none, Cond.arrayClass .int, Cond.fieldLink RX7 7 "PictureDeckModel" "matrices" "[I", Cond.fieldLink RX7 13 "PictureDeckModel" "quarter" "[I", Cond.fieldLink RX7 16 "PictureDeckModel" "zigzag" "[I", Cond.fieldLink RX7 19 "PictureDeckModel" "now" "[I", Cond.fieldLink RX7 22 "PictureDeckModel" "oldOne" "[I", Cond.fieldLink RX7 25 "PictureDeckModel" "newOne" "[I", Cond.fieldLink RX7 28 "PictureDeckModel" "seen" "[I", Cond.fieldLink RX7 31 "PictureDeckModel" "kept" "[I", Cond.fieldLink RX7 34 "PictureDeckModel" "reaches" "[I", Cond.fieldLink RX7 37 "PictureDeckModel" "vectors" "[I", Cond.fieldLink RX7 40 "PictureDeckModel" "pasts" "[I", Cond.arrayClass .boolean, Cond.fieldLink RX7 43 "PictureDeckModel" "directions" "[Z", Cond.fieldLink RX7 47 "PictureDeckModel" "levels" "[I", Cond.fieldLink RX7 50 "PictureDeckModel" "beforeDirections" "[Z", Cond.fieldLink RX7 53 "PictureDeckModel" "coefficients" "[I", Cond.fieldLink RX7 56 "PictureDeckModel" "between" "[I", Cond.fieldLink RX7 59 "PictureDeckModel" "made" "[I", Cond.methodLink RX7 62 yX7_size, Cond.instanceMethod yX7_size]
def wsX7_init_r2 : List Cond := [Cond.selects RX7 yX7_size yX7_size, Cond.initialized RX7, Cond.code yX7_size cX7_size 4 none, Cond.fieldLink RX7 66 "PictureDeckModel" "thrown" "I", Cond.fieldLink RX7 70 "PictureDeckModel" "w" "I", Cond.fieldLink RX7 73 "PictureDeckModel" "h" "I", Cond.fieldLink RX7 76 "PictureDeckModel" "newCame" "Z", Cond.fieldLink RX7 80 "PictureDeckModel" "newSeen" "Z", Cond.fieldLink RX7 83 "PictureDeckModel" "isSeen" "Z", Cond.fieldLink RX7 86 "PictureDeckModel" "isKept" "Z", Cond.fieldLink RX7 89 "PictureDeckModel" "doneCount" "I", Cond.fieldLink RX7 92 "PictureDeckModel" "seenCount" "I", Cond.fieldLink RX7 95 "PictureDeckModel" "kind" "I", Cond.fieldLink RX7 98 "PictureDeckModel" "count" "I", Cond.methodLink RX7 101 yX7_clearVectors, Cond.instanceMethod yX7_clearVectors, Cond.selects RX7 yX7_clearVectors yX7_clearVectors, Cond.code yX7_clearVectors cX7_clearVectors 2 none, Cond.methodLink RX7 104 yX7_clearPasts, Cond.instanceMethod yX7_clearPasts, Cond.selects RX7 yX7_clearPasts yX7_clearPasts, Cond.code yX7_clearPasts cX7_clearPasts 2 none, Cond.methodLink RX7 107 yX7_forget, Cond.instanceMethod yX7_forget]
def wsX7_init_r3 : List Cond := [Cond.selects RX7 yX7_forget yX7_forget, Cond.code yX7_forget cX7_forget 2 none, Cond.fieldLink RX7 110 "PictureDeckModel" "own" "Z", Cond.fieldLink RX7 113 "PictureDeckModel" "told0" "Z"]
def wsX7_init : List Cond := .code yX7_init cX7_init 6 none :: ((wsX7_init_r1 ++ (wsX7_init_r2 ++ wsX7_init_r3)) ++ wsX70)
def wsX7_thrown : List Cond := .code yX7_thrown cX7_thrown 1 (some .int) :: ([.fieldLink RX7 66 "PictureDeckModel" "thrown" "I"] ++ wsX70)
def wsX7_matrix : List Cond := .code yX7_matrix cX7_matrix 5 (some .int) :: ([.fieldLink RX7 66 "PictureDeckModel" "thrown" "I", .fieldLink RX7 7 "PictureDeckModel" "matrices" "[I"] ++ wsX70)
def wsX7_begin_r1 : List Cond := [Cond.fieldLink RX7 95 "PictureDeckModel" "kind" "I", Cond.fieldLink RX7 66 "PictureDeckModel" "thrown" "I", Cond.fieldLink RX7 34 "PictureDeckModel" "reaches" "[I", Cond.fieldLink RX7 116 "PictureDeckModel" "whole" "Z", Cond.fieldLink RX7 119 "PictureDeckModel" "scale" "I", Cond.fieldLink RX7 98 "PictureDeckModel" "count" "I", Cond.fieldLink RX7 122 "PictureDeckModel" "before" "Z", Cond.methodLink RX7 101 yX7_clearVectors, Cond.instanceMethod yX7_clearVectors, Cond.selects RX7 yX7_clearVectors yX7_clearVectors, Cond.initialized RX7, Cond.code yX7_clearVectors cX7_clearVectors 2 none, Cond.fieldLink RX7 37 "PictureDeckModel" "vectors" "[I", Cond.methodLink RX7 104 yX7_clearPasts, Cond.instanceMethod yX7_clearPasts, Cond.selects RX7 yX7_clearPasts yX7_clearPasts, Cond.code yX7_clearPasts cX7_clearPasts 2 none, Cond.fieldLink RX7 40 "PictureDeckModel" "pasts" "[I", Cond.methodLink RX7 107 yX7_forget, Cond.instanceMethod yX7_forget, Cond.selects RX7 yX7_forget yX7_forget, Cond.code yX7_forget cX7_forget 2 none, Cond.fieldLink RX7 110 "PictureDeckModel" "own" "Z", Cond.fieldLink RX7 113 "PictureDeckModel" "told0" "Z"]
def wsX7_begin_r2 : List Cond := [Cond.fieldLink RX7 43 "PictureDeckModel" "directions" "[Z", Cond.fieldLink RX7 47 "PictureDeckModel" "levels" "[I"]
def wsX7_begin : List Cond := .code yX7_begin cX7_begin 5 none :: ((wsX7_begin_r1 ++ wsX7_begin_r2) ++ wsX70)
def wsX7_scale : List Cond := .code yX7_scale cX7_scale 2 none :: ([.fieldLink RX7 95 "PictureDeckModel" "kind" "I", .fieldLink RX7 66 "PictureDeckModel" "thrown" "I", .fieldLink RX7 119 "PictureDeckModel" "scale" "I"] ++ wsX70)
def wsX7_isFull : List Cond := .code yX7_isFull cX7_isFull 1 (some .boolean) :: ([.fieldLink RX7 95 "PictureDeckModel" "kind" "I", .fieldLink RX7 98 "PictureDeckModel" "count" "I", .fieldLink RX7 70 "PictureDeckModel" "w" "I", .fieldLink RX7 73 "PictureDeckModel" "h" "I"] ++ wsX70)
def wsX7_itself : List Cond := .code yX7_itself cX7_itself 1 none :: ([.fieldLink RX7 43 "PictureDeckModel" "directions" "[Z", .fieldLink RX7 66 "PictureDeckModel" "thrown" "I", .fieldLink RX7 110 "PictureDeckModel" "own" "Z", .fieldLink RX7 113 "PictureDeckModel" "told0" "Z", .methodLink RX7 125 yX7_isFull, .instanceMethod yX7_isFull, .selects RX7 yX7_isFull yX7_isFull, .initialized RX7, .code yX7_isFull cX7_isFull 1 (some .boolean), .fieldLink RX7 95 "PictureDeckModel" "kind" "I", .fieldLink RX7 98 "PictureDeckModel" "count" "I", .fieldLink RX7 70 "PictureDeckModel" "w" "I", .fieldLink RX7 73 "PictureDeckModel" "h" "I"] ++ wsX70)
def wsX7_moved : List Cond := .code yX7_moved cX7_moved 4 (some .int) :: ([])
def wsX7_vector : List Cond := .code yX7_vector cX7_vector 6 none :: ([.fieldLink RX7 34 "PictureDeckModel" "reaches" "[I", .fieldLink RX7 110 "PictureDeckModel" "own" "Z", .fieldLink RX7 95 "PictureDeckModel" "kind" "I", .fieldLink RX7 66 "PictureDeckModel" "thrown" "I", .fieldLink RX7 37 "PictureDeckModel" "vectors" "[I", .fieldLink RX7 43 "PictureDeckModel" "directions" "[Z", .fieldLink RX7 113 "PictureDeckModel" "told0" "Z", .methodLink RX7 125 yX7_isFull, .instanceMethod yX7_isFull, .selects RX7 yX7_isFull yX7_isFull, .initialized RX7, .code yX7_isFull cX7_isFull 1 (some .boolean), .fieldLink RX7 98 "PictureDeckModel" "count" "I", .fieldLink RX7 70 "PictureDeckModel" "w" "I", .fieldLink RX7 73 "PictureDeckModel" "h" "I", .methodLink RX7 129 yX7_moved, .static yX7_moved, .code yX7_moved cX7_moved 4 (some .int)] ++ wsX70)
def wsX7_level : List Cond := .code yX7_level cX7_level 4 none :: ([.fieldLink RX7 66 "PictureDeckModel" "thrown" "I", .fieldLink RX7 47 "PictureDeckModel" "levels" "[I", .fieldLink RX7 113 "PictureDeckModel" "told0" "Z", .methodLink RX7 125 yX7_isFull, .instanceMethod yX7_isFull, .selects RX7 yX7_isFull yX7_isFull, .initialized RX7, .code yX7_isFull cX7_isFull 1 (some .boolean), .fieldLink RX7 95 "PictureDeckModel" "kind" "I", .fieldLink RX7 98 "PictureDeckModel" "count" "I", .fieldLink RX7 70 "PictureDeckModel" "w" "I", .fieldLink RX7 73 "PictureDeckModel" "h" "I"] ++ wsX70)
def wsX7_within : List Cond := .code yX7_within cX7_within 3 (some .int) :: ([])
def wsX7_planeOf : List Cond := .code yX7_planeOf cX7_planeOf 1 (some .int) :: ([])
def wsX7_scaleAll : List Cond := .code yX7_scaleAll cX7_scaleAll 7 none :: ([.fieldLink RX7 47 "PictureDeckModel" "levels" "[I", .fieldLink RX7 16 "PictureDeckModel" "zigzag" "[I", .fieldLink RX7 110 "PictureDeckModel" "own" "Z", .fieldLink RX7 119 "PictureDeckModel" "scale" "I", .fieldLink RX7 7 "PictureDeckModel" "matrices" "[I", .fieldLink RX7 53 "PictureDeckModel" "coefficients" "[I", .fieldLink RX7 40 "PictureDeckModel" "pasts" "[I", .methodLink RX7 133 yX7_within, .static yX7_within, .initialized RX7, .code yX7_within cX7_within 3 (some .int), .methodLink RX7 136 yX7_planeOf, .static yX7_planeOf, .code yX7_planeOf cX7_planeOf 1 (some .int)] ++ wsX70)
def wsX7_factor : List Cond := .code yX7_factor cX7_factor 4 (some .int) :: ([.fieldLink RX7 13 "PictureDeckModel" "quarter" "[I"] ++ wsX70)
def wsX7_makeSamples : List Cond := .code yX7_makeSamples cX7_makeSamples 5 none :: ([.fieldLink RX7 53 "PictureDeckModel" "coefficients" "[I", .fieldLink RX7 56 "PictureDeckModel" "between" "[I", .fieldLink RX7 59 "PictureDeckModel" "made" "[I", .methodLink RX7 140 yX7_factor, .instanceMethod yX7_factor, .selects RX7 yX7_factor yX7_factor, .initialized RX7, .code yX7_factor cX7_factor 4 (some .int), .fieldLink RX7 13 "PictureDeckModel" "quarter" "[I"] ++ wsX70)
def wsX7_wideOf : List Cond := .code yX7_wideOf cX7_wideOf 2 (some .int) :: ([.fieldLink RX7 70 "PictureDeckModel" "w" "I"] ++ wsX70)
def wsX7_highOf : List Cond := .code yX7_highOf cX7_highOf 2 (some .int) :: ([.fieldLink RX7 73 "PictureDeckModel" "h" "I"] ++ wsX70)
def wsX7_place : List Cond := .code yX7_place cX7_place 3 (some .int) :: ([])
def wsX7_look : List Cond := .code yX7_look cX7_look 6 (some .int) :: ([.fieldLink RX7 22 "PictureDeckModel" "oldOne" "[I", .fieldLink RX7 25 "PictureDeckModel" "newOne" "[I", .methodLink RX7 144 yX7_wideOf, .instanceMethod yX7_wideOf, .selects RX7 yX7_wideOf yX7_wideOf, .initialized RX7, .code yX7_wideOf cX7_wideOf 2 (some .int), .fieldLink RX7 70 "PictureDeckModel" "w" "I", .methodLink RX7 133 yX7_within, .static yX7_within, .code yX7_within cX7_within 3 (some .int), .methodLink RX7 147 yX7_highOf, .instanceMethod yX7_highOf, .selects RX7 yX7_highOf yX7_highOf, .code yX7_highOf cX7_highOf 2 (some .int), .fieldLink RX7 73 "PictureDeckModel" "h" "I", .methodLink RX7 150 yX7_place, .static yX7_place, .code yX7_place cX7_place 3 (some .int)] ++ wsX70)
def wsX7_fetch_r1 : List Cond := [Cond.fieldLink RX7 95 "PictureDeckModel" "kind" "I", Cond.fieldLink RX7 37 "PictureDeckModel" "vectors" "[I", Cond.fieldLink RX7 116 "PictureDeckModel" "whole" "Z", Cond.methodLink RX7 153 yX7_look, Cond.instanceMethod yX7_look, Cond.selects RX7 yX7_look yX7_look, Cond.initialized RX7, Cond.code yX7_look cX7_look 6 (some .int), Cond.fieldLink RX7 22 "PictureDeckModel" "oldOne" "[I", Cond.fieldLink RX7 25 "PictureDeckModel" "newOne" "[I", Cond.methodLink RX7 144 yX7_wideOf, Cond.instanceMethod yX7_wideOf, Cond.selects RX7 yX7_wideOf yX7_wideOf, Cond.code yX7_wideOf cX7_wideOf 2 (some .int), Cond.fieldLink RX7 70 "PictureDeckModel" "w" "I", Cond.methodLink RX7 133 yX7_within, Cond.static yX7_within, Cond.code yX7_within cX7_within 3 (some .int), Cond.methodLink RX7 147 yX7_highOf, Cond.instanceMethod yX7_highOf, Cond.selects RX7 yX7_highOf yX7_highOf, Cond.code yX7_highOf cX7_highOf 2 (some .int), Cond.fieldLink RX7 73 "PictureDeckModel" "h" "I", Cond.methodLink RX7 150 yX7_place]
def wsX7_fetch_r2 : List Cond := [Cond.static yX7_place, Cond.code yX7_place cX7_place 3 (some .int)]
def wsX7_fetch : List Cond := .code yX7_fetch cX7_fetch 13 (some .int) :: ((wsX7_fetch_r1 ++ wsX7_fetch_r2) ++ wsX70)
def wsX7_fetched_r1 : List Cond := [Cond.methodLink RX7 157 yX7_fetch, Cond.instanceMethod yX7_fetch, Cond.selects RX7 yX7_fetch yX7_fetch, Cond.initialized RX7, Cond.code yX7_fetch cX7_fetch 13 (some .int), Cond.fieldLink RX7 95 "PictureDeckModel" "kind" "I", Cond.fieldLink RX7 37 "PictureDeckModel" "vectors" "[I", Cond.fieldLink RX7 116 "PictureDeckModel" "whole" "Z", Cond.methodLink RX7 153 yX7_look, Cond.instanceMethod yX7_look, Cond.selects RX7 yX7_look yX7_look, Cond.code yX7_look cX7_look 6 (some .int), Cond.fieldLink RX7 22 "PictureDeckModel" "oldOne" "[I", Cond.fieldLink RX7 25 "PictureDeckModel" "newOne" "[I", Cond.methodLink RX7 144 yX7_wideOf, Cond.instanceMethod yX7_wideOf, Cond.selects RX7 yX7_wideOf yX7_wideOf, Cond.code yX7_wideOf cX7_wideOf 2 (some .int), Cond.fieldLink RX7 70 "PictureDeckModel" "w" "I", Cond.methodLink RX7 133 yX7_within, Cond.static yX7_within, Cond.code yX7_within cX7_within 3 (some .int), Cond.methodLink RX7 147 yX7_highOf, Cond.instanceMethod yX7_highOf]
def wsX7_fetched_r2 : List Cond := [Cond.selects RX7 yX7_highOf yX7_highOf, Cond.code yX7_highOf cX7_highOf 2 (some .int), Cond.fieldLink RX7 73 "PictureDeckModel" "h" "I", Cond.methodLink RX7 150 yX7_place, Cond.static yX7_place, Cond.code yX7_place cX7_place 3 (some .int)]
def wsX7_fetched : List Cond := .code yX7_fetched cX7_fetched 6 (some .int) :: ((wsX7_fetched_r1 ++ wsX7_fetched_r2) ++ wsX70)
def wsX7_putBlock_r1 : List Cond := [Cond.fieldLink RX7 98 "PictureDeckModel" "count" "I", Cond.fieldLink RX7 70 "PictureDeckModel" "w" "I", Cond.fieldLink RX7 59 "PictureDeckModel" "made" "[I", Cond.fieldLink RX7 110 "PictureDeckModel" "own" "Z", Cond.fieldLink RX7 19 "PictureDeckModel" "now" "[I", Cond.methodLink RX7 136 yX7_planeOf, Cond.static yX7_planeOf, Cond.initialized RX7, Cond.code yX7_planeOf cX7_planeOf 1 (some .int), Cond.methodLink RX7 160 yX7_fetched, Cond.instanceMethod yX7_fetched, Cond.selects RX7 yX7_fetched yX7_fetched, Cond.code yX7_fetched cX7_fetched 6 (some .int), Cond.methodLink RX7 157 yX7_fetch, Cond.instanceMethod yX7_fetch, Cond.selects RX7 yX7_fetch yX7_fetch, Cond.code yX7_fetch cX7_fetch 13 (some .int), Cond.fieldLink RX7 95 "PictureDeckModel" "kind" "I", Cond.fieldLink RX7 37 "PictureDeckModel" "vectors" "[I", Cond.fieldLink RX7 116 "PictureDeckModel" "whole" "Z", Cond.methodLink RX7 153 yX7_look, Cond.instanceMethod yX7_look, Cond.selects RX7 yX7_look yX7_look, Cond.code yX7_look cX7_look 6 (some .int)]
def wsX7_putBlock_r2 : List Cond := [Cond.fieldLink RX7 22 "PictureDeckModel" "oldOne" "[I", Cond.fieldLink RX7 25 "PictureDeckModel" "newOne" "[I", Cond.methodLink RX7 144 yX7_wideOf, Cond.instanceMethod yX7_wideOf, Cond.selects RX7 yX7_wideOf yX7_wideOf, Cond.code yX7_wideOf cX7_wideOf 2 (some .int), Cond.methodLink RX7 133 yX7_within, Cond.static yX7_within, Cond.code yX7_within cX7_within 3 (some .int), Cond.methodLink RX7 147 yX7_highOf, Cond.instanceMethod yX7_highOf, Cond.selects RX7 yX7_highOf yX7_highOf, Cond.code yX7_highOf cX7_highOf 2 (some .int), Cond.fieldLink RX7 73 "PictureDeckModel" "h" "I", Cond.methodLink RX7 150 yX7_place, Cond.static yX7_place, Cond.code yX7_place cX7_place 3 (some .int)]
def wsX7_putBlock : List Cond := .code yX7_putBlock cX7_putBlock 10 none :: ((wsX7_putBlock_r1 ++ wsX7_putBlock_r2) ++ wsX70)
def wsX7_square_r1 : List Cond := [Cond.fieldLink RX7 43 "PictureDeckModel" "directions" "[Z", Cond.fieldLink RX7 95 "PictureDeckModel" "kind" "I", Cond.fieldLink RX7 110 "PictureDeckModel" "own" "Z", Cond.fieldLink RX7 66 "PictureDeckModel" "thrown" "I", Cond.fieldLink RX7 122 "PictureDeckModel" "before" "Z", Cond.fieldLink RX7 175 "PictureDeckModel" "beforeOwn" "Z", Cond.fieldLink RX7 50 "PictureDeckModel" "beforeDirections" "[Z", Cond.fieldLink RX7 98 "PictureDeckModel" "count" "I", Cond.methodLink RX7 125 yX7_isFull, Cond.instanceMethod yX7_isFull, Cond.selects RX7 yX7_isFull yX7_isFull, Cond.initialized RX7, Cond.code yX7_isFull cX7_isFull 1 (some .boolean), Cond.fieldLink RX7 70 "PictureDeckModel" "w" "I", Cond.fieldLink RX7 73 "PictureDeckModel" "h" "I", Cond.methodLink RX7 101 yX7_clearVectors, Cond.instanceMethod yX7_clearVectors, Cond.selects RX7 yX7_clearVectors yX7_clearVectors, Cond.code yX7_clearVectors cX7_clearVectors 2 none, Cond.fieldLink RX7 37 "PictureDeckModel" "vectors" "[I", Cond.methodLink RX7 164 yX7_scaleAll, Cond.instanceMethod yX7_scaleAll, Cond.selects RX7 yX7_scaleAll yX7_scaleAll, Cond.code yX7_scaleAll cX7_scaleAll 7 none]
def wsX7_square_r2 : List Cond := [Cond.fieldLink RX7 47 "PictureDeckModel" "levels" "[I", Cond.fieldLink RX7 16 "PictureDeckModel" "zigzag" "[I", Cond.fieldLink RX7 119 "PictureDeckModel" "scale" "I", Cond.fieldLink RX7 7 "PictureDeckModel" "matrices" "[I", Cond.fieldLink RX7 53 "PictureDeckModel" "coefficients" "[I", Cond.fieldLink RX7 40 "PictureDeckModel" "pasts" "[I", Cond.methodLink RX7 133 yX7_within, Cond.static yX7_within, Cond.code yX7_within cX7_within 3 (some .int), Cond.methodLink RX7 136 yX7_planeOf, Cond.static yX7_planeOf, Cond.code yX7_planeOf cX7_planeOf 1 (some .int), Cond.methodLink RX7 168 yX7_makeSamples, Cond.instanceMethod yX7_makeSamples, Cond.selects RX7 yX7_makeSamples yX7_makeSamples, Cond.code yX7_makeSamples cX7_makeSamples 5 none, Cond.fieldLink RX7 56 "PictureDeckModel" "between" "[I", Cond.fieldLink RX7 59 "PictureDeckModel" "made" "[I", Cond.methodLink RX7 140 yX7_factor, Cond.instanceMethod yX7_factor, Cond.selects RX7 yX7_factor yX7_factor, Cond.code yX7_factor cX7_factor 4 (some .int), Cond.fieldLink RX7 13 "PictureDeckModel" "quarter" "[I", Cond.methodLink RX7 171 yX7_putBlock]
def wsX7_square_r3 : List Cond := [Cond.instanceMethod yX7_putBlock, Cond.selects RX7 yX7_putBlock yX7_putBlock, Cond.code yX7_putBlock cX7_putBlock 10 none, Cond.fieldLink RX7 19 "PictureDeckModel" "now" "[I", Cond.methodLink RX7 160 yX7_fetched, Cond.instanceMethod yX7_fetched, Cond.selects RX7 yX7_fetched yX7_fetched, Cond.code yX7_fetched cX7_fetched 6 (some .int), Cond.methodLink RX7 157 yX7_fetch, Cond.instanceMethod yX7_fetch, Cond.selects RX7 yX7_fetch yX7_fetch, Cond.code yX7_fetch cX7_fetch 13 (some .int), Cond.fieldLink RX7 116 "PictureDeckModel" "whole" "Z", Cond.methodLink RX7 153 yX7_look, Cond.instanceMethod yX7_look, Cond.selects RX7 yX7_look yX7_look, Cond.code yX7_look cX7_look 6 (some .int), Cond.fieldLink RX7 22 "PictureDeckModel" "oldOne" "[I", Cond.fieldLink RX7 25 "PictureDeckModel" "newOne" "[I", Cond.methodLink RX7 144 yX7_wideOf, Cond.instanceMethod yX7_wideOf, Cond.selects RX7 yX7_wideOf yX7_wideOf, Cond.code yX7_wideOf cX7_wideOf 2 (some .int), Cond.methodLink RX7 147 yX7_highOf]
def wsX7_square_r4 : List Cond := [Cond.instanceMethod yX7_highOf, Cond.selects RX7 yX7_highOf yX7_highOf, Cond.code yX7_highOf cX7_highOf 2 (some .int), Cond.methodLink RX7 150 yX7_place, Cond.static yX7_place, Cond.code yX7_place cX7_place 3 (some .int), Cond.methodLink RX7 104 yX7_clearPasts, Cond.instanceMethod yX7_clearPasts, Cond.selects RX7 yX7_clearPasts yX7_clearPasts, Cond.code yX7_clearPasts cX7_clearPasts 2 none, Cond.methodLink RX7 107 yX7_forget, Cond.instanceMethod yX7_forget, Cond.selects RX7 yX7_forget yX7_forget, Cond.code yX7_forget cX7_forget 2 none, Cond.fieldLink RX7 113 "PictureDeckModel" "told0" "Z"]
def wsX7_square : List Cond := .code yX7_square cX7_square 4 (some .int) :: ((wsX7_square_r1 ++ (wsX7_square_r2 ++ (wsX7_square_r3 ++ wsX7_square_r4))) ++ wsX70)
def wsX7_leave_r1 : List Cond := [Cond.fieldLink RX7 95 "PictureDeckModel" "kind" "I", Cond.fieldLink RX7 70 "PictureDeckModel" "w" "I", Cond.fieldLink RX7 73 "PictureDeckModel" "h" "I", Cond.fieldLink RX7 98 "PictureDeckModel" "count" "I", Cond.fieldLink RX7 122 "PictureDeckModel" "before" "Z", Cond.fieldLink RX7 175 "PictureDeckModel" "beforeOwn" "Z", Cond.fieldLink RX7 113 "PictureDeckModel" "told0" "Z", Cond.fieldLink RX7 66 "PictureDeckModel" "thrown" "I", Cond.fieldLink RX7 59 "PictureDeckModel" "made" "[I", Cond.fieldLink RX7 50 "PictureDeckModel" "beforeDirections" "[Z", Cond.methodLink RX7 101 yX7_clearVectors, Cond.instanceMethod yX7_clearVectors, Cond.selects RX7 yX7_clearVectors yX7_clearVectors, Cond.initialized RX7, Cond.code yX7_clearVectors cX7_clearVectors 2 none, Cond.fieldLink RX7 37 "PictureDeckModel" "vectors" "[I", Cond.methodLink RX7 104 yX7_clearPasts, Cond.instanceMethod yX7_clearPasts, Cond.selects RX7 yX7_clearPasts yX7_clearPasts, Cond.code yX7_clearPasts cX7_clearPasts 2 none, Cond.fieldLink RX7 40 "PictureDeckModel" "pasts" "[I", Cond.methodLink RX7 171 yX7_putBlock, Cond.instanceMethod yX7_putBlock, Cond.selects RX7 yX7_putBlock yX7_putBlock]
def wsX7_leave_r2 : List Cond := [Cond.code yX7_putBlock cX7_putBlock 10 none, Cond.fieldLink RX7 110 "PictureDeckModel" "own" "Z", Cond.fieldLink RX7 19 "PictureDeckModel" "now" "[I", Cond.methodLink RX7 136 yX7_planeOf, Cond.static yX7_planeOf, Cond.code yX7_planeOf cX7_planeOf 1 (some .int), Cond.methodLink RX7 160 yX7_fetched, Cond.instanceMethod yX7_fetched, Cond.selects RX7 yX7_fetched yX7_fetched, Cond.code yX7_fetched cX7_fetched 6 (some .int), Cond.methodLink RX7 157 yX7_fetch, Cond.instanceMethod yX7_fetch, Cond.selects RX7 yX7_fetch yX7_fetch, Cond.code yX7_fetch cX7_fetch 13 (some .int), Cond.fieldLink RX7 116 "PictureDeckModel" "whole" "Z", Cond.methodLink RX7 153 yX7_look, Cond.instanceMethod yX7_look, Cond.selects RX7 yX7_look yX7_look, Cond.code yX7_look cX7_look 6 (some .int), Cond.fieldLink RX7 22 "PictureDeckModel" "oldOne" "[I", Cond.fieldLink RX7 25 "PictureDeckModel" "newOne" "[I", Cond.methodLink RX7 144 yX7_wideOf, Cond.instanceMethod yX7_wideOf, Cond.selects RX7 yX7_wideOf yX7_wideOf]
def wsX7_leave_r3 : List Cond := [Cond.code yX7_wideOf cX7_wideOf 2 (some .int), Cond.methodLink RX7 133 yX7_within, Cond.static yX7_within, Cond.code yX7_within cX7_within 3 (some .int), Cond.methodLink RX7 147 yX7_highOf, Cond.instanceMethod yX7_highOf, Cond.selects RX7 yX7_highOf yX7_highOf, Cond.code yX7_highOf cX7_highOf 2 (some .int), Cond.methodLink RX7 150 yX7_place, Cond.static yX7_place, Cond.code yX7_place cX7_place 3 (some .int)]
def wsX7_leave : List Cond := .code yX7_leave cX7_leave 6 (some .int) :: ((wsX7_leave_r1 ++ (wsX7_leave_r2 ++ wsX7_leave_r3)) ++ wsX70)
def wsX7_show : List Cond := .code yX7_show cX7_show 3 none :: ([.fieldLink RX7 28 "PictureDeckModel" "seen" "[I", .fieldLink RX7 83 "PictureDeckModel" "isSeen" "Z", .fieldLink RX7 92 "PictureDeckModel" "seenCount" "I"] ++ wsX70)
def wsX7_done : List Cond := .code yX7_done cX7_done 2 (some .int) :: ([.fieldLink RX7 95 "PictureDeckModel" "kind" "I", .fieldLink RX7 98 "PictureDeckModel" "count" "I", .fieldLink RX7 70 "PictureDeckModel" "w" "I", .fieldLink RX7 73 "PictureDeckModel" "h" "I", .fieldLink RX7 66 "PictureDeckModel" "thrown" "I", .fieldLink RX7 19 "PictureDeckModel" "now" "[I", .fieldLink RX7 76 "PictureDeckModel" "newCame" "Z", .fieldLink RX7 80 "PictureDeckModel" "newSeen" "Z", .fieldLink RX7 25 "PictureDeckModel" "newOne" "[I", .fieldLink RX7 22 "PictureDeckModel" "oldOne" "[I", .fieldLink RX7 89 "PictureDeckModel" "doneCount" "I", .fieldLink RX7 92 "PictureDeckModel" "seenCount" "I", .methodLink RX7 178 yX7_show, .instanceMethod yX7_show, .selects RX7 yX7_show yX7_show, .initialized RX7, .code yX7_show cX7_show 3 none, .fieldLink RX7 28 "PictureDeckModel" "seen" "[I", .fieldLink RX7 83 "PictureDeckModel" "isSeen" "Z"] ++ wsX70)
def wsX7_last : List Cond := .code yX7_last cX7_last 1 (some .int) :: ([.fieldLink RX7 95 "PictureDeckModel" "kind" "I", .fieldLink RX7 66 "PictureDeckModel" "thrown" "I", .fieldLink RX7 76 "PictureDeckModel" "newCame" "Z", .fieldLink RX7 80 "PictureDeckModel" "newSeen" "Z", .fieldLink RX7 25 "PictureDeckModel" "newOne" "[I", .fieldLink RX7 92 "PictureDeckModel" "seenCount" "I", .methodLink RX7 178 yX7_show, .instanceMethod yX7_show, .selects RX7 yX7_show yX7_show, .initialized RX7, .code yX7_show cX7_show 3 none, .fieldLink RX7 28 "PictureDeckModel" "seen" "[I", .fieldLink RX7 83 "PictureDeckModel" "isSeen" "Z"] ++ wsX70)
def wsX7_sample : List Cond := .code yX7_sample cX7_sample 5 (some .int) :: ([.fieldLink RX7 83 "PictureDeckModel" "isSeen" "Z", .fieldLink RX7 66 "PictureDeckModel" "thrown" "I", .fieldLink RX7 28 "PictureDeckModel" "seen" "[I", .methodLink RX7 144 yX7_wideOf, .instanceMethod yX7_wideOf, .selects RX7 yX7_wideOf yX7_wideOf, .initialized RX7, .code yX7_wideOf cX7_wideOf 2 (some .int), .fieldLink RX7 70 "PictureDeckModel" "w" "I", .methodLink RX7 147 yX7_highOf, .instanceMethod yX7_highOf, .selects RX7 yX7_highOf yX7_highOf, .code yX7_highOf cX7_highOf 2 (some .int), .fieldLink RX7 73 "PictureDeckModel" "h" "I", .methodLink RX7 150 yX7_place, .static yX7_place, .code yX7_place cX7_place 3 (some .int)] ++ wsX70)
def wsX7_cutOff : List Cond := .code yX7_cutOff cX7_cutOff 1 (some .int) :: ([.methodLink RX7 133 yX7_within, .static yX7_within, .initialized RX7, .code yX7_within cX7_within 3 (some .int)])
def wsX7_colour_r1 : List Cond := [Cond.fieldLink RX7 83 "PictureDeckModel" "isSeen" "Z", Cond.fieldLink RX7 66 "PictureDeckModel" "thrown" "I", Cond.fieldLink RX7 28 "PictureDeckModel" "seen" "[I", Cond.constantFloat RX7 182 (1124073472), Cond.constantFloat RX7 183 (1068725436), Cond.constantFloat RX7 184 (1051734680), Cond.constantFloat RX7 185 (1060557214), Cond.constantFloat RX7 186 (1071829221), Cond.constant RX7 187 (65536), Cond.constantFloat RX7 188 (1056964608), Cond.methodLink RX7 144 yX7_wideOf, Cond.instanceMethod yX7_wideOf, Cond.selects RX7 yX7_wideOf yX7_wideOf, Cond.initialized RX7, Cond.code yX7_wideOf cX7_wideOf 2 (some .int), Cond.fieldLink RX7 70 "PictureDeckModel" "w" "I", Cond.methodLink RX7 147 yX7_highOf, Cond.instanceMethod yX7_highOf, Cond.selects RX7 yX7_highOf yX7_highOf, Cond.code yX7_highOf cX7_highOf 2 (some .int), Cond.fieldLink RX7 73 "PictureDeckModel" "h" "I", Cond.methodLink RX7 150 yX7_place, Cond.static yX7_place, Cond.code yX7_place cX7_place 3 (some .int)]
def wsX7_colour_r2 : List Cond := [Cond.methodLink RX7 189 yX7_cutOff, Cond.static yX7_cutOff, Cond.code yX7_cutOff cX7_cutOff 1 (some .int), Cond.methodLink RX7 133 yX7_within, Cond.static yX7_within, Cond.code yX7_within cX7_within 3 (some .int)]
def wsX7_colour : List Cond := .code yX7_colour cX7_colour 10 (some .int) :: ((wsX7_colour_r1 ++ wsX7_colour_r2) ++ wsX70)
def wsX7_light : List Cond := .code yX7_light cX7_light 7 none :: ([.constantFloat RX7 193 (3296329728), .constantFloat RX7 194 (1148846080), .constantFloat RX7 195 (3351465984), .constantFloat RX7 196 (1203982336), .fieldLink RX7 83 "PictureDeckModel" "isSeen" "Z", .fieldLink RX7 66 "PictureDeckModel" "thrown" "I", .fieldLink RX7 73 "PictureDeckModel" "h" "I", .fieldLink RX7 70 "PictureDeckModel" "w" "I", .fieldLink RX7 28 "PictureDeckModel" "seen" "[I", .methodLink RX7 150 yX7_place, .static yX7_place, .initialized RX7, .code yX7_place cX7_place 3 (some .int), .methodLink RX7 189 yX7_cutOff, .static yX7_cutOff, .code yX7_cutOff cX7_cutOff 1 (some .int), .methodLink RX7 133 yX7_within, .static yX7_within, .code yX7_within cX7_within 3 (some .int)] ++ wsX70)
def wsX7_keep : List Cond := .code yX7_keep cX7_keep 2 none :: ([.fieldLink RX7 83 "PictureDeckModel" "isSeen" "Z", .fieldLink RX7 66 "PictureDeckModel" "thrown" "I", .fieldLink RX7 31 "PictureDeckModel" "kept" "[I", .fieldLink RX7 28 "PictureDeckModel" "seen" "[I", .fieldLink RX7 86 "PictureDeckModel" "isKept" "Z"] ++ wsX70)
def wsX7_error : List Cond := .code yX7_error cX7_error 5 (some .float) :: ([.fieldLink RX7 83 "PictureDeckModel" "isSeen" "Z", .fieldLink RX7 86 "PictureDeckModel" "isKept" "Z", .fieldLink RX7 66 "PictureDeckModel" "thrown" "I", .fieldLink RX7 73 "PictureDeckModel" "h" "I", .fieldLink RX7 70 "PictureDeckModel" "w" "I", .fieldLink RX7 28 "PictureDeckModel" "seen" "[I", .fieldLink RX7 31 "PictureDeckModel" "kept" "[I", .methodLink RX7 150 yX7_place, .static yX7_place, .initialized RX7, .code yX7_place cX7_place 3 (some .int)] ++ wsX70)
def wsX7_told : List Cond := .code yX7_told cX7_told 2 (some .int) :: ([.fieldLink RX7 66 "PictureDeckModel" "thrown" "I", .fieldLink RX7 95 "PictureDeckModel" "kind" "I", .fieldLink RX7 98 "PictureDeckModel" "count" "I", .fieldLink RX7 89 "PictureDeckModel" "doneCount" "I", .fieldLink RX7 92 "PictureDeckModel" "seenCount" "I", .fieldLink RX7 37 "PictureDeckModel" "vectors" "[I", .fieldLink RX7 40 "PictureDeckModel" "pasts" "[I"] ++ wsX70)
def wsL_size_r1 : List Cond := [Cond.classLink RL 13 "java/lang/IllegalArgumentException", Cond.methodLink RL 7 yX6_size, Cond.instanceMethod yX6_size, Cond.selects RX6 yX6_size yX6_size, Cond.initialized RX6, Cond.code yX6_size cX6_size 3 none, Cond.classLink RX6 45 "java/lang/IllegalArgumentException", Cond.initialized "java/lang/IllegalArgumentException", Cond.methodLink RX6 41 yX6_isWithin, Cond.static yX6_isWithin, Cond.code yX6_isWithin cX6_isWithin 3 (some .boolean), Cond.methodLink RX6 37 yX6_beginAnew, Cond.instanceMethod yX6_beginAnew, Cond.selects RX6 yX6_beginAnew yX6_beginAnew, Cond.code yX6_beginAnew cX6_beginAnew 3 none, Cond.fieldLink RX6 239 "PictureDeck" "across" "I", Cond.fieldLink RX6 242 "PictureDeck" "down" "I", Cond.fieldLink RX6 60 "PictureDeck" "kind" "I", Cond.fieldLink RX6 140 "PictureDeck" "made" "I", Cond.fieldLink RX6 10 "PictureDeck" "shelf" "LPictureDeck$Shelf;", Cond.fieldLink RX6 19 "PictureDeck" "blocks" "LPictureDeck$Blocks;", Cond.fieldLink RX6 26 "PictureDeck" "motion" "LPictureDeck$Motion;", Cond.fieldLink RX6 33 "PictureDeck" "coming" "LPictureDeck$Coming;", Cond.methodLink RX6 245 yX5_clear]
def wsL_size_r2 : List Cond := [Cond.instanceMethod yX5_clear, Cond.selects RX5 yX5_clear yX5_clear, Cond.initialized RX5, Cond.code yX5_clear cX5_clear 3 none, Cond.fieldLink RX5 10 "PictureDeck$Shelf" "older" "LPictureDeck$Picture;", Cond.fieldLink RX5 16 "PictureDeck$Shelf" "newer" "LPictureDeck$Picture;", Cond.fieldLink RX5 19 "PictureDeck$Shelf" "open" "LPictureDeck$Picture;", Cond.fieldLink RX5 22 "PictureDeck$Shelf" "shown" "LPictureDeck$Picture;", Cond.fieldLink RX5 36 "PictureDeck$Shelf" "kept" "LPictureDeck$Plane;", Cond.fieldLink RX5 45 "PictureDeck$Shelf" "hasKept" "Z", Cond.fieldLink RX5 49 "PictureDeck$Shelf" "newerWaits" "Z", Cond.fieldLink RX5 52 "PictureDeck$Shelf" "doneCount" "I", Cond.fieldLink RX5 56 "PictureDeck$Shelf" "shownCount" "I", Cond.methodLink RX5 40 yX3_clear, Cond.instanceMethod yX3_clear, Cond.selects RX3 yX3_clear yX3_clear, Cond.initialized RX3, Cond.code yX3_clear cX3_clear 4 none, Cond.fieldLink RX3 11 "PictureDeck$Picture" "planes" "[LPictureDeck$Plane;", Cond.methodLink RX3 24 yX4_clear, Cond.instanceMethod yX4_clear, Cond.selects RX4 yX4_clear yX4_clear, Cond.initialized RX4, Cond.code yX4_clear cX4_clear 3 none]
def wsL_size_r3 : List Cond := [Cond.fieldLink RX4 9 "PictureDeck$Plane" "side" "I", Cond.fieldLink RX4 19 "PictureDeck$Plane" "width" "I", Cond.fieldLink RX4 22 "PictureDeck$Plane" "height" "I", Cond.fieldLink RX4 15 "PictureDeck$Plane" "samples" "[I", Cond.methodLink RX4 25 yJ7_fill_53178, Cond.static yJ7_fill_53178, Cond.initialized RJ7, Cond.code yJ7_fill_53178 cJ7_fill_53178 4 none, Cond.methodLink RX5 44 yX4_clear, Cond.methodLink RX6 247 yX0_clear, Cond.instanceMethod yX0_clear, Cond.selects RX0 yX0_clear yX0_clear, Cond.initialized RX0, Cond.code yX0_clear cX0_clear 1 none, Cond.fieldLink RX0 11 "PictureDeck$Blocks" "matrices" "[[I", Cond.methodLink RX0 29 yJ7_fill_53178, Cond.methodLink RX0 35 yX0_prepare, Cond.instanceMethod yX0_prepare, Cond.selects RX0 yX0_prepare yX0_prepare, Cond.code yX0_prepare cX0_prepare 1 none, Cond.fieldLink RX0 38 "PictureDeck$Blocks" "factor" "I", Cond.methodLink RX0 42 yX0_forgetPasts, Cond.instanceMethod yX0_forgetPasts, Cond.selects RX0 yX0_forgetPasts yX0_forgetPasts]
def wsL_size_r4 : List Cond := [Cond.code yX0_forgetPasts cX0_forgetPasts 1 none, Cond.fieldLink RX0 16 "PictureDeck$Blocks" "pasts" "[I", Cond.methodLink RX6 72 yX2_prepare, Cond.instanceMethod yX2_prepare, Cond.selects RX2 yX2_prepare yX2_prepare, Cond.initialized RX2, Cond.code yX2_prepare cX2_prepare 4 none, Cond.fieldLink RX2 13 "PictureDeck$Motion" "most" "[I", Cond.fieldLink RX2 16 "PictureDeck$Motion" "whole" "Z", Cond.methodLink RX2 20 yX2_rest, Cond.instanceMethod yX2_rest, Cond.selects RX2 yX2_rest yX2_rest, Cond.code yX2_rest cX2_rest 1 none, Cond.fieldLink RX2 7 "PictureDeck$Motion" "parts" "[I", Cond.methodLink RX2 23 yJ7_fill_53178, Cond.methodLink RX6 137 yX1_clear, Cond.instanceMethod yX1_clear, Cond.selects RX1 yX1_clear yX1_clear, Cond.initialized RX1, Cond.code yX1_clear cX1_clear 1 none, Cond.fieldLink RX1 9 "PictureDeck$Coming" "levels" "[I", Cond.fieldLink RX1 21 "PictureDeck$Coming" "forItself" "Z", Cond.fieldLink RX1 25 "PictureDeck$Coming" "directions" "I", Cond.fieldLink RX1 29 "PictureDeck$Coming" "anything" "Z"]
def wsL_size_r5 : List Cond := [Cond.methodLink RX1 15 yJ7_fill_53178]
def wsL_size : List Cond := .codeWith yL_size cL_size 4 (some .int) [(0, 6, 9, 13)] :: ((wsL_size_r1 ++ (wsL_size_r2 ++ (wsL_size_r3 ++ (wsL_size_r4 ++ wsL_size_r5)))) ++ wsX60 ++ wsX50 ++ wsX30 ++ wsX40 ++ wsX00 ++ wsX20 ++ wsX10 ++ (vx_atS RX6 49 "java/lang/IllegalArgumentException" ["java/lang/RuntimeException", "java/lang/Exception"]).filter goodWord)
def wsL_matrix : List Cond := .codeWith yL_matrix cL_matrix 6 (some .int) [(0, 12, 15, 13)] :: ([.classLink RL 13 "java/lang/IllegalArgumentException", .methodLink RL 15 yX6_matrix, .instanceMethod yX6_matrix, .selects RX6 yX6_matrix yX6_matrix, .initialized RX6, .code yX6_matrix cX6_matrix 5 (some .int), .classLink RX6 45 "java/lang/IllegalArgumentException", .initialized "java/lang/IllegalArgumentException", .fieldLink RX6 19 "PictureDeck" "blocks" "LPictureDeck$Blocks;", .fieldLink RX6 54 "PictureDeck$Blocks" "matrices" "[[I", .methodLink RX6 41 yX6_isWithin, .static yX6_isWithin, .code yX6_isWithin cX6_isWithin 3 (some .boolean)] ++ wsX60 ++ wsX00 ++ (vx_atS RX6 49 "java/lang/IllegalArgumentException" ["java/lang/RuntimeException", "java/lang/Exception"]).filter goodWord)
def wsL_begin_r1 : List Cond := [Cond.classLink RL 13 "java/lang/IllegalArgumentException", Cond.classLink RL 23 "java/lang/IllegalStateException", Cond.methodLink RL 19 yX6_begin, Cond.instanceMethod yX6_begin, Cond.selects RX6 yX6_begin yX6_begin, Cond.initialized RX6, Cond.code yX6_begin cX6_begin 5 none, Cond.classLink RX6 45 "java/lang/IllegalArgumentException", Cond.initialized "java/lang/IllegalArgumentException", Cond.classLink RX6 64 "java/lang/IllegalStateException", Cond.initialized "java/lang/IllegalStateException", Cond.fieldLink RX6 60 "PictureDeck" "kind" "I", Cond.fieldLink RX6 69 "PictureDeck" "fetchedBy" "I", Cond.fieldLink RX6 26 "PictureDeck" "motion" "LPictureDeck$Motion;", Cond.fieldLink RX6 19 "PictureDeck" "blocks" "LPictureDeck$Blocks;", Cond.methodLink RX6 41 yX6_isWithin, Cond.static yX6_isWithin, Cond.code yX6_isWithin cX6_isWithin 3 (some .boolean), Cond.methodLink RX6 72 yX2_prepare, Cond.instanceMethod yX2_prepare, Cond.selects RX2 yX2_prepare yX2_prepare, Cond.initialized RX2, Cond.code yX2_prepare cX2_prepare 4 none, Cond.fieldLink RX2 13 "PictureDeck$Motion" "most" "[I"]
def wsL_begin_r2 : List Cond := [Cond.fieldLink RX2 16 "PictureDeck$Motion" "whole" "Z", Cond.methodLink RX2 20 yX2_rest, Cond.instanceMethod yX2_rest, Cond.selects RX2 yX2_rest yX2_rest, Cond.code yX2_rest cX2_rest 1 none, Cond.fieldLink RX2 7 "PictureDeck$Motion" "parts" "[I", Cond.methodLink RX2 23 yJ7_fill_53178, Cond.static yJ7_fill_53178, Cond.initialized RJ7, Cond.code yJ7_fill_53178 cJ7_fill_53178 4 none, Cond.methodLink RX6 76 yX0_prepare, Cond.instanceMethod yX0_prepare, Cond.selects RX0 yX0_prepare yX0_prepare, Cond.initialized RX0, Cond.code yX0_prepare cX0_prepare 1 none, Cond.fieldLink RX0 38 "PictureDeck$Blocks" "factor" "I", Cond.methodLink RX0 42 yX0_forgetPasts, Cond.instanceMethod yX0_forgetPasts, Cond.selects RX0 yX0_forgetPasts yX0_forgetPasts, Cond.code yX0_forgetPasts cX0_forgetPasts 1 none, Cond.fieldLink RX0 16 "PictureDeck$Blocks" "pasts" "[I", Cond.methodLink RX0 29 yJ7_fill_53178]
def wsL_begin : List Cond := .codeWith yL_begin cL_begin 6 (some .int) [(0, 9, 12, 13), (0, 9, 16, 23)] :: ((wsL_begin_r1 ++ wsL_begin_r2) ++ wsX60 ++ wsX20 ++ wsX00 ++ (vx_atS RX6 49 "java/lang/IllegalArgumentException" ["java/lang/RuntimeException", "java/lang/Exception"]).filter goodWord ++ (vx_atS RX6 68 "java/lang/IllegalStateException" ["java/lang/RuntimeException", "java/lang/Exception"]).filter goodWord)
def wsL_scale : List Cond := .codeWith yL_scale cL_scale 3 (some .int) [(0, 5, 8, 13), (0, 5, 11, 23)] :: ([.classLink RL 13 "java/lang/IllegalArgumentException", .classLink RL 23 "java/lang/IllegalStateException", .methodLink RL 25 yX6_scale, .instanceMethod yX6_scale, .selects RX6 yX6_scale yX6_scale, .initialized RX6, .code yX6_scale cX6_scale 2 none, .classLink RX6 45 "java/lang/IllegalArgumentException", .initialized "java/lang/IllegalArgumentException", .classLink RX6 64 "java/lang/IllegalStateException", .initialized "java/lang/IllegalStateException", .fieldLink RX6 60 "PictureDeck" "kind" "I", .fieldLink RX6 19 "PictureDeck" "blocks" "LPictureDeck$Blocks;", .fieldLink RX6 82 "PictureDeck$Blocks" "factor" "I", .methodLink RX6 41 yX6_isWithin, .static yX6_isWithin, .code yX6_isWithin cX6_isWithin 3 (some .boolean)] ++ wsX60 ++ wsX00 ++ (vx_atS RX6 49 "java/lang/IllegalArgumentException" ["java/lang/RuntimeException", "java/lang/Exception"]).filter goodWord ++ (vx_atS RX6 68 "java/lang/IllegalStateException" ["java/lang/RuntimeException", "java/lang/Exception"]).filter goodWord)
def wsL_itself : List Cond := .codeWith yL_itself cL_itself 2 (some .int) [(0, 4, 7, 23)] :: ([.classLink RL 23 "java/lang/IllegalStateException", .methodLink RL 29 yX6_itself, .instanceMethod yX6_itself, .selects RX6 yX6_itself yX6_itself, .initialized RX6, .code yX6_itself cX6_itself 1 none, .classLink RX6 64 "java/lang/IllegalStateException", .initialized "java/lang/IllegalStateException", .fieldLink RX6 33 "PictureDeck" "coming" "LPictureDeck$Coming;", .fieldLink RX6 89 "PictureDeck$Coming" "directions" "I", .fieldLink RX6 94 "PictureDeck$Coming" "forItself" "Z", .fieldLink RX6 98 "PictureDeck$Coming" "anything" "Z", .methodLink RX6 85 yX6_squaresLeft, .instanceMethod yX6_squaresLeft, .selects RX6 yX6_squaresLeft yX6_squaresLeft, .code yX6_squaresLeft cX6_squaresLeft 1 (some .int), .fieldLink RX6 60 "PictureDeck" "kind" "I", .fieldLink RX6 239 "PictureDeck" "across" "I", .fieldLink RX6 242 "PictureDeck" "down" "I", .fieldLink RX6 140 "PictureDeck" "made" "I"] ++ wsX60 ++ wsX10 ++ (vx_atS RX6 68 "java/lang/IllegalStateException" ["java/lang/RuntimeException", "java/lang/Exception"]).filter goodWord)
def wsL_vector_r1 : List Cond := [Cond.classLink RL 13 "java/lang/IllegalArgumentException", Cond.classLink RL 23 "java/lang/IllegalStateException", Cond.methodLink RL 32 yX6_vector, Cond.instanceMethod yX6_vector, Cond.selects RX6 yX6_vector yX6_vector, Cond.initialized RX6, Cond.code yX6_vector cX6_vector 4 none, Cond.classLink RX6 45 "java/lang/IllegalArgumentException", Cond.initialized "java/lang/IllegalArgumentException", Cond.classLink RX6 64 "java/lang/IllegalStateException", Cond.initialized "java/lang/IllegalStateException", Cond.fieldLink RX6 26 "PictureDeck" "motion" "LPictureDeck$Motion;", Cond.fieldLink RX6 33 "PictureDeck" "coming" "LPictureDeck$Coming;", Cond.fieldLink RX6 94 "PictureDeck$Coming" "forItself" "Z", Cond.fieldLink RX6 89 "PictureDeck$Coming" "directions" "I", Cond.fieldLink RX6 98 "PictureDeck$Coming" "anything" "Z", Cond.methodLink RX6 41 yX6_isWithin, Cond.static yX6_isWithin, Cond.code yX6_isWithin cX6_isWithin 3 (some .boolean), Cond.methodLink RX6 101 yX2_reaches, Cond.instanceMethod yX2_reaches, Cond.selects RX2 yX2_reaches yX2_reaches, Cond.initialized RX2, Cond.code yX2_reaches cX2_reaches 3 (some .boolean)]
def wsL_vector_r2 : List Cond := [Cond.fieldLink RX2 13 "PictureDeck$Motion" "most" "[I", Cond.methodLink RX6 85 yX6_squaresLeft, Cond.instanceMethod yX6_squaresLeft, Cond.selects RX6 yX6_squaresLeft yX6_squaresLeft, Cond.code yX6_squaresLeft cX6_squaresLeft 1 (some .int), Cond.fieldLink RX6 60 "PictureDeck" "kind" "I", Cond.fieldLink RX6 239 "PictureDeck" "across" "I", Cond.fieldLink RX6 242 "PictureDeck" "down" "I", Cond.fieldLink RX6 140 "PictureDeck" "made" "I", Cond.methodLink RX6 107 yX6_kindHas, Cond.instanceMethod yX6_kindHas, Cond.selects RX6 yX6_kindHas yX6_kindHas, Cond.code yX6_kindHas cX6_kindHas 2 (some .boolean), Cond.methodLink RX6 113 yX2_move, Cond.instanceMethod yX2_move, Cond.selects RX2 yX2_move yX2_move, Cond.code yX2_move cX2_move 5 none, Cond.fieldLink RX2 7 "PictureDeck$Motion" "parts" "[I", Cond.methodLink RX2 35 yX2_wrapped, Cond.static yX2_wrapped, Cond.code yX2_wrapped cX2_wrapped 2 (some .int)]
def wsL_vector : List Cond := .codeWith yL_vector cL_vector 5 (some .int) [(0, 7, 10, 13), (0, 7, 14, 23)] :: ((wsL_vector_r1 ++ wsL_vector_r2) ++ wsX60 ++ wsX10 ++ wsX20 ++ (vx_atS RX6 49 "java/lang/IllegalArgumentException" ["java/lang/RuntimeException", "java/lang/Exception"]).filter goodWord ++ (vx_atS RX6 68 "java/lang/IllegalStateException" ["java/lang/RuntimeException", "java/lang/Exception"]).filter goodWord)
def wsL_level_r1 : List Cond := [Cond.classLink RL 13 "java/lang/IllegalArgumentException", Cond.classLink RL 23 "java/lang/IllegalStateException", Cond.methodLink RL 36 yX6_level, Cond.instanceMethod yX6_level, Cond.selects RX6 yX6_level yX6_level, Cond.initialized RX6, Cond.code yX6_level cX6_level 4 none, Cond.classLink RX6 45 "java/lang/IllegalArgumentException", Cond.initialized "java/lang/IllegalArgumentException", Cond.classLink RX6 64 "java/lang/IllegalStateException", Cond.initialized "java/lang/IllegalStateException", Cond.fieldLink RX6 33 "PictureDeck" "coming" "LPictureDeck$Coming;", Cond.fieldLink RX6 121 "PictureDeck$Coming" "levels" "[I", Cond.fieldLink RX6 98 "PictureDeck$Coming" "anything" "Z", Cond.methodLink RX6 41 yX6_isWithin, Cond.static yX6_isWithin, Cond.code yX6_isWithin cX6_isWithin 3 (some .boolean), Cond.methodLink RX6 85 yX6_squaresLeft, Cond.instanceMethod yX6_squaresLeft, Cond.selects RX6 yX6_squaresLeft yX6_squaresLeft, Cond.code yX6_squaresLeft cX6_squaresLeft 1 (some .int), Cond.fieldLink RX6 60 "PictureDeck" "kind" "I", Cond.fieldLink RX6 239 "PictureDeck" "across" "I", Cond.fieldLink RX6 242 "PictureDeck" "down" "I"]
def wsL_level_r2 : List Cond := [Cond.fieldLink RX6 140 "PictureDeck" "made" "I"]
def wsL_level : List Cond := .codeWith yL_level cL_level 5 (some .int) [(0, 7, 10, 13), (0, 7, 14, 23)] :: ((wsL_level_r1 ++ wsL_level_r2) ++ wsX60 ++ wsX10 ++ (vx_atS RX6 49 "java/lang/IllegalArgumentException" ["java/lang/RuntimeException", "java/lang/Exception"]).filter goodWord ++ (vx_atS RX6 68 "java/lang/IllegalStateException" ["java/lang/RuntimeException", "java/lang/Exception"]).filter goodWord)
def wsL_square_r1 : List Cond := [Cond.classLink RL 23 "java/lang/IllegalStateException", Cond.methodLink RL 39 yX6_square, Cond.instanceMethod yX6_square, Cond.selects RX6 yX6_square yX6_square, Cond.initialized RX6, Cond.code yX6_square cX6_square 1 (some .int), Cond.classLink RX6 64 "java/lang/IllegalStateException", Cond.initialized "java/lang/IllegalStateException", Cond.fieldLink RX6 33 "PictureDeck" "coming" "LPictureDeck$Coming;", Cond.fieldLink RX6 94 "PictureDeck$Coming" "forItself" "Z", Cond.fieldLink RX6 140 "PictureDeck" "made" "I", Cond.methodLink RX6 85 yX6_squaresLeft, Cond.instanceMethod yX6_squaresLeft, Cond.selects RX6 yX6_squaresLeft yX6_squaresLeft, Cond.code yX6_squaresLeft cX6_squaresLeft 1 (some .int), Cond.fieldLink RX6 60 "PictureDeck" "kind" "I", Cond.fieldLink RX6 239 "PictureDeck" "across" "I", Cond.fieldLink RX6 242 "PictureDeck" "down" "I", Cond.methodLink RX6 125 yX6_isEnoughTold, Cond.instanceMethod yX6_isEnoughTold, Cond.selects RX6 yX6_isEnoughTold yX6_isEnoughTold, Cond.code yX6_isEnoughTold cX6_isEnoughTold 1 (some .boolean), Cond.fieldLink RX6 89 "PictureDeck$Coming" "directions" "I", Cond.methodLink RX6 131 yX6_makeForItself]
def wsL_square_r2 : List Cond := [Cond.instanceMethod yX6_makeForItself, Cond.selects RX6 yX6_makeForItself yX6_makeForItself, Cond.code yX6_makeForItself cX6_makeForItself 2 none, Cond.fieldLink RX6 26 "PictureDeck" "motion" "LPictureDeck$Motion;", Cond.fieldLink RX6 69 "PictureDeck" "fetchedBy" "I", Cond.fieldLink RX6 19 "PictureDeck" "blocks" "LPictureDeck$Blocks;", Cond.fieldLink RX6 121 "PictureDeck$Coming" "levels" "[I", Cond.methodLink RX6 150 yX2_rest, Cond.instanceMethod yX2_rest, Cond.selects RX2 yX2_rest yX2_rest, Cond.initialized RX2, Cond.code yX2_rest cX2_rest 1 none, Cond.fieldLink RX2 7 "PictureDeck$Motion" "parts" "[I", Cond.methodLink RX2 23 yJ7_fill_53178, Cond.static yJ7_fill_53178, Cond.initialized RJ7, Cond.code yJ7_fill_53178 cJ7_fill_53178 4 none, Cond.methodLink RX6 248 yX0_turnForItself, Cond.instanceMethod yX0_turnForItself, Cond.selects RX0 yX0_turnForItself yX0_turnForItself, Cond.initialized RX0, Cond.code yX0_turnForItself cX0_turnForItself 6 none, Cond.fieldLink RX0 16 "PictureDeck$Blocks" "pasts" "[I", Cond.fieldLink RX0 23 "PictureDeck$Blocks" "coefficients" "[I"]
def wsL_square_r3 : List Cond := [Cond.fieldLink RX0 53 "PictureDeck$Blocks" "ZIGZAG" "[I", Cond.fieldLink RX0 11 "PictureDeck$Blocks" "matrices" "[[I", Cond.static yX6_planeOf, Cond.code yX6_planeOf cX6_planeOf 1 (some .int), Cond.static yX6_bounded, Cond.code yX6_bounded cX6_bounded 3 (some .int), Cond.methodLink RX0 56 yX0_scaled, Cond.instanceMethod yX0_scaled, Cond.selects RX0 yX0_scaled yX0_scaled, Cond.code yX0_scaled cX0_scaled 4 (some .int), Cond.fieldLink RX0 38 "PictureDeck$Blocks" "factor" "I", Cond.methodLink RX0 63 yJ6_signum_0f7a4, Cond.static yJ6_signum_0f7a4, Cond.initialized RJ6, Cond.code yJ6_signum_0f7a4 cJ6_signum_0f7a4 1 (some .int), Cond.methodLink RX0 60 yX0_turn, Cond.instanceMethod yX0_turn, Cond.selects RX0 yX0_turn yX0_turn, Cond.code yX0_turn cX0_turn 2 none, Cond.fieldLink RX0 26 "PictureDeck$Blocks" "halfTurned" "[I", Cond.fieldLink RX0 20 "PictureDeck$Blocks" "turned" "[I", Cond.methodLink RX0 68 yX0_alongRow, Cond.instanceMethod yX0_alongRow, Cond.selects RX0 yX0_alongRow yX0_alongRow]
def wsL_square_r4 : List Cond := [Cond.code yX0_alongRow cX0_alongRow 5 (some .int), Cond.methodLink RX0 74 yX0_wave, Cond.static yX0_wave, Cond.code yX0_wave cX0_wave 2 (some .int), Cond.fieldLink RX0 77 "PictureDeck$Blocks" "WAVE" "[I", Cond.methodLink RX0 71 yX0_alongColumn, Cond.instanceMethod yX0_alongColumn, Cond.selects RX0 yX0_alongColumn yX0_alongColumn, Cond.code yX0_alongColumn cX0_alongColumn 5 (some .int), Cond.methodLink RX6 252 yX6_placeBlock, Cond.instanceMethod yX6_placeBlock, Cond.selects RX6 yX6_placeBlock yX6_placeBlock, Cond.code yX6_placeBlock cX6_placeBlock 6 none, Cond.fieldLink RX6 10 "PictureDeck" "shelf" "LPictureDeck$Shelf;", Cond.fieldLink RX6 269 "PictureDeck$Shelf" "open" "LPictureDeck$Picture;", Cond.fieldLink RX6 182 "PictureDeck$Picture" "planes" "[LPictureDeck$Plane;", Cond.fieldLink RX6 272 "PictureDeck$Blocks" "turned" "[I", Cond.methodLink RX6 259 yX6_planeOf, Cond.methodLink RX6 263 yX6_squareLeft, Cond.instanceMethod yX6_squareLeft, Cond.selects RX6 yX6_squareLeft yX6_squareLeft, Cond.code yX6_squareLeft cX6_squareLeft 2 (some .int), Cond.methodLink RX6 295 yX6_squareSide, Cond.static yX6_squareSide]
def wsL_square_r5 : List Cond := [Cond.code yX6_squareSide cX6_squareSide 1 (some .int), Cond.methodLink RX6 266 yX6_squareTop, Cond.instanceMethod yX6_squareTop, Cond.selects RX6 yX6_squareTop yX6_squareTop, Cond.code yX6_squareTop cX6_squareTop 2 (some .int), Cond.methodLink RX6 275 yX4_putBlock, Cond.instanceMethod yX4_putBlock, Cond.selects RX4 yX4_putBlock yX4_putBlock, Cond.initialized RX4, Cond.code yX4_putBlock cX4_putBlock 8 none, Cond.methodLink RX4 49 yX4_nearest, Cond.instanceMethod yX4_nearest, Cond.selects RX4 yX4_nearest yX4_nearest, Cond.code yX4_nearest cX4_nearest 3 (some .int), Cond.fieldLink RX4 15 "PictureDeck$Plane" "samples" "[I", Cond.fieldLink RX4 22 "PictureDeck$Plane" "height" "I", Cond.fieldLink RX4 19 "PictureDeck$Plane" "width" "I", Cond.methodLink RX4 53 yX4_put, Cond.instanceMethod yX4_put, Cond.selects RX4 yX4_put yX4_put, Cond.code yX4_put cX4_put 4 none, Cond.methodLink RX4 45 yX4_holds, Cond.instanceMethod yX4_holds, Cond.selects RX4 yX4_holds yX4_holds]
def wsL_square_r6 : List Cond := [Cond.code yX4_holds cX4_holds 3 (some .boolean), Cond.static yX6_isWithin, Cond.code yX6_isWithin cX6_isWithin 3 (some .boolean), Cond.methodLink RX6 134 yX6_makeFetched, Cond.instanceMethod yX6_makeFetched, Cond.selects RX6 yX6_makeFetched yX6_makeFetched, Cond.code yX6_makeFetched cX6_makeFetched 2 none, Cond.methodLink RX6 153 yX6_fetchSquare, Cond.instanceMethod yX6_fetchSquare, Cond.selects RX6 yX6_fetchSquare yX6_fetchSquare, Cond.code yX6_fetchSquare cX6_fetchSquare 2 none, Cond.fieldLink RX6 279 "PictureDeck$Shelf" "newer" "LPictureDeck$Picture;", Cond.fieldLink RX6 282 "PictureDeck$Shelf" "older" "LPictureDeck$Picture;", Cond.methodLink RX6 285 yX6_fetchBy, Cond.instanceMethod yX6_fetchBy, Cond.selects RX6 yX6_fetchBy yX6_fetchBy, Cond.code yX6_fetchBy cX6_fetchBy 8 none, Cond.methodLink RX6 289 yX2_used, Cond.instanceMethod yX2_used, Cond.selects RX2 yX2_used yX2_used, Cond.code yX2_used cX2_used 4 (some .int), Cond.fieldLink RX2 16 "PictureDeck$Motion" "whole" "Z", Cond.methodLink RX6 292 yX4_fetchSquare, Cond.instanceMethod yX4_fetchSquare]
def wsL_square_r7 : List Cond := [Cond.selects RX4 yX4_fetchSquare yX4_fetchSquare, Cond.code yX4_fetchSquare cX4_fetchSquare 10 none, Cond.fieldLink RX4 9 "PictureDeck$Plane" "side" "I", Cond.methodLink RX4 57 yX4_fetched, Cond.instanceMethod yX4_fetched, Cond.selects RX4 yX4_fetched yX4_fetched, Cond.code yX4_fetched cX4_fetched 10 (some .int), Cond.methodLink RX6 256 yX0_turnDifference, Cond.instanceMethod yX0_turnDifference, Cond.selects RX0 yX0_turnDifference yX0_turnDifference, Cond.code yX0_turnDifference cX0_turnDifference 6 none, Cond.methodLink RX6 156 yX0_forgetPasts, Cond.instanceMethod yX0_forgetPasts, Cond.selects RX0 yX0_forgetPasts yX0_forgetPasts, Cond.code yX0_forgetPasts cX0_forgetPasts 1 none, Cond.methodLink RX0 29 yJ7_fill_53178, Cond.methodLink RX6 137 yX1_clear, Cond.instanceMethod yX1_clear, Cond.selects RX1 yX1_clear yX1_clear, Cond.initialized RX1, Cond.code yX1_clear cX1_clear 1 none, Cond.fieldLink RX1 9 "PictureDeck$Coming" "levels" "[I", Cond.fieldLink RX1 21 "PictureDeck$Coming" "forItself" "Z", Cond.fieldLink RX1 25 "PictureDeck$Coming" "directions" "I"]
def wsL_square_r8 : List Cond := [Cond.fieldLink RX1 29 "PictureDeck$Coming" "anything" "Z", Cond.methodLink RX1 15 yJ7_fill_53178]
def wsL_square : List Cond := .codeWith yL_square cL_square 3 (some .int) [(0, 8, 11, 23)] :: ((wsL_square_r1 ++ (wsL_square_r2 ++ (wsL_square_r3 ++ (wsL_square_r4 ++ (wsL_square_r5 ++ (wsL_square_r6 ++ (wsL_square_r7 ++ wsL_square_r8))))))) ++ wsX60 ++ wsX10 ++ wsX20 ++ wsX00 ++ wsX50 ++ wsX30 ++ wsX40 ++ (vx_atS RX6 68 "java/lang/IllegalStateException" ["java/lang/RuntimeException", "java/lang/Exception"]).filter goodWord)
def wsL_leave_r1 : List Cond := [Cond.classLink RL 13 "java/lang/IllegalArgumentException", Cond.classLink RL 23 "java/lang/IllegalStateException", Cond.methodLink RL 43 yX6_leave, Cond.instanceMethod yX6_leave, Cond.selects RX6 yX6_leave yX6_leave, Cond.initialized RX6, Cond.code yX6_leave cX6_leave 3 (some .int), Cond.classLink RX6 45 "java/lang/IllegalArgumentException", Cond.initialized "java/lang/IllegalArgumentException", Cond.classLink RX6 64 "java/lang/IllegalStateException", Cond.initialized "java/lang/IllegalStateException", Cond.fieldLink RX6 60 "PictureDeck" "kind" "I", Cond.fieldLink RX6 26 "PictureDeck" "motion" "LPictureDeck$Motion;", Cond.fieldLink RX6 69 "PictureDeck" "fetchedBy" "I", Cond.fieldLink RX6 140 "PictureDeck" "made" "I", Cond.fieldLink RX6 19 "PictureDeck" "blocks" "LPictureDeck$Blocks;", Cond.methodLink RX6 85 yX6_squaresLeft, Cond.instanceMethod yX6_squaresLeft, Cond.selects RX6 yX6_squaresLeft yX6_squaresLeft, Cond.code yX6_squaresLeft cX6_squaresLeft 1 (some .int), Cond.fieldLink RX6 239 "PictureDeck" "across" "I", Cond.fieldLink RX6 242 "PictureDeck" "down" "I", Cond.methodLink RX6 41 yX6_isWithin, Cond.static yX6_isWithin]
def wsL_leave_r2 : List Cond := [Cond.code yX6_isWithin cX6_isWithin 3 (some .boolean), Cond.methodLink RX6 145 yX6_mayLeaveOut, Cond.instanceMethod yX6_mayLeaveOut, Cond.selects RX6 yX6_mayLeaveOut yX6_mayLeaveOut, Cond.code yX6_mayLeaveOut cX6_mayLeaveOut 1 (some .boolean), Cond.fieldLink RX6 33 "PictureDeck" "coming" "LPictureDeck$Coming;", Cond.fieldLink RX6 98 "PictureDeck$Coming" "anything" "Z", Cond.methodLink RX6 150 yX2_rest, Cond.instanceMethod yX2_rest, Cond.selects RX2 yX2_rest yX2_rest, Cond.initialized RX2, Cond.code yX2_rest cX2_rest 1 none, Cond.fieldLink RX2 7 "PictureDeck$Motion" "parts" "[I", Cond.methodLink RX2 23 yJ7_fill_53178, Cond.static yJ7_fill_53178, Cond.initialized RJ7, Cond.code yJ7_fill_53178 cJ7_fill_53178 4 none, Cond.methodLink RX6 153 yX6_fetchSquare, Cond.instanceMethod yX6_fetchSquare, Cond.selects RX6 yX6_fetchSquare yX6_fetchSquare, Cond.code yX6_fetchSquare cX6_fetchSquare 2 none, Cond.fieldLink RX6 10 "PictureDeck" "shelf" "LPictureDeck$Shelf;", Cond.fieldLink RX6 279 "PictureDeck$Shelf" "newer" "LPictureDeck$Picture;", Cond.fieldLink RX6 282 "PictureDeck$Shelf" "older" "LPictureDeck$Picture;"]
def wsL_leave_r3 : List Cond := [Cond.methodLink RX6 285 yX6_fetchBy, Cond.instanceMethod yX6_fetchBy, Cond.selects RX6 yX6_fetchBy yX6_fetchBy, Cond.code yX6_fetchBy cX6_fetchBy 8 none, Cond.fieldLink RX6 269 "PictureDeck$Shelf" "open" "LPictureDeck$Picture;", Cond.fieldLink RX6 182 "PictureDeck$Picture" "planes" "[LPictureDeck$Plane;", Cond.methodLink RX6 289 yX2_used, Cond.instanceMethod yX2_used, Cond.selects RX2 yX2_used yX2_used, Cond.code yX2_used cX2_used 4 (some .int), Cond.fieldLink RX2 16 "PictureDeck$Motion" "whole" "Z", Cond.methodLink RX6 263 yX6_squareLeft, Cond.instanceMethod yX6_squareLeft, Cond.selects RX6 yX6_squareLeft yX6_squareLeft, Cond.code yX6_squareLeft cX6_squareLeft 2 (some .int), Cond.methodLink RX6 295 yX6_squareSide, Cond.static yX6_squareSide, Cond.code yX6_squareSide cX6_squareSide 1 (some .int), Cond.methodLink RX6 266 yX6_squareTop, Cond.instanceMethod yX6_squareTop, Cond.selects RX6 yX6_squareTop yX6_squareTop, Cond.code yX6_squareTop cX6_squareTop 2 (some .int), Cond.methodLink RX6 292 yX4_fetchSquare, Cond.instanceMethod yX4_fetchSquare]
def wsL_leave_r4 : List Cond := [Cond.selects RX4 yX4_fetchSquare yX4_fetchSquare, Cond.initialized RX4, Cond.code yX4_fetchSquare cX4_fetchSquare 10 none, Cond.fieldLink RX4 9 "PictureDeck$Plane" "side" "I", Cond.methodLink RX4 57 yX4_fetched, Cond.instanceMethod yX4_fetched, Cond.selects RX4 yX4_fetched yX4_fetched, Cond.code yX4_fetched cX4_fetched 10 (some .int), Cond.methodLink RX4 49 yX4_nearest, Cond.instanceMethod yX4_nearest, Cond.selects RX4 yX4_nearest yX4_nearest, Cond.code yX4_nearest cX4_nearest 3 (some .int), Cond.fieldLink RX4 15 "PictureDeck$Plane" "samples" "[I", Cond.fieldLink RX4 22 "PictureDeck$Plane" "height" "I", Cond.fieldLink RX4 19 "PictureDeck$Plane" "width" "I", Cond.static yX6_bounded, Cond.code yX6_bounded cX6_bounded 3 (some .int), Cond.methodLink RX4 53 yX4_put, Cond.instanceMethod yX4_put, Cond.selects RX4 yX4_put yX4_put, Cond.code yX4_put cX4_put 4 none, Cond.methodLink RX4 45 yX4_holds, Cond.instanceMethod yX4_holds, Cond.selects RX4 yX4_holds yX4_holds]
def wsL_leave_r5 : List Cond := [Cond.code yX4_holds cX4_holds 3 (some .boolean), Cond.methodLink RX6 156 yX0_forgetPasts, Cond.instanceMethod yX0_forgetPasts, Cond.selects RX0 yX0_forgetPasts yX0_forgetPasts, Cond.initialized RX0, Cond.code yX0_forgetPasts cX0_forgetPasts 1 none, Cond.fieldLink RX0 16 "PictureDeck$Blocks" "pasts" "[I", Cond.methodLink RX0 29 yJ7_fill_53178]
def wsL_leave : List Cond := .codeWith yL_leave cL_leave 4 (some .int) [(0, 9, 12, 13), (0, 9, 15, 23)] :: ((wsL_leave_r1 ++ (wsL_leave_r2 ++ (wsL_leave_r3 ++ (wsL_leave_r4 ++ wsL_leave_r5)))) ++ wsX60 ++ wsX10 ++ wsX20 ++ wsX50 ++ wsX30 ++ wsX40 ++ wsX00 ++ (vx_atS RX6 49 "java/lang/IllegalArgumentException" ["java/lang/RuntimeException", "java/lang/Exception"]).filter goodWord ++ (vx_atS RX6 68 "java/lang/IllegalStateException" ["java/lang/RuntimeException", "java/lang/Exception"]).filter goodWord)
def wsL_done_r1 : List Cond := [Cond.classLink RL 23 "java/lang/IllegalStateException", Cond.methodLink RL 47 yX6_done, Cond.instanceMethod yX6_done, Cond.selects RX6 yX6_done yX6_done, Cond.initialized RX6, Cond.code yX6_done cX6_done 1 (some .int), Cond.classLink RX6 64 "java/lang/IllegalStateException", Cond.initialized "java/lang/IllegalStateException", Cond.fieldLink RX6 60 "PictureDeck" "kind" "I", Cond.fieldLink RX6 10 "PictureDeck" "shelf" "LPictureDeck$Shelf;", Cond.fieldLink RX6 167 "PictureDeck$Shelf" "doneCount" "I", Cond.fieldLink RX6 140 "PictureDeck" "made" "I", Cond.fieldLink RX6 170 "PictureDeck$Shelf" "shownCount" "I", Cond.methodLink RX6 85 yX6_squaresLeft, Cond.instanceMethod yX6_squaresLeft, Cond.selects RX6 yX6_squaresLeft yX6_squaresLeft, Cond.code yX6_squaresLeft cX6_squaresLeft 1 (some .int), Cond.fieldLink RX6 239 "PictureDeck" "across" "I", Cond.fieldLink RX6 242 "PictureDeck" "down" "I", Cond.methodLink RX6 161 yX5_showOpen, Cond.instanceMethod yX5_showOpen, Cond.selects RX5 yX5_showOpen yX5_showOpen, Cond.initialized RX5, Cond.code yX5_showOpen cX5_showOpen 2 none]
def wsL_done_r2 : List Cond := [Cond.fieldLink RX5 22 "PictureDeck$Shelf" "shown" "LPictureDeck$Picture;", Cond.fieldLink RX5 19 "PictureDeck$Shelf" "open" "LPictureDeck$Picture;", Cond.fieldLink RX5 56 "PictureDeck$Shelf" "shownCount" "I", Cond.methodLink RX6 164 yX5_turnOpenIntoReference, Cond.instanceMethod yX5_turnOpenIntoReference, Cond.selects RX5 yX5_turnOpenIntoReference yX5_turnOpenIntoReference, Cond.code yX5_turnOpenIntoReference cX5_turnOpenIntoReference 2 none, Cond.fieldLink RX5 10 "PictureDeck$Shelf" "older" "LPictureDeck$Picture;", Cond.fieldLink RX5 16 "PictureDeck$Shelf" "newer" "LPictureDeck$Picture;", Cond.fieldLink RX5 49 "PictureDeck$Shelf" "newerWaits" "Z", Cond.methodLink RX5 63 yX5_showNewer, Cond.instanceMethod yX5_showNewer, Cond.selects RX5 yX5_showNewer yX5_showNewer, Cond.code yX5_showNewer cX5_showNewer 1 none, Cond.methodLink RX5 59 yX3_copyFrom, Cond.instanceMethod yX3_copyFrom, Cond.selects RX3 yX3_copyFrom yX3_copyFrom, Cond.initialized RX3, Cond.code yX3_copyFrom cX3_copyFrom 3 none, Cond.fieldLink RX3 11 "PictureDeck$Picture" "planes" "[LPictureDeck$Plane;", Cond.methodLink RX3 28 yX4_copyFrom, Cond.instanceMethod yX4_copyFrom, Cond.selects RX4 yX4_copyFrom yX4_copyFrom, Cond.initialized RX4]
def wsL_done_r3 : List Cond := [Cond.code yX4_copyFrom cX4_copyFrom 2 none, Cond.fieldLink RX4 15 "PictureDeck$Plane" "samples" "[I", Cond.fieldLink RX4 19 "PictureDeck$Plane" "width" "I", Cond.fieldLink RX4 22 "PictureDeck$Plane" "height" "I", Cond.methodLink RX4 31 arraycopyName, Cond.native arraycopyName, Cond.static arraycopyName, Cond.initialized "java/lang/System"]
def wsL_done : List Cond := .codeWith yL_done cL_done 3 (some .int) [(0, 8, 11, 23)] :: ((wsL_done_r1 ++ (wsL_done_r2 ++ wsL_done_r3)) ++ wsX60 ++ wsX50 ++ wsX30 ++ wsX40 ++ (vx_atS RX6 68 "java/lang/IllegalStateException" ["java/lang/RuntimeException", "java/lang/Exception"]).filter goodWord)
def wsL_last_r1 : List Cond := [Cond.classLink RL 23 "java/lang/IllegalStateException", Cond.methodLink RL 50 yX6_last, Cond.instanceMethod yX6_last, Cond.selects RX6 yX6_last yX6_last, Cond.initialized RX6, Cond.code yX6_last cX6_last 1 (some .int), Cond.classLink RX6 64 "java/lang/IllegalStateException", Cond.initialized "java/lang/IllegalStateException", Cond.fieldLink RX6 60 "PictureDeck" "kind" "I", Cond.fieldLink RX6 10 "PictureDeck" "shelf" "LPictureDeck$Shelf;", Cond.fieldLink RX6 170 "PictureDeck$Shelf" "shownCount" "I", Cond.methodLink RX6 173 yX5_showNewer, Cond.instanceMethod yX5_showNewer, Cond.selects RX5 yX5_showNewer yX5_showNewer, Cond.initialized RX5, Cond.code yX5_showNewer cX5_showNewer 1 none, Cond.fieldLink RX5 49 "PictureDeck$Shelf" "newerWaits" "Z", Cond.fieldLink RX5 22 "PictureDeck$Shelf" "shown" "LPictureDeck$Picture;", Cond.fieldLink RX5 16 "PictureDeck$Shelf" "newer" "LPictureDeck$Picture;", Cond.fieldLink RX5 56 "PictureDeck$Shelf" "shownCount" "I", Cond.methodLink RX5 59 yX3_copyFrom, Cond.instanceMethod yX3_copyFrom, Cond.selects RX3 yX3_copyFrom yX3_copyFrom, Cond.initialized RX3]
def wsL_last_r2 : List Cond := [Cond.code yX3_copyFrom cX3_copyFrom 3 none, Cond.fieldLink RX3 11 "PictureDeck$Picture" "planes" "[LPictureDeck$Plane;", Cond.methodLink RX3 28 yX4_copyFrom, Cond.instanceMethod yX4_copyFrom, Cond.selects RX4 yX4_copyFrom yX4_copyFrom, Cond.initialized RX4, Cond.code yX4_copyFrom cX4_copyFrom 2 none, Cond.fieldLink RX4 15 "PictureDeck$Plane" "samples" "[I", Cond.fieldLink RX4 19 "PictureDeck$Plane" "width" "I", Cond.fieldLink RX4 22 "PictureDeck$Plane" "height" "I", Cond.methodLink RX4 31 arraycopyName, Cond.native arraycopyName, Cond.static arraycopyName, Cond.initialized "java/lang/System"]
def wsL_last : List Cond := .codeWith yL_last cL_last 3 (some .int) [(0, 8, 11, 23)] :: ((wsL_last_r1 ++ wsL_last_r2) ++ wsX60 ++ wsX50 ++ wsX30 ++ wsX40 ++ (vx_atS RX6 68 "java/lang/IllegalStateException" ["java/lang/RuntimeException", "java/lang/Exception"]).filter goodWord)
def wsL_sample_r1 : List Cond := [Cond.classLink RL 23 "java/lang/IllegalStateException", Cond.classLink RL 56 "java/lang/IndexOutOfBoundsException", Cond.methodLink RL 53 yX6_sample, Cond.instanceMethod yX6_sample, Cond.selects RX6 yX6_sample yX6_sample, Cond.initialized RX6, Cond.code yX6_sample cX6_sample 4 (some .int), Cond.classLink RX6 64 "java/lang/IllegalStateException", Cond.initialized "java/lang/IllegalStateException", Cond.classLink RX6 193 "java/lang/IndexOutOfBoundsException", Cond.initialized "java/lang/IndexOutOfBoundsException", Cond.fieldLink RX6 10 "PictureDeck" "shelf" "LPictureDeck$Shelf;", Cond.fieldLink RX6 170 "PictureDeck$Shelf" "shownCount" "I", Cond.fieldLink RX6 178 "PictureDeck$Shelf" "shown" "LPictureDeck$Picture;", Cond.fieldLink RX6 182 "PictureDeck$Picture" "planes" "[LPictureDeck$Plane;", Cond.methodLink RX6 41 yX6_isWithin, Cond.static yX6_isWithin, Cond.code yX6_isWithin cX6_isWithin 3 (some .boolean), Cond.methodLink RX6 188 yX4_holds, Cond.instanceMethod yX4_holds, Cond.selects RX4 yX4_holds yX4_holds, Cond.initialized RX4, Cond.code yX4_holds cX4_holds 3 (some .boolean), Cond.fieldLink RX4 19 "PictureDeck$Plane" "width" "I"]
def wsL_sample_r2 : List Cond := [Cond.fieldLink RX4 22 "PictureDeck$Plane" "height" "I", Cond.methodLink RX6 198 yX4_nearest, Cond.instanceMethod yX4_nearest, Cond.selects RX4 yX4_nearest yX4_nearest, Cond.code yX4_nearest cX4_nearest 3 (some .int), Cond.fieldLink RX4 15 "PictureDeck$Plane" "samples" "[I", Cond.static yX6_bounded, Cond.code yX6_bounded cX6_bounded 3 (some .int)]
def wsL_sample : List Cond := .codeWith yL_sample cL_sample 6 (some .int) [(0, 12, 15, 23), (0, 12, 19, 56)] :: ((wsL_sample_r1 ++ wsL_sample_r2) ++ wsX60 ++ wsX50 ++ wsX30 ++ wsX40 ++ (vx_atS RX6 68 "java/lang/IllegalStateException" ["java/lang/RuntimeException", "java/lang/Exception"]).filter goodWord ++ (vx_atS RX6 197 "java/lang/IndexOutOfBoundsException" ["java/lang/RuntimeException", "java/lang/Exception"]).filter goodWord)
def wsL_colour_r1 : List Cond := [Cond.classLink RL 23 "java/lang/IllegalStateException", Cond.classLink RL 56 "java/lang/IndexOutOfBoundsException", Cond.methodLink RL 58 yX6_colour, Cond.instanceMethod yX6_colour, Cond.selects RX6 yX6_colour yX6_colour, Cond.initialized RX6, Cond.code yX6_colour cX6_colour 3 (some .int), Cond.classLink RX6 64 "java/lang/IllegalStateException", Cond.initialized "java/lang/IllegalStateException", Cond.classLink RX6 193 "java/lang/IndexOutOfBoundsException", Cond.initialized "java/lang/IndexOutOfBoundsException", Cond.fieldLink RX6 10 "PictureDeck" "shelf" "LPictureDeck$Shelf;", Cond.fieldLink RX6 170 "PictureDeck$Shelf" "shownCount" "I", Cond.fieldLink RX6 178 "PictureDeck$Shelf" "shown" "LPictureDeck$Picture;", Cond.fieldLink RX6 182 "PictureDeck$Picture" "planes" "[LPictureDeck$Plane;", Cond.methodLink RX6 188 yX4_holds, Cond.instanceMethod yX4_holds, Cond.selects RX4 yX4_holds yX4_holds, Cond.initialized RX4, Cond.code yX4_holds cX4_holds 3 (some .boolean), Cond.fieldLink RX4 19 "PictureDeck$Plane" "width" "I", Cond.fieldLink RX4 22 "PictureDeck$Plane" "height" "I", Cond.static yX6_isWithin, Cond.code yX6_isWithin cX6_isWithin 3 (some .boolean)]
def wsL_colour_r2 : List Cond := [Cond.methodLink RX6 202 yX3_mixed, Cond.instanceMethod yX3_mixed, Cond.selects RX3 yX3_mixed yX3_mixed, Cond.initialized RX3, Cond.code yX3_mixed cX3_mixed 9 (some .int), Cond.fieldLink RX3 11 "PictureDeck$Picture" "planes" "[LPictureDeck$Plane;", Cond.constantFloat RX3 36 (1068725436), Cond.constantFloat RX3 41 (1051734680), Cond.constantFloat RX3 42 (1060557214), Cond.constantFloat RX3 43 (1071829221), Cond.constant RX3 44 (65536), Cond.methodLink RX3 32 yX4_nearest, Cond.instanceMethod yX4_nearest, Cond.selects RX4 yX4_nearest yX4_nearest, Cond.code yX4_nearest cX4_nearest 3 (some .int), Cond.fieldLink RX4 15 "PictureDeck$Plane" "samples" "[I", Cond.static yX6_bounded, Cond.code yX6_bounded cX6_bounded 3 (some .int), Cond.methodLink RX3 37 yX3_tone, Cond.static yX3_tone, Cond.code yX3_tone cX3_tone 1 (some .int), Cond.constantFloat RX3 45 (1056964608)]
def wsL_colour : List Cond := .codeWith yL_colour cL_colour 5 (some .int) [(0, 10, 13, 23), (0, 10, 17, 56)] :: ((wsL_colour_r1 ++ wsL_colour_r2) ++ wsX60 ++ wsX50 ++ wsX30 ++ wsX40 ++ (vx_atS RX6 68 "java/lang/IllegalStateException" ["java/lang/RuntimeException", "java/lang/Exception"]).filter goodWord ++ (vx_atS RX6 197 "java/lang/IndexOutOfBoundsException" ["java/lang/RuntimeException", "java/lang/Exception"]).filter goodWord)
def wsL_light_r1 : List Cond := [Cond.classLink RL 13 "java/lang/IllegalArgumentException", Cond.classLink RL 23 "java/lang/IllegalStateException", Cond.methodLink RL 62 yX6_light, Cond.instanceMethod yX6_light, Cond.selects RX6 yX6_light yX6_light, Cond.initialized RX6, Cond.code yX6_light cX6_light 4 none, Cond.classLink RX6 45 "java/lang/IllegalArgumentException", Cond.initialized "java/lang/IllegalArgumentException", Cond.classLink RX6 64 "java/lang/IllegalStateException", Cond.initialized "java/lang/IllegalStateException", Cond.constantFloat RX6 205 (3296329728), Cond.constantFloat RX6 206 (1148846080), Cond.constantFloat RX6 207 (3351465984), Cond.constantFloat RX6 208 (1203982336), Cond.fieldLink RX6 10 "PictureDeck" "shelf" "LPictureDeck$Shelf;", Cond.fieldLink RX6 170 "PictureDeck$Shelf" "shownCount" "I", Cond.fieldLink RX6 178 "PictureDeck$Shelf" "shown" "LPictureDeck$Picture;", Cond.fieldLink RX6 182 "PictureDeck$Picture" "planes" "[LPictureDeck$Plane;", Cond.methodLink RX6 211 yX4_brighten, Cond.instanceMethod yX4_brighten, Cond.selects RX4 yX4_brighten yX4_brighten, Cond.initialized RX4, Cond.code yX4_brighten cX4_brighten 4 none]
def wsL_light_r2 : List Cond := [Cond.fieldLink RX4 19 "PictureDeck$Plane" "width" "I", Cond.fieldLink RX4 22 "PictureDeck$Plane" "height" "I", Cond.fieldLink RX4 15 "PictureDeck$Plane" "samples" "[I", Cond.static yX6_bounded, Cond.code yX6_bounded cX6_bounded 3 (some .int)]
def wsL_light : List Cond := .codeWith yL_light cL_light 4 (some .int) [(0, 6, 9, 13), (0, 6, 12, 23)] :: ((wsL_light_r1 ++ wsL_light_r2) ++ wsX60 ++ wsX50 ++ wsX30 ++ wsX40 ++ (vx_atS RX6 49 "java/lang/IllegalArgumentException" ["java/lang/RuntimeException", "java/lang/Exception"]).filter goodWord ++ (vx_atS RX6 68 "java/lang/IllegalStateException" ["java/lang/RuntimeException", "java/lang/Exception"]).filter goodWord)
def wsL_keep_r1 : List Cond := [Cond.classLink RL 23 "java/lang/IllegalStateException", Cond.methodLink RL 66 yX6_keep, Cond.instanceMethod yX6_keep, Cond.selects RX6 yX6_keep yX6_keep, Cond.initialized RX6, Cond.code yX6_keep cX6_keep 1 none, Cond.classLink RX6 64 "java/lang/IllegalStateException", Cond.initialized "java/lang/IllegalStateException", Cond.fieldLink RX6 10 "PictureDeck" "shelf" "LPictureDeck$Shelf;", Cond.fieldLink RX6 170 "PictureDeck$Shelf" "shownCount" "I", Cond.methodLink RX6 215 yX5_keepShown, Cond.instanceMethod yX5_keepShown, Cond.selects RX5 yX5_keepShown yX5_keepShown, Cond.initialized RX5, Cond.code yX5_keepShown cX5_keepShown 1 none, Cond.fieldLink RX5 36 "PictureDeck$Shelf" "kept" "LPictureDeck$Plane;", Cond.fieldLink RX5 22 "PictureDeck$Shelf" "shown" "LPictureDeck$Picture;", Cond.fieldLink RX5 66 "PictureDeck$Picture" "planes" "[LPictureDeck$Plane;", Cond.fieldLink RX5 45 "PictureDeck$Shelf" "hasKept" "Z", Cond.methodLink RX5 70 yX4_copyFrom, Cond.instanceMethod yX4_copyFrom, Cond.selects RX4 yX4_copyFrom yX4_copyFrom, Cond.initialized RX4, Cond.code yX4_copyFrom cX4_copyFrom 2 none]
def wsL_keep_r2 : List Cond := [Cond.fieldLink RX4 15 "PictureDeck$Plane" "samples" "[I", Cond.fieldLink RX4 19 "PictureDeck$Plane" "width" "I", Cond.fieldLink RX4 22 "PictureDeck$Plane" "height" "I", Cond.methodLink RX4 31 arraycopyName, Cond.native arraycopyName, Cond.static arraycopyName, Cond.initialized "java/lang/System"]
def wsL_keep : List Cond := .codeWith yL_keep cL_keep 2 (some .int) [(0, 4, 7, 23)] :: ((wsL_keep_r1 ++ wsL_keep_r2) ++ wsX60 ++ wsX50 ++ wsX30 ++ wsX40 ++ (vx_atS RX6 68 "java/lang/IllegalStateException" ["java/lang/RuntimeException", "java/lang/Exception"]).filter goodWord)
def wsL_error : List Cond := .codeWith yL_error cL_error 3 (some .int) [(0, 8, 11, 23)] :: ([.classLink RL 23 "java/lang/IllegalStateException", .methodLink RL 69 yX6_error, .instanceMethod yX6_error, .selects RX6 yX6_error yX6_error, .initialized RX6, .code yX6_error cX6_error 1 (some .float), .classLink RX6 64 "java/lang/IllegalStateException", .initialized "java/lang/IllegalStateException", .fieldLink RX6 10 "PictureDeck" "shelf" "LPictureDeck$Shelf;", .fieldLink RX6 170 "PictureDeck$Shelf" "shownCount" "I", .fieldLink RX6 218 "PictureDeck$Shelf" "hasKept" "Z", .fieldLink RX6 178 "PictureDeck$Shelf" "shown" "LPictureDeck$Picture;", .fieldLink RX6 182 "PictureDeck$Picture" "planes" "[LPictureDeck$Plane;", .fieldLink RX6 223 "PictureDeck$Shelf" "kept" "LPictureDeck$Plane;", .methodLink RX6 227 yX4_meanSquareTo, .instanceMethod yX4_meanSquareTo, .selects RX4 yX4_meanSquareTo yX4_meanSquareTo, .initialized RX4, .code yX4_meanSquareTo cX4_meanSquareTo 6 (some .float), .fieldLink RX4 19 "PictureDeck$Plane" "width" "I", .fieldLink RX4 22 "PictureDeck$Plane" "height" "I", .fieldLink RX4 15 "PictureDeck$Plane" "samples" "[I"] ++ wsX60 ++ wsX50 ++ wsX30 ++ wsX40 ++ (vx_atS RX6 68 "java/lang/IllegalStateException" ["java/lang/RuntimeException", "java/lang/Exception"]).filter goodWord)
def wsL_told : List Cond := .codeWith yL_told cL_told 4 (some .int) [(0, 9, 12, 13)] :: ([.classLink RL 13 "java/lang/IllegalArgumentException", .methodLink RL 73 yX6_told, .instanceMethod yX6_told, .selects RX6 yX6_told yX6_told, .initialized RX6, .code yX6_told cX6_told 2 (some .int), .classLink RX6 45 "java/lang/IllegalArgumentException", .initialized "java/lang/IllegalArgumentException", .fieldLink RX6 19 "PictureDeck" "blocks" "LPictureDeck$Blocks;", .fieldLink RX6 233 "PictureDeck$Blocks" "pasts" "[I", .fieldLink RX6 26 "PictureDeck" "motion" "LPictureDeck$Motion;", .fieldLink RX6 236 "PictureDeck$Motion" "parts" "[I", .fieldLink RX6 60 "PictureDeck" "kind" "I", .fieldLink RX6 140 "PictureDeck" "made" "I", .fieldLink RX6 10 "PictureDeck" "shelf" "LPictureDeck$Shelf;", .fieldLink RX6 167 "PictureDeck$Shelf" "doneCount" "I", .fieldLink RX6 170 "PictureDeck$Shelf" "shownCount" "I", .methodLink RX6 41 yX6_isWithin, .static yX6_isWithin, .code yX6_isWithin cX6_isWithin 3 (some .boolean)] ++ wsX60 ++ wsX00 ++ wsX20 ++ wsX50 ++ (vx_atS RX6 49 "java/lang/IllegalArgumentException" ["java/lang/RuntimeException", "java/lang/Exception"]).filter goodWord)
set_option maxRecDepth 20000 in
theorem ggX0_clear_J7_fill_53178 : GoodIn wsX0_clear wsJ7_fill_53178 := goodIn_r _ [5] (by decide +kernel) (by decide +kernel)
set_option maxRecDepth 20000 in
theorem gX0_clear_J7_fill_53178 : GoodIn wsX0_clear (va_wsS RX0 29 yJ7_fill_53178 wsJ7_fill_53178) := goodIn_app (goodIn_of _ (by decide +kernel)) ggX0_clear_J7_fill_53178
set_option maxRecDepth 20000 in
theorem ggX0_clear_X0_prepare : GoodIn wsX0_clear wsX0_prepare := goodIn_r _ [10, 11, 12, 13, 14, 9, 15, 16, 2, 3, 4, 5, 17, 18, 19, 20, 21, 22] (by decide +kernel) (by decide +kernel)
set_option maxRecDepth 20000 in
theorem gX0_clear_X0_prepare : GoodIn wsX0_clear (wsV RX0 35 RX0 yX0_prepare wsX0_prepare) := goodIn_app (goodIn_of _ (by decide +kernel)) ggX0_clear_X0_prepare
set_option maxRecDepth 20000 in
theorem ggX0_prepare_X0_forgetPasts : GoodIn wsX0_prepare wsX0_forgetPasts := goodIn_r _ [6, 7, 8, 9, 10, 11, 12, 13, 14, 15, 16, 17] (by decide +kernel) (by decide +kernel)
set_option maxRecDepth 20000 in
theorem gX0_prepare_X0_forgetPasts : GoodIn wsX0_prepare (wsV RX0 42 RX0 yX0_forgetPasts wsX0_forgetPasts) := goodIn_app (goodIn_of _ (by decide +kernel)) ggX0_prepare_X0_forgetPasts
set_option maxRecDepth 20000 in
theorem ggX0_forgetPasts_J7_fill_53178 : GoodIn wsX0_forgetPasts wsJ7_fill_53178 := goodIn_r _ [5] (by decide +kernel) (by decide +kernel)
set_option maxRecDepth 20000 in
theorem gX0_forgetPasts_J7_fill_53178 : GoodIn wsX0_forgetPasts (va_wsS RX0 29 yJ7_fill_53178 wsJ7_fill_53178) := goodIn_app (goodIn_of _ (by decide +kernel)) ggX0_forgetPasts_J7_fill_53178
set_option maxRecDepth 20000 in
theorem ggX0_turnForItself_X6_planeOf : GoodIn wsX0_turnForItself wsX6_planeOf := goodIn_r _ [7] (by decide +kernel) (by decide +kernel)
set_option maxRecDepth 20000 in
theorem gX0_turnForItself_X6_planeOf_n45 : GoodIn wsX0_turnForItself (wsX6_planeOf) := ggX0_turnForItself_X6_planeOf
set_option maxRecDepth 20000 in
theorem ggX0_turnForItself_X6_bounded : GoodIn wsX0_turnForItself wsX6_bounded := goodIn_r _ [9] (by decide +kernel) (by decide +kernel)
set_option maxRecDepth 20000 in
theorem gX0_turnForItself_X6_bounded_n49 : GoodIn wsX0_turnForItself (wsX6_bounded) := ggX0_turnForItself_X6_bounded
set_option maxRecDepth 20000 in
theorem ggX0_turnForItself_X0_scaled : GoodIn wsX0_turnForItself wsX0_scaled := goodIn_r _ [14, 15, 16, 17, 18, 19, 8, 6, 9, 38, 39, 40, 41, 42, 43] (by decide +kernel) (by decide +kernel)
set_option maxRecDepth 20000 in
theorem gX0_turnForItself_X0_scaled : GoodIn wsX0_turnForItself (wsV RX0 56 RX0 yX0_scaled wsX0_scaled) := goodIn_app (goodIn_of _ (by decide +kernel)) ggX0_turnForItself_X0_scaled
set_option maxRecDepth 20000 in
theorem ggX0_turnForItself_X0_turn : GoodIn wsX0_turnForItself wsX0_turn := goodIn_r _ [23, 24, 25, 26, 27, 28, 13, 29, 2, 30, 31, 32, 33, 34, 35, 36, 37, 38, 39, 40, 41, 42, 43] (by decide +kernel) (by decide +kernel)
set_option maxRecDepth 20000 in
theorem gX0_turnForItself_X0_turn : GoodIn wsX0_turnForItself (wsV RX0 60 RX0 yX0_turn wsX0_turn) := goodIn_app (goodIn_of _ (by decide +kernel)) ggX0_turnForItself_X0_turn
set_option maxRecDepth 20000 in
theorem ggX0_turnDifference_J6_signum_0f7a4 : GoodIn wsX0_turnDifference wsJ6_signum_0f7a4 := goodIn_r _ [7] (by decide +kernel) (by decide +kernel)
set_option maxRecDepth 20000 in
theorem gX0_turnDifference_J6_signum_0f7a4 : GoodIn wsX0_turnDifference (va_wsS RX0 63 yJ6_signum_0f7a4 wsJ6_signum_0f7a4) := goodIn_app (goodIn_of _ (by decide +kernel)) ggX0_turnDifference_J6_signum_0f7a4
set_option maxRecDepth 20000 in
theorem ggX0_turnDifference_X0_scaled : GoodIn wsX0_turnDifference wsX0_scaled := goodIn_r _ [12, 13, 4, 5, 6, 7, 14, 15, 16, 35, 36, 37, 38, 39, 40] (by decide +kernel) (by decide +kernel)
set_option maxRecDepth 20000 in
theorem gX0_turnDifference_X0_scaled : GoodIn wsX0_turnDifference (wsV RX0 56 RX0 yX0_scaled wsX0_scaled) := goodIn_app (goodIn_of _ (by decide +kernel)) ggX0_turnDifference_X0_scaled
set_option maxRecDepth 20000 in
theorem ggX0_turnDifference_X0_turn : GoodIn wsX0_turnDifference wsX0_turn := goodIn_r _ [20, 21, 22, 23, 24, 25, 11, 26, 1, 27, 28, 29, 30, 31, 32, 33, 34, 35, 36, 37, 38, 39, 40] (by decide +kernel) (by decide +kernel)
set_option maxRecDepth 20000 in
theorem gX0_turnDifference_X0_turn : GoodIn wsX0_turnDifference (wsV RX0 60 RX0 yX0_turn wsX0_turn) := goodIn_app (goodIn_of _ (by decide +kernel)) ggX0_turnDifference_X0_turn
set_option maxRecDepth 20000 in
theorem ggX0_scaled_J6_signum_0f7a4 : GoodIn wsX0_scaled wsJ6_signum_0f7a4 := goodIn_r _ [5] (by decide +kernel) (by decide +kernel)
set_option maxRecDepth 20000 in
theorem gX0_scaled_J6_signum_0f7a4 : GoodIn wsX0_scaled (va_wsS RX0 63 yJ6_signum_0f7a4 wsJ6_signum_0f7a4) := goodIn_app (goodIn_of _ (by decide +kernel)) ggX0_scaled_J6_signum_0f7a4
set_option maxRecDepth 20000 in
theorem ggX0_scaled_X6_bounded : GoodIn wsX0_scaled wsX6_bounded := goodIn_r _ [8] (by decide +kernel) (by decide +kernel)
set_option maxRecDepth 20000 in
theorem gX0_scaled_X6_bounded_n49 : GoodIn wsX0_scaled (wsX6_bounded) := ggX0_scaled_X6_bounded
set_option maxRecDepth 20000 in
theorem ggX0_turn_X0_alongRow : GoodIn wsX0_turn wsX0_alongRow := goodIn_r _ [7, 8, 9, 10, 6, 11, 12, 17, 18, 19, 20, 21, 22] (by decide +kernel) (by decide +kernel)
set_option maxRecDepth 20000 in
theorem gX0_turn_X0_alongRow : GoodIn wsX0_turn (wsV RX0 68 RX0 yX0_alongRow wsX0_alongRow) := goodIn_app (goodIn_of _ (by decide +kernel)) ggX0_turn_X0_alongRow
set_option maxRecDepth 20000 in
theorem ggX0_turn_X0_alongColumn : GoodIn wsX0_turn wsX0_alongColumn := goodIn_r _ [16, 1, 9, 10, 6, 11, 12, 17, 18, 19, 20, 21, 22] (by decide +kernel) (by decide +kernel)
set_option maxRecDepth 20000 in
theorem gX0_turn_X0_alongColumn : GoodIn wsX0_turn (wsV RX0 71 RX0 yX0_alongColumn wsX0_alongColumn) := goodIn_app (goodIn_of _ (by decide +kernel)) ggX0_turn_X0_alongColumn
set_option maxRecDepth 20000 in
theorem ggX0_alongRow_X0_wave : GoodIn wsX0_alongRow wsX0_wave := goodIn_r _ [5, 6] (by decide +kernel) (by decide +kernel)
set_option maxRecDepth 20000 in
theorem gX0_alongRow_X0_wave : GoodIn wsX0_alongRow (va_wsS RX0 74 yX0_wave wsX0_wave) := goodIn_app (goodIn_of _ (by decide +kernel)) ggX0_alongRow_X0_wave
set_option maxRecDepth 20000 in
theorem ggX0_alongColumn_X0_wave : GoodIn wsX0_alongColumn wsX0_wave := goodIn_r _ [5, 6] (by decide +kernel) (by decide +kernel)
set_option maxRecDepth 20000 in
theorem gX0_alongColumn_X0_wave : GoodIn wsX0_alongColumn (va_wsS RX0 74 yX0_wave wsX0_wave) := goodIn_app (goodIn_of _ (by decide +kernel)) ggX0_alongColumn_X0_wave
set_option maxRecDepth 20000 in
theorem ggX1_clear_J7_fill_53178 : GoodIn wsX1_clear wsJ7_fill_53178 := goodIn_r _ [8] (by decide +kernel) (by decide +kernel)
set_option maxRecDepth 20000 in
theorem gX1_clear_J7_fill_53178 : GoodIn wsX1_clear (va_wsS RX1 15 yJ7_fill_53178 wsJ7_fill_53178) := goodIn_app (goodIn_of _ (by decide +kernel)) ggX1_clear_J7_fill_53178
set_option maxRecDepth 20000 in
theorem ggX2_prepare_X2_rest : GoodIn wsX2_prepare wsX2_rest := goodIn_r _ [7, 8, 9, 10, 11, 12, 13, 14, 15] (by decide +kernel) (by decide +kernel)
set_option maxRecDepth 20000 in
theorem gX2_prepare_X2_rest : GoodIn wsX2_prepare (wsV RX2 20 RX2 yX2_rest wsX2_rest) := goodIn_app (goodIn_of _ (by decide +kernel)) ggX2_prepare_X2_rest
set_option maxRecDepth 20000 in
theorem ggX2_rest_J7_fill_53178 : GoodIn wsX2_rest wsJ7_fill_53178 := goodIn_r _ [5] (by decide +kernel) (by decide +kernel)
set_option maxRecDepth 20000 in
theorem gX2_rest_J7_fill_53178 : GoodIn wsX2_rest (va_wsS RX2 23 yJ7_fill_53178 wsJ7_fill_53178) := goodIn_app (goodIn_of _ (by decide +kernel)) ggX2_rest_J7_fill_53178
set_option maxRecDepth 20000 in
theorem ggX2_reaches_X6_isWithin : GoodIn wsX2_reaches wsX6_isWithin := goodIn_r _ [4] (by decide +kernel) (by decide +kernel)
set_option maxRecDepth 20000 in
theorem gX2_reaches_X6_isWithin_n29 : GoodIn wsX2_reaches (wsX6_isWithin) := ggX2_reaches_X6_isWithin
set_option maxRecDepth 20000 in
theorem ggX2_move_X2_wrapped : GoodIn wsX2_move wsX2_wrapped := goodIn_r _ [6] (by decide +kernel) (by decide +kernel)
set_option maxRecDepth 20000 in
theorem gX2_move_X2_wrapped : GoodIn wsX2_move (va_wsS RX2 35 yX2_wrapped wsX2_wrapped) := goodIn_app (goodIn_of _ (by decide +kernel)) ggX2_move_X2_wrapped
set_option maxRecDepth 20000 in
theorem ggX3_init_X6_squareSide : GoodIn wsX3_init wsX6_squareSide := goodIn_r _ [10] (by decide +kernel) (by decide +kernel)
set_option maxRecDepth 20000 in
theorem gX3_init_X6_squareSide_n17 : GoodIn wsX3_init (wsX6_squareSide) := ggX3_init_X6_squareSide
set_option maxRecDepth 20000 in
theorem ggX3_init_X4_init : GoodIn wsX3_init wsX4_init := goodIn_r _ [13, 14, 2, 3, 15, 16, 17, 18, 19, 21, 22, 23, 24] (by decide +kernel) (by decide +kernel)
set_option maxRecDepth 20000 in
theorem gX3_init_X4_init : GoodIn wsX3_init (wsX4_init) := ggX3_init_X4_init
set_option maxRecDepth 20000 in
theorem ggX3_clear_X4_clear : GoodIn wsX3_clear wsX4_clear := goodIn_r _ [6, 7, 8, 9, 10, 11, 12, 13, 14, 16, 17, 18, 19] (by decide +kernel) (by decide +kernel)
set_option maxRecDepth 20000 in
theorem gX3_clear_X4_clear : GoodIn wsX3_clear (wsV RX3 24 RX4 yX4_clear wsX4_clear) := goodIn_app (goodIn_of _ (by decide +kernel)) ggX3_clear_X4_clear
set_option maxRecDepth 20000 in
theorem ggX3_copyFrom_X4_copyFrom : GoodIn wsX3_copyFrom wsX4_copyFrom := goodIn_r _ [6, 7, 8, 9, 10, 11, 12, 13, 15, 16, 17, 18] (by decide +kernel) (by decide +kernel)
set_option maxRecDepth 20000 in
theorem gX3_copyFrom_X4_copyFrom : GoodIn wsX3_copyFrom (wsV RX3 28 RX4 yX4_copyFrom wsX4_copyFrom) := goodIn_app (goodIn_of _ (by decide +kernel)) ggX3_copyFrom_X4_copyFrom
set_option maxRecDepth 20000 in
theorem ggX3_mixed_X4_nearest : GoodIn wsX3_mixed wsX4_nearest := goodIn_r _ [11, 12, 13, 14, 15, 16, 17, 24, 25, 26, 27] (by decide +kernel) (by decide +kernel)
set_option maxRecDepth 20000 in
theorem gX3_mixed_X4_nearest : GoodIn wsX3_mixed (wsV RX3 32 RX4 yX4_nearest wsX4_nearest) := goodIn_app (goodIn_of _ (by decide +kernel)) ggX3_mixed_X4_nearest
set_option maxRecDepth 20000 in
theorem ggX3_mixed_X3_tone : GoodIn wsX3_mixed wsX3_tone := goodIn_r _ [21, 22, 15, 16, 17] (by decide +kernel) (by decide +kernel)
set_option maxRecDepth 20000 in
theorem gX3_mixed_X3_tone : GoodIn wsX3_mixed (va_wsS RX3 37 yX3_tone wsX3_tone) := goodIn_app (goodIn_of _ (by decide +kernel)) ggX3_mixed_X3_tone
set_option maxRecDepth 20000 in
theorem ggX3_tone_X6_bounded : GoodIn wsX3_tone wsX6_bounded := goodIn_r _ [4] (by decide +kernel) (by decide +kernel)
set_option maxRecDepth 20000 in
theorem gX3_tone_X6_bounded_n46 : GoodIn wsX3_tone (wsX6_bounded) := ggX3_tone_X6_bounded
set_option maxRecDepth 20000 in
theorem ggX4_clear_J7_fill_53178 : GoodIn wsX4_clear wsJ7_fill_53178 := goodIn_r _ [8] (by decide +kernel) (by decide +kernel)
set_option maxRecDepth 20000 in
theorem gX4_clear_J7_fill_53178 : GoodIn wsX4_clear (va_wsS RX4 25 yJ7_fill_53178 wsJ7_fill_53178) := goodIn_app (goodIn_of _ (by decide +kernel)) ggX4_clear_J7_fill_53178
set_option maxRecDepth 20000 in
theorem ggX4_holds_X6_isWithin : GoodIn wsX4_holds wsX6_isWithin := goodIn_r _ [5] (by decide +kernel) (by decide +kernel)
set_option maxRecDepth 20000 in
theorem gX4_holds_X6_isWithin_n37 : GoodIn wsX4_holds (wsX6_isWithin) := ggX4_holds_X6_isWithin
set_option maxRecDepth 20000 in
theorem ggX4_nearest_X6_bounded : GoodIn wsX4_nearest wsX6_bounded := goodIn_r _ [6] (by decide +kernel) (by decide +kernel)
set_option maxRecDepth 20000 in
theorem gX4_nearest_X6_bounded_n41 : GoodIn wsX4_nearest (wsX6_bounded) := ggX4_nearest_X6_bounded
set_option maxRecDepth 20000 in
theorem ggX4_put_X4_holds : GoodIn wsX4_put wsX4_holds := goodIn_r _ [7, 2, 8, 9, 10, 11, 14, 15, 16, 17] (by decide +kernel) (by decide +kernel)
set_option maxRecDepth 20000 in
theorem gX4_put_X4_holds : GoodIn wsX4_put (wsV RX4 45 RX4 yX4_holds wsX4_holds) := goodIn_app (goodIn_of _ (by decide +kernel)) ggX4_put_X4_holds
set_option maxRecDepth 20000 in
theorem ggX4_put_X6_bounded : GoodIn wsX4_put wsX6_bounded := goodIn_r _ [13] (by decide +kernel) (by decide +kernel)
set_option maxRecDepth 20000 in
theorem gX4_put_X6_bounded_n41 : GoodIn wsX4_put (wsX6_bounded) := ggX4_put_X6_bounded
set_option maxRecDepth 20000 in
theorem ggX4_putBlock_X4_nearest : GoodIn wsX4_putBlock wsX4_nearest := goodIn_r _ [5, 6, 7, 8, 9, 10, 11, 22, 23, 24, 25] (by decide +kernel) (by decide +kernel)
set_option maxRecDepth 20000 in
theorem gX4_putBlock_X4_nearest : GoodIn wsX4_putBlock (wsV RX4 49 RX4 yX4_nearest wsX4_nearest) := goodIn_app (goodIn_of _ (by decide +kernel)) ggX4_putBlock_X4_nearest
set_option maxRecDepth 20000 in
theorem ggX4_putBlock_X4_put : GoodIn wsX4_putBlock wsX4_put := goodIn_r _ [15, 6, 8, 16, 17, 18, 4, 19, 7, 20, 10, 21, 9, 11, 22, 23, 24, 25] (by decide +kernel) (by decide +kernel)
set_option maxRecDepth 20000 in
theorem gX4_putBlock_X4_put : GoodIn wsX4_putBlock (wsV RX4 53 RX4 yX4_put wsX4_put) := goodIn_app (goodIn_of _ (by decide +kernel)) ggX4_putBlock_X4_put
set_option maxRecDepth 20000 in
theorem ggX4_fetchSquare_X4_fetched : GoodIn wsX4_fetchSquare wsX4_fetched := goodIn_r _ [6, 7, 8, 9, 5, 10, 11, 12, 13, 14, 15, 16, 27, 28, 29, 30] (by decide +kernel) (by decide +kernel)
set_option maxRecDepth 20000 in
theorem gX4_fetchSquare_X4_fetched : GoodIn wsX4_fetchSquare (wsV RX4 57 RX4 yX4_fetched wsX4_fetched) := goodIn_app (goodIn_of _ (by decide +kernel)) ggX4_fetchSquare_X4_fetched
set_option maxRecDepth 20000 in
theorem ggX4_fetchSquare_X4_nearest : GoodIn wsX4_fetchSquare wsX4_nearest := goodIn_r _ [10, 11, 12, 13, 14, 15, 16, 27, 28, 29, 30] (by decide +kernel) (by decide +kernel)
set_option maxRecDepth 20000 in
theorem gX4_fetchSquare_X4_nearest : GoodIn wsX4_fetchSquare (wsV RX4 49 RX4 yX4_nearest wsX4_nearest) := goodIn_app (goodIn_of _ (by decide +kernel)) ggX4_fetchSquare_X4_nearest
set_option maxRecDepth 20000 in
theorem ggX4_fetchSquare_X4_put : GoodIn wsX4_fetchSquare wsX4_put := goodIn_r _ [20, 11, 13, 21, 22, 23, 5, 24, 12, 25, 15, 26, 14, 16, 27, 28, 29, 30] (by decide +kernel) (by decide +kernel)
set_option maxRecDepth 20000 in
theorem gX4_fetchSquare_X4_put : GoodIn wsX4_fetchSquare (wsV RX4 53 RX4 yX4_put wsX4_put) := goodIn_app (goodIn_of _ (by decide +kernel)) ggX4_fetchSquare_X4_put
set_option maxRecDepth 20000 in
theorem ggX4_fetched_X4_nearest : GoodIn wsX4_fetched wsX4_nearest := goodIn_r _ [5, 6, 7, 8, 9, 10, 11, 12, 13, 14, 15] (by decide +kernel) (by decide +kernel)
set_option maxRecDepth 20000 in
theorem gX4_fetched_X4_nearest : GoodIn wsX4_fetched (wsV RX4 49 RX4 yX4_nearest wsX4_nearest) := goodIn_app (goodIn_of _ (by decide +kernel)) ggX4_fetched_X4_nearest
set_option maxRecDepth 20000 in
theorem ggX4_brighten_X6_bounded : GoodIn wsX4_brighten wsX6_bounded := goodIn_r _ [6] (by decide +kernel) (by decide +kernel)
set_option maxRecDepth 20000 in
theorem gX4_brighten_X6_bounded_n41 : GoodIn wsX4_brighten (wsX6_bounded) := ggX4_brighten_X6_bounded
set_option maxRecDepth 20000 in
theorem ggX5_init_X3_init : GoodIn wsX5_init wsX3_init := goodIn_r _ [17, 18, 2, 3, 19, 20, 12, 13, 21, 22, 23, 24, 25, 26, 27, 28, 29, 30, 31, 32, 34, 44, 45, 46, 47] (by decide +kernel) (by decide +kernel)
set_option maxRecDepth 20000 in
theorem gX5_init_X3_init : GoodIn wsX5_init (wsX3_init) := ggX5_init_X3_init
set_option maxRecDepth 20000 in
theorem ggX5_init_X6_squareSide : GoodIn wsX5_init wsX6_squareSide := goodIn_r _ [23] (by decide +kernel) (by decide +kernel)
set_option maxRecDepth 20000 in
theorem gX5_init_X6_squareSide_n27 : GoodIn wsX5_init (wsX6_squareSide) := ggX5_init_X6_squareSide
set_option maxRecDepth 20000 in
theorem ggX5_init_X4_init : GoodIn wsX5_init wsX4_init := goodIn_r _ [26, 27, 2, 3, 28, 29, 30, 31, 32, 44, 45, 46, 47] (by decide +kernel) (by decide +kernel)
set_option maxRecDepth 20000 in
theorem gX5_init_X4_init : GoodIn wsX5_init (wsX4_init) := ggX5_init_X4_init
set_option maxRecDepth 20000 in
theorem ggX5_clear_X3_clear : GoodIn wsX5_clear wsX3_clear := goodIn_r _ [14, 15, 16, 17, 18, 19, 20, 21, 22, 23, 24, 25, 26, 27, 28, 39, 40, 41, 42, 43] (by decide +kernel) (by decide +kernel)
set_option maxRecDepth 20000 in
theorem gX5_clear_X3_clear : GoodIn wsX5_clear (wsV RX5 40 RX3 yX3_clear wsX3_clear) := goodIn_app (goodIn_of _ (by decide +kernel)) ggX5_clear_X3_clear
set_option maxRecDepth 20000 in
theorem ggX5_clear_X4_clear : GoodIn wsX5_clear wsX4_clear := goodIn_r _ [20, 21, 22, 23, 24, 25, 26, 27, 28, 40, 41, 42, 43] (by decide +kernel) (by decide +kernel)
set_option maxRecDepth 20000 in
theorem gX5_clear_X4_clear : GoodIn wsX5_clear (wsV RX5 44 RX4 yX4_clear wsX4_clear) := goodIn_app (goodIn_of _ (by decide +kernel)) ggX5_clear_X4_clear
set_option maxRecDepth 20000 in
theorem ggX5_showNewer_X3_copyFrom : GoodIn wsX5_showNewer wsX3_copyFrom := goodIn_r _ [9, 10, 11, 12, 13, 14, 15, 16, 17, 18, 19, 20, 21, 22, 32, 33, 34, 35, 36] (by decide +kernel) (by decide +kernel)
set_option maxRecDepth 20000 in
theorem gX5_showNewer_X3_copyFrom : GoodIn wsX5_showNewer (wsV RX5 59 RX3 yX3_copyFrom wsX3_copyFrom) := goodIn_app (goodIn_of _ (by decide +kernel)) ggX5_showNewer_X3_copyFrom
set_option maxRecDepth 20000 in
theorem ggX5_turnOpenIntoReference_X5_showNewer : GoodIn wsX5_turnOpenIntoReference wsX5_showNewer := goodIn_r _ [9, 4, 10, 2, 11, 12, 13, 14, 15, 16, 17, 18, 19, 20, 21, 22, 23, 24, 25, 26, 27, 28, 29, 30, 31, 32, 33, 34, 35, 36, 37, 38, 39, 40, 41, 42, 43] (by decide +kernel) (by decide +kernel)
set_option maxRecDepth 20000 in
theorem gX5_turnOpenIntoReference_X5_showNewer : GoodIn wsX5_turnOpenIntoReference (wsV RX5 63 RX5 yX5_showNewer wsX5_showNewer) := goodIn_app (goodIn_of _ (by decide +kernel)) ggX5_turnOpenIntoReference_X5_showNewer
set_option maxRecDepth 20000 in
theorem ggX5_keepShown_X4_copyFrom : GoodIn wsX5_keepShown wsX4_copyFrom := goodIn_r _ [9, 10, 11, 12, 13, 14, 15, 16, 27, 28, 29, 30] (by decide +kernel) (by decide +kernel)
set_option maxRecDepth 20000 in
theorem gX5_keepShown_X4_copyFrom : GoodIn wsX5_keepShown (wsV RX5 70 RX4 yX4_copyFrom wsX4_copyFrom) := goodIn_app (goodIn_of _ (by decide +kernel)) ggX5_keepShown_X4_copyFrom
set_option maxRecDepth 20000 in
theorem ggX6_init_X5_init : GoodIn wsX6_init wsX5_init := goodIn_r _ [21, 22, 2, 3, 23, 24, 25, 26, 27, 28, 29, 30, 31, 32, 33, 34, 35, 36, 37, 38, 39, 40, 41, 42, 43, 44, 45, 46, 47, 48, 49, 50, 51, 52, 163, 132, 133, 134, 135, 136, 137, 138, 139, 140, 164, 165, 166, 167] (by decide +kernel) (by decide +kernel)
set_option maxRecDepth 20000 in
theorem gX6_init_X5_init_n9 : GoodIn wsX6_init (wsX5_init) := ggX6_init_X5_init
set_option maxRecDepth 20000 in
theorem ggX6_init_X0_init : GoodIn wsX6_init wsX0_init := goodIn_r _ [54, 55, 2, 3, 56, 48, 57, 58, 59, 60, 61, 150, 151, 152, 153, 154, 155] (by decide +kernel) (by decide +kernel)
set_option maxRecDepth 20000 in
theorem gX6_init_X0_init_n18 : GoodIn wsX6_init (wsX0_init) := ggX6_init_X0_init
set_option maxRecDepth 20000 in
theorem ggX6_init_X2_init : GoodIn wsX6_init wsX2_init := goodIn_r _ [63, 64, 2, 3, 48, 65, 66, 156, 157, 158] (by decide +kernel) (by decide +kernel)
set_option maxRecDepth 20000 in
theorem gX6_init_X2_init_n25 : GoodIn wsX6_init (wsX2_init) := ggX6_init_X2_init
set_option maxRecDepth 20000 in
theorem ggX6_init_X1_init : GoodIn wsX6_init wsX1_init := goodIn_r _ [68, 69, 2, 3, 48, 70, 159, 160, 161, 162] (by decide +kernel) (by decide +kernel)
set_option maxRecDepth 20000 in
theorem gX6_init_X1_init_n32 : GoodIn wsX6_init (wsX1_init) := ggX6_init_X1_init
set_option maxRecDepth 20000 in
theorem ggX6_init_X6_beginAnew : GoodIn wsX6_init wsX6_beginAnew := goodIn_r _ [74, 75, 76, 77, 78, 7, 11, 15, 19, 79, 80, 81, 6, 82, 26, 27, 28, 29, 33, 83, 84, 85, 86, 87, 88, 89, 25, 90, 39, 91, 92, 93, 32, 94, 47, 50, 51, 49, 95, 96, 97, 98, 99, 100, 101, 102, 10, 103, 57, 104, 105, 106, 107, 108, 109, 110, 111, 112, 113, 58, 114, 115, 116, 14, 117, 66, 118, 119, 120, 121, 122, 65, 123, 124, 125, 126, 18, 127, 70, 128, 129, 130, 131, 141, 142, 143, 144, 145, 146, 147, 148, 149, 132, 133, 134, 135, 136, 137, 138, 139, 140, 163, 164, 165, 166, 167, 150, 151, 152, 153, 154, 155, 156, 157, 158, 159, 160, 161, 162] (by decide +kernel) (by decide +kernel)
set_option maxRecDepth 20000 in
theorem gX6_init_X6_beginAnew : GoodIn wsX6_init (wsV RX6 37 RX6 yX6_beginAnew wsX6_beginAnew) := goodIn_app (goodIn_of _ (by decide +kernel)) ggX6_init_X6_beginAnew
set_option maxRecDepth 20000 in
theorem ggX6_size_X6_isWithin : GoodIn wsX6_size wsX6_isWithin := goodIn_r _ [6] (by decide +kernel) (by decide +kernel)
set_option maxRecDepth 20000 in
theorem gX6_size_X6_isWithin : GoodIn wsX6_size (va_wsS RX6 41 yX6_isWithin wsX6_isWithin) := goodIn_app (goodIn_of _ (by decide +kernel)) ggX6_size_X6_isWithin
set_option maxRecDepth 20000 in
theorem ggX6_size_X6_beginAnew : GoodIn wsX6_size wsX6_beginAnew := goodIn_r _ [10, 11, 12, 13, 14, 15, 16, 17, 18, 19, 20, 21, 22, 23, 24, 25, 26, 27, 28, 29, 30, 31, 32, 33, 34, 35, 36, 37, 38, 39, 40, 41, 42, 43, 44, 45, 46, 47, 48, 49, 50, 51, 52, 53, 54, 55, 56, 57, 58, 59, 60, 61, 62, 63, 64, 65, 66, 67, 68, 69, 70, 71, 72, 73, 74, 75, 76, 77, 78, 79, 80, 81, 82, 83, 84, 85, 86, 87, 88, 89, 90, 91, 92, 93, 94, 95, 96, 97, 98, 99, 100, 101, 102, 103, 104, 105, 106, 107, 108, 109, 110, 111, 112, 113, 114, 115, 116, 117, 118, 119, 120, 121, 122, 123, 124, 125, 126, 127, 128] (by decide +kernel) (by decide +kernel)
set_option maxRecDepth 20000 in
theorem gX6_size_X6_beginAnew : GoodIn wsX6_size (wsV RX6 37 RX6 yX6_beginAnew wsX6_beginAnew) := goodIn_app (goodIn_of _ (by decide +kernel)) ggX6_size_X6_beginAnew
set_option maxRecDepth 20000 in
theorem ggX6_matrix_X6_isWithin : GoodIn wsX6_matrix wsX6_isWithin := goodIn_r _ [8] (by decide +kernel) (by decide +kernel)
set_option maxRecDepth 20000 in
theorem gX6_matrix_X6_isWithin : GoodIn wsX6_matrix (va_wsS RX6 41 yX6_isWithin wsX6_isWithin) := goodIn_app (goodIn_of _ (by decide +kernel)) ggX6_matrix_X6_isWithin
set_option maxRecDepth 20000 in
theorem ggX6_begin_X6_isWithin : GoodIn wsX6_begin wsX6_isWithin := goodIn_r _ [12] (by decide +kernel) (by decide +kernel)
set_option maxRecDepth 20000 in
theorem gX6_begin_X6_isWithin : GoodIn wsX6_begin (va_wsS RX6 41 yX6_isWithin wsX6_isWithin) := goodIn_app (goodIn_of _ (by decide +kernel)) ggX6_begin_X6_isWithin
set_option maxRecDepth 20000 in
theorem ggX6_begin_X2_prepare : GoodIn wsX6_begin wsX2_prepare := goodIn_r _ [17, 18, 19, 20, 21, 22, 16, 23, 24, 25, 26, 27, 28, 50, 51, 52] (by decide +kernel) (by decide +kernel)
set_option maxRecDepth 20000 in
theorem gX6_begin_X2_prepare : GoodIn wsX6_begin (wsV RX6 72 RX2 yX2_prepare wsX2_prepare) := goodIn_app (goodIn_of _ (by decide +kernel)) ggX6_begin_X2_prepare
set_option maxRecDepth 20000 in
theorem ggX6_begin_X0_prepare : GoodIn wsX6_begin wsX0_prepare := goodIn_r _ [33, 34, 35, 36, 37, 32, 38, 39, 40, 26, 27, 28, 53, 54, 55, 56, 57, 58] (by decide +kernel) (by decide +kernel)
set_option maxRecDepth 20000 in
theorem gX6_begin_X0_prepare : GoodIn wsX6_begin (wsV RX6 76 RX0 yX0_prepare wsX0_prepare) := goodIn_app (goodIn_of _ (by decide +kernel)) ggX6_begin_X0_prepare
set_option maxRecDepth 20000 in
theorem ggX6_scale_X6_isWithin : GoodIn wsX6_scale wsX6_isWithin := goodIn_r _ [11] (by decide +kernel) (by decide +kernel)
set_option maxRecDepth 20000 in
theorem gX6_scale_X6_isWithin : GoodIn wsX6_scale (va_wsS RX6 41 yX6_isWithin wsX6_isWithin) := goodIn_app (goodIn_of _ (by decide +kernel)) ggX6_scale_X6_isWithin
set_option maxRecDepth 20000 in
theorem ggX6_itself_X6_squaresLeft : GoodIn wsX6_itself wsX6_squaresLeft := goodIn_r _ [11, 12, 13, 14, 15, 16, 17, 18, 19, 20, 21, 22, 23, 24] (by decide +kernel) (by decide +kernel)
set_option maxRecDepth 20000 in
theorem gX6_itself_X6_squaresLeft : GoodIn wsX6_itself (wsV RX6 85 RX6 yX6_squaresLeft wsX6_squaresLeft) := goodIn_app (goodIn_of _ (by decide +kernel)) ggX6_itself_X6_squaresLeft
set_option maxRecDepth 20000 in
theorem ggX6_vector_X6_isWithin : GoodIn wsX6_vector wsX6_isWithin := goodIn_r _ [13] (by decide +kernel) (by decide +kernel)
set_option maxRecDepth 20000 in
theorem gX6_vector_X6_isWithin : GoodIn wsX6_vector (va_wsS RX6 41 yX6_isWithin wsX6_isWithin) := goodIn_app (goodIn_of _ (by decide +kernel)) ggX6_vector_X6_isWithin
set_option maxRecDepth 20000 in
theorem ggX6_vector_X2_reaches : GoodIn wsX6_vector wsX2_reaches := goodIn_r _ [18, 19, 11, 12, 13, 53, 54, 55] (by decide +kernel) (by decide +kernel)
set_option maxRecDepth 20000 in
theorem gX6_vector_X2_reaches : GoodIn wsX6_vector (wsV RX6 101 RX2 yX2_reaches wsX2_reaches) := goodIn_app (goodIn_of _ (by decide +kernel)) ggX6_vector_X2_reaches
set_option maxRecDepth 20000 in
theorem ggX6_vector_X6_squaresLeft : GoodIn wsX6_vector wsX6_squaresLeft := goodIn_r _ [23, 24, 25, 26, 27, 40, 41, 42, 43, 44, 45, 46, 47, 48] (by decide +kernel) (by decide +kernel)
set_option maxRecDepth 20000 in
theorem gX6_vector_X6_squaresLeft : GoodIn wsX6_vector (wsV RX6 85 RX6 yX6_squaresLeft wsX6_squaresLeft) := goodIn_app (goodIn_of _ (by decide +kernel)) ggX6_vector_X6_squaresLeft
set_option maxRecDepth 20000 in
theorem ggX6_vector_X6_kindHas : GoodIn wsX6_vector wsX6_kindHas := goodIn_r _ [31, 24, 40, 41, 42, 43, 44, 45, 46, 47, 48] (by decide +kernel) (by decide +kernel)
set_option maxRecDepth 20000 in
theorem gX6_vector_X6_kindHas : GoodIn wsX6_vector (wsV RX6 107 RX6 yX6_kindHas wsX6_kindHas) := goodIn_app (goodIn_of _ (by decide +kernel)) ggX6_vector_X6_kindHas
set_option maxRecDepth 20000 in
theorem ggX6_vector_X2_move : GoodIn wsX6_vector wsX2_move := goodIn_r _ [35, 36, 19, 37, 38, 17, 39, 53, 54, 55] (by decide +kernel) (by decide +kernel)
set_option maxRecDepth 20000 in
theorem gX6_vector_X2_move : GoodIn wsX6_vector (wsV RX6 113 RX2 yX2_move wsX2_move) := goodIn_app (goodIn_of _ (by decide +kernel)) ggX6_vector_X2_move
set_option maxRecDepth 20000 in
theorem ggX6_level_X6_isWithin : GoodIn wsX6_level wsX6_isWithin := goodIn_r _ [11] (by decide +kernel) (by decide +kernel)
set_option maxRecDepth 20000 in
theorem gX6_level_X6_isWithin : GoodIn wsX6_level (va_wsS RX6 41 yX6_isWithin wsX6_isWithin) := goodIn_app (goodIn_of _ (by decide +kernel)) ggX6_level_X6_isWithin
set_option maxRecDepth 20000 in
theorem ggX6_level_X6_squaresLeft : GoodIn wsX6_level wsX6_squaresLeft := goodIn_r _ [15, 16, 17, 18, 19, 20, 21, 22, 23, 24, 25, 26, 27, 28] (by decide +kernel) (by decide +kernel)
set_option maxRecDepth 20000 in
theorem gX6_level_X6_squaresLeft : GoodIn wsX6_level (wsV RX6 85 RX6 yX6_squaresLeft wsX6_squaresLeft) := goodIn_app (goodIn_of _ (by decide +kernel)) ggX6_level_X6_squaresLeft
set_option maxRecDepth 20000 in
theorem ggX6_square_X6_squaresLeft : GoodIn wsX6_square wsX6_squaresLeft := goodIn_r _ [10, 11, 12, 13, 5, 166, 167, 168, 169, 170, 171, 172, 173, 174] (by decide +kernel) (by decide +kernel)
set_option maxRecDepth 20000 in
theorem gX6_square_X6_squaresLeft : GoodIn wsX6_square (wsV RX6 85 RX6 yX6_squaresLeft wsX6_squaresLeft) := goodIn_app (goodIn_of _ (by decide +kernel)) ggX6_square_X6_squaresLeft
set_option maxRecDepth 20000 in
theorem ggX6_square_X6_isEnoughTold : GoodIn wsX6_square wsX6_isEnoughTold := goodIn_r _ [17, 3, 4, 11, 18, 166, 167, 168, 169, 170, 171, 172, 173, 174, 175, 176, 177, 178] (by decide +kernel) (by decide +kernel)
set_option maxRecDepth 20000 in
theorem gX6_square_X6_isEnoughTold : GoodIn wsX6_square (wsV RX6 125 RX6 yX6_isEnoughTold wsX6_isEnoughTold) := goodIn_app (goodIn_of _ (by decide +kernel)) ggX6_square_X6_isEnoughTold
set_option maxRecDepth 20000 in
theorem ggX6_square_X6_makeForItself : GoodIn wsX6_square wsX6_makeForItself := goodIn_r _ [22, 23, 24, 25, 3, 26, 27, 28, 29, 30, 31, 32, 33, 34, 35, 36, 37, 38, 39, 40, 41, 42, 43, 44, 45, 46, 9, 47, 48, 49, 50, 51, 52, 53, 54, 55, 56, 57, 58, 59, 60, 61, 62, 63, 64, 65, 66, 67, 68, 69, 70, 71, 72, 73, 74, 75, 76, 77, 78, 79, 80, 81, 82, 83, 84, 85, 86, 87, 88, 89, 5, 12, 90, 91, 92, 93, 94, 95, 96, 97, 98, 99, 100, 101, 102, 103, 104, 105, 106, 107, 108, 109, 110, 111, 112, 113, 114, 115, 116, 117, 118, 166, 167, 168, 169, 170, 171, 172, 173, 174, 175, 176, 177, 178, 179, 180, 181, 182, 183, 184, 185, 186, 187, 188, 189, 190, 191, 192, 193, 194, 195, 196, 197, 198, 199, 200, 201] (by decide +kernel) (by decide +kernel)
set_option maxRecDepth 20000 in
theorem gX6_square_X6_makeForItself : GoodIn wsX6_square (wsV RX6 131 RX6 yX6_makeForItself wsX6_makeForItself) := goodIn_app (goodIn_of _ (by decide +kernel)) ggX6_square_X6_makeForItself
set_option maxRecDepth 20000 in
theorem ggX6_square_X6_makeFetched : GoodIn wsX6_square wsX6_makeFetched := goodIn_r _ [122, 3, 18, 23, 11, 24, 25, 26, 27, 28, 29, 30, 31, 32, 33, 34, 35, 36, 123, 124, 125, 9, 126, 81, 127, 128, 129, 130, 131, 132, 82, 83, 133, 134, 135, 136, 137, 86, 87, 88, 89, 5, 12, 90, 91, 92, 93, 94, 95, 96, 138, 139, 140, 100, 141, 142, 143, 144, 145, 146, 102, 103, 104, 105, 106, 107, 108, 48, 49, 109, 110, 111, 112, 113, 114, 115, 116, 117, 118, 147, 148, 149, 40, 150, 43, 44, 45, 55, 56, 57, 58, 50, 51, 52, 53, 54, 59, 60, 61, 62, 63, 64, 65, 66, 67, 68, 69, 70, 71, 72, 73, 74, 75, 76, 77, 78, 79, 80, 84, 85, 46, 47, 97, 98, 99, 101, 151, 152, 153, 154, 42, 155, 166, 167, 168, 169, 170, 171, 172, 173, 174, 175, 176, 177, 178, 179, 180, 181, 188, 189, 190, 191, 192, 193, 194, 195, 196, 197, 198, 199, 200, 201, 182, 183, 184, 185, 186, 187] (by decide +kernel) (by decide +kernel)
set_option maxRecDepth 20000 in
theorem gX6_square_X6_makeFetched : GoodIn wsX6_square (wsV RX6 134 RX6 yX6_makeFetched wsX6_makeFetched) := goodIn_app (goodIn_of _ (by decide +kernel)) ggX6_square_X6_makeFetched
set_option maxRecDepth 20000 in
theorem ggX6_square_X1_clear : GoodIn wsX6_square wsX1_clear := goodIn_r _ [160, 161, 162, 163, 164, 165, 34, 35, 36, 175, 176, 177, 178] (by decide +kernel) (by decide +kernel)
set_option maxRecDepth 20000 in
theorem gX6_square_X1_clear : GoodIn wsX6_square (wsV RX6 137 RX1 yX1_clear wsX1_clear) := goodIn_app (goodIn_of _ (by decide +kernel)) ggX6_square_X1_clear
set_option maxRecDepth 20000 in
theorem ggX6_leave_X6_squaresLeft : GoodIn wsX6_leave wsX6_squaresLeft := goodIn_r _ [14, 5, 15, 16, 8, 99, 100, 101, 102, 103, 104, 105, 106, 107] (by decide +kernel) (by decide +kernel)
set_option maxRecDepth 20000 in
theorem gX6_leave_X6_squaresLeft : GoodIn wsX6_leave (wsV RX6 85 RX6 yX6_squaresLeft wsX6_squaresLeft) := goodIn_app (goodIn_of _ (by decide +kernel)) ggX6_leave_X6_squaresLeft
set_option maxRecDepth 20000 in
theorem ggX6_leave_X6_isWithin : GoodIn wsX6_leave wsX6_isWithin := goodIn_r _ [19] (by decide +kernel) (by decide +kernel)
set_option maxRecDepth 20000 in
theorem gX6_leave_X6_isWithin : GoodIn wsX6_leave (va_wsS RX6 41 yX6_isWithin wsX6_isWithin) := goodIn_app (goodIn_of _ (by decide +kernel)) ggX6_leave_X6_isWithin
set_option maxRecDepth 20000 in
theorem ggX6_leave_X6_mayLeaveOut : GoodIn wsX6_leave wsX6_mayLeaveOut := goodIn_r _ [23, 24, 25, 5, 7, 99, 100, 101, 102, 103, 104, 105, 106, 107, 108, 109, 110, 111] (by decide +kernel) (by decide +kernel)
set_option maxRecDepth 20000 in
theorem gX6_leave_X6_mayLeaveOut : GoodIn wsX6_leave (wsV RX6 145 RX6 yX6_mayLeaveOut wsX6_mayLeaveOut) := goodIn_app (goodIn_of _ (by decide +kernel)) ggX6_leave_X6_mayLeaveOut
set_option maxRecDepth 20000 in
theorem ggX6_leave_X2_rest : GoodIn wsX6_leave wsX2_rest := goodIn_r _ [30, 31, 32, 33, 34, 35, 112, 113, 114] (by decide +kernel) (by decide +kernel)
set_option maxRecDepth 20000 in
theorem gX6_leave_X2_rest : GoodIn wsX6_leave (wsV RX6 150 RX2 yX2_rest wsX2_rest) := goodIn_app (goodIn_of _ (by decide +kernel)) ggX6_leave_X2_rest
set_option maxRecDepth 20000 in
theorem ggX6_leave_X6_fetchSquare : GoodIn wsX6_leave wsX6_fetchSquare := goodIn_r _ [39, 7, 5, 40, 41, 42, 43, 44, 45, 13, 46, 6, 47, 48, 49, 50, 51, 29, 52, 53, 31, 54, 55, 56, 57, 8, 15, 58, 59, 60, 61, 62, 63, 64, 65, 66, 67, 68, 69, 70, 71, 72, 73, 74, 75, 76, 77, 78, 79, 80, 81, 82, 83, 84, 85, 86, 87, 88, 89, 90, 91, 18, 19, 99, 100, 101, 102, 103, 104, 105, 106, 107, 115, 116, 117, 118, 119, 120, 121, 122, 123, 124, 112, 113, 114, 125, 126, 127, 128] (by decide +kernel) (by decide +kernel)
set_option maxRecDepth 20000 in
theorem gX6_leave_X6_fetchSquare : GoodIn wsX6_leave (wsV RX6 153 RX6 yX6_fetchSquare wsX6_fetchSquare) := goodIn_app (goodIn_of _ (by decide +kernel)) ggX6_leave_X6_fetchSquare
set_option maxRecDepth 20000 in
theorem ggX6_leave_X0_forgetPasts : GoodIn wsX6_leave wsX0_forgetPasts := goodIn_r _ [96, 97, 98, 33, 34, 35, 129, 130, 131, 132, 133, 134] (by decide +kernel) (by decide +kernel)
set_option maxRecDepth 20000 in
theorem gX6_leave_X0_forgetPasts : GoodIn wsX6_leave (wsV RX6 156 RX0 yX0_forgetPasts wsX0_forgetPasts) := goodIn_app (goodIn_of _ (by decide +kernel)) ggX6_leave_X0_forgetPasts
set_option maxRecDepth 20000 in
theorem ggX6_done_X6_squaresLeft : GoodIn wsX6_done wsX6_squaresLeft := goodIn_r _ [12, 3, 13, 14, 6, 52, 53, 54, 55, 56, 57, 58, 59, 60] (by decide +kernel) (by decide +kernel)
set_option maxRecDepth 20000 in
theorem gX6_done_X6_squaresLeft : GoodIn wsX6_done (wsV RX6 85 RX6 yX6_squaresLeft wsX6_squaresLeft) := goodIn_app (goodIn_of _ (by decide +kernel)) ggX6_done_X6_squaresLeft
set_option maxRecDepth 20000 in
theorem ggX6_done_X5_showOpen : GoodIn wsX6_done wsX5_showOpen := goodIn_r _ [19, 20, 21, 22, 61, 62, 63, 64, 65, 66, 67, 68, 69] (by decide +kernel) (by decide +kernel)
set_option maxRecDepth 20000 in
theorem gX6_done_X5_showOpen : GoodIn wsX6_done (wsV RX6 161 RX5 yX5_showOpen wsX5_showOpen) := goodIn_app (goodIn_of _ (by decide +kernel)) ggX6_done_X5_showOpen
set_option maxRecDepth 20000 in
theorem ggX6_done_X5_turnOpenIntoReference : GoodIn wsX6_done wsX5_turnOpenIntoReference := goodIn_r _ [26, 27, 28, 21, 29, 30, 31, 32, 18, 33, 20, 22, 34, 35, 36, 37, 38, 39, 40, 41, 42, 43, 44, 45, 46, 47, 48, 49, 50, 51, 61, 62, 63, 64, 65, 66, 67, 68, 69, 70, 71, 72, 73, 74] (by decide +kernel) (by decide +kernel)
set_option maxRecDepth 20000 in
theorem gX6_done_X5_turnOpenIntoReference : GoodIn wsX6_done (wsV RX6 164 RX5 yX5_turnOpenIntoReference wsX5_turnOpenIntoReference) := goodIn_app (goodIn_of _ (by decide +kernel)) ggX6_done_X5_turnOpenIntoReference
set_option maxRecDepth 20000 in
theorem ggX6_last_X5_showNewer : GoodIn wsX6_last wsX5_showNewer := goodIn_r _ [10, 11, 12, 13, 14, 15, 16, 17, 18, 19, 20, 21, 22, 23, 24, 25, 26, 27, 28, 29, 30, 31, 32, 42, 43, 44, 45, 46, 47, 48, 49, 50, 51, 52, 53, 54, 55] (by decide +kernel) (by decide +kernel)
set_option maxRecDepth 20000 in
theorem gX6_last_X5_showNewer : GoodIn wsX6_last (wsV RX6 173 RX5 yX5_showNewer wsX5_showNewer) := goodIn_app (goodIn_of _ (by decide +kernel)) ggX6_last_X5_showNewer
set_option maxRecDepth 20000 in
theorem ggX6_sample_X6_isWithin : GoodIn wsX6_sample wsX6_isWithin := goodIn_r _ [12] (by decide +kernel) (by decide +kernel)
set_option maxRecDepth 20000 in
theorem gX6_sample_X6_isWithin : GoodIn wsX6_sample (va_wsS RX6 41 yX6_isWithin wsX6_isWithin) := goodIn_app (goodIn_of _ (by decide +kernel)) ggX6_sample_X6_isWithin
set_option maxRecDepth 20000 in
theorem ggX6_sample_X4_holds : GoodIn wsX6_sample wsX4_holds := goodIn_r _ [17, 18, 19, 10, 11, 12, 46, 47, 48, 49] (by decide +kernel) (by decide +kernel)
set_option maxRecDepth 20000 in
theorem gX6_sample_X4_holds : GoodIn wsX6_sample (wsV RX6 188 RX4 yX4_holds wsX4_holds) := goodIn_app (goodIn_of _ (by decide +kernel)) ggX6_sample_X4_holds
set_option maxRecDepth 20000 in
theorem ggX6_sample_X4_nearest : GoodIn wsX6_sample wsX4_nearest := goodIn_r _ [23, 24, 19, 18, 25, 11, 26, 46, 47, 48, 49] (by decide +kernel) (by decide +kernel)
set_option maxRecDepth 20000 in
theorem gX6_sample_X4_nearest : GoodIn wsX6_sample (wsV RX6 198 RX4 yX4_nearest wsX4_nearest) := goodIn_app (goodIn_of _ (by decide +kernel)) ggX6_sample_X4_nearest
set_option maxRecDepth 20000 in
theorem ggX6_colour_X4_holds : GoodIn wsX6_colour wsX4_holds := goodIn_r _ [13, 14, 15, 16, 17, 18, 60, 61, 62, 63] (by decide +kernel) (by decide +kernel)
set_option maxRecDepth 20000 in
theorem gX6_colour_X4_holds : GoodIn wsX6_colour (wsV RX6 188 RX4 yX4_holds wsX4_holds) := goodIn_app (goodIn_of _ (by decide +kernel)) ggX6_colour_X4_holds
set_option maxRecDepth 20000 in
theorem ggX6_colour_X3_mixed : GoodIn wsX6_colour wsX3_mixed := goodIn_r _ [23, 24, 25, 26, 27, 28, 29, 30, 31, 32, 12, 33, 34, 15, 14, 35, 17, 36, 37, 38, 22, 39, 40, 59, 60, 61, 62, 63] (by decide +kernel) (by decide +kernel)
set_option maxRecDepth 20000 in
theorem gX6_colour_X3_mixed : GoodIn wsX6_colour (wsV RX6 202 RX3 yX3_mixed wsX3_mixed) := goodIn_app (goodIn_of _ (by decide +kernel)) ggX6_colour_X3_mixed
set_option maxRecDepth 20000 in
theorem ggX6_light_X4_brighten : GoodIn wsX6_light wsX4_brighten := goodIn_r _ [17, 18, 19, 20, 21, 22, 23, 43, 44, 45, 46] (by decide +kernel) (by decide +kernel)
set_option maxRecDepth 20000 in
theorem gX6_light_X4_brighten : GoodIn wsX6_light (wsV RX6 211 RX4 yX4_brighten wsX4_brighten) := goodIn_app (goodIn_of _ (by decide +kernel)) ggX6_light_X4_brighten
set_option maxRecDepth 20000 in
theorem ggX6_keep_X5_keepShown : GoodIn wsX6_keep wsX5_keepShown := goodIn_r _ [9, 10, 11, 12, 13, 14, 15, 16, 17, 18, 19, 20, 21, 22, 23, 24, 25, 35, 36, 37, 38, 39, 40, 41, 42, 43, 44, 45, 46, 47, 48] (by decide +kernel) (by decide +kernel)
set_option maxRecDepth 20000 in
theorem gX6_keep_X5_keepShown : GoodIn wsX6_keep (wsV RX6 215 RX5 yX5_keepShown wsX5_keepShown) := goodIn_app (goodIn_of _ (by decide +kernel)) ggX6_keep_X5_keepShown
set_option maxRecDepth 20000 in
theorem ggX6_error_X4_meanSquareTo : GoodIn wsX6_error wsX4_meanSquareTo := goodIn_r _ [13, 14, 15, 16, 36, 37, 38, 39] (by decide +kernel) (by decide +kernel)
set_option maxRecDepth 20000 in
theorem gX6_error_X4_meanSquareTo : GoodIn wsX6_error (wsV RX6 227 RX4 yX4_meanSquareTo wsX4_meanSquareTo) := goodIn_app (goodIn_of _ (by decide +kernel)) ggX6_error_X4_meanSquareTo
set_option maxRecDepth 20000 in
theorem ggX6_told_X6_isWithin : GoodIn wsX6_told wsX6_isWithin := goodIn_r _ [15] (by decide +kernel) (by decide +kernel)
set_option maxRecDepth 20000 in
theorem gX6_told_X6_isWithin : GoodIn wsX6_told (va_wsS RX6 41 yX6_isWithin wsX6_isWithin) := goodIn_app (goodIn_of _ (by decide +kernel)) ggX6_told_X6_isWithin
set_option maxRecDepth 20000 in
theorem ggX6_beginAnew_X5_clear : GoodIn wsX6_beginAnew wsX5_clear := goodIn_r _ [13, 14, 15, 16, 17, 18, 19, 20, 21, 22, 23, 24, 25, 26, 27, 28, 29, 30, 31, 32, 33, 34, 35, 36, 37, 38, 39, 40, 41, 42, 92, 93, 94, 95, 96, 97, 98, 99, 100, 101, 102, 103, 104, 105] (by decide +kernel) (by decide +kernel)
set_option maxRecDepth 20000 in
theorem gX6_beginAnew_X5_clear : GoodIn wsX6_beginAnew (wsV RX6 245 RX5 yX5_clear wsX5_clear) := goodIn_app (goodIn_of _ (by decide +kernel)) ggX6_beginAnew_X5_clear
set_option maxRecDepth 20000 in
theorem ggX6_beginAnew_X0_clear : GoodIn wsX6_beginAnew wsX0_clear := goodIn_r _ [47, 48, 49, 39, 40, 41, 50, 51, 52, 46, 53, 54, 55, 56, 57, 58, 59, 106, 107, 108, 109, 110, 111] (by decide +kernel) (by decide +kernel)
set_option maxRecDepth 20000 in
theorem gX6_beginAnew_X0_clear : GoodIn wsX6_beginAnew (wsV RX6 247 RX0 yX0_clear wsX0_clear) := goodIn_app (goodIn_of _ (by decide +kernel)) ggX6_beginAnew_X0_clear
set_option maxRecDepth 20000 in
theorem ggX6_beginAnew_X2_prepare : GoodIn wsX6_beginAnew wsX2_prepare := goodIn_r _ [64, 65, 66, 67, 68, 69, 63, 70, 71, 72, 39, 40, 41, 112, 113, 114] (by decide +kernel) (by decide +kernel)
set_option maxRecDepth 20000 in
theorem gX6_beginAnew_X2_prepare : GoodIn wsX6_beginAnew (wsV RX6 72 RX2 yX2_prepare wsX2_prepare) := goodIn_app (goodIn_of _ (by decide +kernel)) ggX6_beginAnew_X2_prepare
set_option maxRecDepth 20000 in
theorem ggX6_beginAnew_X1_clear : GoodIn wsX6_beginAnew wsX1_clear := goodIn_r _ [77, 78, 79, 80, 81, 82, 39, 40, 41, 115, 116, 117, 118] (by decide +kernel) (by decide +kernel)
set_option maxRecDepth 20000 in
theorem gX6_beginAnew_X1_clear : GoodIn wsX6_beginAnew (wsV RX6 137 RX1 yX1_clear wsX1_clear) := goodIn_app (goodIn_of _ (by decide +kernel)) ggX6_beginAnew_X1_clear
set_option maxRecDepth 20000 in
theorem ggX6_makeForItself_X2_rest : GoodIn wsX6_makeForItself wsX2_rest := goodIn_r _ [10, 11, 12, 13, 14, 15, 114, 115, 116] (by decide +kernel) (by decide +kernel)
set_option maxRecDepth 20000 in
theorem gX6_makeForItself_X2_rest : GoodIn wsX6_makeForItself (wsV RX6 150 RX2 yX2_rest wsX2_rest) := goodIn_app (goodIn_of _ (by decide +kernel)) ggX6_makeForItself_X2_rest
set_option maxRecDepth 20000 in
theorem ggX6_makeForItself_X0_turnForItself : GoodIn wsX6_makeForItself wsX0_turnForItself := goodIn_r _ [20, 21, 22, 23, 24, 25, 26, 27, 28, 29, 30, 31, 32, 19, 33, 34, 35, 36, 37, 38, 39, 40, 41, 42, 43, 44, 45, 46, 47, 48, 49, 50, 51, 52, 53, 54, 55, 56, 117, 118, 119, 120, 121, 122] (by decide +kernel) (by decide +kernel)
set_option maxRecDepth 20000 in
theorem gX6_makeForItself_X0_turnForItself : GoodIn wsX6_makeForItself (wsV RX6 248 RX0 yX0_turnForItself wsX0_turnForItself) := goodIn_app (goodIn_of _ (by decide +kernel)) ggX6_makeForItself_X0_turnForItself
set_option maxRecDepth 20000 in
theorem ggX6_makeForItself_X6_placeBlock : GoodIn wsX6_makeForItself wsX6_placeBlock := goodIn_r _ [60, 61, 62, 63, 3, 64, 65, 25, 26, 27, 66, 67, 68, 69, 70, 71, 72, 73, 74, 75, 76, 77, 78, 79, 80, 81, 82, 83, 84, 85, 86, 87, 88, 89, 90, 28, 29, 91, 92, 93, 94, 95, 96, 97, 98, 99, 100, 101, 102, 103, 104, 105, 106, 107, 108, 109, 123, 124, 125, 126, 127, 128, 129, 130, 131, 132, 117, 118, 119, 120, 121, 122, 133, 134, 135, 136] (by decide +kernel) (by decide +kernel)
set_option maxRecDepth 20000 in
theorem gX6_makeForItself_X6_placeBlock : GoodIn wsX6_makeForItself (wsV RX6 252 RX6 yX6_placeBlock wsX6_placeBlock) := goodIn_app (goodIn_of _ (by decide +kernel)) ggX6_makeForItself_X6_placeBlock
set_option maxRecDepth 20000 in
theorem ggX6_makeFetched_X2_rest : GoodIn wsX6_makeFetched wsX2_rest := goodIn_r _ [12, 13, 14, 15, 16, 17, 145, 146, 147] (by decide +kernel) (by decide +kernel)
set_option maxRecDepth 20000 in
theorem gX6_makeFetched_X2_rest : GoodIn wsX6_makeFetched (wsV RX6 150 RX2 yX2_rest wsX2_rest) := goodIn_app (goodIn_of _ (by decide +kernel)) ggX6_makeFetched_X2_rest
set_option maxRecDepth 20000 in
theorem ggX6_makeFetched_X6_fetchSquare : GoodIn wsX6_makeFetched wsX6_fetchSquare := goodIn_r _ [22, 5, 4, 23, 24, 25, 26, 27, 28, 21, 29, 3, 30, 31, 32, 33, 34, 11, 35, 36, 13, 37, 38, 39, 40, 41, 42, 43, 44, 45, 46, 47, 48, 49, 50, 51, 52, 53, 54, 55, 56, 57, 58, 59, 60, 61, 62, 63, 64, 65, 66, 67, 68, 69, 70, 71, 72, 73, 74, 75, 76, 77, 78, 132, 133, 134, 135, 136, 137, 138, 139, 140, 148, 149, 150, 151, 152, 153, 154, 155, 156, 157, 145, 146, 147, 158, 159, 160, 161] (by decide +kernel) (by decide +kernel)
set_option maxRecDepth 20000 in
theorem gX6_makeFetched_X6_fetchSquare : GoodIn wsX6_makeFetched (wsV RX6 153 RX6 yX6_fetchSquare wsX6_fetchSquare) := goodIn_app (goodIn_of _ (by decide +kernel)) ggX6_makeFetched_X6_fetchSquare
set_option maxRecDepth 20000 in
theorem ggX6_makeFetched_X0_turnDifference : GoodIn wsX6_makeFetched wsX0_turnDifference := goodIn_r _ [83, 84, 85, 86, 87, 88, 89, 90, 91, 92, 93, 82, 94, 95, 67, 21, 68, 96, 97, 98, 99, 100, 101, 102, 103, 104, 105, 106, 107, 108, 109, 110, 111, 112, 113, 162, 163, 164, 165, 166, 167] (by decide +kernel) (by decide +kernel)
set_option maxRecDepth 20000 in
theorem gX6_makeFetched_X0_turnDifference : GoodIn wsX6_makeFetched (wsV RX6 256 RX0 yX0_turnDifference wsX0_turnDifference) := goodIn_app (goodIn_of _ (by decide +kernel)) ggX6_makeFetched_X0_turnDifference
set_option maxRecDepth 20000 in
theorem ggX6_makeFetched_X6_placeBlock : GoodIn wsX6_makeFetched wsX6_placeBlock := goodIn_r _ [117, 23, 30, 31, 6, 118, 119, 120, 21, 121, 37, 38, 39, 40, 41, 42, 43, 44, 45, 46, 47, 48, 49, 122, 123, 124, 53, 125, 60, 61, 62, 63, 64, 65, 66, 67, 68, 69, 70, 71, 72, 73, 74, 75, 76, 77, 78, 132, 133, 134, 135, 136, 137, 138, 139, 140, 148, 149, 150, 151, 152, 153, 154, 155, 156, 157, 162, 163, 164, 165, 166, 167, 158, 159, 160, 161] (by decide +kernel) (by decide +kernel)
set_option maxRecDepth 20000 in
theorem gX6_makeFetched_X6_placeBlock : GoodIn wsX6_makeFetched (wsV RX6 252 RX6 yX6_placeBlock wsX6_placeBlock) := goodIn_app (goodIn_of _ (by decide +kernel)) ggX6_makeFetched_X6_placeBlock
set_option maxRecDepth 20000 in
theorem ggX6_makeFetched_X0_forgetPasts : GoodIn wsX6_makeFetched wsX0_forgetPasts := goodIn_r _ [129, 130, 131, 15, 16, 17, 162, 163, 164, 165, 166, 167] (by decide +kernel) (by decide +kernel)
set_option maxRecDepth 20000 in
theorem gX6_makeFetched_X0_forgetPasts : GoodIn wsX6_makeFetched (wsV RX6 156 RX0 yX0_forgetPasts wsX0_forgetPasts) := goodIn_app (goodIn_of _ (by decide +kernel)) ggX6_makeFetched_X0_forgetPasts
set_option maxRecDepth 20000 in
theorem ggX6_placeBlock_X6_planeOf : GoodIn wsX6_placeBlock wsX6_planeOf := goodIn_r _ [9] (by decide +kernel) (by decide +kernel)
set_option maxRecDepth 20000 in
theorem gX6_placeBlock_X6_planeOf : GoodIn wsX6_placeBlock (va_wsS RX6 259 yX6_planeOf wsX6_planeOf) := goodIn_app (goodIn_of _ (by decide +kernel)) ggX6_placeBlock_X6_planeOf
set_option maxRecDepth 20000 in
theorem ggX6_placeBlock_X6_squareLeft : GoodIn wsX6_placeBlock wsX6_squareLeft := goodIn_r _ [13, 14, 15, 16, 17, 8, 18, 47, 48, 49, 50, 51, 52, 53, 54, 55] (by decide +kernel) (by decide +kernel)
set_option maxRecDepth 20000 in
theorem gX6_placeBlock_X6_squareLeft : GoodIn wsX6_placeBlock (wsV RX6 263 RX6 yX6_squareLeft wsX6_squareLeft) := goodIn_app (goodIn_of _ (by decide +kernel)) ggX6_placeBlock_X6_squareLeft
set_option maxRecDepth 20000 in
theorem ggX6_placeBlock_X6_squareTop : GoodIn wsX6_placeBlock wsX6_squareTop := goodIn_r _ [22, 14, 15, 16, 17, 8, 18, 47, 48, 49, 50, 51, 52, 53, 54, 55] (by decide +kernel) (by decide +kernel)
set_option maxRecDepth 20000 in
theorem gX6_placeBlock_X6_squareTop : GoodIn wsX6_placeBlock (wsV RX6 266 RX6 yX6_squareTop wsX6_squareTop) := goodIn_app (goodIn_of _ (by decide +kernel)) ggX6_placeBlock_X6_squareTop
set_option maxRecDepth 20000 in
theorem ggX6_placeBlock_X4_putBlock : GoodIn wsX6_placeBlock wsX4_putBlock := goodIn_r _ [27, 28, 29, 30, 26, 31, 32, 33, 34, 35, 8, 36, 37, 38, 39, 40, 41, 42, 43, 44, 45, 46, 72, 73, 74, 75] (by decide +kernel) (by decide +kernel)
set_option maxRecDepth 20000 in
theorem gX6_placeBlock_X4_putBlock : GoodIn wsX6_placeBlock (wsV RX6 275 RX4 yX4_putBlock wsX4_putBlock) := goodIn_app (goodIn_of _ (by decide +kernel)) ggX6_placeBlock_X4_putBlock
set_option maxRecDepth 20000 in
theorem ggX6_fetchSquare_X6_fetchBy : GoodIn wsX6_fetchSquare wsX6_fetchBy := goodIn_r _ [10, 11, 3, 12, 13, 14, 15, 16, 17, 18, 19, 20, 21, 22, 23, 9, 24, 25, 26, 27, 28, 29, 30, 31, 32, 33, 34, 35, 36, 37, 38, 39, 40, 41, 42, 43, 44, 45, 46, 47, 48, 49, 50, 51, 52, 53, 54, 55, 56, 57, 58, 59, 60, 61, 62, 63, 64, 65, 66, 67, 68, 69, 70, 71, 72, 73, 74, 75, 76, 77, 78, 79, 80, 81, 82, 83, 84, 85, 86, 87, 88] (by decide +kernel) (by decide +kernel)
set_option maxRecDepth 20000 in
theorem gX6_fetchSquare_X6_fetchBy : GoodIn wsX6_fetchSquare (wsV RX6 285 RX6 yX6_fetchBy wsX6_fetchBy) := goodIn_app (goodIn_of _ (by decide +kernel)) ggX6_fetchSquare_X6_fetchBy
set_option maxRecDepth 20000 in
theorem ggX6_fetchBy_X2_used : GoodIn wsX6_fetchBy wsX2_used := goodIn_r _ [9, 10, 11, 74, 75, 76] (by decide +kernel) (by decide +kernel)
set_option maxRecDepth 20000 in
theorem gX6_fetchBy_X2_used : GoodIn wsX6_fetchBy (wsV RX6 289 RX2 yX2_used wsX2_used) := goodIn_app (goodIn_of _ (by decide +kernel)) ggX6_fetchBy_X2_used
set_option maxRecDepth 20000 in
theorem ggX6_fetchBy_X6_squareLeft : GoodIn wsX6_fetchBy wsX6_squareLeft := goodIn_r _ [16, 17, 18, 19, 20, 15, 21, 55, 56, 57, 58, 59, 60, 61, 62, 63] (by decide +kernel) (by decide +kernel)
set_option maxRecDepth 20000 in
theorem gX6_fetchBy_X6_squareLeft : GoodIn wsX6_fetchBy (wsV RX6 263 RX6 yX6_squareLeft wsX6_squareLeft) := goodIn_app (goodIn_of _ (by decide +kernel)) ggX6_fetchBy_X6_squareLeft
set_option maxRecDepth 20000 in
theorem ggX6_fetchBy_X6_squareTop : GoodIn wsX6_fetchBy wsX6_squareTop := goodIn_r _ [25, 17, 18, 19, 20, 15, 21, 55, 56, 57, 58, 59, 60, 61, 62, 63] (by decide +kernel) (by decide +kernel)
set_option maxRecDepth 20000 in
theorem gX6_fetchBy_X6_squareTop : GoodIn wsX6_fetchBy (wsV RX6 266 RX6 yX6_squareTop wsX6_squareTop) := goodIn_app (goodIn_of _ (by decide +kernel)) ggX6_fetchBy_X6_squareTop
set_option maxRecDepth 20000 in
theorem ggX6_fetchBy_X4_fetchSquare : GoodIn wsX6_fetchBy wsX4_fetchSquare := goodIn_r _ [30, 31, 32, 33, 34, 29, 35, 36, 37, 38, 39, 40, 41, 42, 43, 15, 44, 45, 46, 47, 48, 49, 50, 51, 52, 53, 54, 77, 78, 79, 80] (by decide +kernel) (by decide +kernel)
set_option maxRecDepth 20000 in
theorem gX6_fetchBy_X4_fetchSquare : GoodIn wsX6_fetchBy (wsV RX6 292 RX4 yX4_fetchSquare wsX4_fetchSquare) := goodIn_app (goodIn_of _ (by decide +kernel)) ggX6_fetchBy_X4_fetchSquare
set_option maxRecDepth 20000 in
theorem ggX6_squareLeft_X6_squareSide : GoodIn wsX6_squareLeft wsX6_squareSide := goodIn_r _ [6] (by decide +kernel) (by decide +kernel)
set_option maxRecDepth 20000 in
theorem gX6_squareLeft_X6_squareSide : GoodIn wsX6_squareLeft (va_wsS RX6 295 yX6_squareSide wsX6_squareSide) := goodIn_app (goodIn_of _ (by decide +kernel)) ggX6_squareLeft_X6_squareSide
set_option maxRecDepth 20000 in
theorem ggX6_squareTop_X6_squareSide : GoodIn wsX6_squareTop wsX6_squareSide := goodIn_r _ [6] (by decide +kernel) (by decide +kernel)
set_option maxRecDepth 20000 in
theorem gX6_squareTop_X6_squareSide : GoodIn wsX6_squareTop (va_wsS RX6 295 yX6_squareSide wsX6_squareSide) := goodIn_app (goodIn_of _ (by decide +kernel)) ggX6_squareTop_X6_squareSide
set_option maxRecDepth 20000 in
theorem ggX7_init_X7_size : GoodIn wsX7_init wsX7_size := goodIn_r _ [27, 28, 29, 30, 5, 9, 10, 31, 32, 33, 34, 35, 36, 37, 38, 13, 39, 40, 41, 26, 42, 14, 43, 44, 45, 46, 15, 47, 48, 49, 50, 51, 52, 17, 18, 53, 54, 55, 56, 57, 58, 59, 60, 61, 62, 63, 64, 65, 66, 67, 68, 69, 70, 71, 72, 73, 74, 75, 76, 77, 78, 79, 80, 81, 82, 83, 84, 85, 86] (by decide +kernel) (by decide +kernel)
set_option maxRecDepth 20000 in
theorem gX7_init_X7_size : GoodIn wsX7_init (wsV RX7 62 RX7 yX7_size wsX7_size) := goodIn_app (goodIn_of _ (by decide +kernel)) ggX7_init_X7_size
set_option maxRecDepth 20000 in
theorem ggX7_size_X7_clearVectors : GoodIn wsX7_size wsX7_clearVectors := goodIn_r _ [20, 21, 35, 36, 37, 38, 39, 40, 41, 42, 43, 44, 45, 46, 47, 48, 49, 50, 51, 52, 53, 54, 55, 56, 57, 58, 59, 60, 61, 62, 63, 64, 65, 66, 67, 68] (by decide +kernel) (by decide +kernel)
set_option maxRecDepth 20000 in
theorem gX7_size_X7_clearVectors : GoodIn wsX7_size (wsV RX7 101 RX7 yX7_clearVectors wsX7_clearVectors) := goodIn_app (goodIn_of _ (by decide +kernel)) ggX7_size_X7_clearVectors
set_option maxRecDepth 20000 in
theorem ggX7_size_X7_clearPasts : GoodIn wsX7_size wsX7_clearPasts := goodIn_r _ [25, 26, 35, 36, 37, 38, 39, 40, 41, 42, 43, 44, 45, 46, 47, 48, 49, 50, 51, 52, 53, 54, 55, 56, 57, 58, 59, 60, 61, 62, 63, 64, 65, 66, 67, 68] (by decide +kernel) (by decide +kernel)
set_option maxRecDepth 20000 in
theorem gX7_size_X7_clearPasts : GoodIn wsX7_size (wsV RX7 104 RX7 yX7_clearPasts wsX7_clearPasts) := goodIn_app (goodIn_of _ (by decide +kernel)) ggX7_size_X7_clearPasts
set_option maxRecDepth 20000 in
theorem ggX7_size_X7_forget : GoodIn wsX7_size wsX7_forget := goodIn_r _ [30, 31, 32, 33, 34, 35, 36, 37, 38, 39, 40, 41, 42, 43, 44, 45, 46, 47, 48, 49, 50, 51, 52, 53, 54, 55, 56, 57, 58, 59, 60, 61, 62, 63, 64, 65, 66, 67, 68] (by decide +kernel) (by decide +kernel)
set_option maxRecDepth 20000 in
theorem gX7_size_X7_forget : GoodIn wsX7_size (wsV RX7 107 RX7 yX7_forget wsX7_forget) := goodIn_app (goodIn_of _ (by decide +kernel)) ggX7_size_X7_forget
set_option maxRecDepth 20000 in
theorem ggX7_begin_X7_clearVectors : GoodIn wsX7_begin wsX7_clearVectors := goodIn_r _ [12, 13, 27, 28, 29, 30, 31, 32, 33, 34, 35, 36, 37, 38, 39, 40, 41, 42, 43, 44, 45, 46, 47, 48, 49, 50, 51, 52, 53, 54, 55, 56, 57, 58, 59, 60] (by decide +kernel) (by decide +kernel)
set_option maxRecDepth 20000 in
theorem gX7_begin_X7_clearVectors : GoodIn wsX7_begin (wsV RX7 101 RX7 yX7_clearVectors wsX7_clearVectors) := goodIn_app (goodIn_of _ (by decide +kernel)) ggX7_begin_X7_clearVectors
set_option maxRecDepth 20000 in
theorem ggX7_begin_X7_clearPasts : GoodIn wsX7_begin wsX7_clearPasts := goodIn_r _ [17, 18, 27, 28, 29, 30, 31, 32, 33, 34, 35, 36, 37, 38, 39, 40, 41, 42, 43, 44, 45, 46, 47, 48, 49, 50, 51, 52, 53, 54, 55, 56, 57, 58, 59, 60] (by decide +kernel) (by decide +kernel)
set_option maxRecDepth 20000 in
theorem gX7_begin_X7_clearPasts : GoodIn wsX7_begin (wsV RX7 104 RX7 yX7_clearPasts wsX7_clearPasts) := goodIn_app (goodIn_of _ (by decide +kernel)) ggX7_begin_X7_clearPasts
set_option maxRecDepth 20000 in
theorem ggX7_begin_X7_forget : GoodIn wsX7_begin wsX7_forget := goodIn_r _ [22, 23, 24, 25, 26, 27, 28, 29, 30, 31, 32, 33, 34, 35, 36, 37, 38, 39, 40, 41, 42, 43, 44, 45, 46, 47, 48, 49, 50, 51, 52, 53, 54, 55, 56, 57, 58, 59, 60] (by decide +kernel) (by decide +kernel)
set_option maxRecDepth 20000 in
theorem gX7_begin_X7_forget : GoodIn wsX7_begin (wsV RX7 107 RX7 yX7_forget wsX7_forget) := goodIn_app (goodIn_of _ (by decide +kernel)) ggX7_begin_X7_forget
set_option maxRecDepth 20000 in
theorem ggX7_itself_X7_isFull : GoodIn wsX7_itself wsX7_isFull := goodIn_r _ [9, 10, 11, 12, 13, 14, 15, 16, 17, 18, 19, 20, 21, 22, 23, 24, 25, 26, 27, 28, 29, 30, 31, 32, 33, 34, 35, 36, 37, 38, 39, 40, 41, 42, 43, 44, 45, 46, 47] (by decide +kernel) (by decide +kernel)
set_option maxRecDepth 20000 in
theorem gX7_itself_X7_isFull : GoodIn wsX7_itself (wsV RX7 125 RX7 yX7_isFull wsX7_isFull) := goodIn_app (goodIn_of _ (by decide +kernel)) ggX7_itself_X7_isFull
set_option maxRecDepth 20000 in
theorem ggX7_vector_X7_isFull : GoodIn wsX7_vector wsX7_isFull := goodIn_r _ [12, 3, 13, 14, 15, 19, 20, 21, 22, 23, 24, 25, 26, 27, 28, 29, 30, 31, 32, 33, 34, 35, 36, 37, 38, 39, 40, 41, 42, 43, 44, 45, 46, 47, 48, 49, 50, 51, 52] (by decide +kernel) (by decide +kernel)
set_option maxRecDepth 20000 in
theorem gX7_vector_X7_isFull : GoodIn wsX7_vector (wsV RX7 125 RX7 yX7_isFull wsX7_isFull) := goodIn_app (goodIn_of _ (by decide +kernel)) ggX7_vector_X7_isFull
set_option maxRecDepth 20000 in
theorem ggX7_vector_X7_moved : GoodIn wsX7_vector wsX7_moved := goodIn_r _ [18] (by decide +kernel) (by decide +kernel)
set_option maxRecDepth 20000 in
theorem gX7_vector_X7_moved : GoodIn wsX7_vector (va_wsS RX7 129 yX7_moved wsX7_moved) := goodIn_app (goodIn_of _ (by decide +kernel)) ggX7_vector_X7_moved
set_option maxRecDepth 20000 in
theorem ggX7_level_X7_isFull : GoodIn wsX7_level wsX7_isFull := goodIn_r _ [8, 9, 10, 11, 12, 13, 14, 15, 16, 17, 18, 19, 20, 21, 22, 23, 24, 25, 26, 27, 28, 29, 30, 31, 32, 33, 34, 35, 36, 37, 38, 39, 40, 41, 42, 43, 44, 45, 46] (by decide +kernel) (by decide +kernel)
set_option maxRecDepth 20000 in
theorem gX7_level_X7_isFull : GoodIn wsX7_level (wsV RX7 125 RX7 yX7_isFull wsX7_isFull) := goodIn_app (goodIn_of _ (by decide +kernel)) ggX7_level_X7_isFull
set_option maxRecDepth 20000 in
theorem ggX7_scaleAll_X7_within : GoodIn wsX7_scaleAll wsX7_within := goodIn_r _ [11] (by decide +kernel) (by decide +kernel)
set_option maxRecDepth 20000 in
theorem gX7_scaleAll_X7_within : GoodIn wsX7_scaleAll (va_wsS RX7 133 yX7_within wsX7_within) := goodIn_app (goodIn_of _ (by decide +kernel)) ggX7_scaleAll_X7_within
set_option maxRecDepth 20000 in
theorem ggX7_scaleAll_X7_planeOf : GoodIn wsX7_scaleAll wsX7_planeOf := goodIn_r _ [14] (by decide +kernel) (by decide +kernel)
set_option maxRecDepth 20000 in
theorem gX7_scaleAll_X7_planeOf : GoodIn wsX7_scaleAll (va_wsS RX7 136 yX7_planeOf wsX7_planeOf) := goodIn_app (goodIn_of _ (by decide +kernel)) ggX7_scaleAll_X7_planeOf
set_option maxRecDepth 20000 in
theorem ggX7_makeSamples_X7_factor : GoodIn wsX7_makeSamples wsX7_factor := goodIn_r _ [8, 9, 10, 11, 12, 13, 14, 15, 16, 17, 18, 19, 20, 21, 22, 23, 24, 25, 26, 27, 28, 29, 30, 31, 32, 33, 34, 35, 36, 37, 38, 39, 40, 41, 42, 43] (by decide +kernel) (by decide +kernel)
set_option maxRecDepth 20000 in
theorem gX7_makeSamples_X7_factor : GoodIn wsX7_makeSamples (wsV RX7 140 RX7 yX7_factor wsX7_factor) := goodIn_app (goodIn_of _ (by decide +kernel)) ggX7_makeSamples_X7_factor
set_option maxRecDepth 20000 in
theorem ggX7_look_X7_wideOf : GoodIn wsX7_look wsX7_wideOf := goodIn_r _ [7, 8, 20, 21, 22, 23, 24, 25, 26, 27, 28, 29, 30, 31, 32, 33, 34, 35, 36, 37, 38, 39, 40, 41, 42, 43, 44, 45, 46, 47, 48, 49, 50, 51, 52, 53] (by decide +kernel) (by decide +kernel)
set_option maxRecDepth 20000 in
theorem gX7_look_X7_wideOf : GoodIn wsX7_look (wsV RX7 144 RX7 yX7_wideOf wsX7_wideOf) := goodIn_app (goodIn_of _ (by decide +kernel)) ggX7_look_X7_wideOf
set_option maxRecDepth 20000 in
theorem ggX7_look_X7_within : GoodIn wsX7_look wsX7_within := goodIn_r _ [11] (by decide +kernel) (by decide +kernel)
set_option maxRecDepth 20000 in
theorem gX7_look_X7_within : GoodIn wsX7_look (va_wsS RX7 133 yX7_within wsX7_within) := goodIn_app (goodIn_of _ (by decide +kernel)) ggX7_look_X7_within
set_option maxRecDepth 20000 in
theorem ggX7_look_X7_highOf : GoodIn wsX7_look wsX7_highOf := goodIn_r _ [15, 16, 20, 21, 22, 23, 24, 25, 26, 27, 28, 29, 30, 31, 32, 33, 34, 35, 36, 37, 38, 39, 40, 41, 42, 43, 44, 45, 46, 47, 48, 49, 50, 51, 52, 53] (by decide +kernel) (by decide +kernel)
set_option maxRecDepth 20000 in
theorem gX7_look_X7_highOf : GoodIn wsX7_look (wsV RX7 147 RX7 yX7_highOf wsX7_highOf) := goodIn_app (goodIn_of _ (by decide +kernel)) ggX7_look_X7_highOf
set_option maxRecDepth 20000 in
theorem ggX7_look_X7_place : GoodIn wsX7_look wsX7_place := goodIn_r _ [19] (by decide +kernel) (by decide +kernel)
set_option maxRecDepth 20000 in
theorem gX7_look_X7_place : GoodIn wsX7_look (va_wsS RX7 150 yX7_place wsX7_place) := goodIn_app (goodIn_of _ (by decide +kernel)) ggX7_look_X7_place
set_option maxRecDepth 20000 in
theorem ggX7_fetch_X7_look : GoodIn wsX7_fetch wsX7_look := goodIn_r _ [8, 9, 10, 11, 12, 13, 7, 14, 15, 16, 17, 18, 19, 20, 21, 22, 23, 24, 25, 26, 27, 28, 29, 30, 31, 32, 33, 34, 35, 36, 37, 38, 39, 40, 41, 42, 43, 44, 45, 46, 47, 48, 49, 50, 51, 52, 53, 54, 55, 56, 57, 58, 59, 60] (by decide +kernel) (by decide +kernel)
set_option maxRecDepth 20000 in
theorem gX7_fetch_X7_look : GoodIn wsX7_fetch (wsV RX7 153 RX7 yX7_look wsX7_look) := goodIn_app (goodIn_of _ (by decide +kernel)) ggX7_fetch_X7_look
set_option maxRecDepth 20000 in
theorem ggX7_fetched_X7_fetch : GoodIn wsX7_fetched wsX7_fetch := goodIn_r _ [5, 6, 7, 8, 9, 10, 11, 4, 12, 13, 14, 15, 16, 17, 18, 19, 20, 21, 22, 23, 24, 25, 26, 27, 28, 29, 30, 31, 32, 33, 34, 35, 36, 37, 38, 39, 40, 41, 42, 43, 44, 45, 46, 47, 48, 49, 50, 51, 52, 53, 54, 55, 56, 57, 58, 59, 60, 61, 62, 63, 64] (by decide +kernel) (by decide +kernel)
set_option maxRecDepth 20000 in
theorem gX7_fetched_X7_fetch : GoodIn wsX7_fetched (wsV RX7 157 RX7 yX7_fetch wsX7_fetch) := goodIn_app (goodIn_of _ (by decide +kernel)) ggX7_fetched_X7_fetch
set_option maxRecDepth 20000 in
theorem ggX7_putBlock_X7_planeOf : GoodIn wsX7_putBlock wsX7_planeOf := goodIn_r _ [9] (by decide +kernel) (by decide +kernel)
set_option maxRecDepth 20000 in
theorem gX7_putBlock_X7_planeOf : GoodIn wsX7_putBlock (va_wsS RX7 136 yX7_planeOf wsX7_planeOf) := goodIn_app (goodIn_of _ (by decide +kernel)) ggX7_putBlock_X7_planeOf
set_option maxRecDepth 20000 in
theorem ggX7_putBlock_X7_fetched : GoodIn wsX7_putBlock wsX7_fetched := goodIn_r _ [13, 14, 15, 16, 8, 17, 18, 19, 20, 21, 22, 23, 24, 25, 26, 27, 28, 29, 30, 2, 31, 32, 33, 34, 35, 36, 37, 38, 39, 40, 41, 42, 43, 44, 45, 46, 47, 48, 49, 50, 51, 52, 53, 54, 55, 56, 57, 58, 59, 60, 61, 62, 63, 64, 65, 66, 67, 68, 69, 70, 71, 72, 73, 74, 75] (by decide +kernel) (by decide +kernel)
set_option maxRecDepth 20000 in
theorem gX7_putBlock_X7_fetched : GoodIn wsX7_putBlock (wsV RX7 160 RX7 yX7_fetched wsX7_fetched) := goodIn_app (goodIn_of _ (by decide +kernel)) ggX7_putBlock_X7_fetched
set_option maxRecDepth 20000 in
theorem ggX7_putBlock_X7_place : GoodIn wsX7_putBlock wsX7_place := goodIn_r _ [41] (by decide +kernel) (by decide +kernel)
set_option maxRecDepth 20000 in
theorem gX7_putBlock_X7_place : GoodIn wsX7_putBlock (va_wsS RX7 150 yX7_place wsX7_place) := goodIn_app (goodIn_of _ (by decide +kernel)) ggX7_putBlock_X7_place
set_option maxRecDepth 20000 in
theorem ggX7_putBlock_X7_within : GoodIn wsX7_putBlock wsX7_within := goodIn_r _ [33] (by decide +kernel) (by decide +kernel)
set_option maxRecDepth 20000 in
theorem gX7_putBlock_X7_within : GoodIn wsX7_putBlock (va_wsS RX7 133 yX7_within wsX7_within) := goodIn_app (goodIn_of _ (by decide +kernel)) ggX7_putBlock_X7_within
set_option maxRecDepth 20000 in
theorem ggX7_square_X7_isFull : GoodIn wsX7_square wsX7_isFull := goodIn_r _ [13, 2, 8, 14, 15, 88, 89, 90, 91, 92, 93, 94, 95, 96, 97, 98, 99, 100, 101, 102, 103, 104, 105, 106, 107, 108, 109, 110, 111, 112, 113, 114, 115, 116, 117, 118, 119, 120, 121] (by decide +kernel) (by decide +kernel)
set_option maxRecDepth 20000 in
theorem gX7_square_X7_isFull : GoodIn wsX7_square (wsV RX7 125 RX7 yX7_isFull wsX7_isFull) := goodIn_app (goodIn_of _ (by decide +kernel)) ggX7_square_X7_isFull
set_option maxRecDepth 20000 in
theorem ggX7_square_X7_clearVectors : GoodIn wsX7_square wsX7_clearVectors := goodIn_r _ [19, 20, 88, 89, 90, 91, 92, 93, 94, 95, 96, 97, 98, 99, 100, 101, 102, 103, 104, 105, 106, 107, 108, 109, 110, 111, 112, 113, 114, 115, 116, 117, 118, 119, 120, 121] (by decide +kernel) (by decide +kernel)
set_option maxRecDepth 20000 in
theorem gX7_square_X7_clearVectors : GoodIn wsX7_square (wsV RX7 101 RX7 yX7_clearVectors wsX7_clearVectors) := goodIn_app (goodIn_of _ (by decide +kernel)) ggX7_square_X7_clearVectors
set_option maxRecDepth 20000 in
theorem ggX7_square_X7_scaleAll : GoodIn wsX7_square wsX7_scaleAll := goodIn_r _ [24, 25, 26, 3, 27, 28, 29, 30, 31, 32, 12, 33, 34, 35, 36, 88, 89, 90, 91, 92, 93, 94, 95, 96, 97, 98, 99, 100, 101, 102, 103, 104, 105, 106, 107, 108, 109, 110, 111, 112, 113, 114, 115, 116, 117, 118, 119, 120, 121] (by decide +kernel) (by decide +kernel)
set_option maxRecDepth 20000 in
theorem gX7_square_X7_scaleAll : GoodIn wsX7_square (wsV RX7 164 RX7 yX7_scaleAll wsX7_scaleAll) := goodIn_app (goodIn_of _ (by decide +kernel)) ggX7_square_X7_scaleAll
set_option maxRecDepth 20000 in
theorem ggX7_square_X7_makeSamples : GoodIn wsX7_square wsX7_makeSamples := goodIn_r _ [40, 29, 41, 42, 43, 44, 45, 12, 46, 47, 88, 89, 90, 91, 92, 93, 94, 95, 96, 97, 98, 99, 100, 101, 102, 103, 104, 105, 106, 107, 108, 109, 110, 111, 112, 113, 114, 115, 116, 117, 118, 119, 120, 121] (by decide +kernel) (by decide +kernel)
set_option maxRecDepth 20000 in
theorem gX7_square_X7_makeSamples : GoodIn wsX7_square (wsV RX7 168 RX7 yX7_makeSamples wsX7_makeSamples) := goodIn_app (goodIn_of _ (by decide +kernel)) ggX7_square_X7_makeSamples
set_option maxRecDepth 20000 in
theorem ggX7_square_X7_putBlock : GoodIn wsX7_square wsX7_putBlock := goodIn_r _ [51, 8, 14, 42, 3, 52, 34, 35, 12, 36, 53, 54, 55, 56, 57, 58, 59, 60, 2, 20, 61, 62, 63, 64, 65, 66, 67, 68, 69, 70, 71, 31, 32, 33, 72, 73, 74, 75, 15, 76, 77, 78, 88, 89, 90, 91, 92, 93, 94, 95, 96, 97, 98, 99, 100, 101, 102, 103, 104, 105, 106, 107, 108, 109, 110, 111, 112, 113, 114, 115, 116, 117, 118, 119, 120, 121] (by decide +kernel) (by decide +kernel)
set_option maxRecDepth 20000 in
theorem gX7_square_X7_putBlock : GoodIn wsX7_square (wsV RX7 171 RX7 yX7_putBlock wsX7_putBlock) := goodIn_app (goodIn_of _ (by decide +kernel)) ggX7_square_X7_putBlock
set_option maxRecDepth 20000 in
theorem ggX7_square_X7_clearPasts : GoodIn wsX7_square wsX7_clearPasts := goodIn_r _ [82, 30, 88, 89, 90, 91, 92, 93, 94, 95, 96, 97, 98, 99, 100, 101, 102, 103, 104, 105, 106, 107, 108, 109, 110, 111, 112, 113, 114, 115, 116, 117, 118, 119, 120, 121] (by decide +kernel) (by decide +kernel)
set_option maxRecDepth 20000 in
theorem gX7_square_X7_clearPasts : GoodIn wsX7_square (wsV RX7 104 RX7 yX7_clearPasts wsX7_clearPasts) := goodIn_app (goodIn_of _ (by decide +kernel)) ggX7_square_X7_clearPasts
set_option maxRecDepth 20000 in
theorem ggX7_square_X7_forget : GoodIn wsX7_square wsX7_forget := goodIn_r _ [86, 3, 87, 1, 25, 88, 89, 90, 91, 92, 93, 94, 95, 96, 97, 98, 99, 100, 101, 102, 103, 104, 105, 106, 107, 108, 109, 110, 111, 112, 113, 114, 115, 116, 117, 118, 119, 120, 121] (by decide +kernel) (by decide +kernel)
set_option maxRecDepth 20000 in
theorem gX7_square_X7_forget : GoodIn wsX7_square (wsV RX7 107 RX7 yX7_forget wsX7_forget) := goodIn_app (goodIn_of _ (by decide +kernel)) ggX7_square_X7_forget
set_option maxRecDepth 20000 in
theorem ggX7_leave_X7_clearVectors : GoodIn wsX7_leave wsX7_clearVectors := goodIn_r _ [15, 16, 60, 61, 62, 63, 64, 65, 66, 67, 68, 69, 70, 71, 72, 73, 74, 75, 76, 77, 78, 79, 80, 81, 82, 83, 84, 85, 86, 87, 88, 89, 90, 91, 92, 93] (by decide +kernel) (by decide +kernel)
set_option maxRecDepth 20000 in
theorem gX7_leave_X7_clearVectors : GoodIn wsX7_leave (wsV RX7 101 RX7 yX7_clearVectors wsX7_clearVectors) := goodIn_app (goodIn_of _ (by decide +kernel)) ggX7_leave_X7_clearVectors
set_option maxRecDepth 20000 in
theorem ggX7_leave_X7_clearPasts : GoodIn wsX7_leave wsX7_clearPasts := goodIn_r _ [20, 21, 60, 61, 62, 63, 64, 65, 66, 67, 68, 69, 70, 71, 72, 73, 74, 75, 76, 77, 78, 79, 80, 81, 82, 83, 84, 85, 86, 87, 88, 89, 90, 91, 92, 93] (by decide +kernel) (by decide +kernel)
set_option maxRecDepth 20000 in
theorem gX7_leave_X7_clearPasts : GoodIn wsX7_leave (wsV RX7 104 RX7 yX7_clearPasts wsX7_clearPasts) := goodIn_app (goodIn_of _ (by decide +kernel)) ggX7_leave_X7_clearPasts
set_option maxRecDepth 20000 in
theorem ggX7_leave_X7_putBlock : GoodIn wsX7_leave wsX7_putBlock := goodIn_r _ [25, 4, 2, 9, 26, 27, 28, 29, 14, 30, 31, 32, 33, 34, 35, 36, 37, 38, 1, 16, 39, 40, 41, 42, 43, 44, 45, 46, 47, 48, 49, 50, 51, 52, 53, 54, 55, 56, 3, 57, 58, 59, 60, 61, 62, 63, 64, 65, 66, 67, 68, 69, 70, 71, 72, 73, 74, 75, 76, 77, 78, 79, 80, 81, 82, 83, 84, 85, 86, 87, 88, 89, 90, 91, 92, 93] (by decide +kernel) (by decide +kernel)
set_option maxRecDepth 20000 in
theorem gX7_leave_X7_putBlock : GoodIn wsX7_leave (wsV RX7 171 RX7 yX7_putBlock wsX7_putBlock) := goodIn_app (goodIn_of _ (by decide +kernel)) ggX7_leave_X7_putBlock
set_option maxRecDepth 20000 in
theorem ggX7_done_X7_show : GoodIn wsX7_done wsX7_show := goodIn_r _ [17, 18, 19, 12, 20, 21, 22, 23, 24, 25, 26, 27, 28, 29, 30, 31, 32, 33, 34, 35, 36, 37, 38, 39, 40, 41, 42, 43, 44, 45, 46, 47, 48, 49, 50, 51, 52, 53] (by decide +kernel) (by decide +kernel)
set_option maxRecDepth 20000 in
theorem gX7_done_X7_show : GoodIn wsX7_done (wsV RX7 178 RX7 yX7_show wsX7_show) := goodIn_app (goodIn_of _ (by decide +kernel)) ggX7_done_X7_show
set_option maxRecDepth 20000 in
theorem ggX7_last_X7_show : GoodIn wsX7_last wsX7_show := goodIn_r _ [11, 12, 13, 6, 14, 15, 16, 17, 18, 19, 20, 21, 22, 23, 24, 25, 26, 27, 28, 29, 30, 31, 32, 33, 34, 35, 36, 37, 38, 39, 40, 41, 42, 43, 44, 45, 46, 47] (by decide +kernel) (by decide +kernel)
set_option maxRecDepth 20000 in
theorem gX7_last_X7_show : GoodIn wsX7_last (wsV RX7 178 RX7 yX7_show wsX7_show) := goodIn_app (goodIn_of _ (by decide +kernel)) ggX7_last_X7_show
set_option maxRecDepth 20000 in
theorem ggX7_sample_X7_wideOf : GoodIn wsX7_sample wsX7_wideOf := goodIn_r _ [8, 9, 18, 19, 20, 21, 22, 23, 24, 25, 26, 27, 28, 29, 30, 31, 32, 33, 34, 35, 36, 37, 38, 39, 40, 41, 42, 43, 44, 45, 46, 47, 48, 49, 50, 51] (by decide +kernel) (by decide +kernel)
set_option maxRecDepth 20000 in
theorem gX7_sample_X7_wideOf : GoodIn wsX7_sample (wsV RX7 144 RX7 yX7_wideOf wsX7_wideOf) := goodIn_app (goodIn_of _ (by decide +kernel)) ggX7_sample_X7_wideOf
set_option maxRecDepth 20000 in
theorem ggX7_sample_X7_highOf : GoodIn wsX7_sample wsX7_highOf := goodIn_r _ [13, 14, 18, 19, 20, 21, 22, 23, 24, 25, 26, 27, 28, 29, 30, 31, 32, 33, 34, 35, 36, 37, 38, 39, 40, 41, 42, 43, 44, 45, 46, 47, 48, 49, 50, 51] (by decide +kernel) (by decide +kernel)
set_option maxRecDepth 20000 in
theorem gX7_sample_X7_highOf : GoodIn wsX7_sample (wsV RX7 147 RX7 yX7_highOf wsX7_highOf) := goodIn_app (goodIn_of _ (by decide +kernel)) ggX7_sample_X7_highOf
set_option maxRecDepth 20000 in
theorem ggX7_sample_X7_place : GoodIn wsX7_sample wsX7_place := goodIn_r _ [17] (by decide +kernel) (by decide +kernel)
set_option maxRecDepth 20000 in
theorem gX7_sample_X7_place : GoodIn wsX7_sample (va_wsS RX7 150 yX7_place wsX7_place) := goodIn_app (goodIn_of _ (by decide +kernel)) ggX7_sample_X7_place
set_option maxRecDepth 20000 in
theorem ggX7_cutOff_X7_within : GoodIn wsX7_cutOff wsX7_within := goodIn_r _ [4] (by decide +kernel) (by decide +kernel)
set_option maxRecDepth 20000 in
theorem gX7_cutOff_X7_within : GoodIn wsX7_cutOff (va_wsS RX7 133 yX7_within wsX7_within) := goodIn_app (goodIn_of _ (by decide +kernel)) ggX7_cutOff_X7_within
set_option maxRecDepth 20000 in
theorem ggX7_colour_X7_wideOf : GoodIn wsX7_colour wsX7_wideOf := goodIn_r _ [15, 16, 31, 32, 33, 34, 35, 36, 37, 38, 39, 40, 41, 42, 43, 44, 45, 46, 47, 48, 49, 50, 51, 52, 53, 54, 55, 56, 57, 58, 59, 60, 61, 62, 63, 64] (by decide +kernel) (by decide +kernel)
set_option maxRecDepth 20000 in
theorem gX7_colour_X7_wideOf : GoodIn wsX7_colour (wsV RX7 144 RX7 yX7_wideOf wsX7_wideOf) := goodIn_app (goodIn_of _ (by decide +kernel)) ggX7_colour_X7_wideOf
set_option maxRecDepth 20000 in
theorem ggX7_colour_X7_highOf : GoodIn wsX7_colour wsX7_highOf := goodIn_r _ [20, 21, 31, 32, 33, 34, 35, 36, 37, 38, 39, 40, 41, 42, 43, 44, 45, 46, 47, 48, 49, 50, 51, 52, 53, 54, 55, 56, 57, 58, 59, 60, 61, 62, 63, 64] (by decide +kernel) (by decide +kernel)
set_option maxRecDepth 20000 in
theorem gX7_colour_X7_highOf : GoodIn wsX7_colour (wsV RX7 147 RX7 yX7_highOf wsX7_highOf) := goodIn_app (goodIn_of _ (by decide +kernel)) ggX7_colour_X7_highOf
set_option maxRecDepth 20000 in
theorem ggX7_colour_X7_place : GoodIn wsX7_colour wsX7_place := goodIn_r _ [24] (by decide +kernel) (by decide +kernel)
set_option maxRecDepth 20000 in
theorem gX7_colour_X7_place : GoodIn wsX7_colour (va_wsS RX7 150 yX7_place wsX7_place) := goodIn_app (goodIn_of _ (by decide +kernel)) ggX7_colour_X7_place
set_option maxRecDepth 20000 in
theorem ggX7_colour_X7_cutOff : GoodIn wsX7_colour wsX7_cutOff := goodIn_r _ [27, 28, 29, 14, 30] (by decide +kernel) (by decide +kernel)
set_option maxRecDepth 20000 in
theorem gX7_colour_X7_cutOff : GoodIn wsX7_colour (va_wsS RX7 189 yX7_cutOff wsX7_cutOff) := goodIn_app (goodIn_of _ (by decide +kernel)) ggX7_colour_X7_cutOff
set_option maxRecDepth 20000 in
theorem ggX7_light_X7_place : GoodIn wsX7_light wsX7_place := goodIn_r _ [13] (by decide +kernel) (by decide +kernel)
set_option maxRecDepth 20000 in
theorem gX7_light_X7_place : GoodIn wsX7_light (va_wsS RX7 150 yX7_place wsX7_place) := goodIn_app (goodIn_of _ (by decide +kernel)) ggX7_light_X7_place
set_option maxRecDepth 20000 in
theorem ggX7_light_X7_cutOff : GoodIn wsX7_light wsX7_cutOff := goodIn_r _ [16, 17, 18, 12, 19] (by decide +kernel) (by decide +kernel)
set_option maxRecDepth 20000 in
theorem gX7_light_X7_cutOff : GoodIn wsX7_light (va_wsS RX7 189 yX7_cutOff wsX7_cutOff) := goodIn_app (goodIn_of _ (by decide +kernel)) ggX7_light_X7_cutOff
set_option maxRecDepth 20000 in
theorem ggX7_error_X7_place : GoodIn wsX7_error wsX7_place := goodIn_r _ [11] (by decide +kernel) (by decide +kernel)
set_option maxRecDepth 20000 in
theorem gX7_error_X7_place : GoodIn wsX7_error (va_wsS RX7 150 yX7_place wsX7_place) := goodIn_app (goodIn_of _ (by decide +kernel)) ggX7_error_X7_place
set_option maxRecDepth 20000 in
theorem ggL_size_X6_size : GoodIn wsL_size wsX6_size := goodIn_ca (goodIn_r _ [6, 7, 8, 9, 10, 5, 11, 12, 13, 14, 15, 16, 17, 18, 19, 20, 21, 22, 23, 24, 25, 26, 27, 28, 29, 30, 31, 32, 33, 34, 35, 36, 37, 38, 39, 40, 41, 42, 43, 44, 45, 46, 47, 48, 49, 50, 51, 52, 53, 54, 55, 56, 57, 58, 59, 60, 61, 62, 63, 64, 65, 66, 67, 68, 69, 70, 71, 72, 73, 74, 75, 76, 77, 78, 79, 80, 81, 82, 83, 84, 85, 86, 87, 88, 89, 90, 91, 92, 93, 94, 95, 96, 97, 98, 99, 100, 101, 102, 103, 104, 105, 106, 107, 108, 109, 110, 111, 112, 113, 114, 115, 116, 117, 118, 119, 120, 121, 122, 123, 124, 125, 126, 127, 128, 129, 130, 131, 132, 133] (by decide +kernel) (by decide +kernel)) (goodIn_sub (fun _ h => List.mem_cons_of_mem _ (List.mem_append_right _ h)) (by decide +kernel))
set_option maxRecDepth 20000 in
theorem gL_size_X6_size : GoodIn wsL_size (wsV RL 7 RX6 yX6_size wsX6_size) := goodIn_app (goodIn_of _ (by decide +kernel)) ggL_size_X6_size
set_option maxRecDepth 20000 in
theorem ggL_matrix_X6_matrix : GoodIn wsL_matrix wsX6_matrix := goodIn_ca (goodIn_r _ [6, 7, 8, 9, 10, 11, 12, 5, 13, 14, 15, 16, 17, 18, 19, 20, 21, 22, 23, 24, 25, 26, 27, 28] (by decide +kernel) (by decide +kernel)) (goodIn_sub (fun _ h => List.mem_cons_of_mem _ (List.mem_append_right _ h)) (by decide +kernel))
set_option maxRecDepth 20000 in
theorem gL_matrix_X6_matrix : GoodIn wsL_matrix (wsV RL 15 RX6 yX6_matrix wsX6_matrix) := goodIn_app (goodIn_of _ (by decide +kernel)) ggL_matrix_X6_matrix
set_option maxRecDepth 20000 in
theorem ggL_begin_X6_begin : GoodIn wsL_begin wsX6_begin := goodIn_ca (goodIn_ca (goodIn_r _ [7, 8, 9, 10, 11, 12, 13, 14, 15, 16, 17, 6, 18, 19, 20, 21, 22, 23, 24, 25, 26, 27, 28, 29, 30, 31, 32, 33, 34, 35, 36, 37, 38, 39, 40, 41, 42, 43, 44, 45, 46, 47, 48, 49, 50, 51, 52, 53, 54, 55, 56, 57, 58, 59, 60, 61, 62, 63, 64] (by decide +kernel) (by decide +kernel)) (goodIn_sub (fun _ h => List.mem_cons_of_mem _ (List.mem_append_left _ (List.mem_append_right _ h))) (by decide +kernel))) (goodIn_sub (fun _ h => List.mem_cons_of_mem _ (List.mem_append_right _ h)) (by decide +kernel))
set_option maxRecDepth 20000 in
theorem gL_begin_X6_begin : GoodIn wsL_begin (wsV RL 19 RX6 yX6_begin wsX6_begin) := goodIn_app (goodIn_of _ (by decide +kernel)) ggL_begin_X6_begin
set_option maxRecDepth 20000 in
theorem ggL_scale_X6_scale : GoodIn wsL_scale wsX6_scale := goodIn_ca (goodIn_ca (goodIn_r _ [7, 8, 9, 10, 11, 12, 13, 14, 15, 16, 6, 17, 18, 19, 20, 21, 22, 23, 24, 25, 26, 27, 28, 29, 30, 31, 32] (by decide +kernel) (by decide +kernel)) (goodIn_sub (fun _ h => List.mem_cons_of_mem _ (List.mem_append_left _ (List.mem_append_right _ h))) (by decide +kernel))) (goodIn_sub (fun _ h => List.mem_cons_of_mem _ (List.mem_append_right _ h)) (by decide +kernel))
set_option maxRecDepth 20000 in
theorem gL_scale_X6_scale : GoodIn wsL_scale (wsV RL 25 RX6 yX6_scale wsX6_scale) := goodIn_app (goodIn_of _ (by decide +kernel)) ggL_scale_X6_scale
set_option maxRecDepth 20000 in
theorem ggL_itself_X6_itself : GoodIn wsL_itself wsX6_itself := goodIn_ca (goodIn_r _ [6, 7, 8, 9, 10, 11, 12, 13, 14, 15, 5, 16, 17, 18, 19, 20, 21, 22, 23, 24, 25, 26, 27, 28, 29, 30, 31, 32, 33] (by decide +kernel) (by decide +kernel)) (goodIn_sub (fun _ h => List.mem_cons_of_mem _ (List.mem_append_right _ h)) (by decide +kernel))
set_option maxRecDepth 20000 in
theorem gL_itself_X6_itself : GoodIn wsL_itself (wsV RL 29 RX6 yX6_itself wsX6_itself) := goodIn_app (goodIn_of _ (by decide +kernel)) ggL_itself_X6_itself
set_option maxRecDepth 20000 in
theorem ggL_vector_X6_vector : GoodIn wsL_vector wsX6_vector := goodIn_ca (goodIn_ca (goodIn_r _ [7, 8, 9, 10, 11, 12, 13, 14, 15, 16, 17, 18, 6, 19, 20, 21, 22, 23, 24, 25, 26, 27, 28, 29, 30, 31, 32, 33, 34, 35, 36, 37, 38, 39, 40, 41, 42, 43, 44, 45, 46, 47, 48, 49, 50, 51, 52, 53, 54, 55, 56, 57, 58, 59, 60, 61] (by decide +kernel) (by decide +kernel)) (goodIn_sub (fun _ h => List.mem_cons_of_mem _ (List.mem_append_left _ (List.mem_append_right _ h))) (by decide +kernel))) (goodIn_sub (fun _ h => List.mem_cons_of_mem _ (List.mem_append_right _ h)) (by decide +kernel))
set_option maxRecDepth 20000 in
theorem gL_vector_X6_vector : GoodIn wsL_vector (wsV RL 32 RX6 yX6_vector wsX6_vector) := goodIn_app (goodIn_of _ (by decide +kernel)) ggL_vector_X6_vector
set_option maxRecDepth 20000 in
theorem ggL_level_X6_level : GoodIn wsL_level wsX6_level := goodIn_ca (goodIn_ca (goodIn_r _ [7, 8, 9, 10, 11, 12, 13, 14, 15, 16, 6, 17, 18, 19, 20, 21, 22, 23, 24, 25, 26, 27, 28, 29, 30, 31, 32, 33, 34, 35, 36, 37, 38] (by decide +kernel) (by decide +kernel)) (goodIn_sub (fun _ h => List.mem_cons_of_mem _ (List.mem_append_left _ (List.mem_append_right _ h))) (by decide +kernel))) (goodIn_sub (fun _ h => List.mem_cons_of_mem _ (List.mem_append_right _ h)) (by decide +kernel))
set_option maxRecDepth 20000 in
theorem gL_level_X6_level : GoodIn wsL_level (wsV RL 36 RX6 yX6_level wsX6_level) := goodIn_app (goodIn_of _ (by decide +kernel)) ggL_level_X6_level
set_option maxRecDepth 20000 in
theorem ggL_square_X6_square : GoodIn wsL_square wsX6_square := goodIn_ca (goodIn_r _ [6, 7, 8, 9, 10, 11, 12, 13, 14, 5, 15, 16, 17, 18, 19, 20, 21, 22, 23, 24, 25, 26, 27, 28, 29, 30, 31, 32, 33, 34, 35, 36, 37, 38, 39, 40, 41, 42, 43, 44, 45, 46, 47, 48, 49, 50, 51, 52, 53, 54, 55, 56, 57, 58, 59, 60, 61, 62, 63, 64, 65, 66, 67, 68, 69, 70, 71, 72, 73, 74, 75, 76, 77, 78, 79, 80, 81, 82, 83, 84, 85, 86, 87, 88, 89, 90, 91, 92, 93, 94, 95, 96, 97, 98, 99, 100, 101, 102, 103, 104, 105, 106, 107, 108, 109, 110, 111, 112, 113, 114, 115, 116, 117, 118, 119, 120, 121, 122, 123, 124, 125, 126, 127, 128, 129, 130, 131, 132, 133, 134, 135, 136, 137, 138, 139, 140, 141, 142, 143, 144, 145, 146, 147, 148, 149, 150, 151, 152, 153, 154, 155, 156, 157, 158, 159, 160, 161, 162, 163, 164, 165, 166, 167, 168, 169, 170, 171, 172, 173, 174, 175, 176, 177, 178, 179, 180, 181, 182, 183, 184, 185, 186, 187, 188, 189, 190, 191, 192, 193, 194, 195, 196, 197, 198, 199, 200, 201, 202, 203, 204, 205, 206] (by decide +kernel) (by decide +kernel)) (goodIn_sub (fun _ h => List.mem_cons_of_mem _ (List.mem_append_right _ h)) (by decide +kernel))
set_option maxRecDepth 20000 in
theorem gL_square_X6_square : GoodIn wsL_square (wsV RL 39 RX6 yX6_square wsX6_square) := goodIn_app (goodIn_of _ (by decide +kernel)) ggL_square_X6_square
set_option maxRecDepth 20000 in
theorem ggL_leave_X6_leave : GoodIn wsL_leave wsX6_leave := goodIn_ca (goodIn_ca (goodIn_r _ [7, 8, 9, 10, 11, 12, 13, 14, 15, 16, 17, 18, 19, 6, 20, 21, 22, 23, 24, 25, 26, 27, 28, 29, 30, 31, 32, 33, 34, 35, 36, 37, 38, 39, 40, 41, 42, 43, 44, 45, 46, 47, 48, 49, 50, 51, 52, 53, 54, 55, 56, 57, 58, 59, 60, 61, 62, 63, 64, 65, 66, 67, 68, 69, 70, 71, 72, 73, 74, 75, 76, 77, 78, 79, 80, 81, 82, 83, 84, 85, 86, 87, 88, 89, 90, 91, 92, 93, 94, 95, 96, 97, 98, 99, 100, 101, 102, 103, 104, 105, 106, 107, 108, 109, 110, 111, 112, 113, 114, 115, 116, 117, 118, 119, 120, 121, 122, 123, 124, 125, 126, 127, 128, 129, 130, 131, 132, 133, 134, 135, 136, 137, 138, 139, 140] (by decide +kernel) (by decide +kernel)) (goodIn_sub (fun _ h => List.mem_cons_of_mem _ (List.mem_append_left _ (List.mem_append_right _ h))) (by decide +kernel))) (goodIn_sub (fun _ h => List.mem_cons_of_mem _ (List.mem_append_right _ h)) (by decide +kernel))
set_option maxRecDepth 20000 in
theorem gL_leave_X6_leave : GoodIn wsL_leave (wsV RL 43 RX6 yX6_leave wsX6_leave) := goodIn_app (goodIn_of _ (by decide +kernel)) ggL_leave_X6_leave
set_option maxRecDepth 20000 in
theorem ggL_done_X6_done : GoodIn wsL_done wsX6_done := goodIn_ca (goodIn_r _ [6, 7, 8, 9, 10, 11, 12, 13, 14, 15, 16, 5, 17, 18, 19, 20, 21, 22, 23, 24, 25, 26, 27, 28, 29, 30, 31, 32, 33, 34, 35, 36, 37, 38, 39, 40, 41, 42, 43, 44, 45, 46, 47, 48, 49, 50, 51, 52, 53, 54, 55, 56, 57, 58, 59, 60, 61, 62, 63, 64, 65, 66, 67, 68, 69, 70, 71, 72, 73, 74, 75, 76, 77, 78, 79] (by decide +kernel) (by decide +kernel)) (goodIn_sub (fun _ h => List.mem_cons_of_mem _ (List.mem_append_right _ h)) (by decide +kernel))
set_option maxRecDepth 20000 in
theorem gL_done_X6_done : GoodIn wsL_done (wsV RL 47 RX6 yX6_done wsX6_done) := goodIn_app (goodIn_of _ (by decide +kernel)) ggL_done_X6_done
set_option maxRecDepth 20000 in
theorem ggL_last_X6_last : GoodIn wsL_last wsX6_last := goodIn_ca (goodIn_r _ [6, 7, 8, 9, 10, 11, 12, 13, 14, 15, 16, 17, 18, 19, 20, 21, 22, 23, 24, 25, 26, 27, 28, 29, 30, 31, 32, 33, 34, 35, 36, 37, 38, 39, 40, 41, 42, 43, 44, 45, 46, 47, 48, 49, 50, 51, 52, 53, 54, 55, 56, 57, 58, 59, 60, 61] (by decide +kernel) (by decide +kernel)) (goodIn_sub (fun _ h => List.mem_cons_of_mem _ (List.mem_append_right _ h)) (by decide +kernel))
set_option maxRecDepth 20000 in
theorem gL_last_X6_last : GoodIn wsL_last (wsV RL 50 RX6 yX6_last wsX6_last) := goodIn_app (goodIn_of _ (by decide +kernel)) ggL_last_X6_last
set_option maxRecDepth 20000 in
theorem ggL_sample_X6_sample : GoodIn wsL_sample wsX6_sample := goodIn_ca (goodIn_ca (goodIn_r _ [7, 8, 9, 10, 11, 12, 13, 14, 15, 16, 17, 6, 18, 19, 20, 21, 22, 23, 24, 25, 26, 27, 28, 29, 30, 31, 32, 33, 34, 35, 36, 37, 38, 39, 40, 41, 42, 43, 44, 45, 46, 47, 48, 49, 50, 51, 52, 53, 54, 55] (by decide +kernel) (by decide +kernel)) (goodIn_sub (fun _ h => List.mem_cons_of_mem _ (List.mem_append_left _ (List.mem_append_right _ h))) (by decide +kernel))) (goodIn_sub (fun _ h => List.mem_cons_of_mem _ (List.mem_append_right _ h)) (by decide +kernel))
set_option maxRecDepth 20000 in
theorem gL_sample_X6_sample : GoodIn wsL_sample (wsV RL 53 RX6 yX6_sample wsX6_sample) := goodIn_app (goodIn_of _ (by decide +kernel)) ggL_sample_X6_sample
set_option maxRecDepth 20000 in
theorem ggL_colour_X6_colour : GoodIn wsL_colour wsX6_colour := goodIn_ca (goodIn_ca (goodIn_r _ [7, 8, 9, 10, 11, 12, 13, 14, 15, 16, 17, 18, 19, 20, 21, 22, 23, 6, 24, 25, 26, 27, 28, 29, 30, 31, 32, 33, 34, 35, 36, 37, 38, 39, 40, 41, 42, 43, 44, 45, 46, 47, 48, 49, 50, 51, 52, 53, 54, 55, 56, 57, 58, 59, 60, 61, 62, 63, 64, 65, 66, 67, 68, 69] (by decide +kernel) (by decide +kernel)) (goodIn_sub (fun _ h => List.mem_cons_of_mem _ (List.mem_append_left _ (List.mem_append_right _ h))) (by decide +kernel))) (goodIn_sub (fun _ h => List.mem_cons_of_mem _ (List.mem_append_right _ h)) (by decide +kernel))
set_option maxRecDepth 20000 in
theorem gL_colour_X6_colour : GoodIn wsL_colour (wsV RL 58 RX6 yX6_colour wsX6_colour) := goodIn_app (goodIn_of _ (by decide +kernel)) ggL_colour_X6_colour
set_option maxRecDepth 20000 in
theorem ggL_light_X6_light : GoodIn wsL_light wsX6_light := goodIn_ca (goodIn_ca (goodIn_r _ [7, 8, 9, 10, 11, 12, 13, 14, 15, 16, 17, 18, 19, 20, 21, 22, 23, 24, 25, 26, 27, 28, 6, 29, 30, 31, 32, 33, 34, 35, 36, 37, 38, 39, 40, 41, 42, 43, 44, 45, 46, 47, 48, 49, 50, 51, 52] (by decide +kernel) (by decide +kernel)) (goodIn_sub (fun _ h => List.mem_cons_of_mem _ (List.mem_append_left _ (List.mem_append_right _ h))) (by decide +kernel))) (goodIn_sub (fun _ h => List.mem_cons_of_mem _ (List.mem_append_right _ h)) (by decide +kernel))
set_option maxRecDepth 20000 in
theorem gL_light_X6_light : GoodIn wsL_light (wsV RL 62 RX6 yX6_light wsX6_light) := goodIn_app (goodIn_of _ (by decide +kernel)) ggL_light_X6_light
set_option maxRecDepth 20000 in
theorem ggL_keep_X6_keep : GoodIn wsL_keep wsX6_keep := goodIn_ca (goodIn_r _ [6, 7, 8, 9, 10, 11, 12, 13, 14, 15, 16, 17, 18, 19, 20, 21, 22, 23, 24, 25, 26, 27, 28, 29, 30, 31, 32, 33, 34, 35, 36, 37, 38, 39, 40, 41, 42, 43, 44, 45, 46, 47, 48, 49, 50, 51, 52, 53, 54] (by decide +kernel) (by decide +kernel)) (goodIn_sub (fun _ h => List.mem_cons_of_mem _ (List.mem_append_right _ h)) (by decide +kernel))
set_option maxRecDepth 20000 in
theorem gL_keep_X6_keep : GoodIn wsL_keep (wsV RL 66 RX6 yX6_keep wsX6_keep) := goodIn_app (goodIn_of _ (by decide +kernel)) ggL_keep_X6_keep
set_option maxRecDepth 20000 in
theorem ggL_error_X6_error : GoodIn wsL_error wsX6_error := goodIn_ca (goodIn_r _ [6, 7, 8, 9, 10, 11, 12, 13, 14, 15, 16, 17, 18, 19, 20, 21, 22, 23, 24, 25, 26, 27, 28, 29, 30, 31, 32, 33, 34, 35, 36, 37, 38, 39, 40, 41, 42, 43, 44, 45] (by decide +kernel) (by decide +kernel)) (goodIn_sub (fun _ h => List.mem_cons_of_mem _ (List.mem_append_right _ h)) (by decide +kernel))
set_option maxRecDepth 20000 in
theorem gL_error_X6_error : GoodIn wsL_error (wsV RL 69 RX6 yX6_error wsX6_error) := goodIn_app (goodIn_of _ (by decide +kernel)) ggL_error_X6_error
set_option maxRecDepth 20000 in
theorem ggL_told_X6_told : GoodIn wsL_told wsX6_told := goodIn_ca (goodIn_r _ [6, 7, 8, 9, 10, 11, 12, 13, 14, 15, 16, 17, 18, 19, 5, 20, 21, 22, 23, 24, 25, 26, 27, 28, 29, 30, 31, 32, 33, 34, 35, 36, 37, 38, 39, 40, 41, 42, 43, 44, 45, 46, 47] (by decide +kernel) (by decide +kernel)) (goodIn_sub (fun _ h => List.mem_cons_of_mem _ (List.mem_append_right _ h)) (by decide +kernel))
set_option maxRecDepth 20000 in
theorem gL_told_X6_told : GoodIn wsL_told (wsV RL 73 RX6 yX6_told wsX6_told) := goodIn_app (goodIn_of _ (by decide +kernel)) ggL_told_X6_told
abbrev vwCl : List vw_C := [(RX0, TX0, 6), (RX1, TX1, 4), (RX2, TX2, 3), (RX3, TX3, 1), (RX4, TX4, 4), (RX5, TX5, 9), (RX6, TX6, 9), (RX7, TX7, 34)]


