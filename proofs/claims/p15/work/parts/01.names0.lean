def RX0 : String := "TrueOutlines$Codes"
def TX0 : u_T := fun k => match k with
  | 0 => ("TrueOutlines$Codes", "tables", "LTrueOutlines$Tables;", true)
  | 1 => ("TrueOutlines$Codes", "cmap", "LTrueOutlines$Table;", false)
  | _ => ("TrueOutlines$Codes", "start", "J", false)
def tyX0 : Nat → FieldType := fun k => match k with
  | 0 => .object "TrueOutlines$Tables"
  | 1 => .object "TrueOutlines$Table"
  | _ => .long
theorem nmX0 : ∀ a, a < 3 → ∀ b, b < 3 → a ≠ b → (TX0 a).2.1 ≠ (TX0 b).2.1 := by decide +kernel
theorem tyX0_ok : ∀ k, k < 3 → parseFieldDescriptor (TX0 k).2.2.1 = some (tyX0 k) := by decide +kernel
abbrev cX0_init : ByteArray := prog_2_method_1_code
def yX0_init : MethodName := ⟨RX0, "<init>", "(LTrueOutlines$Tables;)V"⟩
abbrev cX0_find : ByteArray := prog_2_method_2_code
def yX0_find : MethodName := ⟨RX0, "find", "(I)J"⟩
abbrev cX0_two : ByteArray := prog_2_method_3_code
def yX0_two : MethodName := ⟨RX0, "two", "(J)I"⟩
abbrev cX0_four : ByteArray := prog_2_method_4_code
def yX0_four : MethodName := ⟨RX0, "four", "(J)J"⟩
abbrev cX0_findBy : ByteArray := prog_2_method_5_code
def yX0_findBy : MethodName := ⟨RX0, "findBy", "(II)J"⟩
abbrev cX0_findInSegments : ByteArray := prog_2_method_6_code
def yX0_findInSegments : MethodName := ⟨RX0, "findInSegments", "(I)I"⟩
abbrev cX0_findInSegment : ByteArray := prog_2_method_7_code
def yX0_findInSegment : MethodName := ⟨RX0, "findInSegment", "(III)I"⟩
abbrev cX0_findInRow : ByteArray := prog_2_method_8_code
def yX0_findInRow : MethodName := ⟨RX0, "findInRow", "(I)I"⟩
abbrev cX0_findInGroups : ByteArray := prog_2_method_9_code
def yX0_findInGroups : MethodName := ⟨RX0, "findInGroups", "(I)J"⟩
def RX1 : String := "TrueOutlines$Data"
def TX1 : u_T := fun k => match k with
  | 0 => ("TrueOutlines$Data", "row", "LTrueOutlines$Row;", true)
  | 1 => ("TrueOutlines$Data", "empty", "Z", false)
  | 2 => ("TrueOutlines$Data", "past", "Z", false)
  | 3 => ("TrueOutlines$Data", "place", "J", false)
  | 4 => ("TrueOutlines$Data", "end", "J", false)
  | 5 => ("TrueOutlines$Data", "contours", "I", false)
  | 6 => ("TrueOutlines$Data", "flags", "I", false)
  | 7 => ("TrueOutlines$Data", "sign", "I", false)
  | 8 => ("TrueOutlines$Data", "first", "I", false)
  | 9 => ("TrueOutlines$Data", "second", "I", false)
  | 10 => ("TrueOutlines$Data", "a", "I", false)
  | 11 => ("TrueOutlines$Data", "b", "I", false)
  | 12 => ("TrueOutlines$Data", "c", "I", false)
  | _ => ("TrueOutlines$Data", "d", "I", false)
def tyX1 : Nat → FieldType := fun k => match k with
  | 0 => .object "TrueOutlines$Row"
  | 1 => .boolean
  | 2 => .boolean
  | 3 => .long
  | 4 => .long
  | 5 => .int
  | 6 => .int
  | 7 => .int
  | 8 => .int
  | 9 => .int
  | 10 => .int
  | 11 => .int
  | 12 => .int
  | _ => .int
theorem nmX1 : ∀ a, a < 14 → ∀ b, b < 14 → a ≠ b → (TX1 a).2.1 ≠ (TX1 b).2.1 := by decide +kernel
theorem tyX1_ok : ∀ k, k < 14 → parseFieldDescriptor (TX1 k).2.2.1 = some (tyX1 k) := by decide +kernel
abbrev cX1_init : ByteArray := prog_3_method_1_code
def yX1_init : MethodName := ⟨RX1, "<init>", "(LTrueOutlines$Row;)V"⟩
abbrev cX1_open : ByteArray := prog_3_method_2_code
def yX1_open : MethodName := ⟨RX1, "open", "(ZJJ)V"⟩
abbrev cX1_isEmpty : ByteArray := prog_3_method_3_code
def yX1_isEmpty : MethodName := ⟨RX1, "isEmpty", "()Z"⟩
abbrev cX1_hasParts : ByteArray := prog_3_method_4_code
def yX1_hasParts : MethodName := ⟨RX1, "hasParts", "()Z"⟩
abbrev cX1_isPast : ByteArray := prog_3_method_5_code
def yX1_isPast : MethodName := ⟨RX1, "isPast", "()Z"⟩
abbrev cX1_one : ByteArray := prog_3_method_6_code
def yX1_one : MethodName := ⟨RX1, "one", "()I"⟩
abbrev cX1_two : ByteArray := prog_3_method_7_code
def yX1_two : MethodName := ⟨RX1, "two", "()I"⟩
abbrev cX1_signedTwo : ByteArray := prog_3_method_8_code
def yX1_signedTwo : MethodName := ⟨RX1, "signedTwo", "()I"⟩
abbrev cX1_seen : ByteArray := prog_3_method_9_code
def yX1_seen : MethodName := ⟨RX1, "seen", "(II)I"⟩
abbrev cX1_skip : ByteArray := prog_3_method_10_code
def yX1_skip : MethodName := ⟨RX1, "skip", "(I)V"⟩
abbrev cX1_nextPart : ByteArray := prog_3_method_11_code
def yX1_nextPart : MethodName := ⟨RX1, "nextPart", "()Z"⟩
abbrev cX1_nextNumber : ByteArray := prog_3_method_12_code
def yX1_nextNumber : MethodName := ⟨RX1, "nextNumber", "()I"⟩
abbrev cX1_nextScales : ByteArray := prog_3_method_13_code
def yX1_nextScales : MethodName := ⟨RX1, "nextScales", "()V"⟩
abbrev cX1_isMoved : ByteArray := prog_3_method_14_code
def yX1_isMoved : MethodName := ⟨RX1, "isMoved", "()Z"⟩
abbrev cX1_hasMore : ByteArray := prog_3_method_15_code
def yX1_hasMore : MethodName := ⟨RX1, "hasMore", "()Z"⟩
def RX2 : String := "TrueOutlines$Pieces"
def TX2 : u_T := fun k => match k with
  | 0 => ("TrueOutlines$Pieces", "cells", "[I", true)
  | 1 => ("TrueOutlines$Pieces", "size", "I", false)
  | 2 => ("TrueOutlines$Pieces", "penX", "I", false)
  | _ => ("TrueOutlines$Pieces", "penY", "I", false)
def tyX2 : Nat → FieldType := fun k => match k with
  | 0 => .array .int
  | 1 => .int
  | 2 => .int
  | _ => .int
theorem nmX2 : ∀ a, a < 4 → ∀ b, b < 4 → a ≠ b → (TX2 a).2.1 ≠ (TX2 b).2.1 := by decide +kernel
theorem tyX2_ok : ∀ k, k < 4 → parseFieldDescriptor (TX2 k).2.2.1 = some (tyX2 k) := by decide +kernel
abbrev cX2_init : ByteArray := prog_4_method_1_code
def yX2_init : MethodName := ⟨RX2, "<init>", "()V"⟩
abbrev cX2_size : ByteArray := prog_4_method_2_code
def yX2_size : MethodName := ⟨RX2, "size", "()I"⟩
abbrev cX2_has : ByteArray := prog_4_method_3_code
def yX2_has : MethodName := ⟨RX2, "has", "(II)Z"⟩
abbrev cX2_get : ByteArray := prog_4_method_4_code
def yX2_get : MethodName := ⟨RX2, "get", "(II)I"⟩
abbrev cX2_trace : ByteArray := prog_4_method_5_code
def yX2_trace : MethodName := ⟨RX2, "trace", "(LTrueOutlines$Points;)V"⟩
abbrev cX2_traceContour : ByteArray := prog_4_method_6_code
def yX2_traceContour : MethodName := ⟨RX2, "traceContour", "(LTrueOutlines$Points;III)V"⟩
abbrev cX2_firstOn : ByteArray := prog_4_method_7_code
def yX2_firstOn : MethodName := ⟨RX2, "firstOn", "(LTrueOutlines$Points;II)I"⟩
abbrev cX2_tracePoint : ByteArray := prog_4_method_8_code
def yX2_tracePoint : MethodName := ⟨RX2, "tracePoint", "(LTrueOutlines$Points;III)V"⟩
abbrev cX2_put : ByteArray := prog_4_method_9_code
def yX2_put : MethodName := ⟨RX2, "put", "(IIIIII)V"⟩
def RX3 : String := "TrueOutlines$Points"
def TX3 : u_T := fun k => match k with
  | 0 => ("TrueOutlines$Points", "x", "[I", true)
  | 1 => ("TrueOutlines$Points", "y", "[I", true)
  | 2 => ("TrueOutlines$Points", "flags", "[I", true)
  | 3 => ("TrueOutlines$Points", "lasts", "[I", true)
  | 4 => ("TrueOutlines$Points", "size", "I", false)
  | _ => ("TrueOutlines$Points", "contours", "I", false)
def tyX3 : Nat → FieldType := fun k => match k with
  | 0 => .array .int
  | 1 => .array .int
  | 2 => .array .int
  | 3 => .array .int
  | 4 => .int
  | _ => .int
theorem nmX3 : ∀ a, a < 6 → ∀ b, b < 6 → a ≠ b → (TX3 a).2.1 ≠ (TX3 b).2.1 := by decide +kernel
theorem tyX3_ok : ∀ k, k < 6 → parseFieldDescriptor (TX3 k).2.2.1 = some (tyX3 k) := by decide +kernel
abbrev cX3_init : ByteArray := prog_5_method_1_code
def yX3_init : MethodName := ⟨RX3, "<init>", "()V"⟩
abbrev cX3_size : ByteArray := prog_5_method_2_code
def yX3_size : MethodName := ⟨RX3, "size", "()I"⟩
abbrev cX3_contours : ByteArray := prog_5_method_3_code
def yX3_contours : MethodName := ⟨RX3, "contours", "()I"⟩
abbrev cX3_has : ByteArray := prog_5_method_4_code
def yX3_has : MethodName := ⟨RX3, "has", "(I)Z"⟩
abbrev cX3_x : ByteArray := prog_5_method_5_code
def yX3_x : MethodName := ⟨RX3, "x", "(I)I"⟩
abbrev cX3_y : ByteArray := prog_5_method_6_code
def yX3_y : MethodName := ⟨RX3, "y", "(I)I"⟩
abbrev cX3_isOn : ByteArray := prog_5_method_7_code
def yX3_isOn : MethodName := ⟨RX3, "isOn", "(I)Z"⟩
abbrev cX3_lastOf : ByteArray := prog_5_method_8_code
def yX3_lastOf : MethodName := ⟨RX3, "lastOf", "(I)I"⟩
abbrev cX3_keep : ByteArray := prog_5_method_9_code
def yX3_keep : MethodName := ⟨RX3, "keep", "(II)V"⟩
abbrev cX3_take : ByteArray := prog_5_method_10_code
def yX3_take : MethodName := ⟨RX3, "take", "(LTrueOutlines$Data;)Z"⟩
abbrev cX3_takeContours : ByteArray := prog_5_method_11_code
def yX3_takeContours : MethodName := ⟨RX3, "takeContours", "(LTrueOutlines$Data;I)Z"⟩
abbrev cX3_takeFlags : ByteArray := prog_5_method_12_code
def yX3_takeFlags : MethodName := ⟨RX3, "takeFlags", "(LTrueOutlines$Data;I)Z"⟩
abbrev cX3_takeAxis : ByteArray := prog_5_method_13_code
def yX3_takeAxis : MethodName := ⟨RX3, "takeAxis", "(LTrueOutlines$Data;[IIII)V"⟩
abbrev cX3_scale : ByteArray := prog_5_method_14_code
def yX3_scale : MethodName := ⟨RX3, "scale", "(ILTrueOutlines$Data;)V"⟩
abbrev cX3_wholes : ByteArray := prog_5_method_15_code
def yX3_wholes : MethodName := ⟨RX3, "wholes", "(J)I"⟩
abbrev cX3_move : ByteArray := prog_5_method_16_code
def yX3_move : MethodName := ⟨RX3, "move", "(III)V"⟩
def RX4 : String := "TrueOutlines$Row"
def TX4 : u_T := fun k => match k with
  | 0 => ("TrueOutlines$Row", "cells", "[I", true)
  | _ => ("TrueOutlines$Row", "size", "I", false)
def tyX4 : Nat → FieldType := fun k => match k with
  | 0 => .array .int
  | _ => .int
theorem nmX4 : ∀ a, a < 2 → ∀ b, b < 2 → a ≠ b → (TX4 a).2.1 ≠ (TX4 b).2.1 := by decide +kernel
theorem tyX4_ok : ∀ k, k < 2 → parseFieldDescriptor (TX4 k).2.2.1 = some (tyX4 k) := by decide +kernel
abbrev cX4_init : ByteArray := prog_6_method_1_code
def yX4_init : MethodName := ⟨RX4, "<init>", "([I)V"⟩
abbrev cX4_size : ByteArray := prog_6_method_2_code
def yX4_size : MethodName := ⟨RX4, "size", "()I"⟩
abbrev cX4_clear : ByteArray := prog_6_method_3_code
def yX4_clear : MethodName := ⟨RX4, "clear", "()V"⟩
abbrev cX4_push : ByteArray := prog_6_method_4_code
def yX4_push : MethodName := ⟨RX4, "push", "(I)V"⟩
abbrev cX4_pushTwo : ByteArray := prog_6_method_5_code
def yX4_pushTwo : MethodName := ⟨RX4, "pushTwo", "(I)V"⟩
abbrev cX4_pushFour : ByteArray := prog_6_method_6_code
def yX4_pushFour : MethodName := ⟨RX4, "pushFour", "(I)V"⟩
abbrev cX4_setFour : ByteArray := prog_6_method_7_code
def yX4_setFour : MethodName := ⟨RX4, "setFour", "(IJ)V"⟩
abbrev cX4_one : ByteArray := prog_6_method_8_code
def yX4_one : MethodName := ⟨RX4, "one", "(JJ)I"⟩
abbrev cX4_two : ByteArray := prog_6_method_9_code
def yX4_two : MethodName := ⟨RX4, "two", "(JJ)I"⟩
abbrev cX4_four : ByteArray := prog_6_method_10_code
def yX4_four : MethodName := ⟨RX4, "four", "(JJ)J"⟩
def RX5 : String := "TrueOutlines$Shaper"
def TX5 : u_T := fun k => match k with
  | 0 => ("TrueOutlines$Shaper", "signs", "LTrueOutlines$Signs;", true)
  | 1 => ("TrueOutlines$Shaper", "telling", "LTrueOutlines$Telling;", true)
  | 2 => ("TrueOutlines$Shaper", "points", "LTrueOutlines$Points;", true)
  | 3 => ("TrueOutlines$Shaper", "tried", "LTrueOutlines$Points;", true)
  | 4 => ("TrueOutlines$Shaper", "levels", "[LTrueOutlines$Data;", true)
  | 5 => ("TrueOutlines$Shaper", "opened", "[I", true)
  | 6 => ("TrueOutlines$Shaper", "openings", "[I", true)
  | 7 => ("TrueOutlines$Shaper", "yields", "[I", true)
  | 8 => ("TrueOutlines$Shaper", "barren", "[I", true)
  | _ => ("TrueOutlines$Shaper", "lastOpening", "I", false)
def tyX5 : Nat → FieldType := fun k => match k with
  | 0 => .object "TrueOutlines$Signs"
  | 1 => .object "TrueOutlines$Telling"
  | 2 => .object "TrueOutlines$Points"
  | 3 => .object "TrueOutlines$Points"
  | 4 => .array (.object "TrueOutlines$Data")
  | 5 => .array .int
  | 6 => .array .int
  | 7 => .array .int
  | 8 => .array .int
  | _ => .int
theorem nmX5 : ∀ a, a < 10 → ∀ b, b < 10 → a ≠ b → (TX5 a).2.1 ≠ (TX5 b).2.1 := by decide +kernel
theorem tyX5_ok : ∀ k, k < 10 → parseFieldDescriptor (TX5 k).2.2.1 = some (tyX5 k) := by decide +kernel
abbrev cX5_init : ByteArray := prog_7_method_1_code
def yX5_init : MethodName := ⟨RX5, "<init>", "(LTrueOutlines$Row;LTrueOutlines$Signs;LTrueOutlines$Telling;)V"⟩
abbrev cX5_points : ByteArray := prog_7_method_2_code
def yX5_points : MethodName := ⟨RX5, "points", "()LTrueOutlines$Points;"⟩
abbrev cX5_make : ByteArray := prog_7_method_3_code
def yX5_make : MethodName := ⟨RX5, "make", "(I)V"⟩
abbrev cX5_shape : ByteArray := prog_7_method_4_code
def yX5_shape : MethodName := ⟨RX5, "shape", "(II)V"⟩
abbrev cX5_shapeParts : ByteArray := prog_7_method_5_code
def yX5_shapeParts : MethodName := ⟨RX5, "shapeParts", "(ILTrueOutlines$Data;)Z"⟩
abbrev cX5_shapePart : ByteArray := prog_7_method_6_code
def yX5_shapePart : MethodName := ⟨RX5, "shapePart", "(ILTrueOutlines$Data;I)V"⟩
abbrev cX5_isOpened : ByteArray := prog_7_method_7_code
def yX5_isOpened : MethodName := ⟨RX5, "isOpened", "(II)Z"⟩
abbrev cX5_join : ByteArray := prog_7_method_8_code
def yX5_join : MethodName := ⟨RX5, "join", "(LTrueOutlines$Data;II)V"⟩
abbrev cX5_matters : ByteArray := prog_7_method_9_code
def yX5_matters : MethodName := ⟨RX5, "matters", "(II)Z"⟩
abbrev cX5_keepIfBarren : ByteArray := prog_7_method_10_code
def yX5_keepIfBarren : MethodName := ⟨RX5, "keepIfBarren", "(IIZ)V"⟩
abbrev cX5_cellOf : ByteArray := prog_7_method_11_code
def yX5_cellOf : MethodName := ⟨RX5, "cellOf", "(II)I"⟩
abbrev cX5_yieldAt : ByteArray := prog_7_method_12_code
def yX5_yieldAt : MethodName := ⟨RX5, "yieldAt", "(II)I"⟩
abbrev cX5_survey : ByteArray := prog_7_method_13_code
def yX5_survey : MethodName := ⟨RX5, "survey", "()V"⟩
abbrev cX5_yieldOf : ByteArray := prog_7_method_14_code
def yX5_yieldOf : MethodName := ⟨RX5, "yieldOf", "(II)I"⟩
abbrev cX5_yieldOfSimple : ByteArray := prog_7_method_15_code
def yX5_yieldOfSimple : MethodName := ⟨RX5, "yieldOfSimple", "(LTrueOutlines$Data;)I"⟩
abbrev cX5_yieldOfParts : ByteArray := prog_7_method_16_code
def yX5_yieldOfParts : MethodName := ⟨RX5, "yieldOfParts", "(ILTrueOutlines$Data;)I"⟩
def RX6 : String := "TrueOutlines$Signs"
def TX6 : u_T := fun k => match k with
  | 0 => ("TrueOutlines$Signs", "tables", "LTrueOutlines$Tables;", true)
  | 1 => ("TrueOutlines$Signs", "data", "LTrueOutlines$Data;", true)
  | 2 => ("TrueOutlines$Signs", "isUsed", "[Z", true)
  | 3 => ("TrueOutlines$Signs", "inOrder", "[I", true)
  | 4 => ("TrueOutlines$Signs", "used", "I", false)
  | 5 => ("TrueOutlines$Signs", "size", "I", false)
  | 6 => ("TrueOutlines$Signs", "cutShort", "Z", false)
  | 7 => ("TrueOutlines$Signs", "longPlaces", "Z", false)
  | 8 => ("TrueOutlines$Signs", "loca", "LTrueOutlines$Table;", false)
  | _ => ("TrueOutlines$Signs", "glyf", "LTrueOutlines$Table;", false)
def tyX6 : Nat → FieldType := fun k => match k with
  | 0 => .object "TrueOutlines$Tables"
  | 1 => .object "TrueOutlines$Data"
  | 2 => .array .boolean
  | 3 => .array .int
  | 4 => .int
  | 5 => .int
  | 6 => .boolean
  | 7 => .boolean
  | 8 => .object "TrueOutlines$Table"
  | _ => .object "TrueOutlines$Table"
theorem nmX6 : ∀ a, a < 10 → ∀ b, b < 10 → a ≠ b → (TX6 a).2.1 ≠ (TX6 b).2.1 := by decide +kernel
theorem tyX6_ok : ∀ k, k < 10 → parseFieldDescriptor (TX6 k).2.2.1 = some (tyX6 k) := by decide +kernel
abbrev cX6_init : ByteArray := prog_8_method_1_code
def yX6_init : MethodName := ⟨RX6, "<init>", "(LTrueOutlines$Row;LTrueOutlines$Tables;)V"⟩
abbrev cX6_load : ByteArray := prog_8_method_2_code
def yX6_load : MethodName := ⟨RX6, "load", "()V"⟩
abbrev cX6_size : ByteArray := prog_8_method_3_code
def yX6_size : MethodName := ⟨RX6, "size", "()I"⟩
abbrev cX6_has : ByteArray := prog_8_method_4_code
def yX6_has : MethodName := ⟨RX6, "has", "(I)Z"⟩
abbrev cX6_areCutShort : ByteArray := prog_8_method_5_code
def yX6_areCutShort : MethodName := ⟨RX6, "areCutShort", "()Z"⟩
abbrev cX6_haveLongPlaces : ByteArray := prog_8_method_6_code
def yX6_haveLongPlaces : MethodName := ⟨RX6, "haveLongPlaces", "()Z"⟩
abbrev cX6_placeAt : ByteArray := prog_8_method_7_code
def yX6_placeAt : MethodName := ⟨RX6, "placeAt", "(I)J"⟩
abbrev cX6_open : ByteArray := prog_8_method_8_code
def yX6_open : MethodName := ⟨RX6, "open", "(ILTrueOutlines$Data;)V"⟩
abbrev cX6_sizeToWrite : ByteArray := prog_8_method_9_code
def yX6_sizeToWrite : MethodName := ⟨RX6, "sizeToWrite", "(I)I"⟩
abbrev cX6_used : ByteArray := prog_8_method_10_code
def yX6_used : MethodName := ⟨RX6, "used", "()I"⟩
abbrev cX6_use : ByteArray := prog_8_method_11_code
def yX6_use : MethodName := ⟨RX6, "use", "(I)V"⟩
abbrev cX6_mark : ByteArray := prog_8_method_12_code
def yX6_mark : MethodName := ⟨RX6, "mark", "(I)V"⟩
abbrev cX6_markPartsOf : ByteArray := prog_8_method_13_code
def yX6_markPartsOf : MethodName := ⟨RX6, "markPartsOf", "(I)V"⟩
def RX7 : String := "TrueOutlines$Table"
def TX7 : u_T := fun k => match k with
  | 0 => ("TrueOutlines$Table", "row", "LTrueOutlines$Row;", true)
  | 1 => ("TrueOutlines$Table", "tag", "J", false)
  | 2 => ("TrueOutlines$Table", "sum", "J", false)
  | 3 => ("TrueOutlines$Table", "place", "I", false)
  | _ => ("TrueOutlines$Table", "length", "I", false)
def tyX7 : Nat → FieldType := fun k => match k with
  | 0 => .object "TrueOutlines$Row"
  | 1 => .long
  | 2 => .long
  | 3 => .int
  | _ => .int
theorem nmX7 : ∀ a, a < 5 → ∀ b, b < 5 → a ≠ b → (TX7 a).2.1 ≠ (TX7 b).2.1 := by decide +kernel
theorem tyX7_ok : ∀ k, k < 5 → parseFieldDescriptor (TX7 k).2.2.1 = some (tyX7 k) := by decide +kernel
abbrev cX7_init : ByteArray := prog_9_method_1_code
def yX7_init : MethodName := ⟨RX7, "<init>", "(LTrueOutlines$Row;)V"⟩
abbrev cX7_set : ByteArray := prog_9_method_2_code
def yX7_set : MethodName := ⟨RX7, "set", "(JJII)V"⟩
abbrev cX7_end : ByteArray := prog_9_method_3_code
def yX7_end : MethodName := ⟨RX7, "end", "()J"⟩
abbrev cX7_one : ByteArray := prog_9_method_4_code
def yX7_one : MethodName := ⟨RX7, "one", "(J)I"⟩
abbrev cX7_two : ByteArray := prog_9_method_5_code
def yX7_two : MethodName := ⟨RX7, "two", "(J)I"⟩
abbrev cX7_four : ByteArray := prog_9_method_6_code
def yX7_four : MethodName := ⟨RX7, "four", "(J)J"⟩
abbrev cX7_total : ByteArray := prog_9_method_7_code
def yX7_total : MethodName := ⟨RX7, "total", "(Z)J"⟩
def RX8 : String := "TrueOutlines$Tables"
def TX8 : u_T := fun k => match k with
  | 0 => ("TrueOutlines$Tables", "file", "LTrueOutlines$Row;", true)
  | 1 => ("TrueOutlines$Tables", "entries", "[LTrueOutlines$Table;", true)
  | 2 => ("TrueOutlines$Tables", "absent", "LTrueOutlines$Table;", true)
  | _ => ("TrueOutlines$Tables", "size", "I", false)
def tyX8 : Nat → FieldType := fun k => match k with
  | 0 => .object "TrueOutlines$Row"
  | 1 => .array (.object "TrueOutlines$Table")
  | 2 => .object "TrueOutlines$Table"
  | _ => .int
theorem nmX8 : ∀ a, a < 4 → ∀ b, b < 4 → a ≠ b → (TX8 a).2.1 ≠ (TX8 b).2.1 := by decide +kernel
theorem tyX8_ok : ∀ k, k < 4 → parseFieldDescriptor (TX8 k).2.2.1 = some (tyX8 k) := by decide +kernel
abbrev cX8_init : ByteArray := prog_10_method_1_code
def yX8_init : MethodName := ⟨RX8, "<init>", "(LTrueOutlines$Row;)V"⟩
abbrev cX8_size : ByteArray := prog_10_method_2_code
def yX8_size : MethodName := ⟨RX8, "size", "()I"⟩
abbrev cX8_has : ByteArray := prog_10_method_3_code
def yX8_has : MethodName := ⟨RX8, "has", "(I)Z"⟩
abbrev cX8_get : ByteArray := prog_10_method_4_code
def yX8_get : MethodName := ⟨RX8, "get", "(I)LTrueOutlines$Table;"⟩
abbrev cX8_indexOf : ByteArray := prog_10_method_5_code
def yX8_indexOf : MethodName := ⟨RX8, "indexOf", "(J)I"⟩
abbrev cX8_first : ByteArray := prog_10_method_6_code
def yX8_first : MethodName := ⟨RX8, "first", "(J)LTrueOutlines$Table;"⟩
abbrev cX8_isThere : ByteArray := prog_10_method_7_code
def yX8_isThere : MethodName := ⟨RX8, "isThere", "(J)Z"⟩
abbrev cX8_totalOf : ByteArray := prog_10_method_8_code
def yX8_totalOf : MethodName := ⟨RX8, "totalOf", "(I)J"⟩
abbrev cX8_load : ByteArray := prog_10_method_9_code
def yX8_load : MethodName := ⟨RX8, "load", "()I"⟩
abbrev cX8_loadEntry : ByteArray := prog_10_method_10_code
def yX8_loadEntry : MethodName := ⟨RX8, "loadEntry", "(I)Z"⟩
abbrev cX8_tellWrongSums : ByteArray := prog_10_method_11_code
def yX8_tellWrongSums : MethodName := ⟨RX8, "tellWrongSums", "(LTrueOutlines$Telling;)V"⟩
def RX9 : String := "TrueOutlines$Telling"
def TX9 : u_T := fun k => match k with
  | 0 => ("TrueOutlines$Telling", "kinds", "[I", true)
  | 1 => ("TrueOutlines$Telling", "numbers", "[I", true)
  | _ => ("TrueOutlines$Telling", "size", "I", false)
def tyX9 : Nat → FieldType := fun k => match k with
  | 0 => .array .int
  | 1 => .array .int
  | _ => .int
theorem nmX9 : ∀ a, a < 3 → ∀ b, b < 3 → a ≠ b → (TX9 a).2.1 ≠ (TX9 b).2.1 := by decide +kernel
theorem tyX9_ok : ∀ k, k < 3 → parseFieldDescriptor (TX9 k).2.2.1 = some (tyX9 k) := by decide +kernel
abbrev cX9_init : ByteArray := prog_11_method_1_code
def yX9_init : MethodName := ⟨RX9, "<init>", "()V"⟩
abbrev cX9_size : ByteArray := prog_11_method_2_code
def yX9_size : MethodName := ⟨RX9, "size", "()I"⟩
abbrev cX9_isFull : ByteArray := prog_11_method_3_code
def yX9_isFull : MethodName := ⟨RX9, "isFull", "()Z"⟩
abbrev cX9_clear : ByteArray := prog_11_method_4_code
def yX9_clear : MethodName := ⟨RX9, "clear", "()V"⟩
abbrev cX9_tell : ByteArray := prog_11_method_5_code
def yX9_tell : MethodName := ⟨RX9, "tell", "(II)V"⟩
abbrev cX9_has : ByteArray := prog_11_method_6_code
def yX9_has : MethodName := ⟨RX9, "has", "(II)Z"⟩
abbrev cX9_get : ByteArray := prog_11_method_7_code
def yX9_get : MethodName := ⟨RX9, "get", "(II)I"⟩
def RX10 : String := "TrueOutlines$Writer"
def TX10 : u_T := fun k => match k with
  | 0 => ("TrueOutlines$Writer", "file", "LTrueOutlines$Row;", true)
  | 1 => ("TrueOutlines$Writer", "tables", "LTrueOutlines$Tables;", true)
  | 2 => ("TrueOutlines$Writer", "signs", "LTrueOutlines$Signs;", true)
  | 3 => ("TrueOutlines$Writer", "out", "LTrueOutlines$Row;", true)
  | 4 => ("TrueOutlines$Writer", "stretch", "LTrueOutlines$Table;", true)
  | 5 => ("TrueOutlines$Writer", "order", "[I", true)
  | 6 => ("TrueOutlines$Writer", "sizes", "[I", true)
  | 7 => ("TrueOutlines$Writer", "places", "[I", true)
  | _ => ("TrueOutlines$Writer", "headPlace", "I", false)
def tyX10 : Nat → FieldType := fun k => match k with
  | 0 => .object "TrueOutlines$Row"
  | 1 => .object "TrueOutlines$Tables"
  | 2 => .object "TrueOutlines$Signs"
  | 3 => .object "TrueOutlines$Row"
  | 4 => .object "TrueOutlines$Table"
  | 5 => .array .int
  | 6 => .array .int
  | 7 => .array .int
  | _ => .int
theorem nmX10 : ∀ a, a < 9 → ∀ b, b < 9 → a ≠ b → (TX10 a).2.1 ≠ (TX10 b).2.1 := by decide +kernel
theorem tyX10_ok : ∀ k, k < 9 → parseFieldDescriptor (TX10 k).2.2.1 = some (tyX10 k) := by decide +kernel
abbrev cX10_init : ByteArray := prog_12_method_1_code
def yX10_init : MethodName := ⟨RX10, "<init>", "(LTrueOutlines$Row;LTrueOutlines$Tables;LTrueOutlines$Signs;)V"⟩
abbrev cX10_one : ByteArray := prog_12_method_2_code
def yX10_one : MethodName := ⟨RX10, "one", "(I)I"⟩
abbrev cX10_make : ByteArray := prog_12_method_3_code
def yX10_make : MethodName := ⟨RX10, "make", "()I"⟩
abbrev cX10_isPossible : ByteArray := prog_12_method_4_code
def yX10_isPossible : MethodName := ⟨RX10, "isPossible", "()Z"⟩
abbrev cX10_findPlaces : ByteArray := prog_12_method_5_code
def yX10_findPlaces : MethodName := ⟨RX10, "findPlaces", "()V"⟩
abbrev cX10_newSize : ByteArray := prog_12_method_6_code
def yX10_newSize : MethodName := ⟨RX10, "newSize", "()I"⟩
abbrev cX10_padded : ByteArray := prog_12_method_7_code
def yX10_padded : MethodName := ⟨RX10, "padded", "(I)I"⟩
abbrev cX10_newLength : ByteArray := prog_12_method_8_code
def yX10_newLength : MethodName := ⟨RX10, "newLength", "(I)I"⟩
abbrev cX10_sortByTags : ByteArray := prog_12_method_9_code
def yX10_sortByTags : MethodName := ⟨RX10, "sortByTags", "()V"⟩
abbrev cX10_putHeader : ByteArray := prog_12_method_10_code
def yX10_putHeader : MethodName := ⟨RX10, "putHeader", "()V"⟩
abbrev cX10_putTable : ByteArray := prog_12_method_11_code
def yX10_putTable : MethodName := ⟨RX10, "putTable", "(II)V"⟩
abbrev cX10_putBody : ByteArray := prog_12_method_12_code
def yX10_putBody : MethodName := ⟨RX10, "putBody", "(I)V"⟩
abbrev cX10_putBytes : ByteArray := prog_12_method_13_code
def yX10_putBytes : MethodName := ⟨RX10, "putBytes", "(LTrueOutlines$Table;JI)V"⟩
abbrev cX10_putHead : ByteArray := prog_12_method_14_code
def yX10_putHead : MethodName := ⟨RX10, "putHead", "(LTrueOutlines$Table;)V"⟩
abbrev cX10_putGlyf : ByteArray := prog_12_method_15_code
def yX10_putGlyf : MethodName := ⟨RX10, "putGlyf", "(LTrueOutlines$Table;)V"⟩
abbrev cX10_putLoca : ByteArray := prog_12_method_16_code
def yX10_putLoca : MethodName := ⟨RX10, "putLoca", "()V"⟩
abbrev cX10_putFileSum : ByteArray := prog_12_method_17_code
def yX10_putFileSum : MethodName := ⟨RX10, "putFileSum", "()V"⟩
def RX11 : String := "TrueOutlines"
def TX11 : u_T := fun k => match k with
  | 0 => ("TrueOutlines", "file", "LTrueOutlines$Row;", true)
  | 1 => ("TrueOutlines", "telling", "LTrueOutlines$Telling;", true)
  | 2 => ("TrueOutlines", "tables", "LTrueOutlines$Tables;", true)
  | 3 => ("TrueOutlines", "signs", "LTrueOutlines$Signs;", true)
  | 4 => ("TrueOutlines", "codes", "LTrueOutlines$Codes;", true)
  | 5 => ("TrueOutlines", "shaper", "LTrueOutlines$Shaper;", true)
  | 6 => ("TrueOutlines", "pieces", "LTrueOutlines$Pieces;", true)
  | _ => ("TrueOutlines", "writer", "LTrueOutlines$Writer;", true)
def tyX11 : Nat → FieldType := fun k => match k with
  | 0 => .object "TrueOutlines$Row"
  | 1 => .object "TrueOutlines$Telling"
  | 2 => .object "TrueOutlines$Tables"
  | 3 => .object "TrueOutlines$Signs"
  | 4 => .object "TrueOutlines$Codes"
  | 5 => .object "TrueOutlines$Shaper"
  | 6 => .object "TrueOutlines$Pieces"
  | _ => .object "TrueOutlines$Writer"
theorem nmX11 : ∀ a, a < 8 → ∀ b, b < 8 → a ≠ b → (TX11 a).2.1 ≠ (TX11 b).2.1 := by decide +kernel
theorem tyX11_ok : ∀ k, k < 8 → parseFieldDescriptor (TX11 k).2.2.1 = some (tyX11 k) := by decide +kernel
abbrev cX11_init : ByteArray := prog_1_method_1_code
def yX11_init : MethodName := ⟨RX11, "<init>", "()V"⟩
abbrev cX11_add : ByteArray := prog_1_method_2_code
def yX11_add : MethodName := ⟨RX11, "add", "(JI)I"⟩
abbrev cX11_read : ByteArray := prog_1_method_3_code
def yX11_read : MethodName := ⟨RX11, "read", "()I"⟩
abbrev cX11_octet : ByteArray := prog_1_method_4_code
def yX11_octet : MethodName := ⟨RX11, "octet", "(II)I"⟩
abbrev cX11_sum : ByteArray := prog_1_method_5_code
def yX11_sum : MethodName := ⟨RX11, "sum", "(I)J"⟩
abbrev cX11_count : ByteArray := prog_1_method_6_code
def yX11_count : MethodName := ⟨RX11, "count", "(I)I"⟩
abbrev cX11_map : ByteArray := prog_1_method_7_code
def yX11_map : MethodName := ⟨RX11, "map", "(I)I"⟩
abbrev cX11_run : ByteArray := prog_1_method_8_code
def yX11_run : MethodName := ⟨RX11, "run", "(I)I"⟩
abbrev cX11_piece : ByteArray := prog_1_method_9_code
def yX11_piece : MethodName := ⟨RX11, "piece", "(II)I"⟩
abbrev cX11_told : ByteArray := prog_1_method_10_code
def yX11_told : MethodName := ⟨RX11, "told", "(II)I"⟩
abbrev cX11_width : ByteArray := prog_1_method_11_code
def yX11_width : MethodName := ⟨RX11, "width", "(I)I"⟩
abbrev cX11_kern : ByteArray := prog_1_method_12_code
def yX11_kern : MethodName := ⟨RX11, "kern", "(II)I"⟩
abbrev cX11_scaled : ByteArray := prog_1_method_13_code
def yX11_scaled : MethodName := ⟨RX11, "scaled", "(II)J"⟩
abbrev cX11_cut : ByteArray := prog_1_method_14_code
def yX11_cut : MethodName := ⟨RX11, "cut", "(I)I"⟩
abbrev cX11_write : ByteArray := prog_1_method_15_code
def yX11_write : MethodName := ⟨RX11, "write", "()I"⟩
abbrev cX11_at : ByteArray := prog_1_method_16_code
def yX11_at : MethodName := ⟨RX11, "at", "(I)I"⟩
abbrev cX11_signed : ByteArray := prog_1_method_17_code
def yX11_signed : MethodName := ⟨RX11, "signed", "(I)I"⟩
def RX12 : String := "TrueOutlinesModel"
def TX12 : u_T := fun k => match k with
  | 0 => ("TrueOutlinesModel", "code", "I", false)
  | 1 => ("TrueOutlinesModel", "file", "[I", true)
  | 2 => ("TrueOutlinesModel", "size", "I", false)
  | 3 => ("TrueOutlinesModel", "tables", "I", false)
  | 4 => ("TrueOutlinesModel", "tags", "[J", true)
  | 5 => ("TrueOutlinesModel", "sums", "[J", true)
  | 6 => ("TrueOutlinesModel", "starts", "[I", true)
  | 7 => ("TrueOutlinesModel", "lengths", "[I", true)
  | 8 => ("TrueOutlinesModel", "past", "Z", false)
  | 9 => ("TrueOutlinesModel", "used", "[Z", true)
  | 10 => ("TrueOutlinesModel", "open", "[Z", true)
  | 11 => ("TrueOutlinesModel", "tolds", "I", false)
  | 12 => ("TrueOutlinesModel", "toldKinds", "[I", true)
  | 13 => ("TrueOutlinesModel", "toldNumbers", "[I", true)
  | 14 => ("TrueOutlinesModel", "points", "I", false)
  | 15 => ("TrueOutlinesModel", "xs", "[I", true)
  | 16 => ("TrueOutlinesModel", "ys", "[I", true)
  | 17 => ("TrueOutlinesModel", "ons", "[Z", true)
  | 18 => ("TrueOutlinesModel", "contours", "I", false)
  | 19 => ("TrueOutlinesModel", "lasts", "[I", true)
  | 20 => ("TrueOutlinesModel", "flags", "[I", true)
  | 21 => ("TrueOutlinesModel", "dataFrom", "I", false)
  | 22 => ("TrueOutlinesModel", "dataTo", "I", false)
  | 23 => ("TrueOutlinesModel", "isEmpty", "Z", false)
  | 24 => ("TrueOutlinesModel", "depth", "I", false)
  | 25 => ("TrueOutlinesModel", "frameSign", "[I", true)
  | 26 => ("TrueOutlinesModel", "framePlace", "[I", true)
  | 27 => ("TrueOutlinesModel", "framePoints", "[I", true)
  | 28 => ("TrueOutlinesModel", "frameContours", "[I", true)
  | 29 => ("TrueOutlinesModel", "frameMore", "[Z", true)
  | 30 => ("TrueOutlinesModel", "childSign", "[I", true)
  | 31 => ("TrueOutlinesModel", "childPoints", "[I", true)
  | 32 => ("TrueOutlinesModel", "partFlags", "[I", true)
  | 33 => ("TrueOutlinesModel", "partOne", "[I", true)
  | 34 => ("TrueOutlinesModel", "partTwo", "[I", true)
  | 35 => ("TrueOutlinesModel", "scales", "[I", true)
  | 36 => ("TrueOutlinesModel", "pieces", "I", false)
  | 37 => ("TrueOutlinesModel", "pieceCells", "[I", true)
  | 38 => ("TrueOutlinesModel", "writtenBytes", "I", false)
  | 39 => ("TrueOutlinesModel", "written", "[I", true)
  | 40 => ("TrueOutlinesModel", "order", "[I", true)
  | 41 => ("TrueOutlinesModel", "full", "Z", false)
  | _ => ("TrueOutlinesModel", "moved", "I", false)
def tyX12 : Nat → FieldType := fun k => match k with
  | 0 => .int
  | 1 => .array .int
  | 2 => .int
  | 3 => .int
  | 4 => .array .long
  | 5 => .array .long
  | 6 => .array .int
  | 7 => .array .int
  | 8 => .boolean
  | 9 => .array .boolean
  | 10 => .array .boolean
  | 11 => .int
  | 12 => .array .int
  | 13 => .array .int
  | 14 => .int
  | 15 => .array .int
  | 16 => .array .int
  | 17 => .array .boolean
  | 18 => .int
  | 19 => .array .int
  | 20 => .array .int
  | 21 => .int
  | 22 => .int
  | 23 => .boolean
  | 24 => .int
  | 25 => .array .int
  | 26 => .array .int
  | 27 => .array .int
  | 28 => .array .int
  | 29 => .array .boolean
  | 30 => .array .int
  | 31 => .array .int
  | 32 => .array .int
  | 33 => .array .int
  | 34 => .array .int
  | 35 => .array .int
  | 36 => .int
  | 37 => .array .int
  | 38 => .int
  | 39 => .array .int
  | 40 => .array .int
  | 41 => .boolean
  | _ => .int
theorem nmX12 : ∀ a, a < 43 → ∀ b, b < 43 → a ≠ b → (TX12 a).2.1 ≠ (TX12 b).2.1 := by decide +kernel
theorem tyX12_ok : ∀ k, k < 43 → parseFieldDescriptor (TX12 k).2.2.1 = some (tyX12 k) := by decide +kernel
abbrev cX12_init : ByteArray := prog_14_method_1_code
def yX12_init : MethodName := ⟨RX12, "<init>", "()V"⟩
abbrev cX12_in : ByteArray := prog_14_method_3_code
def yX12_in : MethodName := ⟨RX12, "in", "(JJJ)Z"⟩
abbrev cX12_add : ByteArray := prog_14_method_4_code
def yX12_add : MethodName := ⟨RX12, "add", "(JI)I"⟩
abbrev cX12_fourAt : ByteArray := prog_14_method_5_code
def yX12_fourAt : MethodName := ⟨RX12, "fourAt", "(I)J"⟩
abbrev cX12_twoAt : ByteArray := prog_14_method_6_code
def yX12_twoAt : MethodName := ⟨RX12, "twoAt", "(I)I"⟩
abbrev cX12_find : ByteArray := prog_14_method_7_code
def yX12_find : MethodName := ⟨RX12, "find", "(J)I"⟩
abbrev cX12_number : ByteArray := prog_14_method_8_code
def yX12_number : MethodName := ⟨RX12, "number", "(IJI)J"⟩
abbrev cX12_two : ByteArray := prog_14_method_9_code
def yX12_two : MethodName := ⟨RX12, "two", "(IJ)I"⟩
abbrev cX12_signed : ByteArray := prog_14_method_10_code
def yX12_signed : MethodName := ⟨RX12, "signed", "(I)I"⟩
abbrev cX12_sumOf : ByteArray := prog_14_method_11_code
def yX12_sumOf : MethodName := ⟨RX12, "sumOf", "(I)J"⟩
abbrev cX12_tell : ByteArray := prog_14_method_12_code
def yX12_tell : MethodName := ⟨RX12, "tell", "(II)V"⟩
abbrev cX12_forgetRun : ByteArray := prog_14_method_13_code
def yX12_forgetRun : MethodName := ⟨RX12, "forgetRun", "()V"⟩
abbrev cX12_read : ByteArray := prog_14_method_14_code
def yX12_read : MethodName := ⟨RX12, "read", "()I"⟩
abbrev cX12_octet : ByteArray := prog_14_method_15_code
def yX12_octet : MethodName := ⟨RX12, "octet", "(II)I"⟩
abbrev cX12_sum : ByteArray := prog_14_method_16_code
def yX12_sum : MethodName := ⟨RX12, "sum", "(I)J"⟩
abbrev cX12_signs : ByteArray := prog_14_method_17_code
def yX12_signs : MethodName := ⟨RX12, "signs", "()I"⟩
abbrev cX12_isSign : ByteArray := prog_14_method_18_code
def yX12_isSign : MethodName := ⟨RX12, "isSign", "(I)Z"⟩
abbrev cX12_count : ByteArray := prog_14_method_19_code
def yX12_count : MethodName := ⟨RX12, "count", "(I)I"⟩
abbrev cX12_locaAt : ByteArray := prog_14_method_20_code
def yX12_locaAt : MethodName := ⟨RX12, "locaAt", "(I)J"⟩
abbrev cX12_lookData : ByteArray := prog_14_method_21_code
def yX12_lookData : MethodName := ⟨RX12, "lookData", "(I)Z"⟩
abbrev cX12_data : ByteArray := prog_14_method_22_code
def yX12_data : MethodName := ⟨RX12, "data", "(II)I"⟩
abbrev cX12_addSimple : ByteArray := prog_14_method_23_code
def yX12_addSimple : MethodName := ⟨RX12, "addSimple", "(I)Z"⟩
abbrev cX12_addOne : ByteArray := prog_14_method_24_code
def yX12_addOne : MethodName := ⟨RX12, "addOne", "(IIIII)I"⟩
abbrev cX12_isOpen : ByteArray := prog_14_method_25_code
def yX12_isOpen : MethodName := ⟨RX12, "isOpen", "(I)Z"⟩
abbrev cX12_enter : ByteArray := prog_14_method_26_code
def yX12_enter : MethodName := ⟨RX12, "enter", "(I)Z"⟩
abbrev cX12_argument : ByteArray := prog_14_method_27_code
def yX12_argument : MethodName := ⟨RX12, "argument", "(II)I"⟩
abbrev cX12_readPart : ByteArray := prog_14_method_28_code
def yX12_readPart : MethodName := ⟨RX12, "readPart", "(II)I"⟩
abbrev cX12_scaledBy : ByteArray := prog_14_method_29_code
def yX12_scaledBy : MethodName := ⟨RX12, "scaledBy", "(JJJJ)I"⟩
abbrev cX12_place : ByteArray := prog_14_method_30_code
def yX12_place : MethodName := ⟨RX12, "place", "(I)V"⟩
abbrev cX12_goOn : ByteArray := prog_14_method_31_code
def yX12_goOn : MethodName := ⟨RX12, "goOn", "()V"⟩
abbrev cX12_piece : ByteArray := prog_14_method_32_code
def yX12_piece : MethodName := ⟨RX12, "piece", "(IZIIIIII)V"⟩
abbrev cX12_goRound : ByteArray := prog_14_method_33_code
def yX12_goRound : MethodName := ⟨RX12, "goRound", "(III)V"⟩
abbrev cX12_run : ByteArray := prog_14_method_34_code
def yX12_run : MethodName := ⟨RX12, "run", "(I)I"⟩
abbrev cX12_piece_ : ByteArray := prog_14_method_35_code
def yX12_piece_ : MethodName := ⟨RX12, "piece", "(II)I"⟩
abbrev cX12_told : ByteArray := prog_14_method_36_code
def yX12_told : MethodName := ⟨RX12, "told", "(II)I"⟩
abbrev cX12_mapBy : ByteArray := prog_14_method_37_code
def yX12_mapBy : MethodName := ⟨RX12, "mapBy", "(IJII)J"⟩
abbrev cX12_map : ByteArray := prog_14_method_38_code
def yX12_map : MethodName := ⟨RX12, "map", "(I)I"⟩
abbrev cX12_width : ByteArray := prog_14_method_39_code
def yX12_width : MethodName := ⟨RX12, "width", "(I)I"⟩
abbrev cX12_kern : ByteArray := prog_14_method_40_code
def yX12_kern : MethodName := ⟨RX12, "kern", "(II)I"⟩
abbrev cX12_scaled : ByteArray := prog_14_method_41_code
def yX12_scaled : MethodName := ⟨RX12, "scaled", "(II)J"⟩
abbrev cX12_useParts : ByteArray := prog_14_method_42_code
def yX12_useParts : MethodName := ⟨RX12, "useParts", "(I)Z"⟩
abbrev cX12_cut : ByteArray := prog_14_method_43_code
def yX12_cut : MethodName := ⟨RX12, "cut", "(I)I"⟩
abbrev cX12_put : ByteArray := prog_14_method_44_code
def yX12_put : MethodName := ⟨RX12, "put", "(I)V"⟩
abbrev cX12_putNumber : ByteArray := prog_14_method_45_code
def yX12_putNumber : MethodName := ⟨RX12, "putNumber", "(JI)V"⟩
abbrev cX12_setFour : ByteArray := prog_14_method_46_code
def yX12_setFour : MethodName := ⟨RX12, "setFour", "(IJ)V"⟩
abbrev cX12_even : ByteArray := prog_14_method_47_code
def yX12_even : MethodName := ⟨RX12, "even", "()V"⟩
abbrev cX12_goes : ByteArray := prog_14_method_48_code
def yX12_goes : MethodName := ⟨RX12, "goes", "(I)Z"⟩
abbrev cX12_putGlyf : ByteArray := prog_14_method_49_code
def yX12_putGlyf : MethodName := ⟨RX12, "putGlyf", "(I)V"⟩
abbrev cX12_putLoca : ByteArray := prog_14_method_50_code
def yX12_putLoca : MethodName := ⟨RX12, "putLoca", "(IZ)V"⟩
abbrev cX12_sumWritten : ByteArray := prog_14_method_51_code
def yX12_sumWritten : MethodName := ⟨RX12, "sumWritten", "(II)J"⟩
abbrev cX12_sort : ByteArray := prog_14_method_52_code
def yX12_sort : MethodName := ⟨RX12, "sort", "()V"⟩
abbrev cX12_write : ByteArray := prog_14_method_53_code
def yX12_write : MethodName := ⟨RX12, "write", "()I"⟩
abbrev cX12_at : ByteArray := prog_14_method_54_code
def yX12_at : MethodName := ⟨RX12, "at", "(I)I"⟩
def RJx00060 : String := "java/lang/ArrayIndexOutOfBoundsException"
def TJx00060 : u_T := fun k => match k with
  | 0 => ("java/lang/Throwable", "cause", "Ljava/lang/Throwable;", false)
  | 1 => ("java/lang/Throwable", "stackTrace", "[Ljava/lang/StackTraceElement;", false)
  | 2 => ("java/lang/Throwable", "suppressedExceptions", "Ljava/util/List;", false)
  | 3 => ("java/lang/Throwable", "detailMessage", "Ljava/lang/String;", false)
  | 4 => ("java/lang/Throwable", "backtrace", "Ljava/lang/Object;", false)
  | _ => ("java/lang/Throwable", "depth", "I", false)
def tyJx00060 : Nat → FieldType := fun k => match k with
  | 0 => .object "java/lang/Throwable"
  | 1 => .array (.object "java/lang/StackTraceElement")
  | 2 => .object "java/util/List"
  | 3 => .object "java/lang/String"
  | 4 => .object "java/lang/Object"
  | _ => .int
theorem nmJx00060 : ∀ a, a < 6 → ∀ b, b < 6 → a ≠ b → (TJx00060 a).2.1 ≠ (TJx00060 b).2.1 := by decide +kernel
theorem tyJx00060_ok : ∀ k, k < 6 → parseFieldDescriptor (TJx00060 k).2.2.1 = some (tyJx00060 k) := by decide +kernel
abbrev cJx00060_init_a7421 : ByteArray := prog_15_method_2_code
def yJx00060_init_a7421 : MethodName := ⟨RJx00060, "<init>", "(Ljava/lang/String;)V"⟩
def RJ9 : String := "java/lang/Math"
def TJ9 : u_T := fun k => match k with
  | _ => ("", "", "", false)
def tyJ9 : Nat → FieldType := fun k => match k with
  | _ => .int
theorem nmJ9 : ∀ a, a < 0 → ∀ b, b < 0 → a ≠ b → (TJ9 a).2.1 ≠ (TJ9 b).2.1 := by decide +kernel
theorem tyJ9_ok : ∀ k, k < 0 → parseFieldDescriptor (TJ9 k).2.2.1 = some (tyJ9 k) := by decide +kernel
abbrev cJ9_floorDiv_f86c9 : ByteArray := prog_18_method_49_code
def yJ9_floorDiv_f86c9 : MethodName := ⟨RJ9, "floorDiv", "(JJ)J"⟩
abbrev cJ9_max_7cf53 : ByteArray := prog_18_method_65_code
def yJ9_max_7cf53 : MethodName := ⟨RJ9, "max", "(II)I"⟩
abbrev cJ9_min_7cf53 : ByteArray := prog_18_method_69_code
def yJ9_min_7cf53 : MethodName := ⟨RJ9, "min", "(II)I"⟩
abbrev cJ9_min_f86c9 : ByteArray := prog_18_method_70_code
def yJ9_min_f86c9 : MethodName := ⟨RJ9, "min", "(JJ)J"⟩
def RJ0 : String := "java/lang/String"
def TJ0 : u_T := fun k => match k with
  | _ => ("", "", "", false)
def tyJ0 : Nat → FieldType := fun k => match k with
  | _ => .int
theorem nmJ0 : ∀ a, a < 0 → ∀ b, b < 0 → a ≠ b → (TJ0 a).2.1 ≠ (TJ0 b).2.1 := by decide +kernel
theorem tyJ0_ok : ∀ k, k < 0 → parseFieldDescriptor (TJ0 k).2.2.1 = some (tyJ0 k) := by decide +kernel
def RL : String := "TrueOutlinesLaw"
abbrev cL_octet : ByteArray := method_3_code
def yL_octet : MethodName := ⟨RL, "octet", "(LTrueOutlines;II[J)I"⟩
abbrev cL_piece : ByteArray := method_4_code
def yL_piece : MethodName := ⟨RL, "piece", "(LTrueOutlines;II[J)I"⟩
abbrev cL_told : ByteArray := method_5_code
def yL_told : MethodName := ⟨RL, "told", "(LTrueOutlines;II[J)I"⟩
abbrev cL_law : ByteArray := code
def yL_law : MethodName := ⟨RL, "law", "([I)Z"⟩
theorem dX0_init_0 : decode cX0_init 0 = .ok (.aload_n 0, 1) := by decide +kernel
theorem dX0_init_1 : decode cX0_init 1 = .ok (.invokespecial 3, 3) := by decide +kernel
theorem dX0_init_4 : decode cX0_init 4 = .ok (.aload_n 0, 1) := by decide +kernel
theorem dX0_init_5 : decode cX0_init 5 = .ok (.aload_n 1, 1) := by decide +kernel
theorem dX0_init_6 : decode cX0_init 6 = .ok (.putfield 9, 3) := by decide +kernel
theorem dX0_init_9 : decode cX0_init 9 = .ok (.aload_n 0, 1) := by decide +kernel
theorem dX0_init_10 : decode cX0_init 10 = .ok (.aload_n 1, 1) := by decide +kernel
theorem dX0_init_11 : decode cX0_init 11 = .ok (.getfield 15, 3) := by decide +kernel
theorem dX0_init_14 : decode cX0_init 14 = .ok (.putfield 21, 3) := by decide +kernel
theorem dX0_init_17 : decode cX0_init 17 = .ok (.return_, 1) := by decide +kernel
theorem dX0_find_0 : decode cX0_find 0 = .ok (.aload_n 0, 1) := by decide +kernel
theorem dX0_find_1 : decode cX0_find 1 = .ok (.aload_n 0, 1) := by decide +kernel
theorem dX0_find_2 : decode cX0_find 2 = .ok (.getfield 9, 3) := by decide +kernel
theorem dX0_find_5 : decode cX0_find 5 = .ok (.ldc2_w 24, 3) := by decide +kernel
theorem dX0_find_8 : decode cX0_find 8 = .ok (.invokevirtual 26, 3) := by decide +kernel
theorem dX0_find_11 : decode cX0_find 11 = .ok (.putfield 21, 3) := by decide +kernel
theorem dX0_find_14 : decode cX0_find 14 = .ok (.aload_n 0, 1) := by decide +kernel
theorem dX0_find_15 : decode cX0_find 15 = .ok (.getfield 21, 3) := by decide +kernel
theorem dX0_find_18 : decode cX0_find 18 = .ok (.ldc2_w 30, 3) := by decide +kernel
theorem dX0_find_21 : decode cX0_find 21 = .ok (.invokevirtual 32, 3) := by decide +kernel
theorem dX0_find_24 : decode cX0_find 24 = .ok (.istore_n 2, 1) := by decide +kernel
theorem dX0_find_25 : decode cX0_find 25 = .ok (.iconst 0, 1) := by decide +kernel
theorem dX0_find_26 : decode cX0_find 26 = .ok (.istore_n 3, 1) := by decide +kernel
theorem dX0_find_27 : decode cX0_find 27 = .ok (.iload_n 3, 1) := by decide +kernel
theorem dX0_find_28 : decode cX0_find 28 = .ok (.iload_n 2, 1) := by decide +kernel
theorem dX0_find_29 : decode cX0_find 29 = .ok (.if_icmp .ge 97, 3) := by decide +kernel
theorem dX0_find_32 : decode cX0_find 32 = .ok (.aload_n 0, 1) := by decide +kernel
theorem dX0_find_33 : decode cX0_find 33 = .ok (.aload_n 0, 1) := by decide +kernel
theorem dX0_find_34 : decode cX0_find 34 = .ok (.getfield 21, 3) := by decide +kernel
theorem dX0_find_37 : decode cX0_find 37 = .ok (.ldc2_w 38, 3) := by decide +kernel
theorem dX0_find_40 : decode cX0_find 40 = .ok (.ldc2_w 40, 3) := by decide +kernel
theorem dX0_find_43 : decode cX0_find 43 = .ok (.iload_n 3, 1) := by decide +kernel
theorem dX0_find_44 : decode cX0_find 44 = .ok (.i2l, 1) := by decide +kernel
theorem dX0_find_45 : decode cX0_find 45 = .ok (.lmul, 1) := by decide +kernel
theorem dX0_find_46 : decode cX0_find 46 = .ok (.ladd, 1) := by decide +kernel
theorem dX0_find_47 : decode cX0_find 47 = .ok (.ldc2_w 38, 3) := by decide +kernel
theorem dX0_find_50 : decode cX0_find 50 = .ok (.ladd, 1) := by decide +kernel
theorem dX0_find_51 : decode cX0_find 51 = .ok (.invokevirtual 42, 3) := by decide +kernel
theorem dX0_find_54 : decode cX0_find 54 = .ok (.putfield 46, 3) := by decide +kernel
theorem dX0_find_57 : decode cX0_find 57 = .ok (.aload_n 0, 1) := by decide +kernel
theorem dX0_find_58 : decode cX0_find 58 = .ok (.getfield 46, 3) := by decide +kernel
theorem dX0_find_61 : decode cX0_find 61 = .ok (.ldc2_w 50, 3) := by decide +kernel
theorem dX0_find_64 : decode cX0_find 64 = .ok (.lcmp, 1) := by decide +kernel
theorem dX0_find_65 : decode cX0_find 65 = .ok (.ifCond .ne 7, 3) := by decide +kernel
theorem dX0_find_68 : decode cX0_find 68 = .ok (.iconst (-1), 1) := by decide +kernel
theorem dX0_find_69 : decode cX0_find 69 = .ok (.goto 8, 3) := by decide +kernel
theorem dX0_find_72 : decode cX0_find 72 = .ok (.aload_n 0, 1) := by decide +kernel
theorem dX0_find_73 : decode cX0_find 73 = .ok (.lconst 0, 1) := by decide +kernel
theorem dX0_find_74 : decode cX0_find 74 = .ok (.invokevirtual 52, 3) := by decide +kernel
theorem dX0_find_77 : decode cX0_find 77 = .ok (.istore 4, 2) := by decide +kernel
theorem dX0_find_79 : decode cX0_find 79 = .ok (.iload 4, 2) := by decide +kernel
theorem dX0_find_81 : decode cX0_find 81 = .ok (.iconst (-1), 1) := by decide +kernel
theorem dX0_find_82 : decode cX0_find 82 = .ok (.if_icmp .ne 5, 3) := by decide +kernel
theorem dX0_find_85 : decode cX0_find 85 = .ok (.lconst 0, 1) := by decide +kernel
theorem dX0_find_86 : decode cX0_find 86 = .ok (.lreturn, 1) := by decide +kernel
theorem dX0_find_87 : decode cX0_find 87 = .ok (.iload 4, 2) := by decide +kernel
theorem dX0_find_89 : decode cX0_find 89 = .ok (.ifCond .eq 23, 3) := by decide +kernel
theorem dX0_find_92 : decode cX0_find 92 = .ok (.iload 4, 2) := by decide +kernel
theorem dX0_find_94 : decode cX0_find 94 = .ok (.iconst 4, 1) := by decide +kernel
theorem dX0_find_95 : decode cX0_find 95 = .ok (.if_icmp .eq 17, 3) := by decide +kernel
theorem dX0_find_98 : decode cX0_find 98 = .ok (.iload 4, 2) := by decide +kernel
theorem dX0_find_100 : decode cX0_find 100 = .ok (.bipush 6, 2) := by decide +kernel
theorem dX0_find_102 : decode cX0_find 102 = .ok (.if_icmp .eq 10, 3) := by decide +kernel
theorem dX0_find_105 : decode cX0_find 105 = .ok (.iload 4, 2) := by decide +kernel
theorem dX0_find_107 : decode cX0_find 107 = .ok (.bipush 12, 2) := by decide +kernel
theorem dX0_find_109 : decode cX0_find 109 = .ok (.if_icmp .ne 11, 3) := by decide +kernel
theorem dX0_find_112 : decode cX0_find 112 = .ok (.aload_n 0, 1) := by decide +kernel
theorem dX0_find_113 : decode cX0_find 113 = .ok (.iload 4, 2) := by decide +kernel
theorem dX0_find_115 : decode cX0_find 115 = .ok (.iload_n 1, 1) := by decide +kernel
theorem dX0_find_116 : decode cX0_find 116 = .ok (.invokevirtual 53, 3) := by decide +kernel
theorem dX0_find_119 : decode cX0_find 119 = .ok (.lreturn, 1) := by decide +kernel
theorem dX0_find_120 : decode cX0_find 120 = .ok (.iinc 3 1, 3) := by decide +kernel
theorem dX0_find_123 : decode cX0_find 123 = .ok (.goto (-96), 3) := by decide +kernel
theorem dX0_find_126 : decode cX0_find 126 = .ok (.lconst 0, 1) := by decide +kernel
theorem dX0_find_127 : decode cX0_find 127 = .ok (.lreturn, 1) := by decide +kernel
theorem dX0_two_0 : decode cX0_two 0 = .ok (.aload_n 0, 1) := by decide +kernel
theorem dX0_two_1 : decode cX0_two 1 = .ok (.getfield 21, 3) := by decide +kernel
theorem dX0_two_4 : decode cX0_two 4 = .ok (.aload_n 0, 1) := by decide +kernel
theorem dX0_two_5 : decode cX0_two 5 = .ok (.getfield 46, 3) := by decide +kernel
theorem dX0_two_8 : decode cX0_two 8 = .ok (.lload_n 1, 1) := by decide +kernel
theorem dX0_two_9 : decode cX0_two 9 = .ok (.ladd, 1) := by decide +kernel
theorem dX0_two_10 : decode cX0_two 10 = .ok (.invokevirtual 32, 3) := by decide +kernel
theorem dX0_two_13 : decode cX0_two 13 = .ok (.ireturn, 1) := by decide +kernel
theorem dX0_four_0 : decode cX0_four 0 = .ok (.aload_n 0, 1) := by decide +kernel
theorem dX0_four_1 : decode cX0_four 1 = .ok (.getfield 21, 3) := by decide +kernel
theorem dX0_four_4 : decode cX0_four 4 = .ok (.aload_n 0, 1) := by decide +kernel
theorem dX0_four_5 : decode cX0_four 5 = .ok (.getfield 46, 3) := by decide +kernel
theorem dX0_four_8 : decode cX0_four 8 = .ok (.lload_n 1, 1) := by decide +kernel
theorem dX0_four_9 : decode cX0_four 9 = .ok (.ladd, 1) := by decide +kernel
theorem dX0_four_10 : decode cX0_four 10 = .ok (.invokevirtual 42, 3) := by decide +kernel
theorem dX0_four_13 : decode cX0_four 13 = .ok (.lreturn, 1) := by decide +kernel
theorem dX0_findBy_0 : decode cX0_findBy 0 = .ok (.iload_n 1, 1) := by decide +kernel
theorem dX0_findBy_1 : decode cX0_findBy 1 = .ok (.lookupswitch 80 #[(0, 35), (4, 66), (6, 73)], 35) := by decide +kernel
theorem dX0_findBy_36 : decode cX0_findBy 36 = .ok (.iload_n 2, 1) := by decide +kernel
theorem dX0_findBy_37 : decode cX0_findBy 37 = .ok (.sipush 256, 3) := by decide +kernel
theorem dX0_findBy_40 : decode cX0_findBy 40 = .ok (.if_icmp .ge 25, 3) := by decide +kernel
theorem dX0_findBy_43 : decode cX0_findBy 43 = .ok (.aload_n 0, 1) := by decide +kernel
theorem dX0_findBy_44 : decode cX0_findBy 44 = .ok (.getfield 21, 3) := by decide +kernel
theorem dX0_findBy_47 : decode cX0_findBy 47 = .ok (.aload_n 0, 1) := by decide +kernel
theorem dX0_findBy_48 : decode cX0_findBy 48 = .ok (.getfield 46, 3) := by decide +kernel
theorem dX0_findBy_51 : decode cX0_findBy 51 = .ok (.ldc2_w 57, 3) := by decide +kernel
theorem dX0_findBy_54 : decode cX0_findBy 54 = .ok (.ladd, 1) := by decide +kernel
theorem dX0_findBy_55 : decode cX0_findBy 55 = .ok (.iload_n 2, 1) := by decide +kernel
theorem dX0_findBy_56 : decode cX0_findBy 56 = .ok (.i2l, 1) := by decide +kernel
theorem dX0_findBy_57 : decode cX0_findBy 57 = .ok (.ladd, 1) := by decide +kernel
theorem dX0_findBy_58 : decode cX0_findBy 58 = .ok (.invokevirtual 59, 3) := by decide +kernel
theorem dX0_findBy_61 : decode cX0_findBy 61 = .ok (.i2l, 1) := by decide +kernel
theorem dX0_findBy_62 : decode cX0_findBy 62 = .ok (.goto 4, 3) := by decide +kernel
theorem dX0_findBy_65 : decode cX0_findBy 65 = .ok (.lconst 0, 1) := by decide +kernel
theorem dX0_findBy_66 : decode cX0_findBy 66 = .ok (.lreturn, 1) := by decide +kernel
theorem dX0_findBy_67 : decode cX0_findBy 67 = .ok (.aload_n 0, 1) := by decide +kernel
theorem dX0_findBy_68 : decode cX0_findBy 68 = .ok (.iload_n 2, 1) := by decide +kernel
theorem dX0_findBy_69 : decode cX0_findBy 69 = .ok (.invokevirtual 62, 3) := by decide +kernel
theorem dX0_findBy_72 : decode cX0_findBy 72 = .ok (.i2l, 1) := by decide +kernel
theorem dX0_findBy_73 : decode cX0_findBy 73 = .ok (.lreturn, 1) := by decide +kernel
theorem dX0_findBy_74 : decode cX0_findBy 74 = .ok (.aload_n 0, 1) := by decide +kernel
theorem dX0_findBy_75 : decode cX0_findBy 75 = .ok (.iload_n 2, 1) := by decide +kernel
theorem dX0_findBy_76 : decode cX0_findBy 76 = .ok (.invokevirtual 66, 3) := by decide +kernel
theorem dX0_findBy_79 : decode cX0_findBy 79 = .ok (.i2l, 1) := by decide +kernel
theorem dX0_findBy_80 : decode cX0_findBy 80 = .ok (.lreturn, 1) := by decide +kernel
theorem dX0_findBy_81 : decode cX0_findBy 81 = .ok (.aload_n 0, 1) := by decide +kernel
theorem dX0_findBy_82 : decode cX0_findBy 82 = .ok (.iload_n 2, 1) := by decide +kernel
theorem dX0_findBy_83 : decode cX0_findBy 83 = .ok (.invokevirtual 69, 3) := by decide +kernel
theorem dX0_findBy_86 : decode cX0_findBy 86 = .ok (.lreturn, 1) := by decide +kernel
theorem dX0_findInSegments_0 : decode cX0_findInSegments 0 = .ok (.aload_n 0, 1) := by decide +kernel
theorem dX0_findInSegments_1 : decode cX0_findInSegments 1 = .ok (.ldc2_w 57, 3) := by decide +kernel
theorem dX0_findInSegments_4 : decode cX0_findInSegments 4 = .ok (.invokevirtual 52, 3) := by decide +kernel
theorem dX0_findInSegments_7 : decode cX0_findInSegments 7 = .ok (.istore_n 2, 1) := by decide +kernel
theorem dX0_findInSegments_8 : decode cX0_findInSegments 8 = .ok (.iconst 0, 1) := by decide +kernel
theorem dX0_findInSegments_9 : decode cX0_findInSegments 9 = .ok (.istore_n 3, 1) := by decide +kernel
theorem dX0_findInSegments_10 : decode cX0_findInSegments 10 = .ok (.iload_n 3, 1) := by decide +kernel
theorem dX0_findInSegments_11 : decode cX0_findInSegments 11 = .ok (.iload_n 2, 1) := by decide +kernel
theorem dX0_findInSegments_12 : decode cX0_findInSegments 12 = .ok (.iconst 2, 1) := by decide +kernel
theorem dX0_findInSegments_13 : decode cX0_findInSegments 13 = .ok (.idiv, 1) := by decide +kernel
theorem dX0_findInSegments_14 : decode cX0_findInSegments 14 = .ok (.if_icmp .ge 46, 3) := by decide +kernel
theorem dX0_findInSegments_17 : decode cX0_findInSegments 17 = .ok (.aload_n 0, 1) := by decide +kernel
theorem dX0_findInSegments_18 : decode cX0_findInSegments 18 = .ok (.bipush 14, 2) := by decide +kernel
theorem dX0_findInSegments_20 : decode cX0_findInSegments 20 = .ok (.iconst 2, 1) := by decide +kernel
theorem dX0_findInSegments_21 : decode cX0_findInSegments 21 = .ok (.iload_n 3, 1) := by decide +kernel
theorem dX0_findInSegments_22 : decode cX0_findInSegments 22 = .ok (.imul, 1) := by decide +kernel
theorem dX0_findInSegments_23 : decode cX0_findInSegments 23 = .ok (.iadd, 1) := by decide +kernel
theorem dX0_findInSegments_24 : decode cX0_findInSegments 24 = .ok (.i2l, 1) := by decide +kernel
theorem dX0_findInSegments_25 : decode cX0_findInSegments 25 = .ok (.invokevirtual 52, 3) := by decide +kernel
theorem dX0_findInSegments_28 : decode cX0_findInSegments 28 = .ok (.istore 4, 2) := by decide +kernel
theorem dX0_findInSegments_30 : decode cX0_findInSegments 30 = .ok (.iload 4, 2) := by decide +kernel
theorem dX0_findInSegments_32 : decode cX0_findInSegments 32 = .ok (.iconst (-1), 1) := by decide +kernel
theorem dX0_findInSegments_33 : decode cX0_findInSegments 33 = .ok (.if_icmp .ne 5, 3) := by decide +kernel
theorem dX0_findInSegments_36 : decode cX0_findInSegments 36 = .ok (.iconst 0, 1) := by decide +kernel
theorem dX0_findInSegments_37 : decode cX0_findInSegments 37 = .ok (.ireturn, 1) := by decide +kernel
theorem dX0_findInSegments_38 : decode cX0_findInSegments 38 = .ok (.iload 4, 2) := by decide +kernel
theorem dX0_findInSegments_40 : decode cX0_findInSegments 40 = .ok (.iload_n 1, 1) := by decide +kernel
theorem dX0_findInSegments_41 : decode cX0_findInSegments 41 = .ok (.if_icmp .lt 13, 3) := by decide +kernel
theorem dX0_findInSegments_44 : decode cX0_findInSegments 44 = .ok (.aload_n 0, 1) := by decide +kernel
theorem dX0_findInSegments_45 : decode cX0_findInSegments 45 = .ok (.iload_n 1, 1) := by decide +kernel
theorem dX0_findInSegments_46 : decode cX0_findInSegments 46 = .ok (.iload_n 2, 1) := by decide +kernel
theorem dX0_findInSegments_47 : decode cX0_findInSegments 47 = .ok (.iconst 2, 1) := by decide +kernel
theorem dX0_findInSegments_48 : decode cX0_findInSegments 48 = .ok (.iload_n 3, 1) := by decide +kernel
theorem dX0_findInSegments_49 : decode cX0_findInSegments 49 = .ok (.imul, 1) := by decide +kernel
theorem dX0_findInSegments_50 : decode cX0_findInSegments 50 = .ok (.invokevirtual 73, 3) := by decide +kernel
theorem dX0_findInSegments_53 : decode cX0_findInSegments 53 = .ok (.ireturn, 1) := by decide +kernel
theorem dX0_findInSegments_54 : decode cX0_findInSegments 54 = .ok (.iinc 3 1, 3) := by decide +kernel
theorem dX0_findInSegments_57 : decode cX0_findInSegments 57 = .ok (.goto (-47), 3) := by decide +kernel
theorem dX0_findInSegments_60 : decode cX0_findInSegments 60 = .ok (.iconst 0, 1) := by decide +kernel
theorem dX0_findInSegments_61 : decode cX0_findInSegments 61 = .ok (.ireturn, 1) := by decide +kernel
theorem dX0_findInSegment_0 : decode cX0_findInSegment 0 = .ok (.aload_n 0, 1) := by decide +kernel
theorem dX0_findInSegment_1 : decode cX0_findInSegment 1 = .ok (.bipush 16, 2) := by decide +kernel
theorem dX0_findInSegment_3 : decode cX0_findInSegment 3 = .ok (.iload_n 2, 1) := by decide +kernel
theorem dX0_findInSegment_4 : decode cX0_findInSegment 4 = .ok (.iadd, 1) := by decide +kernel
theorem dX0_findInSegment_5 : decode cX0_findInSegment 5 = .ok (.iload_n 3, 1) := by decide +kernel
theorem dX0_findInSegment_6 : decode cX0_findInSegment 6 = .ok (.iadd, 1) := by decide +kernel
theorem dX0_findInSegment_7 : decode cX0_findInSegment 7 = .ok (.i2l, 1) := by decide +kernel
theorem dX0_findInSegment_8 : decode cX0_findInSegment 8 = .ok (.invokevirtual 52, 3) := by decide +kernel
theorem dX0_findInSegment_11 : decode cX0_findInSegment 11 = .ok (.istore 4, 2) := by decide +kernel
theorem dX0_findInSegment_13 : decode cX0_findInSegment 13 = .ok (.aload_n 0, 1) := by decide +kernel
theorem dX0_findInSegment_14 : decode cX0_findInSegment 14 = .ok (.bipush 16, 2) := by decide +kernel
theorem dX0_findInSegment_16 : decode cX0_findInSegment 16 = .ok (.iconst 2, 1) := by decide +kernel
theorem dX0_findInSegment_17 : decode cX0_findInSegment 17 = .ok (.iload_n 2, 1) := by decide +kernel
theorem dX0_findInSegment_18 : decode cX0_findInSegment 18 = .ok (.imul, 1) := by decide +kernel
theorem dX0_findInSegment_19 : decode cX0_findInSegment 19 = .ok (.iadd, 1) := by decide +kernel
theorem dX0_findInSegment_20 : decode cX0_findInSegment 20 = .ok (.iload_n 3, 1) := by decide +kernel
theorem dX0_findInSegment_21 : decode cX0_findInSegment 21 = .ok (.iadd, 1) := by decide +kernel
theorem dX0_findInSegment_22 : decode cX0_findInSegment 22 = .ok (.i2l, 1) := by decide +kernel
theorem dX0_findInSegment_23 : decode cX0_findInSegment 23 = .ok (.invokevirtual 52, 3) := by decide +kernel
theorem dX0_findInSegment_26 : decode cX0_findInSegment 26 = .ok (.istore 5, 2) := by decide +kernel
theorem dX0_findInSegment_28 : decode cX0_findInSegment 28 = .ok (.bipush 16, 2) := by decide +kernel
theorem dX0_findInSegment_30 : decode cX0_findInSegment 30 = .ok (.iconst 3, 1) := by decide +kernel
theorem dX0_findInSegment_31 : decode cX0_findInSegment 31 = .ok (.iload_n 2, 1) := by decide +kernel
theorem dX0_findInSegment_32 : decode cX0_findInSegment 32 = .ok (.imul, 1) := by decide +kernel
theorem dX0_findInSegment_33 : decode cX0_findInSegment 33 = .ok (.iadd, 1) := by decide +kernel
theorem dX0_findInSegment_34 : decode cX0_findInSegment 34 = .ok (.iload_n 3, 1) := by decide +kernel
theorem dX0_findInSegment_35 : decode cX0_findInSegment 35 = .ok (.iadd, 1) := by decide +kernel
theorem dX0_findInSegment_36 : decode cX0_findInSegment 36 = .ok (.istore 6, 2) := by decide +kernel
theorem dX0_findInSegment_38 : decode cX0_findInSegment 38 = .ok (.aload_n 0, 1) := by decide +kernel
theorem dX0_findInSegment_39 : decode cX0_findInSegment 39 = .ok (.iload 6, 2) := by decide +kernel
theorem dX0_findInSegment_41 : decode cX0_findInSegment 41 = .ok (.i2l, 1) := by decide +kernel
theorem dX0_findInSegment_42 : decode cX0_findInSegment 42 = .ok (.invokevirtual 52, 3) := by decide +kernel
theorem dX0_findInSegment_45 : decode cX0_findInSegment 45 = .ok (.istore 7, 2) := by decide +kernel
theorem dX0_findInSegment_47 : decode cX0_findInSegment 47 = .ok (.iload 4, 2) := by decide +kernel
theorem dX0_findInSegment_49 : decode cX0_findInSegment 49 = .ok (.iconst (-1), 1) := by decide +kernel
theorem dX0_findInSegment_50 : decode cX0_findInSegment 50 = .ok (.if_icmp .eq 21, 3) := by decide +kernel
theorem dX0_findInSegment_53 : decode cX0_findInSegment 53 = .ok (.iload 4, 2) := by decide +kernel
theorem dX0_findInSegment_55 : decode cX0_findInSegment 55 = .ok (.iload_n 1, 1) := by decide +kernel
theorem dX0_findInSegment_56 : decode cX0_findInSegment 56 = .ok (.if_icmp .gt 15, 3) := by decide +kernel
theorem dX0_findInSegment_59 : decode cX0_findInSegment 59 = .ok (.iload 5, 2) := by decide +kernel
theorem dX0_findInSegment_61 : decode cX0_findInSegment 61 = .ok (.iconst (-1), 1) := by decide +kernel
theorem dX0_findInSegment_62 : decode cX0_findInSegment 62 = .ok (.if_icmp .eq 9, 3) := by decide +kernel
theorem dX0_findInSegment_65 : decode cX0_findInSegment 65 = .ok (.iload 7, 2) := by decide +kernel
theorem dX0_findInSegment_67 : decode cX0_findInSegment 67 = .ok (.iconst (-1), 1) := by decide +kernel
theorem dX0_findInSegment_68 : decode cX0_findInSegment 68 = .ok (.if_icmp .ne 5, 3) := by decide +kernel
theorem dX0_findInSegment_71 : decode cX0_findInSegment 71 = .ok (.iconst 0, 1) := by decide +kernel
theorem dX0_findInSegment_72 : decode cX0_findInSegment 72 = .ok (.ireturn, 1) := by decide +kernel
theorem dX0_findInSegment_73 : decode cX0_findInSegment 73 = .ok (.iload 7, 2) := by decide +kernel
theorem dX0_findInSegment_75 : decode cX0_findInSegment 75 = .ok (.ifCond .ne 11, 3) := by decide +kernel
theorem dX0_findInSegment_78 : decode cX0_findInSegment 78 = .ok (.iload_n 1, 1) := by decide +kernel
theorem dX0_findInSegment_79 : decode cX0_findInSegment 79 = .ok (.iload 5, 2) := by decide +kernel
theorem dX0_findInSegment_81 : decode cX0_findInSegment 81 = .ok (.iadd, 1) := by decide +kernel
theorem dX0_findInSegment_82 : decode cX0_findInSegment 82 = .ok (.ldc 77, 2) := by decide +kernel
theorem dX0_findInSegment_84 : decode cX0_findInSegment 84 = .ok (.iand, 1) := by decide +kernel
theorem dX0_findInSegment_85 : decode cX0_findInSegment 85 = .ok (.ireturn, 1) := by decide +kernel
theorem dX0_findInSegment_86 : decode cX0_findInSegment 86 = .ok (.aload_n 0, 1) := by decide +kernel
theorem dX0_findInSegment_87 : decode cX0_findInSegment 87 = .ok (.iload 6, 2) := by decide +kernel
theorem dX0_findInSegment_89 : decode cX0_findInSegment 89 = .ok (.iload 7, 2) := by decide +kernel
theorem dX0_findInSegment_91 : decode cX0_findInSegment 91 = .ok (.iadd, 1) := by decide +kernel
theorem dX0_findInSegment_92 : decode cX0_findInSegment 92 = .ok (.iconst 2, 1) := by decide +kernel
theorem dX0_findInSegment_93 : decode cX0_findInSegment 93 = .ok (.iload_n 1, 1) := by decide +kernel
theorem dX0_findInSegment_94 : decode cX0_findInSegment 94 = .ok (.iload 4, 2) := by decide +kernel
theorem dX0_findInSegment_96 : decode cX0_findInSegment 96 = .ok (.isub, 1) := by decide +kernel
theorem dX0_findInSegment_97 : decode cX0_findInSegment 97 = .ok (.imul, 1) := by decide +kernel
theorem dX0_findInSegment_98 : decode cX0_findInSegment 98 = .ok (.iadd, 1) := by decide +kernel
theorem dX0_findInSegment_99 : decode cX0_findInSegment 99 = .ok (.i2l, 1) := by decide +kernel
theorem dX0_findInSegment_100 : decode cX0_findInSegment 100 = .ok (.invokevirtual 52, 3) := by decide +kernel
theorem dX0_findInSegment_103 : decode cX0_findInSegment 103 = .ok (.istore 8, 2) := by decide +kernel
theorem dX0_findInSegment_105 : decode cX0_findInSegment 105 = .ok (.iload 8, 2) := by decide +kernel
theorem dX0_findInSegment_107 : decode cX0_findInSegment 107 = .ok (.iconst (-1), 1) := by decide +kernel
theorem dX0_findInSegment_108 : decode cX0_findInSegment 108 = .ok (.if_icmp .eq 8, 3) := by decide +kernel
theorem dX0_findInSegment_111 : decode cX0_findInSegment 111 = .ok (.iload 8, 2) := by decide +kernel
theorem dX0_findInSegment_113 : decode cX0_findInSegment 113 = .ok (.ifCond .ne 7, 3) := by decide +kernel
theorem dX0_findInSegment_116 : decode cX0_findInSegment 116 = .ok (.iconst 0, 1) := by decide +kernel
theorem dX0_findInSegment_117 : decode cX0_findInSegment 117 = .ok (.goto 11, 3) := by decide +kernel
theorem dX0_findInSegment_120 : decode cX0_findInSegment 120 = .ok (.iload 8, 2) := by decide +kernel
theorem dX0_findInSegment_122 : decode cX0_findInSegment 122 = .ok (.iload 5, 2) := by decide +kernel
theorem dX0_findInSegment_124 : decode cX0_findInSegment 124 = .ok (.iadd, 1) := by decide +kernel
theorem dX0_findInSegment_125 : decode cX0_findInSegment 125 = .ok (.ldc 77, 2) := by decide +kernel
theorem dX0_findInSegment_127 : decode cX0_findInSegment 127 = .ok (.iand, 1) := by decide +kernel
theorem dX0_findInSegment_128 : decode cX0_findInSegment 128 = .ok (.ireturn, 1) := by decide +kernel
theorem dX0_findInRow_0 : decode cX0_findInRow 0 = .ok (.aload_n 0, 1) := by decide +kernel
theorem dX0_findInRow_1 : decode cX0_findInRow 1 = .ok (.ldc2_w 57, 3) := by decide +kernel
theorem dX0_findInRow_4 : decode cX0_findInRow 4 = .ok (.invokevirtual 52, 3) := by decide +kernel
theorem dX0_findInRow_7 : decode cX0_findInRow 7 = .ok (.istore_n 2, 1) := by decide +kernel
theorem dX0_findInRow_8 : decode cX0_findInRow 8 = .ok (.aload_n 0, 1) := by decide +kernel
theorem dX0_findInRow_9 : decode cX0_findInRow 9 = .ok (.ldc2_w 40, 3) := by decide +kernel
theorem dX0_findInRow_12 : decode cX0_findInRow 12 = .ok (.invokevirtual 52, 3) := by decide +kernel
theorem dX0_findInRow_15 : decode cX0_findInRow 15 = .ok (.istore_n 3, 1) := by decide +kernel
theorem dX0_findInRow_16 : decode cX0_findInRow 16 = .ok (.iload_n 2, 1) := by decide +kernel
theorem dX0_findInRow_17 : decode cX0_findInRow 17 = .ok (.iconst (-1), 1) := by decide +kernel
theorem dX0_findInRow_18 : decode cX0_findInRow 18 = .ok (.if_icmp .eq 19, 3) := by decide +kernel
theorem dX0_findInRow_21 : decode cX0_findInRow 21 = .ok (.iload_n 1, 1) := by decide +kernel
theorem dX0_findInRow_22 : decode cX0_findInRow 22 = .ok (.iload_n 2, 1) := by decide +kernel
theorem dX0_findInRow_23 : decode cX0_findInRow 23 = .ok (.if_icmp .lt 14, 3) := by decide +kernel
theorem dX0_findInRow_26 : decode cX0_findInRow 26 = .ok (.iload_n 1, 1) := by decide +kernel
theorem dX0_findInRow_27 : decode cX0_findInRow 27 = .ok (.iload_n 2, 1) := by decide +kernel
theorem dX0_findInRow_28 : decode cX0_findInRow 28 = .ok (.isub, 1) := by decide +kernel
theorem dX0_findInRow_29 : decode cX0_findInRow 29 = .ok (.iload_n 3, 1) := by decide +kernel
theorem dX0_findInRow_30 : decode cX0_findInRow 30 = .ok (.if_icmp .ge 7, 3) := by decide +kernel
theorem dX0_findInRow_33 : decode cX0_findInRow 33 = .ok (.iconst 1, 1) := by decide +kernel
theorem dX0_findInRow_34 : decode cX0_findInRow 34 = .ok (.goto 4, 3) := by decide +kernel
theorem dX0_findInRow_37 : decode cX0_findInRow 37 = .ok (.iconst 0, 1) := by decide +kernel
theorem dX0_findInRow_38 : decode cX0_findInRow 38 = .ok (.istore 4, 2) := by decide +kernel
theorem dX0_findInRow_40 : decode cX0_findInRow 40 = .ok (.iload 4, 2) := by decide +kernel
theorem dX0_findInRow_42 : decode cX0_findInRow 42 = .ok (.ifCond .eq 22, 3) := by decide +kernel
theorem dX0_findInRow_45 : decode cX0_findInRow 45 = .ok (.aload_n 0, 1) := by decide +kernel
theorem dX0_findInRow_46 : decode cX0_findInRow 46 = .ok (.ldc2_w 78, 3) := by decide +kernel
theorem dX0_findInRow_49 : decode cX0_findInRow 49 = .ok (.ldc2_w 30, 3) := by decide +kernel
theorem dX0_findInRow_52 : decode cX0_findInRow 52 = .ok (.iload_n 1, 1) := by decide +kernel
theorem dX0_findInRow_53 : decode cX0_findInRow 53 = .ok (.iload_n 2, 1) := by decide +kernel
theorem dX0_findInRow_54 : decode cX0_findInRow 54 = .ok (.isub, 1) := by decide +kernel
theorem dX0_findInRow_55 : decode cX0_findInRow 55 = .ok (.i2l, 1) := by decide +kernel
theorem dX0_findInRow_56 : decode cX0_findInRow 56 = .ok (.lmul, 1) := by decide +kernel
theorem dX0_findInRow_57 : decode cX0_findInRow 57 = .ok (.ladd, 1) := by decide +kernel
theorem dX0_findInRow_58 : decode cX0_findInRow 58 = .ok (.invokevirtual 52, 3) := by decide +kernel
theorem dX0_findInRow_61 : decode cX0_findInRow 61 = .ok (.goto 4, 3) := by decide +kernel
theorem dX0_findInRow_64 : decode cX0_findInRow 64 = .ok (.iconst 0, 1) := by decide +kernel
theorem dX0_findInRow_65 : decode cX0_findInRow 65 = .ok (.ireturn, 1) := by decide +kernel
theorem dX0_findInGroups_0 : decode cX0_findInGroups 0 = .ok (.aload_n 0, 1) := by decide +kernel
theorem dX0_findInGroups_1 : decode cX0_findInGroups 1 = .ok (.ldc2_w 80, 3) := by decide +kernel
theorem dX0_findInGroups_4 : decode cX0_findInGroups 4 = .ok (.invokevirtual 82, 3) := by decide +kernel
theorem dX0_findInGroups_7 : decode cX0_findInGroups 7 = .ok (.lstore_n 2, 1) := by decide +kernel
theorem dX0_findInGroups_8 : decode cX0_findInGroups 8 = .ok (.lconst 0, 1) := by decide +kernel
theorem dX0_findInGroups_9 : decode cX0_findInGroups 9 = .ok (.lstore 4, 2) := by decide +kernel
theorem dX0_findInGroups_11 : decode cX0_findInGroups 11 = .ok (.lload 4, 2) := by decide +kernel
theorem dX0_findInGroups_13 : decode cX0_findInGroups 13 = .ok (.lload_n 2, 1) := by decide +kernel
theorem dX0_findInGroups_14 : decode cX0_findInGroups 14 = .ok (.lcmp, 1) := by decide +kernel
theorem dX0_findInGroups_15 : decode cX0_findInGroups 15 = .ok (.ifCond .ge 110, 3) := by decide +kernel
theorem dX0_findInGroups_18 : decode cX0_findInGroups 18 = .ok (.ldc2_w 83, 3) := by decide +kernel
theorem dX0_findInGroups_21 : decode cX0_findInGroups 21 = .ok (.ldc2_w 80, 3) := by decide +kernel
theorem dX0_findInGroups_24 : decode cX0_findInGroups 24 = .ok (.lload 4, 2) := by decide +kernel
theorem dX0_findInGroups_26 : decode cX0_findInGroups 26 = .ok (.lmul, 1) := by decide +kernel
theorem dX0_findInGroups_27 : decode cX0_findInGroups 27 = .ok (.ladd, 1) := by decide +kernel
theorem dX0_findInGroups_28 : decode cX0_findInGroups 28 = .ok (.lstore 6, 2) := by decide +kernel
theorem dX0_findInGroups_30 : decode cX0_findInGroups 30 = .ok (.aload_n 0, 1) := by decide +kernel
theorem dX0_findInGroups_31 : decode cX0_findInGroups 31 = .ok (.lload 6, 2) := by decide +kernel
theorem dX0_findInGroups_33 : decode cX0_findInGroups 33 = .ok (.invokevirtual 82, 3) := by decide +kernel
theorem dX0_findInGroups_36 : decode cX0_findInGroups 36 = .ok (.lstore 8, 2) := by decide +kernel
theorem dX0_findInGroups_38 : decode cX0_findInGroups 38 = .ok (.aload_n 0, 1) := by decide +kernel
theorem dX0_findInGroups_39 : decode cX0_findInGroups 39 = .ok (.lload 6, 2) := by decide +kernel
theorem dX0_findInGroups_41 : decode cX0_findInGroups 41 = .ok (.ldc2_w 38, 3) := by decide +kernel
theorem dX0_findInGroups_44 : decode cX0_findInGroups 44 = .ok (.ladd, 1) := by decide +kernel
theorem dX0_findInGroups_45 : decode cX0_findInGroups 45 = .ok (.invokevirtual 82, 3) := by decide +kernel
theorem dX0_findInGroups_48 : decode cX0_findInGroups 48 = .ok (.lstore 10, 2) := by decide +kernel
theorem dX0_findInGroups_50 : decode cX0_findInGroups 50 = .ok (.aload_n 0, 1) := by decide +kernel
theorem dX0_findInGroups_51 : decode cX0_findInGroups 51 = .ok (.lload 6, 2) := by decide +kernel
theorem dX0_findInGroups_53 : decode cX0_findInGroups 53 = .ok (.ldc2_w 40, 3) := by decide +kernel
theorem dX0_findInGroups_56 : decode cX0_findInGroups 56 = .ok (.ladd, 1) := by decide +kernel
theorem dX0_findInGroups_57 : decode cX0_findInGroups 57 = .ok (.invokevirtual 82, 3) := by decide +kernel
theorem dX0_findInGroups_60 : decode cX0_findInGroups 60 = .ok (.lstore 12, 2) := by decide +kernel
theorem dX0_findInGroups_62 : decode cX0_findInGroups 62 = .ok (.lload 8, 2) := by decide +kernel
theorem dX0_findInGroups_64 : decode cX0_findInGroups 64 = .ok (.ldc2_w 50, 3) := by decide +kernel
theorem dX0_findInGroups_67 : decode cX0_findInGroups 67 = .ok (.lcmp, 1) := by decide +kernel
theorem dX0_findInGroups_68 : decode cX0_findInGroups 68 = .ok (.ifCond .eq 21, 3) := by decide +kernel
theorem dX0_findInGroups_71 : decode cX0_findInGroups 71 = .ok (.lload 10, 2) := by decide +kernel
theorem dX0_findInGroups_73 : decode cX0_findInGroups 73 = .ok (.ldc2_w 50, 3) := by decide +kernel
theorem dX0_findInGroups_76 : decode cX0_findInGroups 76 = .ok (.lcmp, 1) := by decide +kernel
theorem dX0_findInGroups_77 : decode cX0_findInGroups 77 = .ok (.ifCond .eq 12, 3) := by decide +kernel
theorem dX0_findInGroups_80 : decode cX0_findInGroups 80 = .ok (.lload 12, 2) := by decide +kernel
theorem dX0_findInGroups_82 : decode cX0_findInGroups 82 = .ok (.ldc2_w 50, 3) := by decide +kernel
theorem dX0_findInGroups_85 : decode cX0_findInGroups 85 = .ok (.lcmp, 1) := by decide +kernel
theorem dX0_findInGroups_86 : decode cX0_findInGroups 86 = .ok (.ifCond .ne 5, 3) := by decide +kernel
theorem dX0_findInGroups_89 : decode cX0_findInGroups 89 = .ok (.lconst 0, 1) := by decide +kernel
theorem dX0_findInGroups_90 : decode cX0_findInGroups 90 = .ok (.lreturn, 1) := by decide +kernel
theorem dX0_findInGroups_91 : decode cX0_findInGroups 91 = .ok (.iload_n 1, 1) := by decide +kernel
theorem dX0_findInGroups_92 : decode cX0_findInGroups 92 = .ok (.i2l, 1) := by decide +kernel
theorem dX0_findInGroups_93 : decode cX0_findInGroups 93 = .ok (.lload 8, 2) := by decide +kernel
theorem dX0_findInGroups_95 : decode cX0_findInGroups 95 = .ok (.lcmp, 1) := by decide +kernel
theorem dX0_findInGroups_96 : decode cX0_findInGroups 96 = .ok (.ifCond .lt 20, 3) := by decide +kernel
theorem dX0_findInGroups_99 : decode cX0_findInGroups 99 = .ok (.iload_n 1, 1) := by decide +kernel
theorem dX0_findInGroups_100 : decode cX0_findInGroups 100 = .ok (.i2l, 1) := by decide +kernel
theorem dX0_findInGroups_101 : decode cX0_findInGroups 101 = .ok (.lload 10, 2) := by decide +kernel
theorem dX0_findInGroups_103 : decode cX0_findInGroups 103 = .ok (.lcmp, 1) := by decide +kernel
theorem dX0_findInGroups_104 : decode cX0_findInGroups 104 = .ok (.ifCond .gt 12, 3) := by decide +kernel
theorem dX0_findInGroups_107 : decode cX0_findInGroups 107 = .ok (.lload 12, 2) := by decide +kernel
theorem dX0_findInGroups_109 : decode cX0_findInGroups 109 = .ok (.iload_n 1, 1) := by decide +kernel
theorem dX0_findInGroups_110 : decode cX0_findInGroups 110 = .ok (.i2l, 1) := by decide +kernel
theorem dX0_findInGroups_111 : decode cX0_findInGroups 111 = .ok (.lload 8, 2) := by decide +kernel
theorem dX0_findInGroups_113 : decode cX0_findInGroups 113 = .ok (.lsub, 1) := by decide +kernel
theorem dX0_findInGroups_114 : decode cX0_findInGroups 114 = .ok (.ladd, 1) := by decide +kernel
theorem dX0_findInGroups_115 : decode cX0_findInGroups 115 = .ok (.lreturn, 1) := by decide +kernel
theorem dX0_findInGroups_116 : decode cX0_findInGroups 116 = .ok (.lload 4, 2) := by decide +kernel
theorem dX0_findInGroups_118 : decode cX0_findInGroups 118 = .ok (.lconst 1, 1) := by decide +kernel
theorem dX0_findInGroups_119 : decode cX0_findInGroups 119 = .ok (.ladd, 1) := by decide +kernel
theorem dX0_findInGroups_120 : decode cX0_findInGroups 120 = .ok (.lstore 4, 2) := by decide +kernel
theorem dX0_findInGroups_122 : decode cX0_findInGroups 122 = .ok (.goto (-111), 3) := by decide +kernel
theorem dX0_findInGroups_125 : decode cX0_findInGroups 125 = .ok (.lconst 0, 1) := by decide +kernel
theorem dX0_findInGroups_126 : decode cX0_findInGroups 126 = .ok (.lreturn, 1) := by decide +kernel
theorem dX1_init_0 : decode cX1_init 0 = .ok (.aload_n 0, 1) := by decide +kernel
theorem dX1_init_1 : decode cX1_init 1 = .ok (.invokespecial 3, 3) := by decide +kernel
theorem dX1_init_4 : decode cX1_init 4 = .ok (.aload_n 0, 1) := by decide +kernel
theorem dX1_init_5 : decode cX1_init 5 = .ok (.aload_n 1, 1) := by decide +kernel
theorem dX1_init_6 : decode cX1_init 6 = .ok (.putfield 9, 3) := by decide +kernel
theorem dX1_init_9 : decode cX1_init 9 = .ok (.return_, 1) := by decide +kernel
theorem dX1_open_0 : decode cX1_open 0 = .ok (.aload_n 0, 1) := by decide +kernel
theorem dX1_open_1 : decode cX1_open 1 = .ok (.iload_n 1, 1) := by decide +kernel
theorem dX1_open_2 : decode cX1_open 2 = .ok (.putfield 15, 3) := by decide +kernel
theorem dX1_open_5 : decode cX1_open 5 = .ok (.aload_n 0, 1) := by decide +kernel
theorem dX1_open_6 : decode cX1_open 6 = .ok (.iconst 0, 1) := by decide +kernel
theorem dX1_open_7 : decode cX1_open 7 = .ok (.putfield 19, 3) := by decide +kernel
theorem dX1_open_10 : decode cX1_open 10 = .ok (.aload_n 0, 1) := by decide +kernel
theorem dX1_open_11 : decode cX1_open 11 = .ok (.lload_n 2, 1) := by decide +kernel
theorem dX1_open_12 : decode cX1_open 12 = .ok (.putfield 22, 3) := by decide +kernel
theorem dX1_open_15 : decode cX1_open 15 = .ok (.aload_n 0, 1) := by decide +kernel
theorem dX1_open_16 : decode cX1_open 16 = .ok (.lload 4, 2) := by decide +kernel
theorem dX1_open_18 : decode cX1_open 18 = .ok (.putfield 26, 3) := by decide +kernel
theorem dX1_open_21 : decode cX1_open 21 = .ok (.aload_n 0, 1) := by decide +kernel
theorem dX1_open_22 : decode cX1_open 22 = .ok (.aload_n 0, 1) := by decide +kernel
theorem dX1_open_23 : decode cX1_open 23 = .ok (.invokevirtual 29, 3) := by decide +kernel
theorem dX1_open_26 : decode cX1_open 26 = .ok (.putfield 33, 3) := by decide +kernel
theorem dX1_open_29 : decode cX1_open 29 = .ok (.aload_n 0, 1) := by decide +kernel
theorem dX1_open_30 : decode cX1_open 30 = .ok (.bipush 8, 2) := by decide +kernel
theorem dX1_open_32 : decode cX1_open 32 = .ok (.invokevirtual 37, 3) := by decide +kernel
theorem dX1_open_35 : decode cX1_open 35 = .ok (.return_, 1) := by decide +kernel
theorem dX1_isEmpty_0 : decode cX1_isEmpty 0 = .ok (.aload_n 0, 1) := by decide +kernel
theorem dX1_isEmpty_1 : decode cX1_isEmpty 1 = .ok (.getfield 15, 3) := by decide +kernel
theorem dX1_isEmpty_4 : decode cX1_isEmpty 4 = .ok (.ireturn, 1) := by decide +kernel
theorem dX1_hasParts_0 : decode cX1_hasParts 0 = .ok (.aload_n 0, 1) := by decide +kernel
theorem dX1_hasParts_1 : decode cX1_hasParts 1 = .ok (.getfield 33, 3) := by decide +kernel
theorem dX1_hasParts_4 : decode cX1_hasParts 4 = .ok (.ifCond .ge 7, 3) := by decide +kernel
theorem dX1_hasParts_7 : decode cX1_hasParts 7 = .ok (.iconst 1, 1) := by decide +kernel
theorem dX1_hasParts_8 : decode cX1_hasParts 8 = .ok (.goto 4, 3) := by decide +kernel
theorem dX1_hasParts_11 : decode cX1_hasParts 11 = .ok (.iconst 0, 1) := by decide +kernel
theorem dX1_hasParts_12 : decode cX1_hasParts 12 = .ok (.ireturn, 1) := by decide +kernel
theorem dX1_isPast_0 : decode cX1_isPast 0 = .ok (.aload_n 0, 1) := by decide +kernel
theorem dX1_isPast_1 : decode cX1_isPast 1 = .ok (.getfield 19, 3) := by decide +kernel
theorem dX1_isPast_4 : decode cX1_isPast 4 = .ok (.ireturn, 1) := by decide +kernel
theorem dX1_one_0 : decode cX1_one 0 = .ok (.aload_n 0, 1) := by decide +kernel
theorem dX1_one_1 : decode cX1_one 1 = .ok (.aload_n 0, 1) := by decide +kernel
theorem dX1_one_2 : decode cX1_one 2 = .ok (.getfield 9, 3) := by decide +kernel
theorem dX1_one_5 : decode cX1_one 5 = .ok (.aload_n 0, 1) := by decide +kernel
theorem dX1_one_6 : decode cX1_one 6 = .ok (.getfield 22, 3) := by decide +kernel
theorem dX1_one_9 : decode cX1_one 9 = .ok (.aload_n 0, 1) := by decide +kernel
theorem dX1_one_10 : decode cX1_one 10 = .ok (.getfield 26, 3) := by decide +kernel
theorem dX1_one_13 : decode cX1_one 13 = .ok (.invokevirtual 41, 3) := by decide +kernel
theorem dX1_one_16 : decode cX1_one 16 = .ok (.iconst 1, 1) := by decide +kernel
theorem dX1_one_17 : decode cX1_one 17 = .ok (.invokevirtual 47, 3) := by decide +kernel
theorem dX1_one_20 : decode cX1_one 20 = .ok (.ireturn, 1) := by decide +kernel
theorem dX1_two_0 : decode cX1_two 0 = .ok (.aload_n 0, 1) := by decide +kernel
theorem dX1_two_1 : decode cX1_two 1 = .ok (.aload_n 0, 1) := by decide +kernel
theorem dX1_two_2 : decode cX1_two 2 = .ok (.getfield 9, 3) := by decide +kernel
theorem dX1_two_5 : decode cX1_two 5 = .ok (.aload_n 0, 1) := by decide +kernel
theorem dX1_two_6 : decode cX1_two 6 = .ok (.getfield 22, 3) := by decide +kernel
theorem dX1_two_9 : decode cX1_two 9 = .ok (.aload_n 0, 1) := by decide +kernel
theorem dX1_two_10 : decode cX1_two 10 = .ok (.getfield 26, 3) := by decide +kernel
theorem dX1_two_13 : decode cX1_two 13 = .ok (.invokevirtual 51, 3) := by decide +kernel
theorem dX1_two_16 : decode cX1_two 16 = .ok (.iconst 2, 1) := by decide +kernel
theorem dX1_two_17 : decode cX1_two 17 = .ok (.invokevirtual 47, 3) := by decide +kernel
theorem dX1_two_20 : decode cX1_two 20 = .ok (.ireturn, 1) := by decide +kernel
theorem dX1_signedTwo_0 : decode cX1_signedTwo 0 = .ok (.aload_n 0, 1) := by decide +kernel
theorem dX1_signedTwo_1 : decode cX1_signedTwo 1 = .ok (.aload_n 0, 1) := by decide +kernel
theorem dX1_signedTwo_2 : decode cX1_signedTwo 2 = .ok (.getfield 9, 3) := by decide +kernel
theorem dX1_signedTwo_5 : decode cX1_signedTwo 5 = .ok (.aload_n 0, 1) := by decide +kernel
theorem dX1_signedTwo_6 : decode cX1_signedTwo 6 = .ok (.getfield 22, 3) := by decide +kernel
theorem dX1_signedTwo_9 : decode cX1_signedTwo 9 = .ok (.aload_n 0, 1) := by decide +kernel
theorem dX1_signedTwo_10 : decode cX1_signedTwo 10 = .ok (.getfield 26, 3) := by decide +kernel
theorem dX1_signedTwo_13 : decode cX1_signedTwo 13 = .ok (.invokevirtual 51, 3) := by decide +kernel
theorem dX1_signedTwo_16 : decode cX1_signedTwo 16 = .ok (.iconst 2, 1) := by decide +kernel
theorem dX1_signedTwo_17 : decode cX1_signedTwo 17 = .ok (.invokevirtual 47, 3) := by decide +kernel
theorem dX1_signedTwo_20 : decode cX1_signedTwo 20 = .ok (.invokestatic 54, 3) := by decide +kernel
theorem dX1_signedTwo_23 : decode cX1_signedTwo 23 = .ok (.ireturn, 1) := by decide +kernel
theorem dX1_seen_0 : decode cX1_seen 0 = .ok (.aload_n 0, 1) := by decide +kernel
theorem dX1_seen_1 : decode cX1_seen 1 = .ok (.dup, 1) := by decide +kernel
theorem dX1_seen_2 : decode cX1_seen 2 = .ok (.getfield 22, 3) := by decide +kernel
theorem dX1_seen_5 : decode cX1_seen 5 = .ok (.iload_n 2, 1) := by decide +kernel
theorem dX1_seen_6 : decode cX1_seen 6 = .ok (.i2l, 1) := by decide +kernel
theorem dX1_seen_7 : decode cX1_seen 7 = .ok (.ladd, 1) := by decide +kernel
theorem dX1_seen_8 : decode cX1_seen 8 = .ok (.putfield 22, 3) := by decide +kernel
theorem dX1_seen_11 : decode cX1_seen 11 = .ok (.aload_n 0, 1) := by decide +kernel
theorem dX1_seen_12 : decode cX1_seen 12 = .ok (.aload_n 0, 1) := by decide +kernel
theorem dX1_seen_13 : decode cX1_seen 13 = .ok (.getfield 19, 3) := by decide +kernel
theorem dX1_seen_16 : decode cX1_seen 16 = .ok (.ifCond .ne 8, 3) := by decide +kernel
theorem dX1_seen_19 : decode cX1_seen 19 = .ok (.iload_n 1, 1) := by decide +kernel
theorem dX1_seen_20 : decode cX1_seen 20 = .ok (.iconst (-1), 1) := by decide +kernel
theorem dX1_seen_21 : decode cX1_seen 21 = .ok (.if_icmp .ne 7, 3) := by decide +kernel
theorem dX1_seen_24 : decode cX1_seen 24 = .ok (.iconst 1, 1) := by decide +kernel
theorem dX1_seen_25 : decode cX1_seen 25 = .ok (.goto 4, 3) := by decide +kernel
theorem dX1_seen_28 : decode cX1_seen 28 = .ok (.iconst 0, 1) := by decide +kernel
theorem dX1_seen_29 : decode cX1_seen 29 = .ok (.putfield 19, 3) := by decide +kernel
theorem dX1_seen_32 : decode cX1_seen 32 = .ok (.iload_n 1, 1) := by decide +kernel
theorem dX1_seen_33 : decode cX1_seen 33 = .ok (.iconst (-1), 1) := by decide +kernel
theorem dX1_seen_34 : decode cX1_seen 34 = .ok (.if_icmp .ne 7, 3) := by decide +kernel
theorem dX1_seen_37 : decode cX1_seen 37 = .ok (.iconst 0, 1) := by decide +kernel
theorem dX1_seen_38 : decode cX1_seen 38 = .ok (.goto 4, 3) := by decide +kernel
theorem dX1_seen_41 : decode cX1_seen 41 = .ok (.iload_n 1, 1) := by decide +kernel
theorem dX1_seen_42 : decode cX1_seen 42 = .ok (.ireturn, 1) := by decide +kernel
theorem dX1_skip_0 : decode cX1_skip 0 = .ok (.aload_n 0, 1) := by decide +kernel
theorem dX1_skip_1 : decode cX1_skip 1 = .ok (.dup, 1) := by decide +kernel
theorem dX1_skip_2 : decode cX1_skip 2 = .ok (.getfield 22, 3) := by decide +kernel
theorem dX1_skip_5 : decode cX1_skip 5 = .ok (.iload_n 1, 1) := by decide +kernel
theorem dX1_skip_6 : decode cX1_skip 6 = .ok (.i2l, 1) := by decide +kernel
theorem dX1_skip_7 : decode cX1_skip 7 = .ok (.ladd, 1) := by decide +kernel
theorem dX1_skip_8 : decode cX1_skip 8 = .ok (.putfield 22, 3) := by decide +kernel
theorem dX1_skip_11 : decode cX1_skip 11 = .ok (.aload_n 0, 1) := by decide +kernel
theorem dX1_skip_12 : decode cX1_skip 12 = .ok (.aload_n 0, 1) := by decide +kernel
theorem dX1_skip_13 : decode cX1_skip 13 = .ok (.getfield 19, 3) := by decide +kernel
theorem dX1_skip_16 : decode cX1_skip 16 = .ok (.ifCond .ne 15, 3) := by decide +kernel
theorem dX1_skip_19 : decode cX1_skip 19 = .ok (.aload_n 0, 1) := by decide +kernel
theorem dX1_skip_20 : decode cX1_skip 20 = .ok (.getfield 22, 3) := by decide +kernel
theorem dX1_skip_23 : decode cX1_skip 23 = .ok (.aload_n 0, 1) := by decide +kernel
theorem dX1_skip_24 : decode cX1_skip 24 = .ok (.getfield 26, 3) := by decide +kernel
theorem dX1_skip_27 : decode cX1_skip 27 = .ok (.lcmp, 1) := by decide +kernel
theorem dX1_skip_28 : decode cX1_skip 28 = .ok (.ifCond .le 7, 3) := by decide +kernel
theorem dX1_skip_31 : decode cX1_skip 31 = .ok (.iconst 1, 1) := by decide +kernel
theorem dX1_skip_32 : decode cX1_skip 32 = .ok (.goto 4, 3) := by decide +kernel
theorem dX1_skip_35 : decode cX1_skip 35 = .ok (.iconst 0, 1) := by decide +kernel
theorem dX1_skip_36 : decode cX1_skip 36 = .ok (.putfield 19, 3) := by decide +kernel
theorem dX1_skip_39 : decode cX1_skip 39 = .ok (.return_, 1) := by decide +kernel
theorem dX1_nextPart_0 : decode cX1_nextPart 0 = .ok (.aload_n 0, 1) := by decide +kernel
theorem dX1_nextPart_1 : decode cX1_nextPart 1 = .ok (.aload_n 0, 1) := by decide +kernel
theorem dX1_nextPart_2 : decode cX1_nextPart 2 = .ok (.invokevirtual 58, 3) := by decide +kernel
theorem dX1_nextPart_5 : decode cX1_nextPart 5 = .ok (.putfield 60, 3) := by decide +kernel
theorem dX1_nextPart_8 : decode cX1_nextPart 8 = .ok (.aload_n 0, 1) := by decide +kernel
theorem dX1_nextPart_9 : decode cX1_nextPart 9 = .ok (.aload_n 0, 1) := by decide +kernel
theorem dX1_nextPart_10 : decode cX1_nextPart 10 = .ok (.invokevirtual 58, 3) := by decide +kernel
theorem dX1_nextPart_13 : decode cX1_nextPart 13 = .ok (.putfield 63, 3) := by decide +kernel
theorem dX1_nextPart_16 : decode cX1_nextPart 16 = .ok (.aload_n 0, 1) := by decide +kernel
theorem dX1_nextPart_17 : decode cX1_nextPart 17 = .ok (.aload_n 0, 1) := by decide +kernel
theorem dX1_nextPart_18 : decode cX1_nextPart 18 = .ok (.invokevirtual 66, 3) := by decide +kernel
theorem dX1_nextPart_21 : decode cX1_nextPart 21 = .ok (.putfield 69, 3) := by decide +kernel
theorem dX1_nextPart_24 : decode cX1_nextPart 24 = .ok (.aload_n 0, 1) := by decide +kernel
theorem dX1_nextPart_25 : decode cX1_nextPart 25 = .ok (.aload_n 0, 1) := by decide +kernel
theorem dX1_nextPart_26 : decode cX1_nextPart 26 = .ok (.invokevirtual 66, 3) := by decide +kernel
theorem dX1_nextPart_29 : decode cX1_nextPart 29 = .ok (.putfield 72, 3) := by decide +kernel
theorem dX1_nextPart_32 : decode cX1_nextPart 32 = .ok (.aload_n 0, 1) := by decide +kernel
theorem dX1_nextPart_33 : decode cX1_nextPart 33 = .ok (.invokevirtual 75, 3) := by decide +kernel
theorem dX1_nextPart_36 : decode cX1_nextPart 36 = .ok (.aload_n 0, 1) := by decide +kernel
theorem dX1_nextPart_37 : decode cX1_nextPart 37 = .ok (.getfield 19, 3) := by decide +kernel
theorem dX1_nextPart_40 : decode cX1_nextPart 40 = .ok (.ifCond .ne 7, 3) := by decide +kernel
theorem dX1_nextPart_43 : decode cX1_nextPart 43 = .ok (.iconst 1, 1) := by decide +kernel
theorem dX1_nextPart_44 : decode cX1_nextPart 44 = .ok (.goto 4, 3) := by decide +kernel
theorem dX1_nextPart_47 : decode cX1_nextPart 47 = .ok (.iconst 0, 1) := by decide +kernel
theorem dX1_nextPart_48 : decode cX1_nextPart 48 = .ok (.ireturn, 1) := by decide +kernel
theorem dX1_nextNumber_0 : decode cX1_nextNumber 0 = .ok (.aload_n 0, 1) := by decide +kernel
theorem dX1_nextNumber_1 : decode cX1_nextNumber 1 = .ok (.getfield 60, 3) := by decide +kernel
theorem dX1_nextNumber_4 : decode cX1_nextNumber 4 = .ok (.iconst 1, 1) := by decide +kernel
theorem dX1_nextNumber_5 : decode cX1_nextNumber 5 = .ok (.iand, 1) := by decide +kernel
theorem dX1_nextNumber_6 : decode cX1_nextNumber 6 = .ok (.ifCond .eq 7, 3) := by decide +kernel
theorem dX1_nextNumber_9 : decode cX1_nextNumber 9 = .ok (.iconst 1, 1) := by decide +kernel
theorem dX1_nextNumber_10 : decode cX1_nextNumber 10 = .ok (.goto 4, 3) := by decide +kernel
theorem dX1_nextNumber_13 : decode cX1_nextNumber 13 = .ok (.iconst 0, 1) := by decide +kernel
theorem dX1_nextNumber_14 : decode cX1_nextNumber 14 = .ok (.istore_n 1, 1) := by decide +kernel
theorem dX1_nextNumber_15 : decode cX1_nextNumber 15 = .ok (.iload_n 1, 1) := by decide +kernel
theorem dX1_nextNumber_16 : decode cX1_nextNumber 16 = .ok (.ifCond .eq 10, 3) := by decide +kernel
theorem dX1_nextNumber_19 : decode cX1_nextNumber 19 = .ok (.aload_n 0, 1) := by decide +kernel
theorem dX1_nextNumber_20 : decode cX1_nextNumber 20 = .ok (.invokevirtual 58, 3) := by decide +kernel
theorem dX1_nextNumber_23 : decode cX1_nextNumber 23 = .ok (.goto 7, 3) := by decide +kernel
theorem dX1_nextNumber_26 : decode cX1_nextNumber 26 = .ok (.aload_n 0, 1) := by decide +kernel
theorem dX1_nextNumber_27 : decode cX1_nextNumber 27 = .ok (.invokevirtual 78, 3) := by decide +kernel
theorem dX1_nextNumber_30 : decode cX1_nextNumber 30 = .ok (.istore_n 2, 1) := by decide +kernel
theorem dX1_nextNumber_31 : decode cX1_nextNumber 31 = .ok (.iload_n 1, 1) := by decide +kernel
theorem dX1_nextNumber_32 : decode cX1_nextNumber 32 = .ok (.ifCond .eq 8, 3) := by decide +kernel
theorem dX1_nextNumber_35 : decode cX1_nextNumber 35 = .ok (.ldc 80, 2) := by decide +kernel
theorem dX1_nextNumber_37 : decode cX1_nextNumber 37 = .ok (.goto 6, 3) := by decide +kernel
theorem dX1_nextNumber_40 : decode cX1_nextNumber 40 = .ok (.sipush 128, 3) := by decide +kernel
theorem dX1_nextNumber_43 : decode cX1_nextNumber 43 = .ok (.istore_n 3, 1) := by decide +kernel
theorem dX1_nextNumber_44 : decode cX1_nextNumber 44 = .ok (.aload_n 0, 1) := by decide +kernel
theorem dX1_nextNumber_45 : decode cX1_nextNumber 45 = .ok (.invokevirtual 81, 3) := by decide +kernel
theorem dX1_nextNumber_48 : decode cX1_nextNumber 48 = .ok (.ifCond .eq 16, 3) := by decide +kernel
theorem dX1_nextNumber_51 : decode cX1_nextNumber 51 = .ok (.iload_n 2, 1) := by decide +kernel
theorem dX1_nextNumber_52 : decode cX1_nextNumber 52 = .ok (.iload_n 3, 1) := by decide +kernel
theorem dX1_nextNumber_53 : decode cX1_nextNumber 53 = .ok (.if_icmp .lt 11, 3) := by decide +kernel
theorem dX1_nextNumber_56 : decode cX1_nextNumber 56 = .ok (.iload_n 2, 1) := by decide +kernel
theorem dX1_nextNumber_57 : decode cX1_nextNumber 57 = .ok (.iconst 2, 1) := by decide +kernel
theorem dX1_nextNumber_58 : decode cX1_nextNumber 58 = .ok (.iload_n 3, 1) := by decide +kernel
theorem dX1_nextNumber_59 : decode cX1_nextNumber 59 = .ok (.imul, 1) := by decide +kernel
theorem dX1_nextNumber_60 : decode cX1_nextNumber 60 = .ok (.isub, 1) := by decide +kernel
theorem dX1_nextNumber_61 : decode cX1_nextNumber 61 = .ok (.goto 4, 3) := by decide +kernel
theorem dX1_nextNumber_64 : decode cX1_nextNumber 64 = .ok (.iload_n 2, 1) := by decide +kernel
theorem dX1_nextNumber_65 : decode cX1_nextNumber 65 = .ok (.ireturn, 1) := by decide +kernel
theorem dX1_nextScales_0 : decode cX1_nextScales 0 = .ok (.aload_n 0, 1) := by decide +kernel
theorem dX1_nextScales_1 : decode cX1_nextScales 1 = .ok (.sipush 16384, 3) := by decide +kernel
theorem dX1_nextScales_4 : decode cX1_nextScales 4 = .ok (.putfield 85, 3) := by decide +kernel
theorem dX1_nextScales_7 : decode cX1_nextScales 7 = .ok (.aload_n 0, 1) := by decide +kernel
theorem dX1_nextScales_8 : decode cX1_nextScales 8 = .ok (.iconst 0, 1) := by decide +kernel
theorem dX1_nextScales_9 : decode cX1_nextScales 9 = .ok (.putfield 88, 3) := by decide +kernel
theorem dX1_nextScales_12 : decode cX1_nextScales 12 = .ok (.aload_n 0, 1) := by decide +kernel
theorem dX1_nextScales_13 : decode cX1_nextScales 13 = .ok (.iconst 0, 1) := by decide +kernel
theorem dX1_nextScales_14 : decode cX1_nextScales 14 = .ok (.putfield 91, 3) := by decide +kernel
theorem dX1_nextScales_17 : decode cX1_nextScales 17 = .ok (.aload_n 0, 1) := by decide +kernel
theorem dX1_nextScales_18 : decode cX1_nextScales 18 = .ok (.sipush 16384, 3) := by decide +kernel
theorem dX1_nextScales_21 : decode cX1_nextScales 21 = .ok (.putfield 94, 3) := by decide +kernel
theorem dX1_nextScales_24 : decode cX1_nextScales 24 = .ok (.aload_n 0, 1) := by decide +kernel
theorem dX1_nextScales_25 : decode cX1_nextScales 25 = .ok (.getfield 60, 3) := by decide +kernel
theorem dX1_nextScales_28 : decode cX1_nextScales 28 = .ok (.bipush 8, 2) := by decide +kernel
theorem dX1_nextScales_30 : decode cX1_nextScales 30 = .ok (.iand, 1) := by decide +kernel
theorem dX1_nextScales_31 : decode cX1_nextScales 31 = .ok (.ifCond .eq 22, 3) := by decide +kernel
theorem dX1_nextScales_34 : decode cX1_nextScales 34 = .ok (.aload_n 0, 1) := by decide +kernel
theorem dX1_nextScales_35 : decode cX1_nextScales 35 = .ok (.aload_n 0, 1) := by decide +kernel
theorem dX1_nextScales_36 : decode cX1_nextScales 36 = .ok (.invokevirtual 29, 3) := by decide +kernel
theorem dX1_nextScales_39 : decode cX1_nextScales 39 = .ok (.putfield 85, 3) := by decide +kernel
theorem dX1_nextScales_42 : decode cX1_nextScales 42 = .ok (.aload_n 0, 1) := by decide +kernel
theorem dX1_nextScales_43 : decode cX1_nextScales 43 = .ok (.aload_n 0, 1) := by decide +kernel
theorem dX1_nextScales_44 : decode cX1_nextScales 44 = .ok (.getfield 85, 3) := by decide +kernel
theorem dX1_nextScales_47 : decode cX1_nextScales 47 = .ok (.putfield 94, 3) := by decide +kernel
theorem dX1_nextScales_50 : decode cX1_nextScales 50 = .ok (.goto 75, 3) := by decide +kernel
theorem dX1_nextScales_53 : decode cX1_nextScales 53 = .ok (.aload_n 0, 1) := by decide +kernel
theorem dX1_nextScales_54 : decode cX1_nextScales 54 = .ok (.getfield 60, 3) := by decide +kernel
theorem dX1_nextScales_57 : decode cX1_nextScales 57 = .ok (.bipush 64, 2) := by decide +kernel
theorem dX1_nextScales_59 : decode cX1_nextScales 59 = .ok (.iand, 1) := by decide +kernel
theorem dX1_nextScales_60 : decode cX1_nextScales 60 = .ok (.ifCond .eq 22, 3) := by decide +kernel
theorem dX1_nextScales_63 : decode cX1_nextScales 63 = .ok (.aload_n 0, 1) := by decide +kernel
theorem dX1_nextScales_64 : decode cX1_nextScales 64 = .ok (.aload_n 0, 1) := by decide +kernel
theorem dX1_nextScales_65 : decode cX1_nextScales 65 = .ok (.invokevirtual 29, 3) := by decide +kernel
theorem dX1_nextScales_68 : decode cX1_nextScales 68 = .ok (.putfield 85, 3) := by decide +kernel
theorem dX1_nextScales_71 : decode cX1_nextScales 71 = .ok (.aload_n 0, 1) := by decide +kernel
theorem dX1_nextScales_72 : decode cX1_nextScales 72 = .ok (.aload_n 0, 1) := by decide +kernel
theorem dX1_nextScales_73 : decode cX1_nextScales 73 = .ok (.invokevirtual 29, 3) := by decide +kernel
theorem dX1_nextScales_76 : decode cX1_nextScales 76 = .ok (.putfield 94, 3) := by decide +kernel
theorem dX1_nextScales_79 : decode cX1_nextScales 79 = .ok (.goto 46, 3) := by decide +kernel
theorem dX1_nextScales_82 : decode cX1_nextScales 82 = .ok (.aload_n 0, 1) := by decide +kernel
theorem dX1_nextScales_83 : decode cX1_nextScales 83 = .ok (.getfield 60, 3) := by decide +kernel
theorem dX1_nextScales_86 : decode cX1_nextScales 86 = .ok (.sipush 128, 3) := by decide +kernel
theorem dX1_nextScales_89 : decode cX1_nextScales 89 = .ok (.iand, 1) := by decide +kernel
theorem dX1_nextScales_90 : decode cX1_nextScales 90 = .ok (.ifCond .eq 35, 3) := by decide +kernel
theorem dX1_nextScales_93 : decode cX1_nextScales 93 = .ok (.aload_n 0, 1) := by decide +kernel
theorem dX1_nextScales_94 : decode cX1_nextScales 94 = .ok (.aload_n 0, 1) := by decide +kernel
theorem dX1_nextScales_95 : decode cX1_nextScales 95 = .ok (.invokevirtual 29, 3) := by decide +kernel
theorem dX1_nextScales_98 : decode cX1_nextScales 98 = .ok (.putfield 85, 3) := by decide +kernel
theorem dX1_nextScales_101 : decode cX1_nextScales 101 = .ok (.aload_n 0, 1) := by decide +kernel
theorem dX1_nextScales_102 : decode cX1_nextScales 102 = .ok (.aload_n 0, 1) := by decide +kernel
theorem dX1_nextScales_103 : decode cX1_nextScales 103 = .ok (.invokevirtual 29, 3) := by decide +kernel
theorem dX1_nextScales_106 : decode cX1_nextScales 106 = .ok (.putfield 88, 3) := by decide +kernel
theorem dX1_nextScales_109 : decode cX1_nextScales 109 = .ok (.aload_n 0, 1) := by decide +kernel
theorem dX1_nextScales_110 : decode cX1_nextScales 110 = .ok (.aload_n 0, 1) := by decide +kernel
theorem dX1_nextScales_111 : decode cX1_nextScales 111 = .ok (.invokevirtual 29, 3) := by decide +kernel
theorem dX1_nextScales_114 : decode cX1_nextScales 114 = .ok (.putfield 91, 3) := by decide +kernel
theorem dX1_nextScales_117 : decode cX1_nextScales 117 = .ok (.aload_n 0, 1) := by decide +kernel
theorem dX1_nextScales_118 : decode cX1_nextScales 118 = .ok (.aload_n 0, 1) := by decide +kernel
theorem dX1_nextScales_119 : decode cX1_nextScales 119 = .ok (.invokevirtual 29, 3) := by decide +kernel
theorem dX1_nextScales_122 : decode cX1_nextScales 122 = .ok (.putfield 94, 3) := by decide +kernel
theorem dX1_nextScales_125 : decode cX1_nextScales 125 = .ok (.return_, 1) := by decide +kernel
theorem dX1_isMoved_0 : decode cX1_isMoved 0 = .ok (.aload_n 0, 1) := by decide +kernel
theorem dX1_isMoved_1 : decode cX1_isMoved 1 = .ok (.getfield 60, 3) := by decide +kernel
theorem dX1_isMoved_4 : decode cX1_isMoved 4 = .ok (.iconst 2, 1) := by decide +kernel
theorem dX1_isMoved_5 : decode cX1_isMoved 5 = .ok (.iand, 1) := by decide +kernel
theorem dX1_isMoved_6 : decode cX1_isMoved 6 = .ok (.ifCond .eq 7, 3) := by decide +kernel
theorem dX1_isMoved_9 : decode cX1_isMoved 9 = .ok (.iconst 1, 1) := by decide +kernel
theorem dX1_isMoved_10 : decode cX1_isMoved 10 = .ok (.goto 4, 3) := by decide +kernel
theorem dX1_isMoved_13 : decode cX1_isMoved 13 = .ok (.iconst 0, 1) := by decide +kernel
theorem dX1_isMoved_14 : decode cX1_isMoved 14 = .ok (.ireturn, 1) := by decide +kernel
theorem dX1_hasMore_0 : decode cX1_hasMore 0 = .ok (.aload_n 0, 1) := by decide +kernel
theorem dX1_hasMore_1 : decode cX1_hasMore 1 = .ok (.getfield 60, 3) := by decide +kernel
theorem dX1_hasMore_4 : decode cX1_hasMore 4 = .ok (.bipush 32, 2) := by decide +kernel
theorem dX1_hasMore_6 : decode cX1_hasMore 6 = .ok (.iand, 1) := by decide +kernel
theorem dX1_hasMore_7 : decode cX1_hasMore 7 = .ok (.ifCond .eq 7, 3) := by decide +kernel
theorem dX1_hasMore_10 : decode cX1_hasMore 10 = .ok (.iconst 1, 1) := by decide +kernel
theorem dX1_hasMore_11 : decode cX1_hasMore 11 = .ok (.goto 4, 3) := by decide +kernel
theorem dX1_hasMore_14 : decode cX1_hasMore 14 = .ok (.iconst 0, 1) := by decide +kernel
theorem dX1_hasMore_15 : decode cX1_hasMore 15 = .ok (.ireturn, 1) := by decide +kernel
theorem dX2_init_0 : decode cX2_init 0 = .ok (.aload_n 0, 1) := by decide +kernel
theorem dX2_init_1 : decode cX2_init 1 = .ok (.invokespecial 3, 3) := by decide +kernel
theorem dX2_init_4 : decode cX2_init 4 = .ok (.aload_n 0, 1) := by decide +kernel
theorem dX2_init_5 : decode cX2_init 5 = .ok (.sipush 960, 3) := by decide +kernel
theorem dX2_init_8 : decode cX2_init 8 = .ok (.newarray .int, 2) := by decide +kernel
theorem dX2_init_10 : decode cX2_init 10 = .ok (.putfield 9, 3) := by decide +kernel
theorem dX2_init_13 : decode cX2_init 13 = .ok (.return_, 1) := by decide +kernel
theorem dX2_size_0 : decode cX2_size 0 = .ok (.aload_n 0, 1) := by decide +kernel
theorem dX2_size_1 : decode cX2_size 1 = .ok (.getfield 15, 3) := by decide +kernel
theorem dX2_size_4 : decode cX2_size 4 = .ok (.ireturn, 1) := by decide +kernel
theorem dX2_has_0 : decode cX2_has 0 = .ok (.iload_n 1, 1) := by decide +kernel
theorem dX2_has_1 : decode cX2_has 1 = .ok (.ifCond .lt 25, 3) := by decide +kernel
theorem dX2_has_4 : decode cX2_has 4 = .ok (.iload_n 1, 1) := by decide +kernel
theorem dX2_has_5 : decode cX2_has 5 = .ok (.aload_n 0, 1) := by decide +kernel
theorem dX2_has_6 : decode cX2_has 6 = .ok (.getfield 15, 3) := by decide +kernel
theorem dX2_has_9 : decode cX2_has 9 = .ok (.if_icmp .ge 17, 3) := by decide +kernel
theorem dX2_has_12 : decode cX2_has 12 = .ok (.iload_n 2, 1) := by decide +kernel
theorem dX2_has_13 : decode cX2_has 13 = .ok (.ifCond .lt 13, 3) := by decide +kernel
theorem dX2_has_16 : decode cX2_has 16 = .ok (.iload_n 2, 1) := by decide +kernel
theorem dX2_has_17 : decode cX2_has 17 = .ok (.bipush 8, 2) := by decide +kernel
theorem dX2_has_19 : decode cX2_has 19 = .ok (.if_icmp .ge 7, 3) := by decide +kernel
theorem dX2_has_22 : decode cX2_has 22 = .ok (.iconst 1, 1) := by decide +kernel
theorem dX2_has_23 : decode cX2_has 23 = .ok (.goto 4, 3) := by decide +kernel
theorem dX2_has_26 : decode cX2_has 26 = .ok (.iconst 0, 1) := by decide +kernel
theorem dX2_has_27 : decode cX2_has 27 = .ok (.ireturn, 1) := by decide +kernel
theorem dX2_get_0 : decode cX2_get 0 = .ok (.aload_n 0, 1) := by decide +kernel
theorem dX2_get_1 : decode cX2_get 1 = .ok (.iload_n 1, 1) := by decide +kernel
theorem dX2_get_2 : decode cX2_get 2 = .ok (.iload_n 2, 1) := by decide +kernel
theorem dX2_get_3 : decode cX2_get 3 = .ok (.invokevirtual 19, 3) := by decide +kernel
theorem dX2_get_6 : decode cX2_get 6 = .ok (.ifCond .eq 17, 3) := by decide +kernel
theorem dX2_get_9 : decode cX2_get 9 = .ok (.aload_n 0, 1) := by decide +kernel
theorem dX2_get_10 : decode cX2_get 10 = .ok (.getfield 9, 3) := by decide +kernel
theorem dX2_get_13 : decode cX2_get 13 = .ok (.bipush 8, 2) := by decide +kernel
theorem dX2_get_15 : decode cX2_get 15 = .ok (.iload_n 1, 1) := by decide +kernel
theorem dX2_get_16 : decode cX2_get 16 = .ok (.imul, 1) := by decide +kernel
theorem dX2_get_17 : decode cX2_get 17 = .ok (.iload_n 2, 1) := by decide +kernel
theorem dX2_get_18 : decode cX2_get 18 = .ok (.iadd, 1) := by decide +kernel
theorem dX2_get_19 : decode cX2_get 19 = .ok (.iaload, 1) := by decide +kernel
theorem dX2_get_20 : decode cX2_get 20 = .ok (.goto 4, 3) := by decide +kernel
theorem dX2_get_23 : decode cX2_get 23 = .ok (.iconst 0, 1) := by decide +kernel
theorem dX2_get_24 : decode cX2_get 24 = .ok (.ireturn, 1) := by decide +kernel
theorem dX2_trace_0 : decode cX2_trace 0 = .ok (.aload_n 0, 1) := by decide +kernel
theorem dX2_trace_1 : decode cX2_trace 1 = .ok (.iconst 0, 1) := by decide +kernel
theorem dX2_trace_2 : decode cX2_trace 2 = .ok (.putfield 15, 3) := by decide +kernel
theorem dX2_trace_5 : decode cX2_trace 5 = .ok (.iconst 0, 1) := by decide +kernel
theorem dX2_trace_6 : decode cX2_trace 6 = .ok (.istore_n 2, 1) := by decide +kernel
theorem dX2_trace_7 : decode cX2_trace 7 = .ok (.iconst 0, 1) := by decide +kernel
theorem dX2_trace_8 : decode cX2_trace 8 = .ok (.istore_n 3, 1) := by decide +kernel
theorem dX2_trace_9 : decode cX2_trace 9 = .ok (.iload_n 3, 1) := by decide +kernel
theorem dX2_trace_10 : decode cX2_trace 10 = .ok (.aload_n 1, 1) := by decide +kernel
theorem dX2_trace_11 : decode cX2_trace 11 = .ok (.invokevirtual 23, 3) := by decide +kernel
theorem dX2_trace_14 : decode cX2_trace 14 = .ok (.if_icmp .ge 30, 3) := by decide +kernel
theorem dX2_trace_17 : decode cX2_trace 17 = .ok (.aload_n 1, 1) := by decide +kernel
theorem dX2_trace_18 : decode cX2_trace 18 = .ok (.iload_n 3, 1) := by decide +kernel
theorem dX2_trace_19 : decode cX2_trace 19 = .ok (.invokevirtual 29, 3) := by decide +kernel
theorem dX2_trace_22 : decode cX2_trace 22 = .ok (.istore 4, 2) := by decide +kernel
theorem dX2_trace_24 : decode cX2_trace 24 = .ok (.aload_n 0, 1) := by decide +kernel
theorem dX2_trace_25 : decode cX2_trace 25 = .ok (.aload_n 1, 1) := by decide +kernel
theorem dX2_trace_26 : decode cX2_trace 26 = .ok (.iload_n 3, 1) := by decide +kernel
theorem dX2_trace_27 : decode cX2_trace 27 = .ok (.iload_n 2, 1) := by decide +kernel
theorem dX2_trace_28 : decode cX2_trace 28 = .ok (.iload 4, 2) := by decide +kernel
theorem dX2_trace_30 : decode cX2_trace 30 = .ok (.invokevirtual 33, 3) := by decide +kernel
theorem dX2_trace_33 : decode cX2_trace 33 = .ok (.iload 4, 2) := by decide +kernel
theorem dX2_trace_35 : decode cX2_trace 35 = .ok (.iconst 1, 1) := by decide +kernel
theorem dX2_trace_36 : decode cX2_trace 36 = .ok (.iadd, 1) := by decide +kernel
theorem dX2_trace_37 : decode cX2_trace 37 = .ok (.istore_n 2, 1) := by decide +kernel
theorem dX2_trace_38 : decode cX2_trace 38 = .ok (.iinc 3 1, 3) := by decide +kernel
theorem dX2_trace_41 : decode cX2_trace 41 = .ok (.goto (-32), 3) := by decide +kernel
theorem dX2_trace_44 : decode cX2_trace 44 = .ok (.return_, 1) := by decide +kernel
theorem dX2_traceContour_0 : decode cX2_traceContour 0 = .ok (.iload 4, 2) := by decide +kernel
theorem dX2_traceContour_2 : decode cX2_traceContour 2 = .ok (.iload_n 3, 1) := by decide +kernel
theorem dX2_traceContour_3 : decode cX2_traceContour 3 = .ok (.isub, 1) := by decide +kernel
theorem dX2_traceContour_4 : decode cX2_traceContour 4 = .ok (.iconst 1, 1) := by decide +kernel
theorem dX2_traceContour_5 : decode cX2_traceContour 5 = .ok (.iadd, 1) := by decide +kernel
theorem dX2_traceContour_6 : decode cX2_traceContour 6 = .ok (.istore 5, 2) := by decide +kernel
theorem dX2_traceContour_8 : decode cX2_traceContour 8 = .ok (.iload 5, 2) := by decide +kernel
theorem dX2_traceContour_10 : decode cX2_traceContour 10 = .ok (.iconst 2, 1) := by decide +kernel
theorem dX2_traceContour_11 : decode cX2_traceContour 11 = .ok (.if_icmp .ge 4, 3) := by decide +kernel
theorem dX2_traceContour_14 : decode cX2_traceContour 14 = .ok (.return_, 1) := by decide +kernel
theorem dX2_traceContour_15 : decode cX2_traceContour 15 = .ok (.aload_n 0, 1) := by decide +kernel
theorem dX2_traceContour_16 : decode cX2_traceContour 16 = .ok (.aload_n 1, 1) := by decide +kernel
theorem dX2_traceContour_17 : decode cX2_traceContour 17 = .ok (.iload 4, 2) := by decide +kernel
theorem dX2_traceContour_19 : decode cX2_traceContour 19 = .ok (.invokevirtual 37, 3) := by decide +kernel
theorem dX2_traceContour_22 : decode cX2_traceContour 22 = .ok (.aload_n 1, 1) := by decide +kernel
theorem dX2_traceContour_23 : decode cX2_traceContour 23 = .ok (.iload_n 3, 1) := by decide +kernel
theorem dX2_traceContour_24 : decode cX2_traceContour 24 = .ok (.invokevirtual 37, 3) := by decide +kernel
theorem dX2_traceContour_27 : decode cX2_traceContour 27 = .ok (.iadd, 1) := by decide +kernel
theorem dX2_traceContour_28 : decode cX2_traceContour 28 = .ok (.putfield 40, 3) := by decide +kernel
theorem dX2_traceContour_31 : decode cX2_traceContour 31 = .ok (.aload_n 0, 1) := by decide +kernel
theorem dX2_traceContour_32 : decode cX2_traceContour 32 = .ok (.aload_n 1, 1) := by decide +kernel
theorem dX2_traceContour_33 : decode cX2_traceContour 33 = .ok (.iload 4, 2) := by decide +kernel
theorem dX2_traceContour_35 : decode cX2_traceContour 35 = .ok (.invokevirtual 43, 3) := by decide +kernel
theorem dX2_traceContour_38 : decode cX2_traceContour 38 = .ok (.aload_n 1, 1) := by decide +kernel
theorem dX2_traceContour_39 : decode cX2_traceContour 39 = .ok (.iload_n 3, 1) := by decide +kernel
theorem dX2_traceContour_40 : decode cX2_traceContour 40 = .ok (.invokevirtual 43, 3) := by decide +kernel
theorem dX2_traceContour_43 : decode cX2_traceContour 43 = .ok (.iadd, 1) := by decide +kernel
theorem dX2_traceContour_44 : decode cX2_traceContour 44 = .ok (.putfield 46, 3) := by decide +kernel
theorem dX2_traceContour_47 : decode cX2_traceContour 47 = .ok (.aload_n 1, 1) := by decide +kernel
theorem dX2_traceContour_48 : decode cX2_traceContour 48 = .ok (.iload_n 3, 1) := by decide +kernel
theorem dX2_traceContour_49 : decode cX2_traceContour 49 = .ok (.iload 4, 2) := by decide +kernel
theorem dX2_traceContour_51 : decode cX2_traceContour 51 = .ok (.invokestatic 49, 3) := by decide +kernel
theorem dX2_traceContour_54 : decode cX2_traceContour 54 = .ok (.iload_n 3, 1) := by decide +kernel
theorem dX2_traceContour_55 : decode cX2_traceContour 55 = .ok (.isub, 1) := by decide +kernel
theorem dX2_traceContour_56 : decode cX2_traceContour 56 = .ok (.istore 6, 2) := by decide +kernel
theorem dX2_traceContour_58 : decode cX2_traceContour 58 = .ok (.iconst 0, 1) := by decide +kernel
theorem dX2_traceContour_59 : decode cX2_traceContour 59 = .ok (.istore 7, 2) := by decide +kernel
theorem dX2_traceContour_61 : decode cX2_traceContour 61 = .ok (.iload 7, 2) := by decide +kernel
theorem dX2_traceContour_63 : decode cX2_traceContour 63 = .ok (.iload 5, 2) := by decide +kernel
theorem dX2_traceContour_65 : decode cX2_traceContour 65 = .ok (.if_icmp .ge 44, 3) := by decide +kernel
theorem dX2_traceContour_68 : decode cX2_traceContour 68 = .ok (.iload_n 3, 1) := by decide +kernel
theorem dX2_traceContour_69 : decode cX2_traceContour 69 = .ok (.iload 6, 2) := by decide +kernel
theorem dX2_traceContour_71 : decode cX2_traceContour 71 = .ok (.iload 7, 2) := by decide +kernel
theorem dX2_traceContour_73 : decode cX2_traceContour 73 = .ok (.iadd, 1) := by decide +kernel
theorem dX2_traceContour_74 : decode cX2_traceContour 74 = .ok (.iload 5, 2) := by decide +kernel
theorem dX2_traceContour_76 : decode cX2_traceContour 76 = .ok (.irem, 1) := by decide +kernel
theorem dX2_traceContour_77 : decode cX2_traceContour 77 = .ok (.iadd, 1) := by decide +kernel
theorem dX2_traceContour_78 : decode cX2_traceContour 78 = .ok (.istore 8, 2) := by decide +kernel
theorem dX2_traceContour_80 : decode cX2_traceContour 80 = .ok (.aload_n 0, 1) := by decide +kernel
theorem dX2_traceContour_81 : decode cX2_traceContour 81 = .ok (.aload_n 1, 1) := by decide +kernel
theorem dX2_traceContour_82 : decode cX2_traceContour 82 = .ok (.iload_n 2, 1) := by decide +kernel
theorem dX2_traceContour_83 : decode cX2_traceContour 83 = .ok (.iload 8, 2) := by decide +kernel
theorem dX2_traceContour_85 : decode cX2_traceContour 85 = .ok (.iload 8, 2) := by decide +kernel
theorem dX2_traceContour_87 : decode cX2_traceContour 87 = .ok (.iload 4, 2) := by decide +kernel
theorem dX2_traceContour_89 : decode cX2_traceContour 89 = .ok (.if_icmp .ne 7, 3) := by decide +kernel
theorem dX2_traceContour_92 : decode cX2_traceContour 92 = .ok (.iload_n 3, 1) := by decide +kernel
theorem dX2_traceContour_93 : decode cX2_traceContour 93 = .ok (.goto 7, 3) := by decide +kernel
theorem dX2_traceContour_96 : decode cX2_traceContour 96 = .ok (.iload 8, 2) := by decide +kernel
theorem dX2_traceContour_98 : decode cX2_traceContour 98 = .ok (.iconst 1, 1) := by decide +kernel
theorem dX2_traceContour_99 : decode cX2_traceContour 99 = .ok (.iadd, 1) := by decide +kernel
theorem dX2_traceContour_100 : decode cX2_traceContour 100 = .ok (.invokevirtual 53, 3) := by decide +kernel
theorem dX2_traceContour_103 : decode cX2_traceContour 103 = .ok (.iinc 7 1, 3) := by decide +kernel
theorem dX2_traceContour_106 : decode cX2_traceContour 106 = .ok (.goto (-45), 3) := by decide +kernel
theorem dX2_traceContour_109 : decode cX2_traceContour 109 = .ok (.return_, 1) := by decide +kernel
theorem dX2_firstOn_0 : decode cX2_firstOn 0 = .ok (.iload_n 1, 1) := by decide +kernel
theorem dX2_firstOn_1 : decode cX2_firstOn 1 = .ok (.istore_n 3, 1) := by decide +kernel
theorem dX2_firstOn_2 : decode cX2_firstOn 2 = .ok (.iload_n 3, 1) := by decide +kernel
theorem dX2_firstOn_3 : decode cX2_firstOn 3 = .ok (.iload_n 2, 1) := by decide +kernel
theorem dX2_firstOn_4 : decode cX2_firstOn 4 = .ok (.if_icmp .gt 19, 3) := by decide +kernel
theorem dX2_firstOn_7 : decode cX2_firstOn 7 = .ok (.aload_n 0, 1) := by decide +kernel
theorem dX2_firstOn_8 : decode cX2_firstOn 8 = .ok (.iload_n 3, 1) := by decide +kernel
theorem dX2_firstOn_9 : decode cX2_firstOn 9 = .ok (.invokevirtual 56, 3) := by decide +kernel
theorem dX2_firstOn_12 : decode cX2_firstOn 12 = .ok (.ifCond .eq 5, 3) := by decide +kernel
theorem dX2_firstOn_15 : decode cX2_firstOn 15 = .ok (.iload_n 3, 1) := by decide +kernel
theorem dX2_firstOn_16 : decode cX2_firstOn 16 = .ok (.ireturn, 1) := by decide +kernel
theorem dX2_firstOn_17 : decode cX2_firstOn 17 = .ok (.iinc 3 1, 3) := by decide +kernel
theorem dX2_firstOn_20 : decode cX2_firstOn 20 = .ok (.goto (-18), 3) := by decide +kernel
theorem dX2_firstOn_23 : decode cX2_firstOn 23 = .ok (.iload_n 1, 1) := by decide +kernel
theorem dX2_firstOn_24 : decode cX2_firstOn 24 = .ok (.ireturn, 1) := by decide +kernel
theorem dX2_tracePoint_0 : decode cX2_tracePoint 0 = .ok (.aload_n 1, 1) := by decide +kernel
theorem dX2_tracePoint_1 : decode cX2_tracePoint 1 = .ok (.iload_n 3, 1) := by decide +kernel
theorem dX2_tracePoint_2 : decode cX2_tracePoint 2 = .ok (.invokevirtual 37, 3) := by decide +kernel
theorem dX2_tracePoint_5 : decode cX2_tracePoint 5 = .ok (.istore 5, 2) := by decide +kernel
theorem dX2_tracePoint_7 : decode cX2_tracePoint 7 = .ok (.aload_n 1, 1) := by decide +kernel
theorem dX2_tracePoint_8 : decode cX2_tracePoint 8 = .ok (.iload_n 3, 1) := by decide +kernel
theorem dX2_tracePoint_9 : decode cX2_tracePoint 9 = .ok (.invokevirtual 43, 3) := by decide +kernel
theorem dX2_tracePoint_12 : decode cX2_tracePoint 12 = .ok (.istore 6, 2) := by decide +kernel
theorem dX2_tracePoint_14 : decode cX2_tracePoint 14 = .ok (.aload_n 1, 1) := by decide +kernel
theorem dX2_tracePoint_15 : decode cX2_tracePoint 15 = .ok (.iload 4, 2) := by decide +kernel
theorem dX2_tracePoint_17 : decode cX2_tracePoint 17 = .ok (.invokevirtual 37, 3) := by decide +kernel
theorem dX2_tracePoint_20 : decode cX2_tracePoint 20 = .ok (.istore 7, 2) := by decide +kernel
theorem dX2_tracePoint_22 : decode cX2_tracePoint 22 = .ok (.aload_n 1, 1) := by decide +kernel
theorem dX2_tracePoint_23 : decode cX2_tracePoint 23 = .ok (.iload 4, 2) := by decide +kernel
theorem dX2_tracePoint_25 : decode cX2_tracePoint 25 = .ok (.invokevirtual 43, 3) := by decide +kernel
theorem dX2_tracePoint_28 : decode cX2_tracePoint 28 = .ok (.istore 8, 2) := by decide +kernel
theorem dX2_tracePoint_30 : decode cX2_tracePoint 30 = .ok (.aload_n 1, 1) := by decide +kernel
theorem dX2_tracePoint_31 : decode cX2_tracePoint 31 = .ok (.iload 4, 2) := by decide +kernel
theorem dX2_tracePoint_33 : decode cX2_tracePoint 33 = .ok (.invokevirtual 56, 3) := by decide +kernel
theorem dX2_tracePoint_36 : decode cX2_tracePoint 36 = .ok (.istore 9, 2) := by decide +kernel
theorem dX2_tracePoint_38 : decode cX2_tracePoint 38 = .ok (.aload_n 1, 1) := by decide +kernel
theorem dX2_tracePoint_39 : decode cX2_tracePoint 39 = .ok (.iload_n 3, 1) := by decide +kernel
theorem dX2_tracePoint_40 : decode cX2_tracePoint 40 = .ok (.invokevirtual 56, 3) := by decide +kernel
theorem dX2_tracePoint_43 : decode cX2_tracePoint 43 = .ok (.ifCond .ne 48, 3) := by decide +kernel
theorem dX2_tracePoint_46 : decode cX2_tracePoint 46 = .ok (.aload_n 0, 1) := by decide +kernel
theorem dX2_tracePoint_47 : decode cX2_tracePoint 47 = .ok (.iload_n 2, 1) := by decide +kernel
theorem dX2_tracePoint_48 : decode cX2_tracePoint 48 = .ok (.iconst 1, 1) := by decide +kernel
theorem dX2_tracePoint_49 : decode cX2_tracePoint 49 = .ok (.iconst 2, 1) := by decide +kernel
theorem dX2_tracePoint_50 : decode cX2_tracePoint 50 = .ok (.iload 5, 2) := by decide +kernel
theorem dX2_tracePoint_52 : decode cX2_tracePoint 52 = .ok (.imul, 1) := by decide +kernel
theorem dX2_tracePoint_53 : decode cX2_tracePoint 53 = .ok (.iconst 2, 1) := by decide +kernel
theorem dX2_tracePoint_54 : decode cX2_tracePoint 54 = .ok (.iload 6, 2) := by decide +kernel
theorem dX2_tracePoint_56 : decode cX2_tracePoint 56 = .ok (.imul, 1) := by decide +kernel
theorem dX2_tracePoint_57 : decode cX2_tracePoint 57 = .ok (.iload 7, 2) := by decide +kernel
theorem dX2_tracePoint_59 : decode cX2_tracePoint 59 = .ok (.iload 9, 2) := by decide +kernel
theorem dX2_tracePoint_61 : decode cX2_tracePoint 61 = .ok (.ifCond .eq 8, 3) := by decide +kernel
theorem dX2_tracePoint_64 : decode cX2_tracePoint 64 = .ok (.iload 7, 2) := by decide +kernel
theorem dX2_tracePoint_66 : decode cX2_tracePoint 66 = .ok (.goto 5, 3) := by decide +kernel
theorem dX2_tracePoint_69 : decode cX2_tracePoint 69 = .ok (.iload 5, 2) := by decide +kernel
theorem dX2_tracePoint_71 : decode cX2_tracePoint 71 = .ok (.iadd, 1) := by decide +kernel
theorem dX2_tracePoint_72 : decode cX2_tracePoint 72 = .ok (.iload 8, 2) := by decide +kernel
theorem dX2_tracePoint_74 : decode cX2_tracePoint 74 = .ok (.iload 9, 2) := by decide +kernel
theorem dX2_tracePoint_76 : decode cX2_tracePoint 76 = .ok (.ifCond .eq 8, 3) := by decide +kernel
theorem dX2_tracePoint_79 : decode cX2_tracePoint 79 = .ok (.iload 8, 2) := by decide +kernel
theorem dX2_tracePoint_81 : decode cX2_tracePoint 81 = .ok (.goto 5, 3) := by decide +kernel
theorem dX2_tracePoint_84 : decode cX2_tracePoint 84 = .ok (.iload 6, 2) := by decide +kernel
theorem dX2_tracePoint_86 : decode cX2_tracePoint 86 = .ok (.iadd, 1) := by decide +kernel
theorem dX2_tracePoint_87 : decode cX2_tracePoint 87 = .ok (.invokevirtual 60, 3) := by decide +kernel
theorem dX2_tracePoint_90 : decode cX2_tracePoint 90 = .ok (.return_, 1) := by decide +kernel
theorem dX2_tracePoint_91 : decode cX2_tracePoint 91 = .ok (.aload_n 0, 1) := by decide +kernel
theorem dX2_tracePoint_92 : decode cX2_tracePoint 92 = .ok (.iconst 2, 1) := by decide +kernel
theorem dX2_tracePoint_93 : decode cX2_tracePoint 93 = .ok (.iload 5, 2) := by decide +kernel
theorem dX2_tracePoint_95 : decode cX2_tracePoint 95 = .ok (.imul, 1) := by decide +kernel
theorem dX2_tracePoint_96 : decode cX2_tracePoint 96 = .ok (.putfield 40, 3) := by decide +kernel
theorem dX2_tracePoint_99 : decode cX2_tracePoint 99 = .ok (.aload_n 0, 1) := by decide +kernel
theorem dX2_tracePoint_100 : decode cX2_tracePoint 100 = .ok (.iconst 2, 1) := by decide +kernel
theorem dX2_tracePoint_101 : decode cX2_tracePoint 101 = .ok (.iload 6, 2) := by decide +kernel
theorem dX2_tracePoint_103 : decode cX2_tracePoint 103 = .ok (.imul, 1) := by decide +kernel
theorem dX2_tracePoint_104 : decode cX2_tracePoint 104 = .ok (.putfield 46, 3) := by decide +kernel
theorem dX2_tracePoint_107 : decode cX2_tracePoint 107 = .ok (.iload 9, 2) := by decide +kernel
theorem dX2_tracePoint_109 : decode cX2_tracePoint 109 = .ok (.ifCond .eq 19, 3) := by decide +kernel
theorem dX2_tracePoint_112 : decode cX2_tracePoint 112 = .ok (.aload_n 0, 1) := by decide +kernel
theorem dX2_tracePoint_113 : decode cX2_tracePoint 113 = .ok (.iload_n 2, 1) := by decide +kernel
theorem dX2_tracePoint_114 : decode cX2_tracePoint 114 = .ok (.iconst 0, 1) := by decide +kernel
theorem dX2_tracePoint_115 : decode cX2_tracePoint 115 = .ok (.iconst 0, 1) := by decide +kernel
theorem dX2_tracePoint_116 : decode cX2_tracePoint 116 = .ok (.iconst 0, 1) := by decide +kernel
theorem dX2_tracePoint_117 : decode cX2_tracePoint 117 = .ok (.iconst 2, 1) := by decide +kernel
theorem dX2_tracePoint_118 : decode cX2_tracePoint 118 = .ok (.iload 7, 2) := by decide +kernel
theorem dX2_tracePoint_120 : decode cX2_tracePoint 120 = .ok (.imul, 1) := by decide +kernel
theorem dX2_tracePoint_121 : decode cX2_tracePoint 121 = .ok (.iconst 2, 1) := by decide +kernel
theorem dX2_tracePoint_122 : decode cX2_tracePoint 122 = .ok (.iload 8, 2) := by decide +kernel
theorem dX2_tracePoint_124 : decode cX2_tracePoint 124 = .ok (.imul, 1) := by decide +kernel
theorem dX2_tracePoint_125 : decode cX2_tracePoint 125 = .ok (.invokevirtual 60, 3) := by decide +kernel
theorem dX2_tracePoint_128 : decode cX2_tracePoint 128 = .ok (.return_, 1) := by decide +kernel
theorem dX2_put_0 : decode cX2_put 0 = .ok (.bipush 8, 2) := by decide +kernel
theorem dX2_put_2 : decode cX2_put 2 = .ok (.aload_n 0, 1) := by decide +kernel
theorem dX2_put_3 : decode cX2_put 3 = .ok (.getfield 15, 3) := by decide +kernel
theorem dX2_put_6 : decode cX2_put 6 = .ok (.imul, 1) := by decide +kernel
theorem dX2_put_7 : decode cX2_put 7 = .ok (.istore 7, 2) := by decide +kernel
theorem dX2_put_9 : decode cX2_put 9 = .ok (.iload 7, 2) := by decide +kernel
theorem dX2_put_11 : decode cX2_put 11 = .ok (.bipush 8, 2) := by decide +kernel
theorem dX2_put_13 : decode cX2_put 13 = .ok (.iadd, 1) := by decide +kernel
theorem dX2_put_14 : decode cX2_put 14 = .ok (.aload_n 0, 1) := by decide +kernel
theorem dX2_put_15 : decode cX2_put 15 = .ok (.getfield 9, 3) := by decide +kernel
theorem dX2_put_18 : decode cX2_put 18 = .ok (.arraylength, 1) := by decide +kernel
theorem dX2_put_19 : decode cX2_put 19 = .ok (.if_icmp .le 4, 3) := by decide +kernel
theorem dX2_put_22 : decode cX2_put 22 = .ok (.return_, 1) := by decide +kernel
theorem dX2_put_23 : decode cX2_put 23 = .ok (.aload_n 0, 1) := by decide +kernel
theorem dX2_put_24 : decode cX2_put 24 = .ok (.getfield 9, 3) := by decide +kernel
theorem dX2_put_27 : decode cX2_put 27 = .ok (.iload 7, 2) := by decide +kernel
theorem dX2_put_29 : decode cX2_put 29 = .ok (.iload_n 1, 1) := by decide +kernel
theorem dX2_put_30 : decode cX2_put 30 = .ok (.iastore, 1) := by decide +kernel
theorem dX2_put_31 : decode cX2_put 31 = .ok (.aload_n 0, 1) := by decide +kernel
theorem dX2_put_32 : decode cX2_put 32 = .ok (.getfield 9, 3) := by decide +kernel
theorem dX2_put_35 : decode cX2_put 35 = .ok (.iload 7, 2) := by decide +kernel
theorem dX2_put_37 : decode cX2_put 37 = .ok (.iconst 1, 1) := by decide +kernel
theorem dX2_put_38 : decode cX2_put 38 = .ok (.iadd, 1) := by decide +kernel
theorem dX2_put_39 : decode cX2_put 39 = .ok (.iload_n 2, 1) := by decide +kernel
theorem dX2_put_40 : decode cX2_put 40 = .ok (.iastore, 1) := by decide +kernel
theorem dX2_put_41 : decode cX2_put 41 = .ok (.aload_n 0, 1) := by decide +kernel
theorem dX2_put_42 : decode cX2_put 42 = .ok (.getfield 9, 3) := by decide +kernel
theorem dX2_put_45 : decode cX2_put 45 = .ok (.iload 7, 2) := by decide +kernel
theorem dX2_put_47 : decode cX2_put 47 = .ok (.iconst 2, 1) := by decide +kernel
theorem dX2_put_48 : decode cX2_put 48 = .ok (.iadd, 1) := by decide +kernel
theorem dX2_put_49 : decode cX2_put 49 = .ok (.aload_n 0, 1) := by decide +kernel
theorem dX2_put_50 : decode cX2_put 50 = .ok (.getfield 40, 3) := by decide +kernel
theorem dX2_put_53 : decode cX2_put 53 = .ok (.iastore, 1) := by decide +kernel
theorem dX2_put_54 : decode cX2_put 54 = .ok (.aload_n 0, 1) := by decide +kernel
theorem dX2_put_55 : decode cX2_put 55 = .ok (.getfield 9, 3) := by decide +kernel
theorem dX2_put_58 : decode cX2_put 58 = .ok (.iload 7, 2) := by decide +kernel
theorem dX2_put_60 : decode cX2_put 60 = .ok (.iconst 3, 1) := by decide +kernel
theorem dX2_put_61 : decode cX2_put 61 = .ok (.iadd, 1) := by decide +kernel
theorem dX2_put_62 : decode cX2_put 62 = .ok (.aload_n 0, 1) := by decide +kernel
theorem dX2_put_63 : decode cX2_put 63 = .ok (.getfield 46, 3) := by decide +kernel
theorem dX2_put_66 : decode cX2_put 66 = .ok (.iastore, 1) := by decide +kernel
theorem dX2_put_67 : decode cX2_put 67 = .ok (.aload_n 0, 1) := by decide +kernel
theorem dX2_put_68 : decode cX2_put 68 = .ok (.getfield 9, 3) := by decide +kernel
theorem dX2_put_71 : decode cX2_put 71 = .ok (.iload 7, 2) := by decide +kernel
theorem dX2_put_73 : decode cX2_put 73 = .ok (.iconst 4, 1) := by decide +kernel
theorem dX2_put_74 : decode cX2_put 74 = .ok (.iadd, 1) := by decide +kernel
theorem dX2_put_75 : decode cX2_put 75 = .ok (.iload_n 3, 1) := by decide +kernel
theorem dX2_put_76 : decode cX2_put 76 = .ok (.iastore, 1) := by decide +kernel
theorem dX2_put_77 : decode cX2_put 77 = .ok (.aload_n 0, 1) := by decide +kernel
theorem dX2_put_78 : decode cX2_put 78 = .ok (.getfield 9, 3) := by decide +kernel
theorem dX2_put_81 : decode cX2_put 81 = .ok (.iload 7, 2) := by decide +kernel
theorem dX2_put_83 : decode cX2_put 83 = .ok (.iconst 5, 1) := by decide +kernel
theorem dX2_put_84 : decode cX2_put 84 = .ok (.iadd, 1) := by decide +kernel
theorem dX2_put_85 : decode cX2_put 85 = .ok (.iload 4, 2) := by decide +kernel
theorem dX2_put_87 : decode cX2_put 87 = .ok (.iastore, 1) := by decide +kernel
theorem dX2_put_88 : decode cX2_put 88 = .ok (.aload_n 0, 1) := by decide +kernel
theorem dX2_put_89 : decode cX2_put 89 = .ok (.getfield 9, 3) := by decide +kernel
theorem dX2_put_92 : decode cX2_put 92 = .ok (.iload 7, 2) := by decide +kernel
theorem dX2_put_94 : decode cX2_put 94 = .ok (.bipush 6, 2) := by decide +kernel
theorem dX2_put_96 : decode cX2_put 96 = .ok (.iadd, 1) := by decide +kernel
theorem dX2_put_97 : decode cX2_put 97 = .ok (.iload 5, 2) := by decide +kernel
theorem dX2_put_99 : decode cX2_put 99 = .ok (.iastore, 1) := by decide +kernel
theorem dX2_put_100 : decode cX2_put 100 = .ok (.aload_n 0, 1) := by decide +kernel
theorem dX2_put_101 : decode cX2_put 101 = .ok (.getfield 9, 3) := by decide +kernel
theorem dX2_put_104 : decode cX2_put 104 = .ok (.iload 7, 2) := by decide +kernel
theorem dX2_put_106 : decode cX2_put 106 = .ok (.bipush 7, 2) := by decide +kernel
theorem dX2_put_108 : decode cX2_put 108 = .ok (.iadd, 1) := by decide +kernel
theorem dX2_put_109 : decode cX2_put 109 = .ok (.iload 6, 2) := by decide +kernel
theorem dX2_put_111 : decode cX2_put 111 = .ok (.iastore, 1) := by decide +kernel
theorem dX2_put_112 : decode cX2_put 112 = .ok (.aload_n 0, 1) := by decide +kernel
theorem dX2_put_113 : decode cX2_put 113 = .ok (.dup, 1) := by decide +kernel
theorem dX2_put_114 : decode cX2_put 114 = .ok (.getfield 15, 3) := by decide +kernel
theorem dX2_put_117 : decode cX2_put 117 = .ok (.iconst 1, 1) := by decide +kernel
theorem dX2_put_118 : decode cX2_put 118 = .ok (.iadd, 1) := by decide +kernel
theorem dX2_put_119 : decode cX2_put 119 = .ok (.putfield 15, 3) := by decide +kernel
theorem dX2_put_122 : decode cX2_put 122 = .ok (.aload_n 0, 1) := by decide +kernel
theorem dX2_put_123 : decode cX2_put 123 = .ok (.iload 5, 2) := by decide +kernel
theorem dX2_put_125 : decode cX2_put 125 = .ok (.putfield 40, 3) := by decide +kernel
theorem dX2_put_128 : decode cX2_put 128 = .ok (.aload_n 0, 1) := by decide +kernel
theorem dX2_put_129 : decode cX2_put 129 = .ok (.iload 6, 2) := by decide +kernel
theorem dX2_put_131 : decode cX2_put 131 = .ok (.putfield 46, 3) := by decide +kernel
theorem dX2_put_134 : decode cX2_put 134 = .ok (.return_, 1) := by decide +kernel
theorem dX3_init_0 : decode cX3_init 0 = .ok (.aload_n 0, 1) := by decide +kernel
theorem dX3_init_1 : decode cX3_init 1 = .ok (.invokespecial 3, 3) := by decide +kernel
theorem dX3_init_4 : decode cX3_init 4 = .ok (.aload_n 0, 1) := by decide +kernel
theorem dX3_init_5 : decode cX3_init 5 = .ok (.bipush 120, 2) := by decide +kernel
theorem dX3_init_7 : decode cX3_init 7 = .ok (.newarray .int, 2) := by decide +kernel
theorem dX3_init_9 : decode cX3_init 9 = .ok (.putfield 9, 3) := by decide +kernel
theorem dX3_init_12 : decode cX3_init 12 = .ok (.aload_n 0, 1) := by decide +kernel
theorem dX3_init_13 : decode cX3_init 13 = .ok (.bipush 120, 2) := by decide +kernel
theorem dX3_init_15 : decode cX3_init 15 = .ok (.newarray .int, 2) := by decide +kernel
theorem dX3_init_17 : decode cX3_init 17 = .ok (.putfield 15, 3) := by decide +kernel
theorem dX3_init_20 : decode cX3_init 20 = .ok (.aload_n 0, 1) := by decide +kernel
theorem dX3_init_21 : decode cX3_init 21 = .ok (.bipush 120, 2) := by decide +kernel
theorem dX3_init_23 : decode cX3_init 23 = .ok (.newarray .int, 2) := by decide +kernel
theorem dX3_init_25 : decode cX3_init 25 = .ok (.putfield 18, 3) := by decide +kernel
theorem dX3_init_28 : decode cX3_init 28 = .ok (.aload_n 0, 1) := by decide +kernel
theorem dX3_init_29 : decode cX3_init 29 = .ok (.bipush 120, 2) := by decide +kernel
theorem dX3_init_31 : decode cX3_init 31 = .ok (.newarray .int, 2) := by decide +kernel
theorem dX3_init_33 : decode cX3_init 33 = .ok (.putfield 21, 3) := by decide +kernel
theorem dX3_init_36 : decode cX3_init 36 = .ok (.return_, 1) := by decide +kernel
theorem dX3_size_0 : decode cX3_size 0 = .ok (.aload_n 0, 1) := by decide +kernel
theorem dX3_size_1 : decode cX3_size 1 = .ok (.getfield 24, 3) := by decide +kernel
theorem dX3_size_4 : decode cX3_size 4 = .ok (.ireturn, 1) := by decide +kernel
theorem dX3_contours_0 : decode cX3_contours 0 = .ok (.aload_n 0, 1) := by decide +kernel
theorem dX3_contours_1 : decode cX3_contours 1 = .ok (.getfield 28, 3) := by decide +kernel
theorem dX3_contours_4 : decode cX3_contours 4 = .ok (.ireturn, 1) := by decide +kernel
theorem dX3_has_0 : decode cX3_has 0 = .ok (.iload_n 1, 1) := by decide +kernel
theorem dX3_has_1 : decode cX3_has 1 = .ok (.ifCond .lt 15, 3) := by decide +kernel
theorem dX3_has_4 : decode cX3_has 4 = .ok (.iload_n 1, 1) := by decide +kernel
theorem dX3_has_5 : decode cX3_has 5 = .ok (.aload_n 0, 1) := by decide +kernel
theorem dX3_has_6 : decode cX3_has 6 = .ok (.getfield 24, 3) := by decide +kernel
theorem dX3_has_9 : decode cX3_has 9 = .ok (.if_icmp .ge 7, 3) := by decide +kernel
theorem dX3_has_12 : decode cX3_has 12 = .ok (.iconst 1, 1) := by decide +kernel
theorem dX3_has_13 : decode cX3_has 13 = .ok (.goto 4, 3) := by decide +kernel
theorem dX3_has_16 : decode cX3_has 16 = .ok (.iconst 0, 1) := by decide +kernel
theorem dX3_has_17 : decode cX3_has 17 = .ok (.ireturn, 1) := by decide +kernel
theorem dX3_x_0 : decode cX3_x 0 = .ok (.aload_n 0, 1) := by decide +kernel
theorem dX3_x_1 : decode cX3_x 1 = .ok (.iload_n 1, 1) := by decide +kernel
theorem dX3_x_2 : decode cX3_x 2 = .ok (.invokevirtual 31, 3) := by decide +kernel
theorem dX3_x_5 : decode cX3_x 5 = .ok (.ifCond .eq 12, 3) := by decide +kernel
theorem dX3_x_8 : decode cX3_x 8 = .ok (.aload_n 0, 1) := by decide +kernel
theorem dX3_x_9 : decode cX3_x 9 = .ok (.getfield 9, 3) := by decide +kernel
theorem dX3_x_12 : decode cX3_x 12 = .ok (.iload_n 1, 1) := by decide +kernel
theorem dX3_x_13 : decode cX3_x 13 = .ok (.iaload, 1) := by decide +kernel
theorem dX3_x_14 : decode cX3_x 14 = .ok (.goto 4, 3) := by decide +kernel
theorem dX3_x_17 : decode cX3_x 17 = .ok (.iconst 0, 1) := by decide +kernel
theorem dX3_x_18 : decode cX3_x 18 = .ok (.ireturn, 1) := by decide +kernel
theorem dX3_y_0 : decode cX3_y 0 = .ok (.aload_n 0, 1) := by decide +kernel
theorem dX3_y_1 : decode cX3_y 1 = .ok (.iload_n 1, 1) := by decide +kernel
theorem dX3_y_2 : decode cX3_y 2 = .ok (.invokevirtual 31, 3) := by decide +kernel
theorem dX3_y_5 : decode cX3_y 5 = .ok (.ifCond .eq 12, 3) := by decide +kernel
theorem dX3_y_8 : decode cX3_y 8 = .ok (.aload_n 0, 1) := by decide +kernel
theorem dX3_y_9 : decode cX3_y 9 = .ok (.getfield 15, 3) := by decide +kernel
theorem dX3_y_12 : decode cX3_y 12 = .ok (.iload_n 1, 1) := by decide +kernel
theorem dX3_y_13 : decode cX3_y 13 = .ok (.iaload, 1) := by decide +kernel
theorem dX3_y_14 : decode cX3_y 14 = .ok (.goto 4, 3) := by decide +kernel
theorem dX3_y_17 : decode cX3_y 17 = .ok (.iconst 0, 1) := by decide +kernel
theorem dX3_y_18 : decode cX3_y 18 = .ok (.ireturn, 1) := by decide +kernel
theorem dX3_isOn_0 : decode cX3_isOn 0 = .ok (.aload_n 0, 1) := by decide +kernel
theorem dX3_isOn_1 : decode cX3_isOn 1 = .ok (.iload_n 1, 1) := by decide +kernel
theorem dX3_isOn_2 : decode cX3_isOn 2 = .ok (.invokevirtual 31, 3) := by decide +kernel
theorem dX3_isOn_5 : decode cX3_isOn 5 = .ok (.ifCond .eq 18, 3) := by decide +kernel
theorem dX3_isOn_8 : decode cX3_isOn 8 = .ok (.aload_n 0, 1) := by decide +kernel
theorem dX3_isOn_9 : decode cX3_isOn 9 = .ok (.getfield 18, 3) := by decide +kernel
theorem dX3_isOn_12 : decode cX3_isOn 12 = .ok (.iload_n 1, 1) := by decide +kernel
theorem dX3_isOn_13 : decode cX3_isOn 13 = .ok (.iaload, 1) := by decide +kernel
theorem dX3_isOn_14 : decode cX3_isOn 14 = .ok (.iconst 1, 1) := by decide +kernel
theorem dX3_isOn_15 : decode cX3_isOn 15 = .ok (.iand, 1) := by decide +kernel
theorem dX3_isOn_16 : decode cX3_isOn 16 = .ok (.ifCond .eq 7, 3) := by decide +kernel
theorem dX3_isOn_19 : decode cX3_isOn 19 = .ok (.iconst 1, 1) := by decide +kernel
theorem dX3_isOn_20 : decode cX3_isOn 20 = .ok (.goto 4, 3) := by decide +kernel
theorem dX3_isOn_23 : decode cX3_isOn 23 = .ok (.iconst 0, 1) := by decide +kernel
theorem dX3_isOn_24 : decode cX3_isOn 24 = .ok (.ireturn, 1) := by decide +kernel
theorem dX3_lastOf_0 : decode cX3_lastOf 0 = .ok (.iload_n 1, 1) := by decide +kernel
theorem dX3_lastOf_1 : decode cX3_lastOf 1 = .ok (.ifCond .lt 20, 3) := by decide +kernel
theorem dX3_lastOf_4 : decode cX3_lastOf 4 = .ok (.iload_n 1, 1) := by decide +kernel
theorem dX3_lastOf_5 : decode cX3_lastOf 5 = .ok (.aload_n 0, 1) := by decide +kernel
theorem dX3_lastOf_6 : decode cX3_lastOf 6 = .ok (.getfield 28, 3) := by decide +kernel
theorem dX3_lastOf_9 : decode cX3_lastOf 9 = .ok (.if_icmp .ge 12, 3) := by decide +kernel
theorem dX3_lastOf_12 : decode cX3_lastOf 12 = .ok (.aload_n 0, 1) := by decide +kernel
theorem dX3_lastOf_13 : decode cX3_lastOf 13 = .ok (.getfield 21, 3) := by decide +kernel
theorem dX3_lastOf_16 : decode cX3_lastOf 16 = .ok (.iload_n 1, 1) := by decide +kernel
theorem dX3_lastOf_17 : decode cX3_lastOf 17 = .ok (.iaload, 1) := by decide +kernel
theorem dX3_lastOf_18 : decode cX3_lastOf 18 = .ok (.goto 4, 3) := by decide +kernel
theorem dX3_lastOf_21 : decode cX3_lastOf 21 = .ok (.iconst (-1), 1) := by decide +kernel
theorem dX3_lastOf_22 : decode cX3_lastOf 22 = .ok (.ireturn, 1) := by decide +kernel
theorem dX3_keep_0 : decode cX3_keep 0 = .ok (.aload_n 0, 1) := by decide +kernel
theorem dX3_keep_1 : decode cX3_keep 1 = .ok (.iconst 0, 1) := by decide +kernel
theorem dX3_keep_2 : decode cX3_keep 2 = .ok (.aload_n 0, 1) := by decide +kernel
theorem dX3_keep_3 : decode cX3_keep 3 = .ok (.getfield 24, 3) := by decide +kernel
theorem dX3_keep_6 : decode cX3_keep 6 = .ok (.iload_n 1, 1) := by decide +kernel
theorem dX3_keep_7 : decode cX3_keep 7 = .ok (.invokestatic 35, 3) := by decide +kernel
theorem dX3_keep_10 : decode cX3_keep 10 = .ok (.invokestatic 41, 3) := by decide +kernel
theorem dX3_keep_13 : decode cX3_keep 13 = .ok (.putfield 24, 3) := by decide +kernel
theorem dX3_keep_16 : decode cX3_keep 16 = .ok (.aload_n 0, 1) := by decide +kernel
theorem dX3_keep_17 : decode cX3_keep 17 = .ok (.iconst 0, 1) := by decide +kernel
theorem dX3_keep_18 : decode cX3_keep 18 = .ok (.aload_n 0, 1) := by decide +kernel
theorem dX3_keep_19 : decode cX3_keep 19 = .ok (.getfield 28, 3) := by decide +kernel
theorem dX3_keep_22 : decode cX3_keep 22 = .ok (.iload_n 2, 1) := by decide +kernel
theorem dX3_keep_23 : decode cX3_keep 23 = .ok (.invokestatic 35, 3) := by decide +kernel
theorem dX3_keep_26 : decode cX3_keep 26 = .ok (.invokestatic 41, 3) := by decide +kernel
theorem dX3_keep_29 : decode cX3_keep 29 = .ok (.putfield 28, 3) := by decide +kernel
theorem dX3_keep_32 : decode cX3_keep 32 = .ok (.return_, 1) := by decide +kernel
theorem dX3_take_0 : decode cX3_take 0 = .ok (.aload_n 0, 1) := by decide +kernel
theorem dX3_take_1 : decode cX3_take 1 = .ok (.getfield 24, 3) := by decide +kernel
theorem dX3_take_4 : decode cX3_take 4 = .ok (.istore_n 2, 1) := by decide +kernel
theorem dX3_take_5 : decode cX3_take 5 = .ok (.aload_n 0, 1) := by decide +kernel
theorem dX3_take_6 : decode cX3_take 6 = .ok (.aload_n 1, 1) := by decide +kernel
theorem dX3_take_7 : decode cX3_take 7 = .ok (.iload_n 2, 1) := by decide +kernel
theorem dX3_take_8 : decode cX3_take 8 = .ok (.invokevirtual 44, 3) := by decide +kernel
theorem dX3_take_11 : decode cX3_take 11 = .ok (.ifCond .ne 5, 3) := by decide +kernel
theorem dX3_take_14 : decode cX3_take 14 = .ok (.iconst 0, 1) := by decide +kernel
theorem dX3_take_15 : decode cX3_take 15 = .ok (.ireturn, 1) := by decide +kernel
theorem dX3_take_16 : decode cX3_take 16 = .ok (.aload_n 1, 1) := by decide +kernel
theorem dX3_take_17 : decode cX3_take 17 = .ok (.aload_n 1, 1) := by decide +kernel
theorem dX3_take_18 : decode cX3_take 18 = .ok (.invokevirtual 48, 3) := by decide +kernel
theorem dX3_take_21 : decode cX3_take 21 = .ok (.invokevirtual 54, 3) := by decide +kernel
theorem dX3_take_24 : decode cX3_take 24 = .ok (.aload_n 0, 1) := by decide +kernel
theorem dX3_take_25 : decode cX3_take 25 = .ok (.aload_n 1, 1) := by decide +kernel
theorem dX3_take_26 : decode cX3_take 26 = .ok (.iload_n 2, 1) := by decide +kernel
theorem dX3_take_27 : decode cX3_take 27 = .ok (.invokevirtual 58, 3) := by decide +kernel
theorem dX3_take_30 : decode cX3_take 30 = .ok (.ifCond .ne 5, 3) := by decide +kernel
theorem dX3_take_33 : decode cX3_take 33 = .ok (.iconst 0, 1) := by decide +kernel
theorem dX3_take_34 : decode cX3_take 34 = .ok (.ireturn, 1) := by decide +kernel
theorem dX3_take_35 : decode cX3_take 35 = .ok (.aload_n 0, 1) := by decide +kernel
theorem dX3_take_36 : decode cX3_take 36 = .ok (.aload_n 1, 1) := by decide +kernel
theorem dX3_take_37 : decode cX3_take 37 = .ok (.aload_n 0, 1) := by decide +kernel
theorem dX3_take_38 : decode cX3_take 38 = .ok (.getfield 9, 3) := by decide +kernel
theorem dX3_take_41 : decode cX3_take 41 = .ok (.iload_n 2, 1) := by decide +kernel
theorem dX3_take_42 : decode cX3_take 42 = .ok (.iconst 2, 1) := by decide +kernel
theorem dX3_take_43 : decode cX3_take 43 = .ok (.bipush 16, 2) := by decide +kernel
theorem dX3_take_45 : decode cX3_take 45 = .ok (.invokevirtual 61, 3) := by decide +kernel
theorem dX3_take_48 : decode cX3_take 48 = .ok (.aload_n 0, 1) := by decide +kernel
theorem dX3_take_49 : decode cX3_take 49 = .ok (.aload_n 1, 1) := by decide +kernel
theorem dX3_take_50 : decode cX3_take 50 = .ok (.aload_n 0, 1) := by decide +kernel
theorem dX3_take_51 : decode cX3_take 51 = .ok (.getfield 15, 3) := by decide +kernel
theorem dX3_take_54 : decode cX3_take 54 = .ok (.iload_n 2, 1) := by decide +kernel
theorem dX3_take_55 : decode cX3_take 55 = .ok (.iconst 4, 1) := by decide +kernel
theorem dX3_take_56 : decode cX3_take 56 = .ok (.bipush 32, 2) := by decide +kernel
theorem dX3_take_58 : decode cX3_take 58 = .ok (.invokevirtual 61, 3) := by decide +kernel
theorem dX3_take_61 : decode cX3_take 61 = .ok (.aload_n 1, 1) := by decide +kernel
theorem dX3_take_62 : decode cX3_take 62 = .ok (.invokevirtual 65, 3) := by decide +kernel
theorem dX3_take_65 : decode cX3_take 65 = .ok (.ifCond .ne 7, 3) := by decide +kernel
theorem dX3_take_68 : decode cX3_take 68 = .ok (.iconst 1, 1) := by decide +kernel
theorem dX3_take_69 : decode cX3_take 69 = .ok (.goto 4, 3) := by decide +kernel
theorem dX3_take_72 : decode cX3_take 72 = .ok (.iconst 0, 1) := by decide +kernel
theorem dX3_take_73 : decode cX3_take 73 = .ok (.ireturn, 1) := by decide +kernel
theorem dX3_takeContours_0 : decode cX3_takeContours 0 = .ok (.iconst 0, 1) := by decide +kernel
theorem dX3_takeContours_1 : decode cX3_takeContours 1 = .ok (.istore_n 3, 1) := by decide +kernel
theorem dX3_takeContours_2 : decode cX3_takeContours 2 = .ok (.iload_n 3, 1) := by decide +kernel
theorem dX3_takeContours_3 : decode cX3_takeContours 3 = .ok (.aload_n 1, 1) := by decide +kernel
theorem dX3_takeContours_4 : decode cX3_takeContours 4 = .ok (.getfield 69, 3) := by decide +kernel
theorem dX3_takeContours_7 : decode cX3_takeContours 7 = .ok (.if_icmp .ge 92, 3) := by decide +kernel
theorem dX3_takeContours_10 : decode cX3_takeContours 10 = .ok (.iload_n 2, 1) := by decide +kernel
theorem dX3_takeContours_11 : decode cX3_takeContours 11 = .ok (.aload_n 1, 1) := by decide +kernel
theorem dX3_takeContours_12 : decode cX3_takeContours 12 = .ok (.invokevirtual 48, 3) := by decide +kernel
theorem dX3_takeContours_15 : decode cX3_takeContours 15 = .ok (.iadd, 1) := by decide +kernel
theorem dX3_takeContours_16 : decode cX3_takeContours 16 = .ok (.istore 4, 2) := by decide +kernel
theorem dX3_takeContours_18 : decode cX3_takeContours 18 = .ok (.aload_n 1, 1) := by decide +kernel
theorem dX3_takeContours_19 : decode cX3_takeContours 19 = .ok (.invokevirtual 65, 3) := by decide +kernel
theorem dX3_takeContours_22 : decode cX3_takeContours 22 = .ok (.ifCond .ne 23, 3) := by decide +kernel
theorem dX3_takeContours_25 : decode cX3_takeContours 25 = .ok (.iload 4, 2) := by decide +kernel
theorem dX3_takeContours_27 : decode cX3_takeContours 27 = .ok (.aload_n 0, 1) := by decide +kernel
theorem dX3_takeContours_28 : decode cX3_takeContours 28 = .ok (.getfield 24, 3) := by decide +kernel
theorem dX3_takeContours_31 : decode cX3_takeContours 31 = .ok (.if_icmp .lt 14, 3) := by decide +kernel
theorem dX3_takeContours_34 : decode cX3_takeContours 34 = .ok (.iload 4, 2) := by decide +kernel
theorem dX3_takeContours_36 : decode cX3_takeContours 36 = .ok (.bipush 120, 2) := by decide +kernel
theorem dX3_takeContours_38 : decode cX3_takeContours 38 = .ok (.if_icmp .ge 7, 3) := by decide +kernel
theorem dX3_takeContours_41 : decode cX3_takeContours 41 = .ok (.iconst 1, 1) := by decide +kernel
theorem dX3_takeContours_42 : decode cX3_takeContours 42 = .ok (.goto 4, 3) := by decide +kernel
theorem dX3_takeContours_45 : decode cX3_takeContours 45 = .ok (.iconst 0, 1) := by decide +kernel
theorem dX3_takeContours_46 : decode cX3_takeContours 46 = .ok (.istore 5, 2) := by decide +kernel
theorem dX3_takeContours_48 : decode cX3_takeContours 48 = .ok (.iload 5, 2) := by decide +kernel
theorem dX3_takeContours_50 : decode cX3_takeContours 50 = .ok (.ifCond .eq 12, 3) := by decide +kernel
theorem dX3_takeContours_53 : decode cX3_takeContours 53 = .ok (.aload_n 0, 1) := by decide +kernel
theorem dX3_takeContours_54 : decode cX3_takeContours 54 = .ok (.getfield 28, 3) := by decide +kernel
theorem dX3_takeContours_57 : decode cX3_takeContours 57 = .ok (.bipush 120, 2) := by decide +kernel
theorem dX3_takeContours_59 : decode cX3_takeContours 59 = .ok (.if_icmp .lt 5, 3) := by decide +kernel
theorem dX3_takeContours_62 : decode cX3_takeContours 62 = .ok (.iconst 0, 1) := by decide +kernel
theorem dX3_takeContours_63 : decode cX3_takeContours 63 = .ok (.ireturn, 1) := by decide +kernel
theorem dX3_takeContours_64 : decode cX3_takeContours 64 = .ok (.aload_n 0, 1) := by decide +kernel
theorem dX3_takeContours_65 : decode cX3_takeContours 65 = .ok (.getfield 21, 3) := by decide +kernel
theorem dX3_takeContours_68 : decode cX3_takeContours 68 = .ok (.aload_n 0, 1) := by decide +kernel
theorem dX3_takeContours_69 : decode cX3_takeContours 69 = .ok (.getfield 28, 3) := by decide +kernel
theorem dX3_takeContours_72 : decode cX3_takeContours 72 = .ok (.iload 4, 2) := by decide +kernel
theorem dX3_takeContours_74 : decode cX3_takeContours 74 = .ok (.iastore, 1) := by decide +kernel
theorem dX3_takeContours_75 : decode cX3_takeContours 75 = .ok (.aload_n 0, 1) := by decide +kernel
theorem dX3_takeContours_76 : decode cX3_takeContours 76 = .ok (.dup, 1) := by decide +kernel
theorem dX3_takeContours_77 : decode cX3_takeContours 77 = .ok (.getfield 28, 3) := by decide +kernel
theorem dX3_takeContours_80 : decode cX3_takeContours 80 = .ok (.iconst 1, 1) := by decide +kernel
theorem dX3_takeContours_81 : decode cX3_takeContours 81 = .ok (.iadd, 1) := by decide +kernel
theorem dX3_takeContours_82 : decode cX3_takeContours 82 = .ok (.putfield 28, 3) := by decide +kernel
theorem dX3_takeContours_85 : decode cX3_takeContours 85 = .ok (.aload_n 0, 1) := by decide +kernel
theorem dX3_takeContours_86 : decode cX3_takeContours 86 = .ok (.iload 4, 2) := by decide +kernel
theorem dX3_takeContours_88 : decode cX3_takeContours 88 = .ok (.iconst 1, 1) := by decide +kernel
theorem dX3_takeContours_89 : decode cX3_takeContours 89 = .ok (.iadd, 1) := by decide +kernel
theorem dX3_takeContours_90 : decode cX3_takeContours 90 = .ok (.putfield 24, 3) := by decide +kernel
theorem dX3_takeContours_93 : decode cX3_takeContours 93 = .ok (.iinc 3 1, 3) := by decide +kernel
theorem dX3_takeContours_96 : decode cX3_takeContours 96 = .ok (.goto (-94), 3) := by decide +kernel
theorem dX3_takeContours_99 : decode cX3_takeContours 99 = .ok (.iconst 1, 1) := by decide +kernel
theorem dX3_takeContours_100 : decode cX3_takeContours 100 = .ok (.ireturn, 1) := by decide +kernel
theorem dX3_takeFlags_0 : decode cX3_takeFlags 0 = .ok (.iconst 0, 1) := by decide +kernel
theorem dX3_takeFlags_1 : decode cX3_takeFlags 1 = .ok (.istore_n 3, 1) := by decide +kernel
theorem dX3_takeFlags_2 : decode cX3_takeFlags 2 = .ok (.iconst 0, 1) := by decide +kernel
theorem dX3_takeFlags_3 : decode cX3_takeFlags 3 = .ok (.istore 4, 2) := by decide +kernel
theorem dX3_takeFlags_5 : decode cX3_takeFlags 5 = .ok (.iload_n 2, 1) := by decide +kernel
theorem dX3_takeFlags_6 : decode cX3_takeFlags 6 = .ok (.istore 5, 2) := by decide +kernel
theorem dX3_takeFlags_8 : decode cX3_takeFlags 8 = .ok (.iload 5, 2) := by decide +kernel
theorem dX3_takeFlags_10 : decode cX3_takeFlags 10 = .ok (.aload_n 0, 1) := by decide +kernel
theorem dX3_takeFlags_11 : decode cX3_takeFlags 11 = .ok (.getfield 24, 3) := by decide +kernel
theorem dX3_takeFlags_14 : decode cX3_takeFlags 14 = .ok (.if_icmp .ge 51, 3) := by decide +kernel
theorem dX3_takeFlags_17 : decode cX3_takeFlags 17 = .ok (.iload_n 3, 1) := by decide +kernel
theorem dX3_takeFlags_18 : decode cX3_takeFlags 18 = .ok (.ifCond .le 9, 3) := by decide +kernel
theorem dX3_takeFlags_21 : decode cX3_takeFlags 21 = .ok (.iinc 3 (-1), 3) := by decide +kernel
theorem dX3_takeFlags_24 : decode cX3_takeFlags 24 = .ok (.goto 26, 3) := by decide +kernel
theorem dX3_takeFlags_27 : decode cX3_takeFlags 27 = .ok (.aload_n 1, 1) := by decide +kernel
theorem dX3_takeFlags_28 : decode cX3_takeFlags 28 = .ok (.invokevirtual 70, 3) := by decide +kernel
theorem dX3_takeFlags_31 : decode cX3_takeFlags 31 = .ok (.istore 4, 2) := by decide +kernel
theorem dX3_takeFlags_33 : decode cX3_takeFlags 33 = .ok (.iload 4, 2) := by decide +kernel
theorem dX3_takeFlags_35 : decode cX3_takeFlags 35 = .ok (.bipush 8, 2) := by decide +kernel
theorem dX3_takeFlags_37 : decode cX3_takeFlags 37 = .ok (.iand, 1) := by decide +kernel
theorem dX3_takeFlags_38 : decode cX3_takeFlags 38 = .ok (.ifCond .eq 10, 3) := by decide +kernel
theorem dX3_takeFlags_41 : decode cX3_takeFlags 41 = .ok (.aload_n 1, 1) := by decide +kernel
theorem dX3_takeFlags_42 : decode cX3_takeFlags 42 = .ok (.invokevirtual 70, 3) := by decide +kernel
theorem dX3_takeFlags_45 : decode cX3_takeFlags 45 = .ok (.goto 4, 3) := by decide +kernel
theorem dX3_takeFlags_48 : decode cX3_takeFlags 48 = .ok (.iconst 0, 1) := by decide +kernel
theorem dX3_takeFlags_49 : decode cX3_takeFlags 49 = .ok (.istore_n 3, 1) := by decide +kernel
theorem dX3_takeFlags_50 : decode cX3_takeFlags 50 = .ok (.aload_n 0, 1) := by decide +kernel
theorem dX3_takeFlags_51 : decode cX3_takeFlags 51 = .ok (.getfield 18, 3) := by decide +kernel
theorem dX3_takeFlags_54 : decode cX3_takeFlags 54 = .ok (.iload 5, 2) := by decide +kernel
theorem dX3_takeFlags_56 : decode cX3_takeFlags 56 = .ok (.iload 4, 2) := by decide +kernel
theorem dX3_takeFlags_58 : decode cX3_takeFlags 58 = .ok (.iastore, 1) := by decide +kernel
theorem dX3_takeFlags_59 : decode cX3_takeFlags 59 = .ok (.iinc 5 1, 3) := by decide +kernel
theorem dX3_takeFlags_62 : decode cX3_takeFlags 62 = .ok (.goto (-54), 3) := by decide +kernel
theorem dX3_takeFlags_65 : decode cX3_takeFlags 65 = .ok (.iload_n 3, 1) := by decide +kernel
theorem dX3_takeFlags_66 : decode cX3_takeFlags 66 = .ok (.ifCond .ne 14, 3) := by decide +kernel
theorem dX3_takeFlags_69 : decode cX3_takeFlags 69 = .ok (.aload_n 1, 1) := by decide +kernel
theorem dX3_takeFlags_70 : decode cX3_takeFlags 70 = .ok (.invokevirtual 65, 3) := by decide +kernel
theorem dX3_takeFlags_73 : decode cX3_takeFlags 73 = .ok (.ifCond .ne 7, 3) := by decide +kernel
theorem dX3_takeFlags_76 : decode cX3_takeFlags 76 = .ok (.iconst 1, 1) := by decide +kernel
theorem dX3_takeFlags_77 : decode cX3_takeFlags 77 = .ok (.goto 4, 3) := by decide +kernel
theorem dX3_takeFlags_80 : decode cX3_takeFlags 80 = .ok (.iconst 0, 1) := by decide +kernel
theorem dX3_takeFlags_81 : decode cX3_takeFlags 81 = .ok (.ireturn, 1) := by decide +kernel
theorem dX3_takeAxis_0 : decode cX3_takeAxis 0 = .ok (.iconst 0, 1) := by decide +kernel
theorem dX3_takeAxis_1 : decode cX3_takeAxis 1 = .ok (.istore 6, 2) := by decide +kernel
theorem dX3_takeAxis_3 : decode cX3_takeAxis 3 = .ok (.iload_n 3, 1) := by decide +kernel
theorem dX3_takeAxis_4 : decode cX3_takeAxis 4 = .ok (.istore 7, 2) := by decide +kernel
theorem dX3_takeAxis_6 : decode cX3_takeAxis 6 = .ok (.iload 7, 2) := by decide +kernel
theorem dX3_takeAxis_8 : decode cX3_takeAxis 8 = .ok (.aload_n 0, 1) := by decide +kernel
theorem dX3_takeAxis_9 : decode cX3_takeAxis 9 = .ok (.getfield 24, 3) := by decide +kernel
theorem dX3_takeAxis_12 : decode cX3_takeAxis 12 = .ok (.if_icmp .ge 89, 3) := by decide +kernel
theorem dX3_takeAxis_15 : decode cX3_takeAxis 15 = .ok (.aload_n 0, 1) := by decide +kernel
theorem dX3_takeAxis_16 : decode cX3_takeAxis 16 = .ok (.getfield 18, 3) := by decide +kernel
theorem dX3_takeAxis_19 : decode cX3_takeAxis 19 = .ok (.iload 7, 2) := by decide +kernel
theorem dX3_takeAxis_21 : decode cX3_takeAxis 21 = .ok (.iaload, 1) := by decide +kernel
theorem dX3_takeAxis_22 : decode cX3_takeAxis 22 = .ok (.iload 5, 2) := by decide +kernel
theorem dX3_takeAxis_24 : decode cX3_takeAxis 24 = .ok (.iand, 1) := by decide +kernel
theorem dX3_takeAxis_25 : decode cX3_takeAxis 25 = .ok (.ifCond .eq 7, 3) := by decide +kernel
theorem dX3_takeAxis_28 : decode cX3_takeAxis 28 = .ok (.iconst 1, 1) := by decide +kernel
theorem dX3_takeAxis_29 : decode cX3_takeAxis 29 = .ok (.goto 4, 3) := by decide +kernel
theorem dX3_takeAxis_32 : decode cX3_takeAxis 32 = .ok (.iconst 0, 1) := by decide +kernel
theorem dX3_takeAxis_33 : decode cX3_takeAxis 33 = .ok (.istore 8, 2) := by decide +kernel
theorem dX3_takeAxis_35 : decode cX3_takeAxis 35 = .ok (.aload_n 0, 1) := by decide +kernel
theorem dX3_takeAxis_36 : decode cX3_takeAxis 36 = .ok (.getfield 18, 3) := by decide +kernel
theorem dX3_takeAxis_39 : decode cX3_takeAxis 39 = .ok (.iload 7, 2) := by decide +kernel
theorem dX3_takeAxis_41 : decode cX3_takeAxis 41 = .ok (.iaload, 1) := by decide +kernel
theorem dX3_takeAxis_42 : decode cX3_takeAxis 42 = .ok (.iload 4, 2) := by decide +kernel
theorem dX3_takeAxis_44 : decode cX3_takeAxis 44 = .ok (.iand, 1) := by decide +kernel
theorem dX3_takeAxis_45 : decode cX3_takeAxis 45 = .ok (.ifCond .eq 30, 3) := by decide +kernel
theorem dX3_takeAxis_48 : decode cX3_takeAxis 48 = .ok (.aload_n 1, 1) := by decide +kernel
theorem dX3_takeAxis_49 : decode cX3_takeAxis 49 = .ok (.invokevirtual 70, 3) := by decide +kernel
theorem dX3_takeAxis_52 : decode cX3_takeAxis 52 = .ok (.istore 9, 2) := by decide +kernel
theorem dX3_takeAxis_54 : decode cX3_takeAxis 54 = .ok (.iload 6, 2) := by decide +kernel
theorem dX3_takeAxis_56 : decode cX3_takeAxis 56 = .ok (.iload 8, 2) := by decide +kernel
theorem dX3_takeAxis_58 : decode cX3_takeAxis 58 = .ok (.ifCond .eq 8, 3) := by decide +kernel
theorem dX3_takeAxis_61 : decode cX3_takeAxis 61 = .ok (.iload 9, 2) := by decide +kernel
theorem dX3_takeAxis_63 : decode cX3_takeAxis 63 = .ok (.goto 6, 3) := by decide +kernel
theorem dX3_takeAxis_66 : decode cX3_takeAxis 66 = .ok (.iload 9, 2) := by decide +kernel
theorem dX3_takeAxis_68 : decode cX3_takeAxis 68 = .ok (.ineg, 1) := by decide +kernel
theorem dX3_takeAxis_69 : decode cX3_takeAxis 69 = .ok (.iadd, 1) := by decide +kernel
theorem dX3_takeAxis_70 : decode cX3_takeAxis 70 = .ok (.istore 6, 2) := by decide +kernel
theorem dX3_takeAxis_72 : decode cX3_takeAxis 72 = .ok (.goto 17, 3) := by decide +kernel
theorem dX3_takeAxis_75 : decode cX3_takeAxis 75 = .ok (.iload 8, 2) := by decide +kernel
theorem dX3_takeAxis_77 : decode cX3_takeAxis 77 = .ok (.ifCond .ne 12, 3) := by decide +kernel
theorem dX3_takeAxis_80 : decode cX3_takeAxis 80 = .ok (.iload 6, 2) := by decide +kernel
theorem dX3_takeAxis_82 : decode cX3_takeAxis 82 = .ok (.aload_n 1, 1) := by decide +kernel
theorem dX3_takeAxis_83 : decode cX3_takeAxis 83 = .ok (.invokevirtual 73, 3) := by decide +kernel
theorem dX3_takeAxis_86 : decode cX3_takeAxis 86 = .ok (.iadd, 1) := by decide +kernel
theorem dX3_takeAxis_87 : decode cX3_takeAxis 87 = .ok (.istore 6, 2) := by decide +kernel
theorem dX3_takeAxis_89 : decode cX3_takeAxis 89 = .ok (.aload_n 2, 1) := by decide +kernel
theorem dX3_takeAxis_90 : decode cX3_takeAxis 90 = .ok (.iload 7, 2) := by decide +kernel
theorem dX3_takeAxis_92 : decode cX3_takeAxis 92 = .ok (.iload 6, 2) := by decide +kernel
theorem dX3_takeAxis_94 : decode cX3_takeAxis 94 = .ok (.iastore, 1) := by decide +kernel
theorem dX3_takeAxis_95 : decode cX3_takeAxis 95 = .ok (.iinc 7 1, 3) := by decide +kernel
theorem dX3_takeAxis_98 : decode cX3_takeAxis 98 = .ok (.goto (-92), 3) := by decide +kernel
theorem dX3_takeAxis_101 : decode cX3_takeAxis 101 = .ok (.return_, 1) := by decide +kernel
theorem dX3_scale_0 : decode cX3_scale 0 = .ok (.iconst 0, 1) := by decide +kernel
theorem dX3_scale_1 : decode cX3_scale 1 = .ok (.iload_n 1, 1) := by decide +kernel
theorem dX3_scale_2 : decode cX3_scale 2 = .ok (.invokestatic 41, 3) := by decide +kernel
theorem dX3_scale_5 : decode cX3_scale 5 = .ok (.istore_n 3, 1) := by decide +kernel
theorem dX3_scale_6 : decode cX3_scale 6 = .ok (.iload_n 3, 1) := by decide +kernel
theorem dX3_scale_7 : decode cX3_scale 7 = .ok (.aload_n 0, 1) := by decide +kernel
theorem dX3_scale_8 : decode cX3_scale 8 = .ok (.getfield 24, 3) := by decide +kernel
theorem dX3_scale_11 : decode cX3_scale 11 = .ok (.if_icmp .ge 79, 3) := by decide +kernel
theorem dX3_scale_14 : decode cX3_scale 14 = .ok (.aload_n 0, 1) := by decide +kernel
theorem dX3_scale_15 : decode cX3_scale 15 = .ok (.getfield 9, 3) := by decide +kernel
theorem dX3_scale_18 : decode cX3_scale 18 = .ok (.iload_n 3, 1) := by decide +kernel
theorem dX3_scale_19 : decode cX3_scale 19 = .ok (.iaload, 1) := by decide +kernel
theorem dX3_scale_20 : decode cX3_scale 20 = .ok (.i2l, 1) := by decide +kernel
theorem dX3_scale_21 : decode cX3_scale 21 = .ok (.lstore 4, 2) := by decide +kernel
theorem dX3_scale_23 : decode cX3_scale 23 = .ok (.aload_n 0, 1) := by decide +kernel
theorem dX3_scale_24 : decode cX3_scale 24 = .ok (.getfield 15, 3) := by decide +kernel
theorem dX3_scale_27 : decode cX3_scale 27 = .ok (.iload_n 3, 1) := by decide +kernel
theorem dX3_scale_28 : decode cX3_scale 28 = .ok (.iaload, 1) := by decide +kernel
theorem dX3_scale_29 : decode cX3_scale 29 = .ok (.i2l, 1) := by decide +kernel
theorem dX3_scale_30 : decode cX3_scale 30 = .ok (.lstore 6, 2) := by decide +kernel
theorem dX3_scale_32 : decode cX3_scale 32 = .ok (.aload_n 0, 1) := by decide +kernel
theorem dX3_scale_33 : decode cX3_scale 33 = .ok (.getfield 9, 3) := by decide +kernel
theorem dX3_scale_36 : decode cX3_scale 36 = .ok (.iload_n 3, 1) := by decide +kernel
theorem dX3_scale_37 : decode cX3_scale 37 = .ok (.aload_n 2, 1) := by decide +kernel
theorem dX3_scale_38 : decode cX3_scale 38 = .ok (.getfield 76, 3) := by decide +kernel
theorem dX3_scale_41 : decode cX3_scale 41 = .ok (.i2l, 1) := by decide +kernel
theorem dX3_scale_42 : decode cX3_scale 42 = .ok (.lload 4, 2) := by decide +kernel
theorem dX3_scale_44 : decode cX3_scale 44 = .ok (.lmul, 1) := by decide +kernel
theorem dX3_scale_45 : decode cX3_scale 45 = .ok (.aload_n 2, 1) := by decide +kernel
theorem dX3_scale_46 : decode cX3_scale 46 = .ok (.getfield 79, 3) := by decide +kernel
theorem dX3_scale_49 : decode cX3_scale 49 = .ok (.i2l, 1) := by decide +kernel
theorem dX3_scale_50 : decode cX3_scale 50 = .ok (.lload 6, 2) := by decide +kernel
theorem dX3_scale_52 : decode cX3_scale 52 = .ok (.lmul, 1) := by decide +kernel
theorem dX3_scale_53 : decode cX3_scale 53 = .ok (.ladd, 1) := by decide +kernel
theorem dX3_scale_54 : decode cX3_scale 54 = .ok (.invokestatic 82, 3) := by decide +kernel
theorem dX3_scale_57 : decode cX3_scale 57 = .ok (.iastore, 1) := by decide +kernel
theorem dX3_scale_58 : decode cX3_scale 58 = .ok (.aload_n 0, 1) := by decide +kernel
theorem dX3_scale_59 : decode cX3_scale 59 = .ok (.getfield 15, 3) := by decide +kernel
theorem dX3_scale_62 : decode cX3_scale 62 = .ok (.iload_n 3, 1) := by decide +kernel
theorem dX3_scale_63 : decode cX3_scale 63 = .ok (.aload_n 2, 1) := by decide +kernel
theorem dX3_scale_64 : decode cX3_scale 64 = .ok (.getfield 86, 3) := by decide +kernel
theorem dX3_scale_67 : decode cX3_scale 67 = .ok (.i2l, 1) := by decide +kernel
theorem dX3_scale_68 : decode cX3_scale 68 = .ok (.lload 4, 2) := by decide +kernel
theorem dX3_scale_70 : decode cX3_scale 70 = .ok (.lmul, 1) := by decide +kernel
theorem dX3_scale_71 : decode cX3_scale 71 = .ok (.aload_n 2, 1) := by decide +kernel
theorem dX3_scale_72 : decode cX3_scale 72 = .ok (.getfield 89, 3) := by decide +kernel
theorem dX3_scale_75 : decode cX3_scale 75 = .ok (.i2l, 1) := by decide +kernel
theorem dX3_scale_76 : decode cX3_scale 76 = .ok (.lload 6, 2) := by decide +kernel
theorem dX3_scale_78 : decode cX3_scale 78 = .ok (.lmul, 1) := by decide +kernel
theorem dX3_scale_79 : decode cX3_scale 79 = .ok (.ladd, 1) := by decide +kernel
theorem dX3_scale_80 : decode cX3_scale 80 = .ok (.invokestatic 82, 3) := by decide +kernel
theorem dX3_scale_83 : decode cX3_scale 83 = .ok (.iastore, 1) := by decide +kernel
theorem dX3_scale_84 : decode cX3_scale 84 = .ok (.iinc 3 1, 3) := by decide +kernel
theorem dX3_scale_87 : decode cX3_scale 87 = .ok (.goto (-81), 3) := by decide +kernel
theorem dX3_scale_90 : decode cX3_scale 90 = .ok (.return_, 1) := by decide +kernel
theorem dX3_wholes_0 : decode cX3_wholes 0 = .ok (.lload_n 0, 1) := by decide +kernel
theorem dX3_wholes_1 : decode cX3_wholes 1 = .ok (.ldc2_w 92, 3) := by decide +kernel
theorem dX3_wholes_4 : decode cX3_wholes 4 = .ok (.ladd, 1) := by decide +kernel
theorem dX3_wholes_5 : decode cX3_wholes 5 = .ok (.ldc2_w 94, 3) := by decide +kernel
theorem dX3_wholes_8 : decode cX3_wholes 8 = .ok (.invokestatic 96, 3) := by decide +kernel
theorem dX3_wholes_11 : decode cX3_wholes 11 = .ok (.l2i, 1) := by decide +kernel
theorem dX3_wholes_12 : decode cX3_wholes 12 = .ok (.ireturn, 1) := by decide +kernel
theorem dX3_move_0 : decode cX3_move 0 = .ok (.iconst 0, 1) := by decide +kernel
theorem dX3_move_1 : decode cX3_move 1 = .ok (.iload_n 1, 1) := by decide +kernel
theorem dX3_move_2 : decode cX3_move 2 = .ok (.invokestatic 41, 3) := by decide +kernel
theorem dX3_move_5 : decode cX3_move 5 = .ok (.istore 4, 2) := by decide +kernel
theorem dX3_move_7 : decode cX3_move 7 = .ok (.iload 4, 2) := by decide +kernel
theorem dX3_move_9 : decode cX3_move 9 = .ok (.aload_n 0, 1) := by decide +kernel
theorem dX3_move_10 : decode cX3_move 10 = .ok (.getfield 24, 3) := by decide +kernel
theorem dX3_move_13 : decode cX3_move 13 = .ok (.if_icmp .ge 31, 3) := by decide +kernel
theorem dX3_move_16 : decode cX3_move 16 = .ok (.aload_n 0, 1) := by decide +kernel
theorem dX3_move_17 : decode cX3_move 17 = .ok (.getfield 9, 3) := by decide +kernel
theorem dX3_move_20 : decode cX3_move 20 = .ok (.iload 4, 2) := by decide +kernel
theorem dX3_move_22 : decode cX3_move 22 = .ok (.dup2, 1) := by decide +kernel
theorem dX3_move_23 : decode cX3_move 23 = .ok (.iaload, 1) := by decide +kernel
theorem dX3_move_24 : decode cX3_move 24 = .ok (.iload_n 2, 1) := by decide +kernel
theorem dX3_move_25 : decode cX3_move 25 = .ok (.iadd, 1) := by decide +kernel
theorem dX3_move_26 : decode cX3_move 26 = .ok (.iastore, 1) := by decide +kernel
theorem dX3_move_27 : decode cX3_move 27 = .ok (.aload_n 0, 1) := by decide +kernel
theorem dX3_move_28 : decode cX3_move 28 = .ok (.getfield 15, 3) := by decide +kernel
theorem dX3_move_31 : decode cX3_move 31 = .ok (.iload 4, 2) := by decide +kernel
theorem dX3_move_33 : decode cX3_move 33 = .ok (.dup2, 1) := by decide +kernel
theorem dX3_move_34 : decode cX3_move 34 = .ok (.iaload, 1) := by decide +kernel
theorem dX3_move_35 : decode cX3_move 35 = .ok (.iload_n 3, 1) := by decide +kernel
theorem dX3_move_36 : decode cX3_move 36 = .ok (.iadd, 1) := by decide +kernel
theorem dX3_move_37 : decode cX3_move 37 = .ok (.iastore, 1) := by decide +kernel
theorem dX3_move_38 : decode cX3_move 38 = .ok (.iinc 4 1, 3) := by decide +kernel
theorem dX3_move_41 : decode cX3_move 41 = .ok (.goto (-34), 3) := by decide +kernel
theorem dX3_move_44 : decode cX3_move 44 = .ok (.return_, 1) := by decide +kernel
theorem dX4_init_0 : decode cX4_init 0 = .ok (.aload_n 0, 1) := by decide +kernel
theorem dX4_init_1 : decode cX4_init 1 = .ok (.invokespecial 3, 3) := by decide +kernel
theorem dX4_init_4 : decode cX4_init 4 = .ok (.aload_n 0, 1) := by decide +kernel
theorem dX4_init_5 : decode cX4_init 5 = .ok (.aload_n 1, 1) := by decide +kernel
theorem dX4_init_6 : decode cX4_init 6 = .ok (.putfield 9, 3) := by decide +kernel
theorem dX4_init_9 : decode cX4_init 9 = .ok (.return_, 1) := by decide +kernel
theorem dX4_size_0 : decode cX4_size 0 = .ok (.aload_n 0, 1) := by decide +kernel
theorem dX4_size_1 : decode cX4_size 1 = .ok (.getfield 15, 3) := by decide +kernel
theorem dX4_size_4 : decode cX4_size 4 = .ok (.ireturn, 1) := by decide +kernel
theorem dX4_clear_0 : decode cX4_clear 0 = .ok (.aload_n 0, 1) := by decide +kernel
theorem dX4_clear_1 : decode cX4_clear 1 = .ok (.iconst 0, 1) := by decide +kernel
theorem dX4_clear_2 : decode cX4_clear 2 = .ok (.putfield 15, 3) := by decide +kernel
theorem dX4_clear_5 : decode cX4_clear 5 = .ok (.return_, 1) := by decide +kernel
theorem dX4_push_0 : decode cX4_push 0 = .ok (.aload_n 0, 1) := by decide +kernel
theorem dX4_push_1 : decode cX4_push 1 = .ok (.getfield 15, 3) := by decide +kernel
theorem dX4_push_4 : decode cX4_push 4 = .ok (.aload_n 0, 1) := by decide +kernel
theorem dX4_push_5 : decode cX4_push 5 = .ok (.getfield 9, 3) := by decide +kernel
theorem dX4_push_8 : decode cX4_push 8 = .ok (.arraylength, 1) := by decide +kernel
theorem dX4_push_9 : decode cX4_push 9 = .ok (.if_icmp .ge 27, 3) := by decide +kernel
theorem dX4_push_12 : decode cX4_push 12 = .ok (.aload_n 0, 1) := by decide +kernel
theorem dX4_push_13 : decode cX4_push 13 = .ok (.getfield 9, 3) := by decide +kernel
theorem dX4_push_16 : decode cX4_push 16 = .ok (.aload_n 0, 1) := by decide +kernel
theorem dX4_push_17 : decode cX4_push 17 = .ok (.getfield 15, 3) := by decide +kernel
theorem dX4_push_20 : decode cX4_push 20 = .ok (.iload_n 1, 1) := by decide +kernel
theorem dX4_push_21 : decode cX4_push 21 = .ok (.sipush 255, 3) := by decide +kernel
theorem dX4_push_24 : decode cX4_push 24 = .ok (.iand, 1) := by decide +kernel
theorem dX4_push_25 : decode cX4_push 25 = .ok (.iastore, 1) := by decide +kernel
theorem dX4_push_26 : decode cX4_push 26 = .ok (.aload_n 0, 1) := by decide +kernel
theorem dX4_push_27 : decode cX4_push 27 = .ok (.dup, 1) := by decide +kernel
theorem dX4_push_28 : decode cX4_push 28 = .ok (.getfield 15, 3) := by decide +kernel
theorem dX4_push_31 : decode cX4_push 31 = .ok (.iconst 1, 1) := by decide +kernel
theorem dX4_push_32 : decode cX4_push 32 = .ok (.iadd, 1) := by decide +kernel
theorem dX4_push_33 : decode cX4_push 33 = .ok (.putfield 15, 3) := by decide +kernel
theorem dX4_push_36 : decode cX4_push 36 = .ok (.return_, 1) := by decide +kernel
theorem dX4_pushTwo_0 : decode cX4_pushTwo 0 = .ok (.aload_n 0, 1) := by decide +kernel
theorem dX4_pushTwo_1 : decode cX4_pushTwo 1 = .ok (.iload_n 1, 1) := by decide +kernel
theorem dX4_pushTwo_2 : decode cX4_pushTwo 2 = .ok (.bipush 8, 2) := by decide +kernel
theorem dX4_pushTwo_4 : decode cX4_pushTwo 4 = .ok (.ishr, 1) := by decide +kernel
theorem dX4_pushTwo_5 : decode cX4_pushTwo 5 = .ok (.invokevirtual 19, 3) := by decide +kernel
theorem dX4_pushTwo_8 : decode cX4_pushTwo 8 = .ok (.aload_n 0, 1) := by decide +kernel
theorem dX4_pushTwo_9 : decode cX4_pushTwo 9 = .ok (.iload_n 1, 1) := by decide +kernel
theorem dX4_pushTwo_10 : decode cX4_pushTwo 10 = .ok (.invokevirtual 19, 3) := by decide +kernel
theorem dX4_pushTwo_13 : decode cX4_pushTwo 13 = .ok (.return_, 1) := by decide +kernel
theorem dX4_pushFour_0 : decode cX4_pushFour 0 = .ok (.aload_n 0, 1) := by decide +kernel
theorem dX4_pushFour_1 : decode cX4_pushFour 1 = .ok (.iload_n 1, 1) := by decide +kernel
theorem dX4_pushFour_2 : decode cX4_pushFour 2 = .ok (.bipush 16, 2) := by decide +kernel
theorem dX4_pushFour_4 : decode cX4_pushFour 4 = .ok (.ishr, 1) := by decide +kernel
theorem dX4_pushFour_5 : decode cX4_pushFour 5 = .ok (.invokevirtual 23, 3) := by decide +kernel
theorem dX4_pushFour_8 : decode cX4_pushFour 8 = .ok (.aload_n 0, 1) := by decide +kernel
theorem dX4_pushFour_9 : decode cX4_pushFour 9 = .ok (.iload_n 1, 1) := by decide +kernel
theorem dX4_pushFour_10 : decode cX4_pushFour 10 = .ok (.invokevirtual 23, 3) := by decide +kernel
theorem dX4_pushFour_13 : decode cX4_pushFour 13 = .ok (.return_, 1) := by decide +kernel
theorem dX4_setFour_0 : decode cX4_setFour 0 = .ok (.iconst 0, 1) := by decide +kernel
theorem dX4_setFour_1 : decode cX4_setFour 1 = .ok (.istore 4, 2) := by decide +kernel
theorem dX4_setFour_3 : decode cX4_setFour 3 = .ok (.iload 4, 2) := by decide +kernel
theorem dX4_setFour_5 : decode cX4_setFour 5 = .ok (.iconst 4, 1) := by decide +kernel
theorem dX4_setFour_6 : decode cX4_setFour 6 = .ok (.if_icmp .ge 51, 3) := by decide +kernel
theorem dX4_setFour_9 : decode cX4_setFour 9 = .ok (.iload_n 1, 1) := by decide +kernel
theorem dX4_setFour_10 : decode cX4_setFour 10 = .ok (.iload 4, 2) := by decide +kernel
theorem dX4_setFour_12 : decode cX4_setFour 12 = .ok (.iadd, 1) := by decide +kernel
theorem dX4_setFour_13 : decode cX4_setFour 13 = .ok (.istore 5, 2) := by decide +kernel
theorem dX4_setFour_15 : decode cX4_setFour 15 = .ok (.iload 5, 2) := by decide +kernel
theorem dX4_setFour_17 : decode cX4_setFour 17 = .ok (.ifCond .lt 34, 3) := by decide +kernel
theorem dX4_setFour_20 : decode cX4_setFour 20 = .ok (.iload 5, 2) := by decide +kernel
theorem dX4_setFour_22 : decode cX4_setFour 22 = .ok (.aload_n 0, 1) := by decide +kernel
theorem dX4_setFour_23 : decode cX4_setFour 23 = .ok (.getfield 15, 3) := by decide +kernel
theorem dX4_setFour_26 : decode cX4_setFour 26 = .ok (.if_icmp .ge 25, 3) := by decide +kernel
theorem dX4_setFour_29 : decode cX4_setFour 29 = .ok (.aload_n 0, 1) := by decide +kernel
theorem dX4_setFour_30 : decode cX4_setFour 30 = .ok (.getfield 9, 3) := by decide +kernel
theorem dX4_setFour_33 : decode cX4_setFour 33 = .ok (.iload 5, 2) := by decide +kernel
theorem dX4_setFour_35 : decode cX4_setFour 35 = .ok (.lload_n 2, 1) := by decide +kernel
theorem dX4_setFour_36 : decode cX4_setFour 36 = .ok (.bipush 24, 2) := by decide +kernel
theorem dX4_setFour_38 : decode cX4_setFour 38 = .ok (.bipush 8, 2) := by decide +kernel
theorem dX4_setFour_40 : decode cX4_setFour 40 = .ok (.iload 4, 2) := by decide +kernel
theorem dX4_setFour_42 : decode cX4_setFour 42 = .ok (.imul, 1) := by decide +kernel
theorem dX4_setFour_43 : decode cX4_setFour 43 = .ok (.isub, 1) := by decide +kernel
theorem dX4_setFour_44 : decode cX4_setFour 44 = .ok (.lshr, 1) := by decide +kernel
theorem dX4_setFour_45 : decode cX4_setFour 45 = .ok (.l2i, 1) := by decide +kernel
theorem dX4_setFour_46 : decode cX4_setFour 46 = .ok (.sipush 255, 3) := by decide +kernel
theorem dX4_setFour_49 : decode cX4_setFour 49 = .ok (.iand, 1) := by decide +kernel
theorem dX4_setFour_50 : decode cX4_setFour 50 = .ok (.iastore, 1) := by decide +kernel
theorem dX4_setFour_51 : decode cX4_setFour 51 = .ok (.iinc 4 1, 3) := by decide +kernel
theorem dX4_setFour_54 : decode cX4_setFour 54 = .ok (.goto (-51), 3) := by decide +kernel
theorem dX4_setFour_57 : decode cX4_setFour 57 = .ok (.return_, 1) := by decide +kernel
theorem dX4_one_0 : decode cX4_one 0 = .ok (.lload_n 1, 1) := by decide +kernel
theorem dX4_one_1 : decode cX4_one 1 = .ok (.lconst 0, 1) := by decide +kernel
theorem dX4_one_2 : decode cX4_one 2 = .ok (.lcmp, 1) := by decide +kernel
theorem dX4_one_3 : decode cX4_one 3 = .ok (.ifCond .lt 29, 3) := by decide +kernel
theorem dX4_one_6 : decode cX4_one 6 = .ok (.lload_n 1, 1) := by decide +kernel
theorem dX4_one_7 : decode cX4_one 7 = .ok (.lload_n 3, 1) := by decide +kernel
theorem dX4_one_8 : decode cX4_one 8 = .ok (.lcmp, 1) := by decide +kernel
theorem dX4_one_9 : decode cX4_one 9 = .ok (.ifCond .ge 23, 3) := by decide +kernel
theorem dX4_one_12 : decode cX4_one 12 = .ok (.lload_n 1, 1) := by decide +kernel
theorem dX4_one_13 : decode cX4_one 13 = .ok (.aload_n 0, 1) := by decide +kernel
theorem dX4_one_14 : decode cX4_one 14 = .ok (.getfield 15, 3) := by decide +kernel
theorem dX4_one_17 : decode cX4_one 17 = .ok (.i2l, 1) := by decide +kernel
theorem dX4_one_18 : decode cX4_one 18 = .ok (.lcmp, 1) := by decide +kernel
theorem dX4_one_19 : decode cX4_one 19 = .ok (.ifCond .ge 13, 3) := by decide +kernel
theorem dX4_one_22 : decode cX4_one 22 = .ok (.aload_n 0, 1) := by decide +kernel
theorem dX4_one_23 : decode cX4_one 23 = .ok (.getfield 9, 3) := by decide +kernel
theorem dX4_one_26 : decode cX4_one 26 = .ok (.lload_n 1, 1) := by decide +kernel
theorem dX4_one_27 : decode cX4_one 27 = .ok (.l2i, 1) := by decide +kernel
theorem dX4_one_28 : decode cX4_one 28 = .ok (.iaload, 1) := by decide +kernel
theorem dX4_one_29 : decode cX4_one 29 = .ok (.goto 4, 3) := by decide +kernel
theorem dX4_one_32 : decode cX4_one 32 = .ok (.iconst (-1), 1) := by decide +kernel
theorem dX4_one_33 : decode cX4_one 33 = .ok (.ireturn, 1) := by decide +kernel
theorem dX4_two_0 : decode cX4_two 0 = .ok (.lload_n 1, 1) := by decide +kernel
theorem dX4_two_1 : decode cX4_two 1 = .ok (.lconst 0, 1) := by decide +kernel
theorem dX4_two_2 : decode cX4_two 2 = .ok (.lcmp, 1) := by decide +kernel
theorem dX4_two_3 : decode cX4_two 3 = .ok (.ifCond .lt 23, 3) := by decide +kernel
theorem dX4_two_6 : decode cX4_two 6 = .ok (.lload_n 1, 1) := by decide +kernel
theorem dX4_two_7 : decode cX4_two 7 = .ok (.lconst 1, 1) := by decide +kernel
theorem dX4_two_8 : decode cX4_two 8 = .ok (.ladd, 1) := by decide +kernel
theorem dX4_two_9 : decode cX4_two 9 = .ok (.lload_n 3, 1) := by decide +kernel
theorem dX4_two_10 : decode cX4_two 10 = .ok (.lcmp, 1) := by decide +kernel
theorem dX4_two_11 : decode cX4_two 11 = .ok (.ifCond .ge 15, 3) := by decide +kernel
theorem dX4_two_14 : decode cX4_two 14 = .ok (.lload_n 1, 1) := by decide +kernel
theorem dX4_two_15 : decode cX4_two 15 = .ok (.lconst 1, 1) := by decide +kernel
theorem dX4_two_16 : decode cX4_two 16 = .ok (.ladd, 1) := by decide +kernel
theorem dX4_two_17 : decode cX4_two 17 = .ok (.aload_n 0, 1) := by decide +kernel
theorem dX4_two_18 : decode cX4_two 18 = .ok (.getfield 15, 3) := by decide +kernel
theorem dX4_two_21 : decode cX4_two 21 = .ok (.i2l, 1) := by decide +kernel
theorem dX4_two_22 : decode cX4_two 22 = .ok (.lcmp, 1) := by decide +kernel
theorem dX4_two_23 : decode cX4_two 23 = .ok (.ifCond .lt 5, 3) := by decide +kernel
theorem dX4_two_26 : decode cX4_two 26 = .ok (.iconst (-1), 1) := by decide +kernel
theorem dX4_two_27 : decode cX4_two 27 = .ok (.ireturn, 1) := by decide +kernel
theorem dX4_two_28 : decode cX4_two 28 = .ok (.lload_n 1, 1) := by decide +kernel
theorem dX4_two_29 : decode cX4_two 29 = .ok (.l2i, 1) := by decide +kernel
theorem dX4_two_30 : decode cX4_two 30 = .ok (.istore 5, 2) := by decide +kernel
theorem dX4_two_32 : decode cX4_two 32 = .ok (.aload_n 0, 1) := by decide +kernel
theorem dX4_two_33 : decode cX4_two 33 = .ok (.getfield 9, 3) := by decide +kernel
theorem dX4_two_36 : decode cX4_two 36 = .ok (.iload 5, 2) := by decide +kernel
theorem dX4_two_38 : decode cX4_two 38 = .ok (.iaload, 1) := by decide +kernel
theorem dX4_two_39 : decode cX4_two 39 = .ok (.bipush 8, 2) := by decide +kernel
theorem dX4_two_41 : decode cX4_two 41 = .ok (.ishl, 1) := by decide +kernel
theorem dX4_two_42 : decode cX4_two 42 = .ok (.aload_n 0, 1) := by decide +kernel
theorem dX4_two_43 : decode cX4_two 43 = .ok (.getfield 9, 3) := by decide +kernel
theorem dX4_two_46 : decode cX4_two 46 = .ok (.iload 5, 2) := by decide +kernel
theorem dX4_two_48 : decode cX4_two 48 = .ok (.iconst 1, 1) := by decide +kernel
theorem dX4_two_49 : decode cX4_two 49 = .ok (.iadd, 1) := by decide +kernel
theorem dX4_two_50 : decode cX4_two 50 = .ok (.iaload, 1) := by decide +kernel
theorem dX4_two_51 : decode cX4_two 51 = .ok (.ior, 1) := by decide +kernel
theorem dX4_two_52 : decode cX4_two 52 = .ok (.ireturn, 1) := by decide +kernel
theorem dX4_four_0 : decode cX4_four 0 = .ok (.lload_n 1, 1) := by decide +kernel
theorem dX4_four_1 : decode cX4_four 1 = .ok (.lconst 0, 1) := by decide +kernel
theorem dX4_four_2 : decode cX4_four 2 = .ok (.lcmp, 1) := by decide +kernel
theorem dX4_four_3 : decode cX4_four 3 = .ok (.ifCond .lt 27, 3) := by decide +kernel
theorem dX4_four_6 : decode cX4_four 6 = .ok (.lload_n 1, 1) := by decide +kernel
theorem dX4_four_7 : decode cX4_four 7 = .ok (.ldc2_w 26, 3) := by decide +kernel
theorem dX4_four_10 : decode cX4_four 10 = .ok (.ladd, 1) := by decide +kernel
theorem dX4_four_11 : decode cX4_four 11 = .ok (.lload_n 3, 1) := by decide +kernel
theorem dX4_four_12 : decode cX4_four 12 = .ok (.lcmp, 1) := by decide +kernel
theorem dX4_four_13 : decode cX4_four 13 = .ok (.ifCond .ge 17, 3) := by decide +kernel
theorem dX4_four_16 : decode cX4_four 16 = .ok (.lload_n 1, 1) := by decide +kernel
theorem dX4_four_17 : decode cX4_four 17 = .ok (.ldc2_w 26, 3) := by decide +kernel
theorem dX4_four_20 : decode cX4_four 20 = .ok (.ladd, 1) := by decide +kernel
theorem dX4_four_21 : decode cX4_four 21 = .ok (.aload_n 0, 1) := by decide +kernel
theorem dX4_four_22 : decode cX4_four 22 = .ok (.getfield 15, 3) := by decide +kernel
theorem dX4_four_25 : decode cX4_four 25 = .ok (.i2l, 1) := by decide +kernel
theorem dX4_four_26 : decode cX4_four 26 = .ok (.lcmp, 1) := by decide +kernel
theorem dX4_four_27 : decode cX4_four 27 = .ok (.ifCond .lt 7, 3) := by decide +kernel
theorem dX4_four_30 : decode cX4_four 30 = .ok (.ldc2_w 28, 3) := by decide +kernel
theorem dX4_four_33 : decode cX4_four 33 = .ok (.lreturn, 1) := by decide +kernel
theorem dX4_four_34 : decode cX4_four 34 = .ok (.lload_n 1, 1) := by decide +kernel
theorem dX4_four_35 : decode cX4_four 35 = .ok (.l2i, 1) := by decide +kernel
theorem dX4_four_36 : decode cX4_four 36 = .ok (.istore 5, 2) := by decide +kernel
theorem dX4_four_38 : decode cX4_four 38 = .ok (.aload_n 0, 1) := by decide +kernel
theorem dX4_four_39 : decode cX4_four 39 = .ok (.getfield 9, 3) := by decide +kernel
theorem dX4_four_42 : decode cX4_four 42 = .ok (.iload 5, 2) := by decide +kernel
theorem dX4_four_44 : decode cX4_four 44 = .ok (.iaload, 1) := by decide +kernel
theorem dX4_four_45 : decode cX4_four 45 = .ok (.bipush 8, 2) := by decide +kernel
theorem dX4_four_47 : decode cX4_four 47 = .ok (.ishl, 1) := by decide +kernel
theorem dX4_four_48 : decode cX4_four 48 = .ok (.aload_n 0, 1) := by decide +kernel
theorem dX4_four_49 : decode cX4_four 49 = .ok (.getfield 9, 3) := by decide +kernel
theorem dX4_four_52 : decode cX4_four 52 = .ok (.iload 5, 2) := by decide +kernel
theorem dX4_four_54 : decode cX4_four 54 = .ok (.iconst 1, 1) := by decide +kernel
theorem dX4_four_55 : decode cX4_four 55 = .ok (.iadd, 1) := by decide +kernel
theorem dX4_four_56 : decode cX4_four 56 = .ok (.iaload, 1) := by decide +kernel
theorem dX4_four_57 : decode cX4_four 57 = .ok (.ior, 1) := by decide +kernel
theorem dX4_four_58 : decode cX4_four 58 = .ok (.i2l, 1) := by decide +kernel
theorem dX4_four_59 : decode cX4_four 59 = .ok (.lstore 6, 2) := by decide +kernel
theorem dX4_four_61 : decode cX4_four 61 = .ok (.lload 6, 2) := by decide +kernel
theorem dX4_four_63 : decode cX4_four 63 = .ok (.bipush 16, 2) := by decide +kernel
theorem dX4_four_65 : decode cX4_four 65 = .ok (.lshl, 1) := by decide +kernel
theorem dX4_four_66 : decode cX4_four 66 = .ok (.aload_n 0, 1) := by decide +kernel
theorem dX4_four_67 : decode cX4_four 67 = .ok (.getfield 9, 3) := by decide +kernel
theorem dX4_four_70 : decode cX4_four 70 = .ok (.iload 5, 2) := by decide +kernel
theorem dX4_four_72 : decode cX4_four 72 = .ok (.iconst 2, 1) := by decide +kernel
theorem dX4_four_73 : decode cX4_four 73 = .ok (.iadd, 1) := by decide +kernel
theorem dX4_four_74 : decode cX4_four 74 = .ok (.iaload, 1) := by decide +kernel
theorem dX4_four_75 : decode cX4_four 75 = .ok (.bipush 8, 2) := by decide +kernel
theorem dX4_four_77 : decode cX4_four 77 = .ok (.ishl, 1) := by decide +kernel
theorem dX4_four_78 : decode cX4_four 78 = .ok (.i2l, 1) := by decide +kernel
theorem dX4_four_79 : decode cX4_four 79 = .ok (.lor, 1) := by decide +kernel
theorem dX4_four_80 : decode cX4_four 80 = .ok (.aload_n 0, 1) := by decide +kernel
theorem dX4_four_81 : decode cX4_four 81 = .ok (.getfield 9, 3) := by decide +kernel
theorem dX4_four_84 : decode cX4_four 84 = .ok (.iload 5, 2) := by decide +kernel
theorem dX4_four_86 : decode cX4_four 86 = .ok (.iconst 3, 1) := by decide +kernel
theorem dX4_four_87 : decode cX4_four 87 = .ok (.iadd, 1) := by decide +kernel
theorem dX4_four_88 : decode cX4_four 88 = .ok (.iaload, 1) := by decide +kernel
theorem dX4_four_89 : decode cX4_four 89 = .ok (.i2l, 1) := by decide +kernel
theorem dX4_four_90 : decode cX4_four 90 = .ok (.lor, 1) := by decide +kernel
theorem dX4_four_91 : decode cX4_four 91 = .ok (.lreturn, 1) := by decide +kernel
theorem dX5_init_0 : decode cX5_init 0 = .ok (.aload_n 0, 1) := by decide +kernel
theorem dX5_init_1 : decode cX5_init 1 = .ok (.invokespecial 3, 3) := by decide +kernel
theorem dX5_init_4 : decode cX5_init 4 = .ok (.aload_n 0, 1) := by decide +kernel
theorem dX5_init_5 : decode cX5_init 5 = .ok (.new 9, 3) := by decide +kernel
theorem dX5_init_8 : decode cX5_init 8 = .ok (.dup, 1) := by decide +kernel
theorem dX5_init_9 : decode cX5_init 9 = .ok (.invokespecial 11, 3) := by decide +kernel
theorem dX5_init_12 : decode cX5_init 12 = .ok (.putfield 12, 3) := by decide +kernel
theorem dX5_init_15 : decode cX5_init 15 = .ok (.aload_n 0, 1) := by decide +kernel
theorem dX5_init_16 : decode cX5_init 16 = .ok (.new 9, 3) := by decide +kernel
theorem dX5_init_19 : decode cX5_init 19 = .ok (.dup, 1) := by decide +kernel
theorem dX5_init_20 : decode cX5_init 20 = .ok (.invokespecial 11, 3) := by decide +kernel
theorem dX5_init_23 : decode cX5_init 23 = .ok (.putfield 18, 3) := by decide +kernel
theorem dX5_init_26 : decode cX5_init 26 = .ok (.aload_n 0, 1) := by decide +kernel
theorem dX5_init_27 : decode cX5_init 27 = .ok (.bipush 6, 2) := by decide +kernel
theorem dX5_init_29 : decode cX5_init 29 = .ok (.anewarray 21, 3) := by decide +kernel
theorem dX5_init_32 : decode cX5_init 32 = .ok (.putfield 23, 3) := by decide +kernel
theorem dX5_init_35 : decode cX5_init 35 = .ok (.aload_n 0, 1) := by decide +kernel
theorem dX5_init_36 : decode cX5_init 36 = .ok (.bipush 6, 2) := by decide +kernel
theorem dX5_init_38 : decode cX5_init 38 = .ok (.newarray .int, 2) := by decide +kernel
theorem dX5_init_40 : decode cX5_init 40 = .ok (.putfield 27, 3) := by decide +kernel
theorem dX5_init_43 : decode cX5_init 43 = .ok (.aload_n 0, 1) := by decide +kernel
theorem dX5_init_44 : decode cX5_init 44 = .ok (.bipush 6, 2) := by decide +kernel
theorem dX5_init_46 : decode cX5_init 46 = .ok (.newarray .int, 2) := by decide +kernel
theorem dX5_init_48 : decode cX5_init 48 = .ok (.putfield 31, 3) := by decide +kernel
theorem dX5_init_51 : decode cX5_init 51 = .ok (.aload_n 0, 1) := by decide +kernel
theorem dX5_init_52 : decode cX5_init 52 = .ok (.sipush 1200, 3) := by decide +kernel
theorem dX5_init_55 : decode cX5_init 55 = .ok (.newarray .int, 2) := by decide +kernel
theorem dX5_init_57 : decode cX5_init 57 = .ok (.putfield 34, 3) := by decide +kernel
theorem dX5_init_60 : decode cX5_init 60 = .ok (.aload_n 0, 1) := by decide +kernel
theorem dX5_init_61 : decode cX5_init 61 = .ok (.sipush 1200, 3) := by decide +kernel
theorem dX5_init_64 : decode cX5_init 64 = .ok (.newarray .int, 2) := by decide +kernel
theorem dX5_init_66 : decode cX5_init 66 = .ok (.putfield 37, 3) := by decide +kernel
theorem dX5_init_69 : decode cX5_init 69 = .ok (.aload_n 0, 1) := by decide +kernel
theorem dX5_init_70 : decode cX5_init 70 = .ok (.aload_n 2, 1) := by decide +kernel
theorem dX5_init_71 : decode cX5_init 71 = .ok (.putfield 40, 3) := by decide +kernel
theorem dX5_init_74 : decode cX5_init 74 = .ok (.aload_n 0, 1) := by decide +kernel
theorem dX5_init_75 : decode cX5_init 75 = .ok (.aload_n 3, 1) := by decide +kernel
theorem dX5_init_76 : decode cX5_init 76 = .ok (.putfield 44, 3) := by decide +kernel
theorem dX5_init_79 : decode cX5_init 79 = .ok (.iconst 0, 1) := by decide +kernel
theorem dX5_init_80 : decode cX5_init 80 = .ok (.istore 4, 2) := by decide +kernel
theorem dX5_init_82 : decode cX5_init 82 = .ok (.iload 4, 2) := by decide +kernel
theorem dX5_init_84 : decode cX5_init 84 = .ok (.iconst 5, 1) := by decide +kernel
theorem dX5_init_85 : decode cX5_init 85 = .ok (.if_icmp .gt 24, 3) := by decide +kernel
theorem dX5_init_88 : decode cX5_init 88 = .ok (.aload_n 0, 1) := by decide +kernel
theorem dX5_init_89 : decode cX5_init 89 = .ok (.getfield 23, 3) := by decide +kernel
theorem dX5_init_92 : decode cX5_init 92 = .ok (.iload 4, 2) := by decide +kernel
theorem dX5_init_94 : decode cX5_init 94 = .ok (.new 21, 3) := by decide +kernel
theorem dX5_init_97 : decode cX5_init 97 = .ok (.dup, 1) := by decide +kernel
theorem dX5_init_98 : decode cX5_init 98 = .ok (.aload_n 1, 1) := by decide +kernel
theorem dX5_init_99 : decode cX5_init 99 = .ok (.invokespecial 48, 3) := by decide +kernel
theorem dX5_init_102 : decode cX5_init 102 = .ok (.aastore, 1) := by decide +kernel
theorem dX5_init_103 : decode cX5_init 103 = .ok (.iinc 4 1, 3) := by decide +kernel
theorem dX5_init_106 : decode cX5_init 106 = .ok (.goto (-24), 3) := by decide +kernel
theorem dX5_init_109 : decode cX5_init 109 = .ok (.return_, 1) := by decide +kernel
theorem dX5_points_0 : decode cX5_points 0 = .ok (.aload_n 0, 1) := by decide +kernel
theorem dX5_points_1 : decode cX5_points 1 = .ok (.getfield 12, 3) := by decide +kernel
theorem dX5_points_4 : decode cX5_points 4 = .ok (.areturn, 1) := by decide +kernel
theorem dX5_make_0 : decode cX5_make 0 = .ok (.aload_n 0, 1) := by decide +kernel
theorem dX5_make_1 : decode cX5_make 1 = .ok (.getfield 12, 3) := by decide +kernel
theorem dX5_make_4 : decode cX5_make 4 = .ok (.iconst 0, 1) := by decide +kernel
theorem dX5_make_5 : decode cX5_make 5 = .ok (.iconst 0, 1) := by decide +kernel
theorem dX5_make_6 : decode cX5_make 6 = .ok (.invokevirtual 51, 3) := by decide +kernel
theorem dX5_make_9 : decode cX5_make 9 = .ok (.aload_n 0, 1) := by decide +kernel
theorem dX5_make_10 : decode cX5_make 10 = .ok (.getfield 40, 3) := by decide +kernel
theorem dX5_make_13 : decode cX5_make 13 = .ok (.iload_n 1, 1) := by decide +kernel
theorem dX5_make_14 : decode cX5_make 14 = .ok (.invokevirtual 55, 3) := by decide +kernel
theorem dX5_make_17 : decode cX5_make 17 = .ok (.ifCond .eq 9, 3) := by decide +kernel
theorem dX5_make_20 : decode cX5_make 20 = .ok (.aload_n 0, 1) := by decide +kernel
theorem dX5_make_21 : decode cX5_make 21 = .ok (.iconst 0, 1) := by decide +kernel
theorem dX5_make_22 : decode cX5_make 22 = .ok (.iload_n 1, 1) := by decide +kernel
theorem dX5_make_23 : decode cX5_make 23 = .ok (.invokevirtual 61, 3) := by decide +kernel
theorem dX5_make_26 : decode cX5_make 26 = .ok (.return_, 1) := by decide +kernel
theorem dX5_shape_0 : decode cX5_shape 0 = .ok (.iload_n 1, 1) := by decide +kernel
theorem dX5_shape_1 : decode cX5_shape 1 = .ok (.ifCond .lt 8, 3) := by decide +kernel
theorem dX5_shape_4 : decode cX5_shape 4 = .ok (.iload_n 1, 1) := by decide +kernel
theorem dX5_shape_5 : decode cX5_shape 5 = .ok (.iconst 5, 1) := by decide +kernel
theorem dX5_shape_6 : decode cX5_shape 6 = .ok (.if_icmp .le 4, 3) := by decide +kernel
theorem dX5_shape_9 : decode cX5_shape 9 = .ok (.return_, 1) := by decide +kernel
theorem dX5_shape_10 : decode cX5_shape 10 = .ok (.aload_n 0, 1) := by decide +kernel
theorem dX5_shape_11 : decode cX5_shape 11 = .ok (.getfield 23, 3) := by decide +kernel
theorem dX5_shape_14 : decode cX5_shape 14 = .ok (.iload_n 1, 1) := by decide +kernel
theorem dX5_shape_15 : decode cX5_shape 15 = .ok (.aaload, 1) := by decide +kernel
theorem dX5_shape_16 : decode cX5_shape 16 = .ok (.astore_n 3, 1) := by decide +kernel
theorem dX5_shape_17 : decode cX5_shape 17 = .ok (.aload_n 0, 1) := by decide +kernel
theorem dX5_shape_18 : decode cX5_shape 18 = .ok (.getfield 40, 3) := by decide +kernel
theorem dX5_shape_21 : decode cX5_shape 21 = .ok (.iload_n 2, 1) := by decide +kernel
theorem dX5_shape_22 : decode cX5_shape 22 = .ok (.aload_n 3, 1) := by decide +kernel
theorem dX5_shape_23 : decode cX5_shape 23 = .ok (.invokevirtual 64, 3) := by decide +kernel
theorem dX5_shape_26 : decode cX5_shape 26 = .ok (.aload_n 3, 1) := by decide +kernel
theorem dX5_shape_27 : decode cX5_shape 27 = .ok (.invokevirtual 68, 3) := by decide +kernel
theorem dX5_shape_30 : decode cX5_shape 30 = .ok (.ifCond .eq 4, 3) := by decide +kernel
theorem dX5_shape_33 : decode cX5_shape 33 = .ok (.return_, 1) := by decide +kernel
theorem dX5_shape_34 : decode cX5_shape 34 = .ok (.aload_n 0, 1) := by decide +kernel
theorem dX5_shape_35 : decode cX5_shape 35 = .ok (.getfield 27, 3) := by decide +kernel
theorem dX5_shape_38 : decode cX5_shape 38 = .ok (.iload_n 1, 1) := by decide +kernel
theorem dX5_shape_39 : decode cX5_shape 39 = .ok (.iload_n 2, 1) := by decide +kernel
theorem dX5_shape_40 : decode cX5_shape 40 = .ok (.iastore, 1) := by decide +kernel
theorem dX5_shape_41 : decode cX5_shape 41 = .ok (.aload_n 0, 1) := by decide +kernel
theorem dX5_shape_42 : decode cX5_shape 42 = .ok (.dup, 1) := by decide +kernel
theorem dX5_shape_43 : decode cX5_shape 43 = .ok (.getfield 72, 3) := by decide +kernel
theorem dX5_shape_46 : decode cX5_shape 46 = .ok (.iconst 1, 1) := by decide +kernel
theorem dX5_shape_47 : decode cX5_shape 47 = .ok (.iadd, 1) := by decide +kernel
theorem dX5_shape_48 : decode cX5_shape 48 = .ok (.putfield 72, 3) := by decide +kernel
theorem dX5_shape_51 : decode cX5_shape 51 = .ok (.aload_n 0, 1) := by decide +kernel
theorem dX5_shape_52 : decode cX5_shape 52 = .ok (.getfield 31, 3) := by decide +kernel
theorem dX5_shape_55 : decode cX5_shape 55 = .ok (.iload_n 1, 1) := by decide +kernel
theorem dX5_shape_56 : decode cX5_shape 56 = .ok (.aload_n 0, 1) := by decide +kernel
theorem dX5_shape_57 : decode cX5_shape 57 = .ok (.getfield 72, 3) := by decide +kernel
theorem dX5_shape_60 : decode cX5_shape 60 = .ok (.iastore, 1) := by decide +kernel
theorem dX5_shape_61 : decode cX5_shape 61 = .ok (.aload_n 0, 1) := by decide +kernel
theorem dX5_shape_62 : decode cX5_shape 62 = .ok (.getfield 12, 3) := by decide +kernel
theorem dX5_shape_65 : decode cX5_shape 65 = .ok (.invokevirtual 76, 3) := by decide +kernel
theorem dX5_shape_68 : decode cX5_shape 68 = .ok (.istore 4, 2) := by decide +kernel
theorem dX5_shape_70 : decode cX5_shape 70 = .ok (.aload_n 0, 1) := by decide +kernel
theorem dX5_shape_71 : decode cX5_shape 71 = .ok (.getfield 12, 3) := by decide +kernel
theorem dX5_shape_74 : decode cX5_shape 74 = .ok (.invokevirtual 80, 3) := by decide +kernel
theorem dX5_shape_77 : decode cX5_shape 77 = .ok (.istore 5, 2) := by decide +kernel
theorem dX5_shape_79 : decode cX5_shape 79 = .ok (.aload_n 3, 1) := by decide +kernel
theorem dX5_shape_80 : decode cX5_shape 80 = .ok (.invokevirtual 83, 3) := by decide +kernel
theorem dX5_shape_83 : decode cX5_shape 83 = .ok (.ifCond .eq 12, 3) := by decide +kernel
theorem dX5_shape_86 : decode cX5_shape 86 = .ok (.aload_n 0, 1) := by decide +kernel
theorem dX5_shape_87 : decode cX5_shape 87 = .ok (.iload_n 1, 1) := by decide +kernel
theorem dX5_shape_88 : decode cX5_shape 88 = .ok (.aload_n 3, 1) := by decide +kernel
theorem dX5_shape_89 : decode cX5_shape 89 = .ok (.invokevirtual 86, 3) := by decide +kernel
theorem dX5_shape_92 : decode cX5_shape 92 = .ok (.goto 11, 3) := by decide +kernel
theorem dX5_shape_95 : decode cX5_shape 95 = .ok (.aload_n 0, 1) := by decide +kernel
theorem dX5_shape_96 : decode cX5_shape 96 = .ok (.getfield 12, 3) := by decide +kernel
theorem dX5_shape_99 : decode cX5_shape 99 = .ok (.aload_n 3, 1) := by decide +kernel
theorem dX5_shape_100 : decode cX5_shape 100 = .ok (.invokevirtual 90, 3) := by decide +kernel
theorem dX5_shape_103 : decode cX5_shape 103 = .ok (.istore 6, 2) := by decide +kernel
theorem dX5_shape_105 : decode cX5_shape 105 = .ok (.iload 6, 2) := by decide +kernel
theorem dX5_shape_107 : decode cX5_shape 107 = .ok (.ifCond .ne 23, 3) := by decide +kernel
theorem dX5_shape_110 : decode cX5_shape 110 = .ok (.aload_n 0, 1) := by decide +kernel
theorem dX5_shape_111 : decode cX5_shape 111 = .ok (.getfield 12, 3) := by decide +kernel
theorem dX5_shape_114 : decode cX5_shape 114 = .ok (.iload 4, 2) := by decide +kernel
theorem dX5_shape_116 : decode cX5_shape 116 = .ok (.iload 5, 2) := by decide +kernel
theorem dX5_shape_118 : decode cX5_shape 118 = .ok (.invokevirtual 51, 3) := by decide +kernel
theorem dX5_shape_121 : decode cX5_shape 121 = .ok (.aload_n 0, 1) := by decide +kernel
theorem dX5_shape_122 : decode cX5_shape 122 = .ok (.getfield 44, 3) := by decide +kernel
theorem dX5_shape_125 : decode cX5_shape 125 = .ok (.iconst 1, 1) := by decide +kernel
theorem dX5_shape_126 : decode cX5_shape 126 = .ok (.iload_n 2, 1) := by decide +kernel
theorem dX5_shape_127 : decode cX5_shape 127 = .ok (.invokevirtual 94, 3) := by decide +kernel
theorem dX5_shape_130 : decode cX5_shape 130 = .ok (.return_, 1) := by decide +kernel
theorem dX5_shapeParts_0 : decode cX5_shapeParts 0 = .ok (.aload_n 0, 1) := by decide +kernel
theorem dX5_shapeParts_1 : decode cX5_shapeParts 1 = .ok (.getfield 12, 3) := by decide +kernel
theorem dX5_shapeParts_4 : decode cX5_shapeParts 4 = .ok (.invokevirtual 76, 3) := by decide +kernel
theorem dX5_shapeParts_7 : decode cX5_shapeParts 7 = .ok (.istore_n 3, 1) := by decide +kernel
theorem dX5_shapeParts_8 : decode cX5_shapeParts 8 = .ok (.iconst 1, 1) := by decide +kernel
theorem dX5_shapeParts_9 : decode cX5_shapeParts 9 = .ok (.istore 4, 2) := by decide +kernel
theorem dX5_shapeParts_11 : decode cX5_shapeParts 11 = .ok (.iconst 0, 1) := by decide +kernel
theorem dX5_shapeParts_12 : decode cX5_shapeParts 12 = .ok (.istore 5, 2) := by decide +kernel
theorem dX5_shapeParts_14 : decode cX5_shapeParts 14 = .ok (.iload 5, 2) := by decide +kernel
theorem dX5_shapeParts_16 : decode cX5_shapeParts 16 = .ok (.sipush 1600, 3) := by decide +kernel
theorem dX5_shapeParts_19 : decode cX5_shapeParts 19 = .ok (.if_icmp .ge 36, 3) := by decide +kernel
theorem dX5_shapeParts_22 : decode cX5_shapeParts 22 = .ok (.iload 4, 2) := by decide +kernel
theorem dX5_shapeParts_24 : decode cX5_shapeParts 24 = .ok (.ifCond .eq 31, 3) := by decide +kernel
theorem dX5_shapeParts_27 : decode cX5_shapeParts 27 = .ok (.aload_n 2, 1) := by decide +kernel
theorem dX5_shapeParts_28 : decode cX5_shapeParts 28 = .ok (.invokevirtual 99, 3) := by decide +kernel
theorem dX5_shapeParts_31 : decode cX5_shapeParts 31 = .ok (.ifCond .ne 5, 3) := by decide +kernel
theorem dX5_shapeParts_34 : decode cX5_shapeParts 34 = .ok (.iconst 0, 1) := by decide +kernel
theorem dX5_shapeParts_35 : decode cX5_shapeParts 35 = .ok (.ireturn, 1) := by decide +kernel
theorem dX5_shapeParts_36 : decode cX5_shapeParts 36 = .ok (.aload_n 0, 1) := by decide +kernel
theorem dX5_shapeParts_37 : decode cX5_shapeParts 37 = .ok (.iload_n 1, 1) := by decide +kernel
theorem dX5_shapeParts_38 : decode cX5_shapeParts 38 = .ok (.aload_n 2, 1) := by decide +kernel
theorem dX5_shapeParts_39 : decode cX5_shapeParts 39 = .ok (.iload_n 3, 1) := by decide +kernel
theorem dX5_shapeParts_40 : decode cX5_shapeParts 40 = .ok (.invokevirtual 102, 3) := by decide +kernel
theorem dX5_shapeParts_43 : decode cX5_shapeParts 43 = .ok (.aload_n 2, 1) := by decide +kernel
theorem dX5_shapeParts_44 : decode cX5_shapeParts 44 = .ok (.invokevirtual 106, 3) := by decide +kernel
theorem dX5_shapeParts_47 : decode cX5_shapeParts 47 = .ok (.istore 4, 2) := by decide +kernel
theorem dX5_shapeParts_49 : decode cX5_shapeParts 49 = .ok (.iinc 5 1, 3) := by decide +kernel
theorem dX5_shapeParts_52 : decode cX5_shapeParts 52 = .ok (.goto (-38), 3) := by decide +kernel
theorem dX5_shapeParts_55 : decode cX5_shapeParts 55 = .ok (.iconst 1, 1) := by decide +kernel
theorem dX5_shapeParts_56 : decode cX5_shapeParts 56 = .ok (.ireturn, 1) := by decide +kernel
theorem dX5_shapePart_0 : decode cX5_shapePart 0 = .ok (.iload_n 1, 1) := by decide +kernel
theorem dX5_shapePart_1 : decode cX5_shapePart 1 = .ok (.iconst 5, 1) := by decide +kernel
theorem dX5_shapePart_2 : decode cX5_shapePart 2 = .ok (.if_icmp .ge 29, 3) := by decide +kernel
theorem dX5_shapePart_5 : decode cX5_shapePart 5 = .ok (.aload_n 0, 1) := by decide +kernel
theorem dX5_shapePart_6 : decode cX5_shapePart 6 = .ok (.getfield 40, 3) := by decide +kernel
theorem dX5_shapePart_9 : decode cX5_shapePart 9 = .ok (.aload_n 2, 1) := by decide +kernel
theorem dX5_shapePart_10 : decode cX5_shapePart 10 = .ok (.getfield 109, 3) := by decide +kernel
theorem dX5_shapePart_13 : decode cX5_shapePart 13 = .ok (.invokevirtual 55, 3) := by decide +kernel
theorem dX5_shapePart_16 : decode cX5_shapePart 16 = .ok (.ifCond .eq 15, 3) := by decide +kernel
theorem dX5_shapePart_19 : decode cX5_shapePart 19 = .ok (.aload_n 0, 1) := by decide +kernel
theorem dX5_shapePart_20 : decode cX5_shapePart 20 = .ok (.iload_n 1, 1) := by decide +kernel
theorem dX5_shapePart_21 : decode cX5_shapePart 21 = .ok (.aload_n 2, 1) := by decide +kernel
theorem dX5_shapePart_22 : decode cX5_shapePart 22 = .ok (.getfield 109, 3) := by decide +kernel
theorem dX5_shapePart_25 : decode cX5_shapePart 25 = .ok (.invokevirtual 112, 3) := by decide +kernel
theorem dX5_shapePart_28 : decode cX5_shapePart 28 = .ok (.ifCond .eq 16, 3) := by decide +kernel
theorem dX5_shapePart_31 : decode cX5_shapePart 31 = .ok (.aload_n 0, 1) := by decide +kernel
theorem dX5_shapePart_32 : decode cX5_shapePart 32 = .ok (.getfield 44, 3) := by decide +kernel
theorem dX5_shapePart_35 : decode cX5_shapePart 35 = .ok (.iconst 4, 1) := by decide +kernel
theorem dX5_shapePart_36 : decode cX5_shapePart 36 = .ok (.aload_n 2, 1) := by decide +kernel
theorem dX5_shapePart_37 : decode cX5_shapePart 37 = .ok (.getfield 109, 3) := by decide +kernel
theorem dX5_shapePart_40 : decode cX5_shapePart 40 = .ok (.invokevirtual 94, 3) := by decide +kernel
theorem dX5_shapePart_43 : decode cX5_shapePart 43 = .ok (.return_, 1) := by decide +kernel
theorem dX5_shapePart_44 : decode cX5_shapePart 44 = .ok (.aload_n 0, 1) := by decide +kernel
theorem dX5_shapePart_45 : decode cX5_shapePart 45 = .ok (.getfield 12, 3) := by decide +kernel
theorem dX5_shapePart_48 : decode cX5_shapePart 48 = .ok (.invokevirtual 76, 3) := by decide +kernel
theorem dX5_shapePart_51 : decode cX5_shapePart 51 = .ok (.istore 4, 2) := by decide +kernel
theorem dX5_shapePart_53 : decode cX5_shapePart 53 = .ok (.aload_n 0, 1) := by decide +kernel
theorem dX5_shapePart_54 : decode cX5_shapePart 54 = .ok (.getfield 44, 3) := by decide +kernel
theorem dX5_shapePart_57 : decode cX5_shapePart 57 = .ok (.invokevirtual 116, 3) := by decide +kernel
theorem dX5_shapePart_60 : decode cX5_shapePart 60 = .ok (.istore 5, 2) := by decide +kernel
theorem dX5_shapePart_62 : decode cX5_shapePart 62 = .ok (.aload_n 0, 1) := by decide +kernel
theorem dX5_shapePart_63 : decode cX5_shapePart 63 = .ok (.iload_n 1, 1) := by decide +kernel
theorem dX5_shapePart_64 : decode cX5_shapePart 64 = .ok (.iconst 1, 1) := by decide +kernel
theorem dX5_shapePart_65 : decode cX5_shapePart 65 = .ok (.iadd, 1) := by decide +kernel
theorem dX5_shapePart_66 : decode cX5_shapePart 66 = .ok (.aload_n 2, 1) := by decide +kernel
theorem dX5_shapePart_67 : decode cX5_shapePart 67 = .ok (.getfield 109, 3) := by decide +kernel
theorem dX5_shapePart_70 : decode cX5_shapePart 70 = .ok (.invokevirtual 119, 3) := by decide +kernel
theorem dX5_shapePart_73 : decode cX5_shapePart 73 = .ok (.ifCond .eq 47, 3) := by decide +kernel
theorem dX5_shapePart_76 : decode cX5_shapePart 76 = .ok (.aload_n 0, 1) := by decide +kernel
theorem dX5_shapePart_77 : decode cX5_shapePart 77 = .ok (.iload_n 1, 1) := by decide +kernel
theorem dX5_shapePart_78 : decode cX5_shapePart 78 = .ok (.iconst 1, 1) := by decide +kernel
theorem dX5_shapePart_79 : decode cX5_shapePart 79 = .ok (.iadd, 1) := by decide +kernel
theorem dX5_shapePart_80 : decode cX5_shapePart 80 = .ok (.aload_n 2, 1) := by decide +kernel
theorem dX5_shapePart_81 : decode cX5_shapePart 81 = .ok (.getfield 109, 3) := by decide +kernel
theorem dX5_shapePart_84 : decode cX5_shapePart 84 = .ok (.invokevirtual 61, 3) := by decide +kernel
theorem dX5_shapePart_87 : decode cX5_shapePart 87 = .ok (.aload_n 0, 1) := by decide +kernel
theorem dX5_shapePart_88 : decode cX5_shapePart 88 = .ok (.iload_n 1, 1) := by decide +kernel
theorem dX5_shapePart_89 : decode cX5_shapePart 89 = .ok (.iconst 1, 1) := by decide +kernel
theorem dX5_shapePart_90 : decode cX5_shapePart 90 = .ok (.iadd, 1) := by decide +kernel
theorem dX5_shapePart_91 : decode cX5_shapePart 91 = .ok (.aload_n 2, 1) := by decide +kernel
theorem dX5_shapePart_92 : decode cX5_shapePart 92 = .ok (.getfield 109, 3) := by decide +kernel
theorem dX5_shapePart_95 : decode cX5_shapePart 95 = .ok (.iload 5, 2) := by decide +kernel
theorem dX5_shapePart_97 : decode cX5_shapePart 97 = .ok (.ifCond .eq 19, 3) := by decide +kernel
theorem dX5_shapePart_100 : decode cX5_shapePart 100 = .ok (.aload_n 0, 1) := by decide +kernel
theorem dX5_shapePart_101 : decode cX5_shapePart 101 = .ok (.getfield 12, 3) := by decide +kernel
theorem dX5_shapePart_104 : decode cX5_shapePart 104 = .ok (.invokevirtual 76, 3) := by decide +kernel
theorem dX5_shapePart_107 : decode cX5_shapePart 107 = .ok (.iload 4, 2) := by decide +kernel
theorem dX5_shapePart_109 : decode cX5_shapePart 109 = .ok (.if_icmp .ne 7, 3) := by decide +kernel
theorem dX5_shapePart_112 : decode cX5_shapePart 112 = .ok (.iconst 1, 1) := by decide +kernel
theorem dX5_shapePart_113 : decode cX5_shapePart 113 = .ok (.goto 4, 3) := by decide +kernel
theorem dX5_shapePart_116 : decode cX5_shapePart 116 = .ok (.iconst 0, 1) := by decide +kernel
theorem dX5_shapePart_117 : decode cX5_shapePart 117 = .ok (.invokevirtual 122, 3) := by decide +kernel
theorem dX5_shapePart_120 : decode cX5_shapePart 120 = .ok (.aload_n 0, 1) := by decide +kernel
theorem dX5_shapePart_121 : decode cX5_shapePart 121 = .ok (.getfield 12, 3) := by decide +kernel
theorem dX5_shapePart_124 : decode cX5_shapePart 124 = .ok (.iload 4, 2) := by decide +kernel
theorem dX5_shapePart_126 : decode cX5_shapePart 126 = .ok (.aload_n 2, 1) := by decide +kernel
theorem dX5_shapePart_127 : decode cX5_shapePart 127 = .ok (.invokevirtual 126, 3) := by decide +kernel
theorem dX5_shapePart_130 : decode cX5_shapePart 130 = .ok (.aload_n 2, 1) := by decide +kernel
theorem dX5_shapePart_131 : decode cX5_shapePart 131 = .ok (.invokevirtual 129, 3) := by decide +kernel
theorem dX5_shapePart_134 : decode cX5_shapePart 134 = .ok (.ifCond .eq 23, 3) := by decide +kernel
theorem dX5_shapePart_137 : decode cX5_shapePart 137 = .ok (.aload_n 0, 1) := by decide +kernel
theorem dX5_shapePart_138 : decode cX5_shapePart 138 = .ok (.getfield 12, 3) := by decide +kernel
theorem dX5_shapePart_141 : decode cX5_shapePart 141 = .ok (.iload 4, 2) := by decide +kernel
theorem dX5_shapePart_143 : decode cX5_shapePart 143 = .ok (.aload_n 2, 1) := by decide +kernel
theorem dX5_shapePart_144 : decode cX5_shapePart 144 = .ok (.getfield 132, 3) := by decide +kernel
theorem dX5_shapePart_147 : decode cX5_shapePart 147 = .ok (.aload_n 2, 1) := by decide +kernel
theorem dX5_shapePart_148 : decode cX5_shapePart 148 = .ok (.getfield 135, 3) := by decide +kernel
theorem dX5_shapePart_151 : decode cX5_shapePart 151 = .ok (.invokevirtual 138, 3) := by decide +kernel
theorem dX5_shapePart_154 : decode cX5_shapePart 154 = .ok (.goto 11, 3) := by decide +kernel
theorem dX5_shapePart_157 : decode cX5_shapePart 157 = .ok (.aload_n 0, 1) := by decide +kernel
theorem dX5_shapePart_158 : decode cX5_shapePart 158 = .ok (.aload_n 2, 1) := by decide +kernel
theorem dX5_shapePart_159 : decode cX5_shapePart 159 = .ok (.iload_n 3, 1) := by decide +kernel
theorem dX5_shapePart_160 : decode cX5_shapePart 160 = .ok (.iload 4, 2) := by decide +kernel
theorem dX5_shapePart_162 : decode cX5_shapePart 162 = .ok (.invokevirtual 142, 3) := by decide +kernel
theorem dX5_shapePart_165 : decode cX5_shapePart 165 = .ok (.return_, 1) := by decide +kernel
theorem dX5_isOpened_0 : decode cX5_isOpened 0 = .ok (.iconst 0, 1) := by decide +kernel
theorem dX5_isOpened_1 : decode cX5_isOpened 1 = .ok (.istore_n 3, 1) := by decide +kernel
theorem dX5_isOpened_2 : decode cX5_isOpened 2 = .ok (.iload_n 3, 1) := by decide +kernel
theorem dX5_isOpened_3 : decode cX5_isOpened 3 = .ok (.iload_n 1, 1) := by decide +kernel
theorem dX5_isOpened_4 : decode cX5_isOpened 4 = .ok (.if_icmp .gt 26, 3) := by decide +kernel
theorem dX5_isOpened_7 : decode cX5_isOpened 7 = .ok (.iload_n 3, 1) := by decide +kernel
theorem dX5_isOpened_8 : decode cX5_isOpened 8 = .ok (.iconst 5, 1) := by decide +kernel
theorem dX5_isOpened_9 : decode cX5_isOpened 9 = .ok (.if_icmp .gt 21, 3) := by decide +kernel
theorem dX5_isOpened_12 : decode cX5_isOpened 12 = .ok (.aload_n 0, 1) := by decide +kernel
theorem dX5_isOpened_13 : decode cX5_isOpened 13 = .ok (.getfield 27, 3) := by decide +kernel
theorem dX5_isOpened_16 : decode cX5_isOpened 16 = .ok (.iload_n 3, 1) := by decide +kernel
theorem dX5_isOpened_17 : decode cX5_isOpened 17 = .ok (.iaload, 1) := by decide +kernel
theorem dX5_isOpened_18 : decode cX5_isOpened 18 = .ok (.iload_n 2, 1) := by decide +kernel
theorem dX5_isOpened_19 : decode cX5_isOpened 19 = .ok (.if_icmp .ne 5, 3) := by decide +kernel
theorem dX5_isOpened_22 : decode cX5_isOpened 22 = .ok (.iconst 1, 1) := by decide +kernel
theorem dX5_isOpened_23 : decode cX5_isOpened 23 = .ok (.ireturn, 1) := by decide +kernel
theorem dX5_isOpened_24 : decode cX5_isOpened 24 = .ok (.iinc 3 1, 3) := by decide +kernel
theorem dX5_isOpened_27 : decode cX5_isOpened 27 = .ok (.goto (-25), 3) := by decide +kernel
theorem dX5_isOpened_30 : decode cX5_isOpened 30 = .ok (.iconst 0, 1) := by decide +kernel
theorem dX5_isOpened_31 : decode cX5_isOpened 31 = .ok (.ireturn, 1) := by decide +kernel
theorem dX5_join_0 : decode cX5_join 0 = .ok (.iload_n 2, 1) := by decide +kernel
theorem dX5_join_1 : decode cX5_join 1 = .ok (.aload_n 1, 1) := by decide +kernel
theorem dX5_join_2 : decode cX5_join 2 = .ok (.getfield 132, 3) := by decide +kernel
theorem dX5_join_5 : decode cX5_join 5 = .ok (.iadd, 1) := by decide +kernel
theorem dX5_join_6 : decode cX5_join 6 = .ok (.istore 4, 2) := by decide +kernel
theorem dX5_join_8 : decode cX5_join 8 = .ok (.iload_n 3, 1) := by decide +kernel
theorem dX5_join_9 : decode cX5_join 9 = .ok (.aload_n 1, 1) := by decide +kernel
theorem dX5_join_10 : decode cX5_join 10 = .ok (.getfield 135, 3) := by decide +kernel
theorem dX5_join_13 : decode cX5_join 13 = .ok (.iadd, 1) := by decide +kernel
theorem dX5_join_14 : decode cX5_join 14 = .ok (.istore 5, 2) := by decide +kernel
theorem dX5_join_16 : decode cX5_join 16 = .ok (.iload 4, 2) := by decide +kernel
theorem dX5_join_18 : decode cX5_join 18 = .ok (.iload_n 3, 1) := by decide +kernel
theorem dX5_join_19 : decode cX5_join 19 = .ok (.if_icmp .ge 72, 3) := by decide +kernel
theorem dX5_join_22 : decode cX5_join 22 = .ok (.iload 5, 2) := by decide +kernel
theorem dX5_join_24 : decode cX5_join 24 = .ok (.aload_n 0, 1) := by decide +kernel
theorem dX5_join_25 : decode cX5_join 25 = .ok (.getfield 12, 3) := by decide +kernel
theorem dX5_join_28 : decode cX5_join 28 = .ok (.invokevirtual 76, 3) := by decide +kernel
theorem dX5_join_31 : decode cX5_join 31 = .ok (.if_icmp .ge 60, 3) := by decide +kernel
theorem dX5_join_34 : decode cX5_join 34 = .ok (.aload_n 0, 1) := by decide +kernel
theorem dX5_join_35 : decode cX5_join 35 = .ok (.getfield 12, 3) := by decide +kernel
theorem dX5_join_38 : decode cX5_join 38 = .ok (.iload 4, 2) := by decide +kernel
theorem dX5_join_40 : decode cX5_join 40 = .ok (.invokevirtual 146, 3) := by decide +kernel
theorem dX5_join_43 : decode cX5_join 43 = .ok (.aload_n 0, 1) := by decide +kernel
theorem dX5_join_44 : decode cX5_join 44 = .ok (.getfield 12, 3) := by decide +kernel
theorem dX5_join_47 : decode cX5_join 47 = .ok (.iload 5, 2) := by decide +kernel
theorem dX5_join_49 : decode cX5_join 49 = .ok (.invokevirtual 146, 3) := by decide +kernel
theorem dX5_join_52 : decode cX5_join 52 = .ok (.isub, 1) := by decide +kernel
theorem dX5_join_53 : decode cX5_join 53 = .ok (.istore 6, 2) := by decide +kernel
theorem dX5_join_55 : decode cX5_join 55 = .ok (.aload_n 0, 1) := by decide +kernel
theorem dX5_join_56 : decode cX5_join 56 = .ok (.getfield 12, 3) := by decide +kernel
theorem dX5_join_59 : decode cX5_join 59 = .ok (.iload 4, 2) := by decide +kernel
theorem dX5_join_61 : decode cX5_join 61 = .ok (.invokevirtual 150, 3) := by decide +kernel
theorem dX5_join_64 : decode cX5_join 64 = .ok (.aload_n 0, 1) := by decide +kernel
theorem dX5_join_65 : decode cX5_join 65 = .ok (.getfield 12, 3) := by decide +kernel
theorem dX5_join_68 : decode cX5_join 68 = .ok (.iload 5, 2) := by decide +kernel
theorem dX5_join_70 : decode cX5_join 70 = .ok (.invokevirtual 150, 3) := by decide +kernel
theorem dX5_join_73 : decode cX5_join 73 = .ok (.isub, 1) := by decide +kernel
theorem dX5_join_74 : decode cX5_join 74 = .ok (.istore 7, 2) := by decide +kernel
theorem dX5_join_76 : decode cX5_join 76 = .ok (.aload_n 0, 1) := by decide +kernel
theorem dX5_join_77 : decode cX5_join 77 = .ok (.getfield 12, 3) := by decide +kernel
theorem dX5_join_80 : decode cX5_join 80 = .ok (.iload_n 3, 1) := by decide +kernel
theorem dX5_join_81 : decode cX5_join 81 = .ok (.iload 6, 2) := by decide +kernel
theorem dX5_join_83 : decode cX5_join 83 = .ok (.iload 7, 2) := by decide +kernel
theorem dX5_join_85 : decode cX5_join 85 = .ok (.invokevirtual 138, 3) := by decide +kernel
theorem dX5_join_88 : decode cX5_join 88 = .ok (.goto 15, 3) := by decide +kernel
theorem dX5_join_91 : decode cX5_join 91 = .ok (.aload_n 0, 1) := by decide +kernel
theorem dX5_join_92 : decode cX5_join 92 = .ok (.getfield 44, 3) := by decide +kernel
theorem dX5_join_95 : decode cX5_join 95 = .ok (.iconst 3, 1) := by decide +kernel
theorem dX5_join_96 : decode cX5_join 96 = .ok (.aload_n 1, 1) := by decide +kernel
theorem dX5_join_97 : decode cX5_join 97 = .ok (.getfield 109, 3) := by decide +kernel
theorem dX5_join_100 : decode cX5_join 100 = .ok (.invokevirtual 94, 3) := by decide +kernel
theorem dX5_join_103 : decode cX5_join 103 = .ok (.return_, 1) := by decide +kernel
theorem dX5_matters_0 : decode cX5_matters 0 = .ok (.aload_n 0, 1) := by decide +kernel
theorem dX5_matters_1 : decode cX5_matters 1 = .ok (.iload_n 1, 1) := by decide +kernel
theorem dX5_matters_2 : decode cX5_matters 2 = .ok (.iload_n 2, 1) := by decide +kernel
theorem dX5_matters_3 : decode cX5_matters 3 = .ok (.invokevirtual 153, 3) := by decide +kernel
theorem dX5_matters_6 : decode cX5_matters 6 = .ok (.istore_n 3, 1) := by decide +kernel
theorem dX5_matters_7 : decode cX5_matters 7 = .ok (.iload_n 3, 1) := by decide +kernel
theorem dX5_matters_8 : decode cX5_matters 8 = .ok (.ifCond .ge 5, 3) := by decide +kernel
theorem dX5_matters_11 : decode cX5_matters 11 = .ok (.iconst 0, 1) := by decide +kernel
theorem dX5_matters_12 : decode cX5_matters 12 = .ok (.ireturn, 1) := by decide +kernel
theorem dX5_matters_13 : decode cX5_matters 13 = .ok (.aload_n 0, 1) := by decide +kernel
theorem dX5_matters_14 : decode cX5_matters 14 = .ok (.getfield 44, 3) := by decide +kernel
theorem dX5_matters_17 : decode cX5_matters 17 = .ok (.invokevirtual 116, 3) := by decide +kernel
theorem dX5_matters_20 : decode cX5_matters 20 = .ok (.ifCond .ne 21, 3) := by decide +kernel
theorem dX5_matters_23 : decode cX5_matters 23 = .ok (.aload_n 0, 1) := by decide +kernel
theorem dX5_matters_24 : decode cX5_matters 24 = .ok (.getfield 34, 3) := by decide +kernel
theorem dX5_matters_27 : decode cX5_matters 27 = .ok (.iload_n 3, 1) := by decide +kernel
theorem dX5_matters_28 : decode cX5_matters 28 = .ok (.iaload, 1) := by decide +kernel
theorem dX5_matters_29 : decode cX5_matters 29 = .ok (.sipush 2000, 3) := by decide +kernel
theorem dX5_matters_32 : decode cX5_matters 32 = .ok (.if_icmp .ge 7, 3) := by decide +kernel
theorem dX5_matters_35 : decode cX5_matters 35 = .ok (.iconst 1, 1) := by decide +kernel
theorem dX5_matters_36 : decode cX5_matters 36 = .ok (.goto 4, 3) := by decide +kernel
theorem dX5_matters_39 : decode cX5_matters 39 = .ok (.iconst 0, 1) := by decide +kernel
theorem dX5_matters_40 : decode cX5_matters 40 = .ok (.ireturn, 1) := by decide +kernel
theorem dX5_matters_41 : decode cX5_matters 41 = .ok (.aload_n 0, 1) := by decide +kernel
theorem dX5_matters_42 : decode cX5_matters 42 = .ok (.getfield 34, 3) := by decide +kernel
theorem dX5_matters_45 : decode cX5_matters 45 = .ok (.iload_n 3, 1) := by decide +kernel
theorem dX5_matters_46 : decode cX5_matters 46 = .ok (.iaload, 1) := by decide +kernel
theorem dX5_matters_47 : decode cX5_matters 47 = .ok (.bipush 120, 2) := by decide +kernel
theorem dX5_matters_49 : decode cX5_matters 49 = .ok (.aload_n 0, 1) := by decide +kernel
theorem dX5_matters_50 : decode cX5_matters 50 = .ok (.getfield 12, 3) := by decide +kernel
theorem dX5_matters_53 : decode cX5_matters 53 = .ok (.invokevirtual 76, 3) := by decide +kernel
theorem dX5_matters_56 : decode cX5_matters 56 = .ok (.isub, 1) := by decide +kernel
theorem dX5_matters_57 : decode cX5_matters 57 = .ok (.if_icmp .gt 24, 3) := by decide +kernel
theorem dX5_matters_60 : decode cX5_matters 60 = .ok (.aload_n 0, 1) := by decide +kernel
theorem dX5_matters_61 : decode cX5_matters 61 = .ok (.getfield 37, 3) := by decide +kernel
theorem dX5_matters_64 : decode cX5_matters 64 = .ok (.iload_n 3, 1) := by decide +kernel
theorem dX5_matters_65 : decode cX5_matters 65 = .ok (.iaload, 1) := by decide +kernel
theorem dX5_matters_66 : decode cX5_matters 66 = .ok (.aload_n 0, 1) := by decide +kernel
theorem dX5_matters_67 : decode cX5_matters 67 = .ok (.getfield 31, 3) := by decide +kernel
theorem dX5_matters_70 : decode cX5_matters 70 = .ok (.iload_n 1, 1) := by decide +kernel
theorem dX5_matters_71 : decode cX5_matters 71 = .ok (.iconst 1, 1) := by decide +kernel
theorem dX5_matters_72 : decode cX5_matters 72 = .ok (.isub, 1) := by decide +kernel
theorem dX5_matters_73 : decode cX5_matters 73 = .ok (.iaload, 1) := by decide +kernel
theorem dX5_matters_74 : decode cX5_matters 74 = .ok (.if_icmp .eq 7, 3) := by decide +kernel
theorem dX5_matters_77 : decode cX5_matters 77 = .ok (.iconst 1, 1) := by decide +kernel
theorem dX5_matters_78 : decode cX5_matters 78 = .ok (.goto 4, 3) := by decide +kernel
theorem dX5_matters_81 : decode cX5_matters 81 = .ok (.iconst 0, 1) := by decide +kernel
theorem dX5_matters_82 : decode cX5_matters 82 = .ok (.ireturn, 1) := by decide +kernel
theorem dX5_keepIfBarren_0 : decode cX5_keepIfBarren 0 = .ok (.aload_n 0, 1) := by decide +kernel
theorem dX5_keepIfBarren_1 : decode cX5_keepIfBarren 1 = .ok (.iload_n 1, 1) := by decide +kernel
theorem dX5_keepIfBarren_2 : decode cX5_keepIfBarren 2 = .ok (.iload_n 2, 1) := by decide +kernel
theorem dX5_keepIfBarren_3 : decode cX5_keepIfBarren 3 = .ok (.invokevirtual 153, 3) := by decide +kernel
theorem dX5_keepIfBarren_6 : decode cX5_keepIfBarren 6 = .ok (.istore 4, 2) := by decide +kernel
theorem dX5_keepIfBarren_8 : decode cX5_keepIfBarren 8 = .ok (.iload_n 3, 1) := by decide +kernel
theorem dX5_keepIfBarren_9 : decode cX5_keepIfBarren 9 = .ok (.ifCond .eq 23, 3) := by decide +kernel
theorem dX5_keepIfBarren_12 : decode cX5_keepIfBarren 12 = .ok (.iload 4, 2) := by decide +kernel
theorem dX5_keepIfBarren_14 : decode cX5_keepIfBarren 14 = .ok (.ifCond .lt 18, 3) := by decide +kernel
theorem dX5_keepIfBarren_17 : decode cX5_keepIfBarren 17 = .ok (.aload_n 0, 1) := by decide +kernel
theorem dX5_keepIfBarren_18 : decode cX5_keepIfBarren 18 = .ok (.getfield 37, 3) := by decide +kernel
theorem dX5_keepIfBarren_21 : decode cX5_keepIfBarren 21 = .ok (.iload 4, 2) := by decide +kernel
theorem dX5_keepIfBarren_23 : decode cX5_keepIfBarren 23 = .ok (.aload_n 0, 1) := by decide +kernel
theorem dX5_keepIfBarren_24 : decode cX5_keepIfBarren 24 = .ok (.getfield 31, 3) := by decide +kernel
theorem dX5_keepIfBarren_27 : decode cX5_keepIfBarren 27 = .ok (.iload_n 1, 1) := by decide +kernel
theorem dX5_keepIfBarren_28 : decode cX5_keepIfBarren 28 = .ok (.iconst 1, 1) := by decide +kernel
theorem dX5_keepIfBarren_29 : decode cX5_keepIfBarren 29 = .ok (.isub, 1) := by decide +kernel
theorem dX5_keepIfBarren_30 : decode cX5_keepIfBarren 30 = .ok (.iaload, 1) := by decide +kernel
theorem dX5_keepIfBarren_31 : decode cX5_keepIfBarren 31 = .ok (.iastore, 1) := by decide +kernel
theorem dX5_keepIfBarren_32 : decode cX5_keepIfBarren 32 = .ok (.return_, 1) := by decide +kernel
theorem dX5_cellOf_0 : decode cX5_cellOf 0 = .ok (.iload_n 1, 1) := by decide +kernel
theorem dX5_cellOf_1 : decode cX5_cellOf 1 = .ok (.ifCond .le 23, 3) := by decide +kernel
theorem dX5_cellOf_4 : decode cX5_cellOf 4 = .ok (.iload_n 1, 1) := by decide +kernel
theorem dX5_cellOf_5 : decode cX5_cellOf 5 = .ok (.iconst 5, 1) := by decide +kernel
theorem dX5_cellOf_6 : decode cX5_cellOf 6 = .ok (.if_icmp .gt 18, 3) := by decide +kernel
theorem dX5_cellOf_9 : decode cX5_cellOf 9 = .ok (.aload_n 0, 1) := by decide +kernel
theorem dX5_cellOf_10 : decode cX5_cellOf 10 = .ok (.getfield 40, 3) := by decide +kernel
theorem dX5_cellOf_13 : decode cX5_cellOf 13 = .ok (.iload_n 2, 1) := by decide +kernel
theorem dX5_cellOf_14 : decode cX5_cellOf 14 = .ok (.invokevirtual 55, 3) := by decide +kernel
theorem dX5_cellOf_17 : decode cX5_cellOf 17 = .ok (.ifCond .eq 7, 3) := by decide +kernel
theorem dX5_cellOf_20 : decode cX5_cellOf 20 = .ok (.iconst 1, 1) := by decide +kernel
theorem dX5_cellOf_21 : decode cX5_cellOf 21 = .ok (.goto 4, 3) := by decide +kernel
theorem dX5_cellOf_24 : decode cX5_cellOf 24 = .ok (.iconst 0, 1) := by decide +kernel
theorem dX5_cellOf_25 : decode cX5_cellOf 25 = .ok (.istore_n 3, 1) := by decide +kernel
theorem dX5_cellOf_26 : decode cX5_cellOf 26 = .ok (.iload_n 3, 1) := by decide +kernel
theorem dX5_cellOf_27 : decode cX5_cellOf 27 = .ok (.ifCond .eq 13, 3) := by decide +kernel
theorem dX5_cellOf_30 : decode cX5_cellOf 30 = .ok (.iload_n 1, 1) := by decide +kernel
theorem dX5_cellOf_31 : decode cX5_cellOf 31 = .ok (.sipush 200, 3) := by decide +kernel
theorem dX5_cellOf_34 : decode cX5_cellOf 34 = .ok (.imul, 1) := by decide +kernel
theorem dX5_cellOf_35 : decode cX5_cellOf 35 = .ok (.iload_n 2, 1) := by decide +kernel
theorem dX5_cellOf_36 : decode cX5_cellOf 36 = .ok (.iadd, 1) := by decide +kernel
theorem dX5_cellOf_37 : decode cX5_cellOf 37 = .ok (.goto 4, 3) := by decide +kernel
theorem dX5_cellOf_40 : decode cX5_cellOf 40 = .ok (.iconst (-1), 1) := by decide +kernel
theorem dX5_cellOf_41 : decode cX5_cellOf 41 = .ok (.ireturn, 1) := by decide +kernel
theorem dX5_yieldAt_0 : decode cX5_yieldAt 0 = .ok (.aload_n 0, 1) := by decide +kernel
theorem dX5_yieldAt_1 : decode cX5_yieldAt 1 = .ok (.iload_n 1, 1) := by decide +kernel
theorem dX5_yieldAt_2 : decode cX5_yieldAt 2 = .ok (.iload_n 2, 1) := by decide +kernel
theorem dX5_yieldAt_3 : decode cX5_yieldAt 3 = .ok (.invokevirtual 153, 3) := by decide +kernel
theorem dX5_yieldAt_6 : decode cX5_yieldAt 6 = .ok (.istore_n 3, 1) := by decide +kernel
theorem dX5_yieldAt_7 : decode cX5_yieldAt 7 = .ok (.iload_n 3, 1) := by decide +kernel
theorem dX5_yieldAt_8 : decode cX5_yieldAt 8 = .ok (.ifCond .ge 9, 3) := by decide +kernel
theorem dX5_yieldAt_11 : decode cX5_yieldAt 11 = .ok (.sipush 1000, 3) := by decide +kernel
theorem dX5_yieldAt_14 : decode cX5_yieldAt 14 = .ok (.goto 9, 3) := by decide +kernel
theorem dX5_yieldAt_17 : decode cX5_yieldAt 17 = .ok (.aload_n 0, 1) := by decide +kernel
theorem dX5_yieldAt_18 : decode cX5_yieldAt 18 = .ok (.getfield 34, 3) := by decide +kernel
theorem dX5_yieldAt_21 : decode cX5_yieldAt 21 = .ok (.iload_n 3, 1) := by decide +kernel
theorem dX5_yieldAt_22 : decode cX5_yieldAt 22 = .ok (.iaload, 1) := by decide +kernel
theorem dX5_yieldAt_23 : decode cX5_yieldAt 23 = .ok (.ireturn, 1) := by decide +kernel
theorem dX5_survey_0 : decode cX5_survey 0 = .ok (.iconst 5, 1) := by decide +kernel
theorem dX5_survey_1 : decode cX5_survey 1 = .ok (.istore_n 1, 1) := by decide +kernel
theorem dX5_survey_2 : decode cX5_survey 2 = .ok (.iload_n 1, 1) := by decide +kernel
theorem dX5_survey_3 : decode cX5_survey 3 = .ok (.ifCond .le 51, 3) := by decide +kernel
theorem dX5_survey_6 : decode cX5_survey 6 = .ok (.iconst 0, 1) := by decide +kernel
theorem dX5_survey_7 : decode cX5_survey 7 = .ok (.istore_n 2, 1) := by decide +kernel
theorem dX5_survey_8 : decode cX5_survey 8 = .ok (.iload_n 2, 1) := by decide +kernel
theorem dX5_survey_9 : decode cX5_survey 9 = .ok (.aload_n 0, 1) := by decide +kernel
theorem dX5_survey_10 : decode cX5_survey 10 = .ok (.getfield 40, 3) := by decide +kernel
theorem dX5_survey_13 : decode cX5_survey 13 = .ok (.invokevirtual 157, 3) := by decide +kernel
theorem dX5_survey_16 : decode cX5_survey 16 = .ok (.if_icmp .ge 32, 3) := by decide +kernel
theorem dX5_survey_19 : decode cX5_survey 19 = .ok (.aload_n 0, 1) := by decide +kernel
theorem dX5_survey_20 : decode cX5_survey 20 = .ok (.iload_n 1, 1) := by decide +kernel
theorem dX5_survey_21 : decode cX5_survey 21 = .ok (.iload_n 2, 1) := by decide +kernel
theorem dX5_survey_22 : decode cX5_survey 22 = .ok (.invokevirtual 153, 3) := by decide +kernel
theorem dX5_survey_25 : decode cX5_survey 25 = .ok (.istore_n 3, 1) := by decide +kernel
theorem dX5_survey_26 : decode cX5_survey 26 = .ok (.iload_n 3, 1) := by decide +kernel
theorem dX5_survey_27 : decode cX5_survey 27 = .ok (.ifCond .lt 15, 3) := by decide +kernel
theorem dX5_survey_30 : decode cX5_survey 30 = .ok (.aload_n 0, 1) := by decide +kernel
theorem dX5_survey_31 : decode cX5_survey 31 = .ok (.getfield 34, 3) := by decide +kernel
theorem dX5_survey_34 : decode cX5_survey 34 = .ok (.iload_n 3, 1) := by decide +kernel
theorem dX5_survey_35 : decode cX5_survey 35 = .ok (.aload_n 0, 1) := by decide +kernel
theorem dX5_survey_36 : decode cX5_survey 36 = .ok (.iload_n 1, 1) := by decide +kernel
theorem dX5_survey_37 : decode cX5_survey 37 = .ok (.iload_n 2, 1) := by decide +kernel
theorem dX5_survey_38 : decode cX5_survey 38 = .ok (.invokevirtual 158, 3) := by decide +kernel
theorem dX5_survey_41 : decode cX5_survey 41 = .ok (.iastore, 1) := by decide +kernel
theorem dX5_survey_42 : decode cX5_survey 42 = .ok (.iinc 2 1, 3) := by decide +kernel
theorem dX5_survey_45 : decode cX5_survey 45 = .ok (.goto (-37), 3) := by decide +kernel
theorem dX5_survey_48 : decode cX5_survey 48 = .ok (.iinc 1 (-1), 3) := by decide +kernel
theorem dX5_survey_51 : decode cX5_survey 51 = .ok (.goto (-49), 3) := by decide +kernel
theorem dX5_survey_54 : decode cX5_survey 54 = .ok (.return_, 1) := by decide +kernel
theorem dX5_yieldOf_0 : decode cX5_yieldOf 0 = .ok (.aload_n 0, 1) := by decide +kernel
theorem dX5_yieldOf_1 : decode cX5_yieldOf 1 = .ok (.getfield 23, 3) := by decide +kernel
theorem dX5_yieldOf_4 : decode cX5_yieldOf 4 = .ok (.iload_n 1, 1) := by decide +kernel
theorem dX5_yieldOf_5 : decode cX5_yieldOf 5 = .ok (.aaload, 1) := by decide +kernel
theorem dX5_yieldOf_6 : decode cX5_yieldOf 6 = .ok (.astore_n 3, 1) := by decide +kernel
theorem dX5_yieldOf_7 : decode cX5_yieldOf 7 = .ok (.aload_n 0, 1) := by decide +kernel
theorem dX5_yieldOf_8 : decode cX5_yieldOf 8 = .ok (.getfield 40, 3) := by decide +kernel
theorem dX5_yieldOf_11 : decode cX5_yieldOf 11 = .ok (.iload_n 2, 1) := by decide +kernel
theorem dX5_yieldOf_12 : decode cX5_yieldOf 12 = .ok (.aload_n 3, 1) := by decide +kernel
theorem dX5_yieldOf_13 : decode cX5_yieldOf 13 = .ok (.invokevirtual 64, 3) := by decide +kernel
theorem dX5_yieldOf_16 : decode cX5_yieldOf 16 = .ok (.aload_n 3, 1) := by decide +kernel
theorem dX5_yieldOf_17 : decode cX5_yieldOf 17 = .ok (.invokevirtual 68, 3) := by decide +kernel
theorem dX5_yieldOf_20 : decode cX5_yieldOf 20 = .ok (.ifCond .eq 7, 3) := by decide +kernel
theorem dX5_yieldOf_23 : decode cX5_yieldOf 23 = .ok (.sipush 2000, 3) := by decide +kernel
theorem dX5_yieldOf_26 : decode cX5_yieldOf 26 = .ok (.ireturn, 1) := by decide +kernel
theorem dX5_yieldOf_27 : decode cX5_yieldOf 27 = .ok (.aload_n 3, 1) := by decide +kernel
theorem dX5_yieldOf_28 : decode cX5_yieldOf 28 = .ok (.invokevirtual 83, 3) := by decide +kernel
theorem dX5_yieldOf_31 : decode cX5_yieldOf 31 = .ok (.ifCond .eq 10, 3) := by decide +kernel
theorem dX5_yieldOf_34 : decode cX5_yieldOf 34 = .ok (.aload_n 0, 1) := by decide +kernel
theorem dX5_yieldOf_35 : decode cX5_yieldOf 35 = .ok (.iload_n 1, 1) := by decide +kernel
theorem dX5_yieldOf_36 : decode cX5_yieldOf 36 = .ok (.aload_n 3, 1) := by decide +kernel
theorem dX5_yieldOf_37 : decode cX5_yieldOf 37 = .ok (.invokevirtual 161, 3) := by decide +kernel
theorem dX5_yieldOf_40 : decode cX5_yieldOf 40 = .ok (.ireturn, 1) := by decide +kernel
theorem dX5_yieldOf_41 : decode cX5_yieldOf 41 = .ok (.iload_n 1, 1) := by decide +kernel
theorem dX5_yieldOf_42 : decode cX5_yieldOf 42 = .ok (.iconst 5, 1) := by decide +kernel
theorem dX5_yieldOf_43 : decode cX5_yieldOf 43 = .ok (.if_icmp .ge 14, 3) := by decide +kernel
theorem dX5_yieldOf_46 : decode cX5_yieldOf 46 = .ok (.aload_n 0, 1) := by decide +kernel
theorem dX5_yieldOf_47 : decode cX5_yieldOf 47 = .ok (.iload_n 1, 1) := by decide +kernel
theorem dX5_yieldOf_48 : decode cX5_yieldOf 48 = .ok (.iconst 1, 1) := by decide +kernel
theorem dX5_yieldOf_49 : decode cX5_yieldOf 49 = .ok (.iadd, 1) := by decide +kernel
theorem dX5_yieldOf_50 : decode cX5_yieldOf 50 = .ok (.iload_n 2, 1) := by decide +kernel
theorem dX5_yieldOf_51 : decode cX5_yieldOf 51 = .ok (.invokevirtual 165, 3) := by decide +kernel
theorem dX5_yieldOf_54 : decode cX5_yieldOf 54 = .ok (.goto 8, 3) := by decide +kernel
theorem dX5_yieldOf_57 : decode cX5_yieldOf 57 = .ok (.aload_n 0, 1) := by decide +kernel
theorem dX5_yieldOf_58 : decode cX5_yieldOf 58 = .ok (.aload_n 3, 1) := by decide +kernel
theorem dX5_yieldOf_59 : decode cX5_yieldOf 59 = .ok (.invokevirtual 168, 3) := by decide +kernel
theorem dX5_yieldOf_62 : decode cX5_yieldOf 62 = .ok (.ireturn, 1) := by decide +kernel
theorem dX5_yieldOfSimple_0 : decode cX5_yieldOfSimple 0 = .ok (.aload_n 0, 1) := by decide +kernel
theorem dX5_yieldOfSimple_1 : decode cX5_yieldOfSimple 1 = .ok (.getfield 18, 3) := by decide +kernel
theorem dX5_yieldOfSimple_4 : decode cX5_yieldOfSimple 4 = .ok (.iconst 0, 1) := by decide +kernel
theorem dX5_yieldOfSimple_5 : decode cX5_yieldOfSimple 5 = .ok (.iconst 0, 1) := by decide +kernel
theorem dX5_yieldOfSimple_6 : decode cX5_yieldOfSimple 6 = .ok (.invokevirtual 51, 3) := by decide +kernel
theorem dX5_yieldOfSimple_9 : decode cX5_yieldOfSimple 9 = .ok (.aload_n 0, 1) := by decide +kernel
theorem dX5_yieldOfSimple_10 : decode cX5_yieldOfSimple 10 = .ok (.getfield 18, 3) := by decide +kernel
theorem dX5_yieldOfSimple_13 : decode cX5_yieldOfSimple 13 = .ok (.aload_n 1, 1) := by decide +kernel
theorem dX5_yieldOfSimple_14 : decode cX5_yieldOfSimple 14 = .ok (.invokevirtual 90, 3) := by decide +kernel
theorem dX5_yieldOfSimple_17 : decode cX5_yieldOfSimple 17 = .ok (.ifCond .ne 7, 3) := by decide +kernel
theorem dX5_yieldOfSimple_20 : decode cX5_yieldOfSimple 20 = .ok (.sipush 1000, 3) := by decide +kernel
theorem dX5_yieldOfSimple_23 : decode cX5_yieldOfSimple 23 = .ok (.ireturn, 1) := by decide +kernel
theorem dX5_yieldOfSimple_24 : decode cX5_yieldOfSimple 24 = .ok (.aload_n 0, 1) := by decide +kernel
theorem dX5_yieldOfSimple_25 : decode cX5_yieldOfSimple 25 = .ok (.getfield 18, 3) := by decide +kernel
theorem dX5_yieldOfSimple_28 : decode cX5_yieldOfSimple 28 = .ok (.invokevirtual 76, 3) := by decide +kernel
theorem dX5_yieldOfSimple_31 : decode cX5_yieldOfSimple 31 = .ok (.ifCond .ne 9, 3) := by decide +kernel
theorem dX5_yieldOfSimple_34 : decode cX5_yieldOfSimple 34 = .ok (.sipush 2000, 3) := by decide +kernel
theorem dX5_yieldOfSimple_37 : decode cX5_yieldOfSimple 37 = .ok (.goto 10, 3) := by decide +kernel
theorem dX5_yieldOfSimple_40 : decode cX5_yieldOfSimple 40 = .ok (.aload_n 0, 1) := by decide +kernel
theorem dX5_yieldOfSimple_41 : decode cX5_yieldOfSimple 41 = .ok (.getfield 18, 3) := by decide +kernel
theorem dX5_yieldOfSimple_44 : decode cX5_yieldOfSimple 44 = .ok (.invokevirtual 76, 3) := by decide +kernel
theorem dX5_yieldOfSimple_47 : decode cX5_yieldOfSimple 47 = .ok (.ireturn, 1) := by decide +kernel
theorem dX5_yieldOfParts_0 : decode cX5_yieldOfParts 0 = .ok (.sipush 2000, 3) := by decide +kernel
theorem dX5_yieldOfParts_3 : decode cX5_yieldOfParts 3 = .ok (.istore_n 3, 1) := by decide +kernel
theorem dX5_yieldOfParts_4 : decode cX5_yieldOfParts 4 = .ok (.iconst 1, 1) := by decide +kernel
theorem dX5_yieldOfParts_5 : decode cX5_yieldOfParts 5 = .ok (.istore 4, 2) := by decide +kernel
theorem dX5_yieldOfParts_7 : decode cX5_yieldOfParts 7 = .ok (.iconst 0, 1) := by decide +kernel
theorem dX5_yieldOfParts_8 : decode cX5_yieldOfParts 8 = .ok (.istore 5, 2) := by decide +kernel
theorem dX5_yieldOfParts_10 : decode cX5_yieldOfParts 10 = .ok (.iload 5, 2) := by decide +kernel
theorem dX5_yieldOfParts_12 : decode cX5_yieldOfParts 12 = .ok (.sipush 1600, 3) := by decide +kernel
theorem dX5_yieldOfParts_15 : decode cX5_yieldOfParts 15 = .ok (.if_icmp .ge 70, 3) := by decide +kernel
theorem dX5_yieldOfParts_18 : decode cX5_yieldOfParts 18 = .ok (.iload 4, 2) := by decide +kernel
theorem dX5_yieldOfParts_20 : decode cX5_yieldOfParts 20 = .ok (.ifCond .eq 65, 3) := by decide +kernel
theorem dX5_yieldOfParts_23 : decode cX5_yieldOfParts 23 = .ok (.aload_n 2, 1) := by decide +kernel
theorem dX5_yieldOfParts_24 : decode cX5_yieldOfParts 24 = .ok (.invokevirtual 99, 3) := by decide +kernel
theorem dX5_yieldOfParts_27 : decode cX5_yieldOfParts 27 = .ok (.ifCond .ne 7, 3) := by decide +kernel
theorem dX5_yieldOfParts_30 : decode cX5_yieldOfParts 30 = .ok (.sipush 1000, 3) := by decide +kernel
theorem dX5_yieldOfParts_33 : decode cX5_yieldOfParts 33 = .ok (.ireturn, 1) := by decide +kernel
theorem dX5_yieldOfParts_34 : decode cX5_yieldOfParts 34 = .ok (.aload_n 2, 1) := by decide +kernel
theorem dX5_yieldOfParts_35 : decode cX5_yieldOfParts 35 = .ok (.invokevirtual 129, 3) := by decide +kernel
theorem dX5_yieldOfParts_38 : decode cX5_yieldOfParts 38 = .ok (.ifCond .eq 9, 3) := by decide +kernel
theorem dX5_yieldOfParts_41 : decode cX5_yieldOfParts 41 = .ok (.sipush 2000, 3) := by decide +kernel
theorem dX5_yieldOfParts_44 : decode cX5_yieldOfParts 44 = .ok (.goto 6, 3) := by decide +kernel
theorem dX5_yieldOfParts_47 : decode cX5_yieldOfParts 47 = .ok (.sipush 1000, 3) := by decide +kernel
theorem dX5_yieldOfParts_50 : decode cX5_yieldOfParts 50 = .ok (.istore 6, 2) := by decide +kernel
theorem dX5_yieldOfParts_52 : decode cX5_yieldOfParts 52 = .ok (.iload_n 3, 1) := by decide +kernel
theorem dX5_yieldOfParts_53 : decode cX5_yieldOfParts 53 = .ok (.iload 6, 2) := by decide +kernel
theorem dX5_yieldOfParts_55 : decode cX5_yieldOfParts 55 = .ok (.aload_n 0, 1) := by decide +kernel
theorem dX5_yieldOfParts_56 : decode cX5_yieldOfParts 56 = .ok (.iload_n 1, 1) := by decide +kernel
theorem dX5_yieldOfParts_57 : decode cX5_yieldOfParts 57 = .ok (.iconst 1, 1) := by decide +kernel
theorem dX5_yieldOfParts_58 : decode cX5_yieldOfParts 58 = .ok (.iadd, 1) := by decide +kernel
theorem dX5_yieldOfParts_59 : decode cX5_yieldOfParts 59 = .ok (.aload_n 2, 1) := by decide +kernel
theorem dX5_yieldOfParts_60 : decode cX5_yieldOfParts 60 = .ok (.getfield 109, 3) := by decide +kernel
theorem dX5_yieldOfParts_63 : decode cX5_yieldOfParts 63 = .ok (.invokevirtual 165, 3) := by decide +kernel
theorem dX5_yieldOfParts_66 : decode cX5_yieldOfParts 66 = .ok (.invokestatic 172, 3) := by decide +kernel
theorem dX5_yieldOfParts_69 : decode cX5_yieldOfParts 69 = .ok (.invokestatic 172, 3) := by decide +kernel
theorem dX5_yieldOfParts_72 : decode cX5_yieldOfParts 72 = .ok (.istore_n 3, 1) := by decide +kernel
theorem dX5_yieldOfParts_73 : decode cX5_yieldOfParts 73 = .ok (.aload_n 2, 1) := by decide +kernel
theorem dX5_yieldOfParts_74 : decode cX5_yieldOfParts 74 = .ok (.invokevirtual 106, 3) := by decide +kernel
theorem dX5_yieldOfParts_77 : decode cX5_yieldOfParts 77 = .ok (.istore 4, 2) := by decide +kernel
theorem dX5_yieldOfParts_79 : decode cX5_yieldOfParts 79 = .ok (.iinc 5 1, 3) := by decide +kernel
theorem dX5_yieldOfParts_82 : decode cX5_yieldOfParts 82 = .ok (.goto (-72), 3) := by decide +kernel
theorem dX5_yieldOfParts_85 : decode cX5_yieldOfParts 85 = .ok (.iload_n 3, 1) := by decide +kernel
theorem dX5_yieldOfParts_86 : decode cX5_yieldOfParts 86 = .ok (.ireturn, 1) := by decide +kernel
theorem dX6_init_0 : decode cX6_init 0 = .ok (.aload_n 0, 1) := by decide +kernel
theorem dX6_init_1 : decode cX6_init 1 = .ok (.invokespecial 3, 3) := by decide +kernel
theorem dX6_init_4 : decode cX6_init 4 = .ok (.aload_n 0, 1) := by decide +kernel
theorem dX6_init_5 : decode cX6_init 5 = .ok (.sipush 200, 3) := by decide +kernel
theorem dX6_init_8 : decode cX6_init 8 = .ok (.newarray .boolean, 2) := by decide +kernel
theorem dX6_init_10 : decode cX6_init 10 = .ok (.putfield 9, 3) := by decide +kernel
theorem dX6_init_13 : decode cX6_init 13 = .ok (.aload_n 0, 1) := by decide +kernel
theorem dX6_init_14 : decode cX6_init 14 = .ok (.sipush 200, 3) := by decide +kernel
theorem dX6_init_17 : decode cX6_init 17 = .ok (.newarray .int, 2) := by decide +kernel
theorem dX6_init_19 : decode cX6_init 19 = .ok (.putfield 15, 3) := by decide +kernel
theorem dX6_init_22 : decode cX6_init 22 = .ok (.aload_n 0, 1) := by decide +kernel
theorem dX6_init_23 : decode cX6_init 23 = .ok (.aload_n 2, 1) := by decide +kernel
theorem dX6_init_24 : decode cX6_init 24 = .ok (.putfield 19, 3) := by decide +kernel
theorem dX6_init_27 : decode cX6_init 27 = .ok (.aload_n 0, 1) := by decide +kernel
theorem dX6_init_28 : decode cX6_init 28 = .ok (.new 23, 3) := by decide +kernel
theorem dX6_init_31 : decode cX6_init 31 = .ok (.dup, 1) := by decide +kernel
theorem dX6_init_32 : decode cX6_init 32 = .ok (.aload_n 1, 1) := by decide +kernel
theorem dX6_init_33 : decode cX6_init 33 = .ok (.invokespecial 25, 3) := by decide +kernel
theorem dX6_init_36 : decode cX6_init 36 = .ok (.putfield 28, 3) := by decide +kernel
theorem dX6_init_39 : decode cX6_init 39 = .ok (.aload_n 0, 1) := by decide +kernel
theorem dX6_init_40 : decode cX6_init 40 = .ok (.aload_n 2, 1) := by decide +kernel
theorem dX6_init_41 : decode cX6_init 41 = .ok (.getfield 32, 3) := by decide +kernel
theorem dX6_init_44 : decode cX6_init 44 = .ok (.putfield 38, 3) := by decide +kernel
theorem dX6_init_47 : decode cX6_init 47 = .ok (.aload_n 0, 1) := by decide +kernel
theorem dX6_init_48 : decode cX6_init 48 = .ok (.aload_n 2, 1) := by decide +kernel
theorem dX6_init_49 : decode cX6_init 49 = .ok (.getfield 32, 3) := by decide +kernel
theorem dX6_init_52 : decode cX6_init 52 = .ok (.putfield 41, 3) := by decide +kernel
theorem dX6_init_55 : decode cX6_init 55 = .ok (.return_, 1) := by decide +kernel
theorem dX6_load_0 : decode cX6_load 0 = .ok (.aload_n 0, 1) := by decide +kernel
theorem dX6_load_1 : decode cX6_load 1 = .ok (.getfield 19, 3) := by decide +kernel
theorem dX6_load_4 : decode cX6_load 4 = .ok (.ldc2_w 44, 3) := by decide +kernel
theorem dX6_load_7 : decode cX6_load 7 = .ok (.invokevirtual 46, 3) := by decide +kernel
theorem dX6_load_10 : decode cX6_load 10 = .ok (.ldc2_w 50, 3) := by decide +kernel
theorem dX6_load_13 : decode cX6_load 13 = .ok (.invokevirtual 52, 3) := by decide +kernel
theorem dX6_load_16 : decode cX6_load 16 = .ok (.istore_n 1, 1) := by decide +kernel
theorem dX6_load_17 : decode cX6_load 17 = .ok (.aload_n 0, 1) := by decide +kernel
theorem dX6_load_18 : decode cX6_load 18 = .ok (.iconst 0, 1) := by decide +kernel
theorem dX6_load_19 : decode cX6_load 19 = .ok (.sipush 200, 3) := by decide +kernel
theorem dX6_load_22 : decode cX6_load 22 = .ok (.iload_n 1, 1) := by decide +kernel
theorem dX6_load_23 : decode cX6_load 23 = .ok (.invokestatic 58, 3) := by decide +kernel
theorem dX6_load_26 : decode cX6_load 26 = .ok (.invokestatic 64, 3) := by decide +kernel
theorem dX6_load_29 : decode cX6_load 29 = .ok (.putfield 67, 3) := by decide +kernel
theorem dX6_load_32 : decode cX6_load 32 = .ok (.aload_n 0, 1) := by decide +kernel
theorem dX6_load_33 : decode cX6_load 33 = .ok (.iload_n 1, 1) := by decide +kernel
theorem dX6_load_34 : decode cX6_load 34 = .ok (.sipush 200, 3) := by decide +kernel
theorem dX6_load_37 : decode cX6_load 37 = .ok (.if_icmp .le 7, 3) := by decide +kernel
theorem dX6_load_40 : decode cX6_load 40 = .ok (.iconst 1, 1) := by decide +kernel
theorem dX6_load_41 : decode cX6_load 41 = .ok (.goto 4, 3) := by decide +kernel
theorem dX6_load_44 : decode cX6_load 44 = .ok (.iconst 0, 1) := by decide +kernel
theorem dX6_load_45 : decode cX6_load 45 = .ok (.putfield 71, 3) := by decide +kernel
theorem dX6_load_48 : decode cX6_load 48 = .ok (.aload_n 0, 1) := by decide +kernel
theorem dX6_load_49 : decode cX6_load 49 = .ok (.aload_n 0, 1) := by decide +kernel
theorem dX6_load_50 : decode cX6_load 50 = .ok (.getfield 19, 3) := by decide +kernel
theorem dX6_load_53 : decode cX6_load 53 = .ok (.ldc2_w 75, 3) := by decide +kernel
theorem dX6_load_56 : decode cX6_load 56 = .ok (.invokevirtual 46, 3) := by decide +kernel
theorem dX6_load_59 : decode cX6_load 59 = .ok (.ldc2_w 77, 3) := by decide +kernel
theorem dX6_load_62 : decode cX6_load 62 = .ok (.invokevirtual 52, 3) := by decide +kernel
theorem dX6_load_65 : decode cX6_load 65 = .ok (.iconst 1, 1) := by decide +kernel
theorem dX6_load_66 : decode cX6_load 66 = .ok (.if_icmp .ne 7, 3) := by decide +kernel
theorem dX6_load_69 : decode cX6_load 69 = .ok (.iconst 1, 1) := by decide +kernel
theorem dX6_load_70 : decode cX6_load 70 = .ok (.goto 4, 3) := by decide +kernel
theorem dX6_load_73 : decode cX6_load 73 = .ok (.iconst 0, 1) := by decide +kernel
theorem dX6_load_74 : decode cX6_load 74 = .ok (.putfield 79, 3) := by decide +kernel
theorem dX6_load_77 : decode cX6_load 77 = .ok (.aload_n 0, 1) := by decide +kernel
theorem dX6_load_78 : decode cX6_load 78 = .ok (.aload_n 0, 1) := by decide +kernel
theorem dX6_load_79 : decode cX6_load 79 = .ok (.getfield 19, 3) := by decide +kernel
theorem dX6_load_82 : decode cX6_load 82 = .ok (.ldc2_w 82, 3) := by decide +kernel
theorem dX6_load_85 : decode cX6_load 85 = .ok (.invokevirtual 46, 3) := by decide +kernel
theorem dX6_load_88 : decode cX6_load 88 = .ok (.putfield 38, 3) := by decide +kernel
theorem dX6_load_91 : decode cX6_load 91 = .ok (.aload_n 0, 1) := by decide +kernel
theorem dX6_load_92 : decode cX6_load 92 = .ok (.aload_n 0, 1) := by decide +kernel
theorem dX6_load_93 : decode cX6_load 93 = .ok (.getfield 19, 3) := by decide +kernel
theorem dX6_load_96 : decode cX6_load 96 = .ok (.ldc2_w 84, 3) := by decide +kernel
theorem dX6_load_99 : decode cX6_load 99 = .ok (.invokevirtual 46, 3) := by decide +kernel
theorem dX6_load_102 : decode cX6_load 102 = .ok (.putfield 41, 3) := by decide +kernel
theorem dX6_load_105 : decode cX6_load 105 = .ok (.aload_n 0, 1) := by decide +kernel
theorem dX6_load_106 : decode cX6_load 106 = .ok (.iconst 0, 1) := by decide +kernel
theorem dX6_load_107 : decode cX6_load 107 = .ok (.putfield 86, 3) := by decide +kernel
theorem dX6_load_110 : decode cX6_load 110 = .ok (.iconst 0, 1) := by decide +kernel
theorem dX6_load_111 : decode cX6_load 111 = .ok (.istore_n 2, 1) := by decide +kernel
theorem dX6_load_112 : decode cX6_load 112 = .ok (.iload_n 2, 1) := by decide +kernel
theorem dX6_load_113 : decode cX6_load 113 = .ok (.sipush 200, 3) := by decide +kernel
theorem dX6_load_116 : decode cX6_load 116 = .ok (.if_icmp .ge 16, 3) := by decide +kernel
theorem dX6_load_119 : decode cX6_load 119 = .ok (.aload_n 0, 1) := by decide +kernel
theorem dX6_load_120 : decode cX6_load 120 = .ok (.getfield 9, 3) := by decide +kernel
theorem dX6_load_123 : decode cX6_load 123 = .ok (.iload_n 2, 1) := by decide +kernel
theorem dX6_load_124 : decode cX6_load 124 = .ok (.iconst 0, 1) := by decide +kernel
theorem dX6_load_125 : decode cX6_load 125 = .ok (.bastore, 1) := by decide +kernel
theorem dX6_load_126 : decode cX6_load 126 = .ok (.iinc 2 1, 3) := by decide +kernel
theorem dX6_load_129 : decode cX6_load 129 = .ok (.goto (-17), 3) := by decide +kernel
theorem dX6_load_132 : decode cX6_load 132 = .ok (.return_, 1) := by decide +kernel
theorem dX6_size_0 : decode cX6_size 0 = .ok (.aload_n 0, 1) := by decide +kernel
theorem dX6_size_1 : decode cX6_size 1 = .ok (.getfield 67, 3) := by decide +kernel
theorem dX6_size_4 : decode cX6_size 4 = .ok (.ireturn, 1) := by decide +kernel
theorem dX6_has_0 : decode cX6_has 0 = .ok (.iload_n 1, 1) := by decide +kernel
theorem dX6_has_1 : decode cX6_has 1 = .ok (.ifCond .lt 15, 3) := by decide +kernel
theorem dX6_has_4 : decode cX6_has 4 = .ok (.iload_n 1, 1) := by decide +kernel
theorem dX6_has_5 : decode cX6_has 5 = .ok (.aload_n 0, 1) := by decide +kernel
theorem dX6_has_6 : decode cX6_has 6 = .ok (.getfield 67, 3) := by decide +kernel
theorem dX6_has_9 : decode cX6_has 9 = .ok (.if_icmp .ge 7, 3) := by decide +kernel
theorem dX6_has_12 : decode cX6_has 12 = .ok (.iconst 1, 1) := by decide +kernel
theorem dX6_has_13 : decode cX6_has 13 = .ok (.goto 4, 3) := by decide +kernel
theorem dX6_has_16 : decode cX6_has 16 = .ok (.iconst 0, 1) := by decide +kernel
theorem dX6_has_17 : decode cX6_has 17 = .ok (.ireturn, 1) := by decide +kernel
theorem dX6_areCutShort_0 : decode cX6_areCutShort 0 = .ok (.aload_n 0, 1) := by decide +kernel
theorem dX6_areCutShort_1 : decode cX6_areCutShort 1 = .ok (.getfield 71, 3) := by decide +kernel
theorem dX6_areCutShort_4 : decode cX6_areCutShort 4 = .ok (.ireturn, 1) := by decide +kernel
theorem dX6_haveLongPlaces_0 : decode cX6_haveLongPlaces 0 = .ok (.aload_n 0, 1) := by decide +kernel
theorem dX6_haveLongPlaces_1 : decode cX6_haveLongPlaces 1 = .ok (.getfield 79, 3) := by decide +kernel
theorem dX6_haveLongPlaces_4 : decode cX6_haveLongPlaces 4 = .ok (.ireturn, 1) := by decide +kernel
theorem dX6_placeAt_0 : decode cX6_placeAt 0 = .ok (.aload_n 0, 1) := by decide +kernel
theorem dX6_placeAt_1 : decode cX6_placeAt 1 = .ok (.getfield 79, 3) := by decide +kernel
theorem dX6_placeAt_4 : decode cX6_placeAt 4 = .ok (.ifCond .eq 17, 3) := by decide +kernel
theorem dX6_placeAt_7 : decode cX6_placeAt 7 = .ok (.aload_n 0, 1) := by decide +kernel
theorem dX6_placeAt_8 : decode cX6_placeAt 8 = .ok (.getfield 38, 3) := by decide +kernel
theorem dX6_placeAt_11 : decode cX6_placeAt 11 = .ok (.ldc2_w 50, 3) := by decide +kernel
theorem dX6_placeAt_14 : decode cX6_placeAt 14 = .ok (.iload_n 1, 1) := by decide +kernel
theorem dX6_placeAt_15 : decode cX6_placeAt 15 = .ok (.i2l, 1) := by decide +kernel
theorem dX6_placeAt_16 : decode cX6_placeAt 16 = .ok (.lmul, 1) := by decide +kernel
theorem dX6_placeAt_17 : decode cX6_placeAt 17 = .ok (.invokevirtual 89, 3) := by decide +kernel
theorem dX6_placeAt_20 : decode cX6_placeAt 20 = .ok (.lreturn, 1) := by decide +kernel
theorem dX6_placeAt_21 : decode cX6_placeAt 21 = .ok (.aload_n 0, 1) := by decide +kernel
theorem dX6_placeAt_22 : decode cX6_placeAt 22 = .ok (.getfield 38, 3) := by decide +kernel
theorem dX6_placeAt_25 : decode cX6_placeAt 25 = .ok (.ldc2_w 93, 3) := by decide +kernel
theorem dX6_placeAt_28 : decode cX6_placeAt 28 = .ok (.iload_n 1, 1) := by decide +kernel
theorem dX6_placeAt_29 : decode cX6_placeAt 29 = .ok (.i2l, 1) := by decide +kernel
theorem dX6_placeAt_30 : decode cX6_placeAt 30 = .ok (.lmul, 1) := by decide +kernel
theorem dX6_placeAt_31 : decode cX6_placeAt 31 = .ok (.invokevirtual 52, 3) := by decide +kernel
theorem dX6_placeAt_34 : decode cX6_placeAt 34 = .ok (.istore_n 2, 1) := by decide +kernel
theorem dX6_placeAt_35 : decode cX6_placeAt 35 = .ok (.iload_n 2, 1) := by decide +kernel
theorem dX6_placeAt_36 : decode cX6_placeAt 36 = .ok (.iconst (-1), 1) := by decide +kernel
theorem dX6_placeAt_37 : decode cX6_placeAt 37 = .ok (.if_icmp .ne 9, 3) := by decide +kernel
theorem dX6_placeAt_40 : decode cX6_placeAt 40 = .ok (.ldc2_w 95, 3) := by decide +kernel
theorem dX6_placeAt_43 : decode cX6_placeAt 43 = .ok (.goto 9, 3) := by decide +kernel
theorem dX6_placeAt_46 : decode cX6_placeAt 46 = .ok (.ldc2_w 93, 3) := by decide +kernel
theorem dX6_placeAt_49 : decode cX6_placeAt 49 = .ok (.iload_n 2, 1) := by decide +kernel
theorem dX6_placeAt_50 : decode cX6_placeAt 50 = .ok (.i2l, 1) := by decide +kernel
theorem dX6_placeAt_51 : decode cX6_placeAt 51 = .ok (.lmul, 1) := by decide +kernel
theorem dX6_placeAt_52 : decode cX6_placeAt 52 = .ok (.lreturn, 1) := by decide +kernel
theorem dX6_open_0 : decode cX6_open 0 = .ok (.aload_n 0, 1) := by decide +kernel
theorem dX6_open_1 : decode cX6_open 1 = .ok (.iload_n 1, 1) := by decide +kernel
theorem dX6_open_2 : decode cX6_open 2 = .ok (.invokevirtual 97, 3) := by decide +kernel
theorem dX6_open_5 : decode cX6_open 5 = .ok (.lstore_n 3, 1) := by decide +kernel
theorem dX6_open_6 : decode cX6_open 6 = .ok (.aload_n 0, 1) := by decide +kernel
theorem dX6_open_7 : decode cX6_open 7 = .ok (.iload_n 1, 1) := by decide +kernel
theorem dX6_open_8 : decode cX6_open 8 = .ok (.iconst 1, 1) := by decide +kernel
theorem dX6_open_9 : decode cX6_open 9 = .ok (.iadd, 1) := by decide +kernel
theorem dX6_open_10 : decode cX6_open 10 = .ok (.invokevirtual 97, 3) := by decide +kernel
theorem dX6_open_13 : decode cX6_open 13 = .ok (.lstore 5, 2) := by decide +kernel
theorem dX6_open_15 : decode cX6_open 15 = .ok (.lload_n 3, 1) := by decide +kernel
theorem dX6_open_16 : decode cX6_open 16 = .ok (.ldc2_w 95, 3) := by decide +kernel
theorem dX6_open_19 : decode cX6_open 19 = .ok (.lcmp, 1) := by decide +kernel
theorem dX6_open_20 : decode cX6_open 20 = .ok (.ifCond .eq 12, 3) := by decide +kernel
theorem dX6_open_23 : decode cX6_open 23 = .ok (.lload 5, 2) := by decide +kernel
theorem dX6_open_25 : decode cX6_open 25 = .ok (.ldc2_w 95, 3) := by decide +kernel
theorem dX6_open_28 : decode cX6_open 28 = .ok (.lcmp, 1) := by decide +kernel
theorem dX6_open_29 : decode cX6_open 29 = .ok (.ifCond .ne 13, 3) := by decide +kernel
theorem dX6_open_32 : decode cX6_open 32 = .ok (.aload_n 2, 1) := by decide +kernel
theorem dX6_open_33 : decode cX6_open 33 = .ok (.iconst 0, 1) := by decide +kernel
theorem dX6_open_34 : decode cX6_open 34 = .ok (.lconst 0, 1) := by decide +kernel
theorem dX6_open_35 : decode cX6_open 35 = .ok (.lconst 0, 1) := by decide +kernel
theorem dX6_open_36 : decode cX6_open 36 = .ok (.invokevirtual 101, 3) := by decide +kernel
theorem dX6_open_39 : decode cX6_open 39 = .ok (.goto 50, 3) := by decide +kernel
theorem dX6_open_42 : decode cX6_open 42 = .ok (.aload_n 2, 1) := by decide +kernel
theorem dX6_open_43 : decode cX6_open 43 = .ok (.lload_n 3, 1) := by decide +kernel
theorem dX6_open_44 : decode cX6_open 44 = .ok (.lload 5, 2) := by decide +kernel
theorem dX6_open_46 : decode cX6_open 46 = .ok (.lcmp, 1) := by decide +kernel
theorem dX6_open_47 : decode cX6_open 47 = .ok (.ifCond .ne 7, 3) := by decide +kernel
theorem dX6_open_50 : decode cX6_open 50 = .ok (.iconst 1, 1) := by decide +kernel
theorem dX6_open_51 : decode cX6_open 51 = .ok (.goto 4, 3) := by decide +kernel
theorem dX6_open_54 : decode cX6_open 54 = .ok (.iconst 0, 1) := by decide +kernel
theorem dX6_open_55 : decode cX6_open 55 = .ok (.aload_n 0, 1) := by decide +kernel
theorem dX6_open_56 : decode cX6_open 56 = .ok (.getfield 41, 3) := by decide +kernel
theorem dX6_open_59 : decode cX6_open 59 = .ok (.getfield 105, 3) := by decide +kernel
theorem dX6_open_62 : decode cX6_open 62 = .ok (.i2l, 1) := by decide +kernel
theorem dX6_open_63 : decode cX6_open 63 = .ok (.lload_n 3, 1) := by decide +kernel
theorem dX6_open_64 : decode cX6_open 64 = .ok (.ladd, 1) := by decide +kernel
theorem dX6_open_65 : decode cX6_open 65 = .ok (.aload_n 0, 1) := by decide +kernel
theorem dX6_open_66 : decode cX6_open 66 = .ok (.getfield 41, 3) := by decide +kernel
theorem dX6_open_69 : decode cX6_open 69 = .ok (.getfield 105, 3) := by decide +kernel
theorem dX6_open_72 : decode cX6_open 72 = .ok (.i2l, 1) := by decide +kernel
theorem dX6_open_73 : decode cX6_open 73 = .ok (.lload 5, 2) := by decide +kernel
theorem dX6_open_75 : decode cX6_open 75 = .ok (.ladd, 1) := by decide +kernel
theorem dX6_open_76 : decode cX6_open 76 = .ok (.aload_n 0, 1) := by decide +kernel
theorem dX6_open_77 : decode cX6_open 77 = .ok (.getfield 41, 3) := by decide +kernel
theorem dX6_open_80 : decode cX6_open 80 = .ok (.invokevirtual 108, 3) := by decide +kernel
theorem dX6_open_83 : decode cX6_open 83 = .ok (.invokestatic 112, 3) := by decide +kernel
theorem dX6_open_86 : decode cX6_open 86 = .ok (.invokevirtual 101, 3) := by decide +kernel
theorem dX6_open_89 : decode cX6_open 89 = .ok (.return_, 1) := by decide +kernel
theorem dX6_sizeToWrite_0 : decode cX6_sizeToWrite 0 = .ok (.aload_n 0, 1) := by decide +kernel
theorem dX6_sizeToWrite_1 : decode cX6_sizeToWrite 1 = .ok (.iload_n 1, 1) := by decide +kernel
theorem dX6_sizeToWrite_2 : decode cX6_sizeToWrite 2 = .ok (.invokevirtual 115, 3) := by decide +kernel
theorem dX6_sizeToWrite_5 : decode cX6_sizeToWrite 5 = .ok (.ifCond .eq 12, 3) := by decide +kernel
theorem dX6_sizeToWrite_8 : decode cX6_sizeToWrite 8 = .ok (.aload_n 0, 1) := by decide +kernel
theorem dX6_sizeToWrite_9 : decode cX6_sizeToWrite 9 = .ok (.getfield 9, 3) := by decide +kernel
theorem dX6_sizeToWrite_12 : decode cX6_sizeToWrite 12 = .ok (.iload_n 1, 1) := by decide +kernel
theorem dX6_sizeToWrite_13 : decode cX6_sizeToWrite 13 = .ok (.baload, 1) := by decide +kernel
theorem dX6_sizeToWrite_14 : decode cX6_sizeToWrite 14 = .ok (.ifCond .ne 5, 3) := by decide +kernel
theorem dX6_sizeToWrite_17 : decode cX6_sizeToWrite 17 = .ok (.iconst 0, 1) := by decide +kernel
theorem dX6_sizeToWrite_18 : decode cX6_sizeToWrite 18 = .ok (.ireturn, 1) := by decide +kernel
theorem dX6_sizeToWrite_19 : decode cX6_sizeToWrite 19 = .ok (.aload_n 0, 1) := by decide +kernel
theorem dX6_sizeToWrite_20 : decode cX6_sizeToWrite 20 = .ok (.iload_n 1, 1) := by decide +kernel
theorem dX6_sizeToWrite_21 : decode cX6_sizeToWrite 21 = .ok (.invokevirtual 97, 3) := by decide +kernel
theorem dX6_sizeToWrite_24 : decode cX6_sizeToWrite 24 = .ok (.lstore_n 2, 1) := by decide +kernel
theorem dX6_sizeToWrite_25 : decode cX6_sizeToWrite 25 = .ok (.aload_n 0, 1) := by decide +kernel
theorem dX6_sizeToWrite_26 : decode cX6_sizeToWrite 26 = .ok (.iload_n 1, 1) := by decide +kernel
theorem dX6_sizeToWrite_27 : decode cX6_sizeToWrite 27 = .ok (.iconst 1, 1) := by decide +kernel
theorem dX6_sizeToWrite_28 : decode cX6_sizeToWrite 28 = .ok (.iadd, 1) := by decide +kernel
theorem dX6_sizeToWrite_29 : decode cX6_sizeToWrite 29 = .ok (.invokevirtual 97, 3) := by decide +kernel
theorem dX6_sizeToWrite_32 : decode cX6_sizeToWrite 32 = .ok (.lstore 4, 2) := by decide +kernel
theorem dX6_sizeToWrite_34 : decode cX6_sizeToWrite 34 = .ok (.lload_n 2, 1) := by decide +kernel
theorem dX6_sizeToWrite_35 : decode cX6_sizeToWrite 35 = .ok (.ldc2_w 95, 3) := by decide +kernel
theorem dX6_sizeToWrite_38 : decode cX6_sizeToWrite 38 = .ok (.lcmp, 1) := by decide +kernel
theorem dX6_sizeToWrite_39 : decode cX6_sizeToWrite 39 = .ok (.ifCond .eq 33, 3) := by decide +kernel
theorem dX6_sizeToWrite_42 : decode cX6_sizeToWrite 42 = .ok (.lload 4, 2) := by decide +kernel
theorem dX6_sizeToWrite_44 : decode cX6_sizeToWrite 44 = .ok (.ldc2_w 95, 3) := by decide +kernel
theorem dX6_sizeToWrite_47 : decode cX6_sizeToWrite 47 = .ok (.lcmp, 1) := by decide +kernel
theorem dX6_sizeToWrite_48 : decode cX6_sizeToWrite 48 = .ok (.ifCond .eq 24, 3) := by decide +kernel
theorem dX6_sizeToWrite_51 : decode cX6_sizeToWrite 51 = .ok (.lload_n 2, 1) := by decide +kernel
theorem dX6_sizeToWrite_52 : decode cX6_sizeToWrite 52 = .ok (.lload 4, 2) := by decide +kernel
theorem dX6_sizeToWrite_54 : decode cX6_sizeToWrite 54 = .ok (.lcmp, 1) := by decide +kernel
theorem dX6_sizeToWrite_55 : decode cX6_sizeToWrite 55 = .ok (.ifCond .gt 17, 3) := by decide +kernel
theorem dX6_sizeToWrite_58 : decode cX6_sizeToWrite 58 = .ok (.lload 4, 2) := by decide +kernel
theorem dX6_sizeToWrite_60 : decode cX6_sizeToWrite 60 = .ok (.aload_n 0, 1) := by decide +kernel
theorem dX6_sizeToWrite_61 : decode cX6_sizeToWrite 61 = .ok (.getfield 41, 3) := by decide +kernel
theorem dX6_sizeToWrite_64 : decode cX6_sizeToWrite 64 = .ok (.getfield 119, 3) := by decide +kernel
theorem dX6_sizeToWrite_67 : decode cX6_sizeToWrite 67 = .ok (.i2l, 1) := by decide +kernel
theorem dX6_sizeToWrite_68 : decode cX6_sizeToWrite 68 = .ok (.lcmp, 1) := by decide +kernel
theorem dX6_sizeToWrite_69 : decode cX6_sizeToWrite 69 = .ok (.ifCond .le 7, 3) := by decide +kernel
theorem dX6_sizeToWrite_72 : decode cX6_sizeToWrite 72 = .ok (.iconst 1, 1) := by decide +kernel
theorem dX6_sizeToWrite_73 : decode cX6_sizeToWrite 73 = .ok (.goto 4, 3) := by decide +kernel
theorem dX6_sizeToWrite_76 : decode cX6_sizeToWrite 76 = .ok (.iconst 0, 1) := by decide +kernel
theorem dX6_sizeToWrite_77 : decode cX6_sizeToWrite 77 = .ok (.istore 6, 2) := by decide +kernel
theorem dX6_sizeToWrite_79 : decode cX6_sizeToWrite 79 = .ok (.iload 6, 2) := by decide +kernel
theorem dX6_sizeToWrite_81 : decode cX6_sizeToWrite 81 = .ok (.ifCond .eq 7, 3) := by decide +kernel
theorem dX6_sizeToWrite_84 : decode cX6_sizeToWrite 84 = .ok (.iconst 0, 1) := by decide +kernel
theorem dX6_sizeToWrite_85 : decode cX6_sizeToWrite 85 = .ok (.goto 8, 3) := by decide +kernel
theorem dX6_sizeToWrite_88 : decode cX6_sizeToWrite 88 = .ok (.lload 4, 2) := by decide +kernel
theorem dX6_sizeToWrite_90 : decode cX6_sizeToWrite 90 = .ok (.lload_n 2, 1) := by decide +kernel
theorem dX6_sizeToWrite_91 : decode cX6_sizeToWrite 91 = .ok (.lsub, 1) := by decide +kernel
theorem dX6_sizeToWrite_92 : decode cX6_sizeToWrite 92 = .ok (.l2i, 1) := by decide +kernel
theorem dX6_sizeToWrite_93 : decode cX6_sizeToWrite 93 = .ok (.ireturn, 1) := by decide +kernel
theorem dX6_used_0 : decode cX6_used 0 = .ok (.aload_n 0, 1) := by decide +kernel
theorem dX6_used_1 : decode cX6_used 1 = .ok (.getfield 86, 3) := by decide +kernel
theorem dX6_used_4 : decode cX6_used 4 = .ok (.ireturn, 1) := by decide +kernel
theorem dX6_use_0 : decode cX6_use 0 = .ok (.aload_n 0, 1) := by decide +kernel
theorem dX6_use_1 : decode cX6_use 1 = .ok (.getfield 86, 3) := by decide +kernel
theorem dX6_use_4 : decode cX6_use 4 = .ok (.istore_n 2, 1) := by decide +kernel
theorem dX6_use_5 : decode cX6_use 5 = .ok (.aload_n 0, 1) := by decide +kernel
theorem dX6_use_6 : decode cX6_use 6 = .ok (.iload_n 1, 1) := by decide +kernel
theorem dX6_use_7 : decode cX6_use 7 = .ok (.invokevirtual 122, 3) := by decide +kernel
theorem dX6_use_10 : decode cX6_use 10 = .ok (.iload_n 2, 1) := by decide +kernel
theorem dX6_use_11 : decode cX6_use 11 = .ok (.istore_n 3, 1) := by decide +kernel
theorem dX6_use_12 : decode cX6_use 12 = .ok (.iload_n 3, 1) := by decide +kernel
theorem dX6_use_13 : decode cX6_use 13 = .ok (.aload_n 0, 1) := by decide +kernel
theorem dX6_use_14 : decode cX6_use 14 = .ok (.getfield 86, 3) := by decide +kernel
theorem dX6_use_17 : decode cX6_use 17 = .ok (.if_icmp .ge 26, 3) := by decide +kernel
theorem dX6_use_20 : decode cX6_use 20 = .ok (.iload_n 3, 1) := by decide +kernel
theorem dX6_use_21 : decode cX6_use 21 = .ok (.sipush 200, 3) := by decide +kernel
theorem dX6_use_24 : decode cX6_use 24 = .ok (.if_icmp .ge 19, 3) := by decide +kernel
theorem dX6_use_27 : decode cX6_use 27 = .ok (.aload_n 0, 1) := by decide +kernel
theorem dX6_use_28 : decode cX6_use 28 = .ok (.aload_n 0, 1) := by decide +kernel
theorem dX6_use_29 : decode cX6_use 29 = .ok (.getfield 15, 3) := by decide +kernel
theorem dX6_use_32 : decode cX6_use 32 = .ok (.iload_n 3, 1) := by decide +kernel
theorem dX6_use_33 : decode cX6_use 33 = .ok (.iaload, 1) := by decide +kernel
theorem dX6_use_34 : decode cX6_use 34 = .ok (.invokevirtual 126, 3) := by decide +kernel
theorem dX6_use_37 : decode cX6_use 37 = .ok (.iinc 3 1, 3) := by decide +kernel
theorem dX6_use_40 : decode cX6_use 40 = .ok (.goto (-28), 3) := by decide +kernel
theorem dX6_use_43 : decode cX6_use 43 = .ok (.return_, 1) := by decide +kernel
theorem dX6_mark_0 : decode cX6_mark 0 = .ok (.aload_n 0, 1) := by decide +kernel
theorem dX6_mark_1 : decode cX6_mark 1 = .ok (.iload_n 1, 1) := by decide +kernel
theorem dX6_mark_2 : decode cX6_mark 2 = .ok (.invokevirtual 115, 3) := by decide +kernel
theorem dX6_mark_5 : decode cX6_mark 5 = .ok (.ifCond .eq 49, 3) := by decide +kernel
theorem dX6_mark_8 : decode cX6_mark 8 = .ok (.aload_n 0, 1) := by decide +kernel
theorem dX6_mark_9 : decode cX6_mark 9 = .ok (.getfield 9, 3) := by decide +kernel
theorem dX6_mark_12 : decode cX6_mark 12 = .ok (.iload_n 1, 1) := by decide +kernel
theorem dX6_mark_13 : decode cX6_mark 13 = .ok (.baload, 1) := by decide +kernel
theorem dX6_mark_14 : decode cX6_mark 14 = .ok (.ifCond .ne 40, 3) := by decide +kernel
theorem dX6_mark_17 : decode cX6_mark 17 = .ok (.aload_n 0, 1) := by decide +kernel
theorem dX6_mark_18 : decode cX6_mark 18 = .ok (.getfield 86, 3) := by decide +kernel
theorem dX6_mark_21 : decode cX6_mark 21 = .ok (.sipush 200, 3) := by decide +kernel
theorem dX6_mark_24 : decode cX6_mark 24 = .ok (.if_icmp .ge 30, 3) := by decide +kernel
theorem dX6_mark_27 : decode cX6_mark 27 = .ok (.aload_n 0, 1) := by decide +kernel
theorem dX6_mark_28 : decode cX6_mark 28 = .ok (.getfield 9, 3) := by decide +kernel
theorem dX6_mark_31 : decode cX6_mark 31 = .ok (.iload_n 1, 1) := by decide +kernel
theorem dX6_mark_32 : decode cX6_mark 32 = .ok (.iconst 1, 1) := by decide +kernel
theorem dX6_mark_33 : decode cX6_mark 33 = .ok (.bastore, 1) := by decide +kernel
theorem dX6_mark_34 : decode cX6_mark 34 = .ok (.aload_n 0, 1) := by decide +kernel
theorem dX6_mark_35 : decode cX6_mark 35 = .ok (.getfield 15, 3) := by decide +kernel
theorem dX6_mark_38 : decode cX6_mark 38 = .ok (.aload_n 0, 1) := by decide +kernel
theorem dX6_mark_39 : decode cX6_mark 39 = .ok (.getfield 86, 3) := by decide +kernel
theorem dX6_mark_42 : decode cX6_mark 42 = .ok (.iload_n 1, 1) := by decide +kernel
theorem dX6_mark_43 : decode cX6_mark 43 = .ok (.iastore, 1) := by decide +kernel
theorem dX6_mark_44 : decode cX6_mark 44 = .ok (.aload_n 0, 1) := by decide +kernel
theorem dX6_mark_45 : decode cX6_mark 45 = .ok (.dup, 1) := by decide +kernel
theorem dX6_mark_46 : decode cX6_mark 46 = .ok (.getfield 86, 3) := by decide +kernel
theorem dX6_mark_49 : decode cX6_mark 49 = .ok (.iconst 1, 1) := by decide +kernel
theorem dX6_mark_50 : decode cX6_mark 50 = .ok (.iadd, 1) := by decide +kernel
theorem dX6_mark_51 : decode cX6_mark 51 = .ok (.putfield 86, 3) := by decide +kernel
theorem dX6_mark_54 : decode cX6_mark 54 = .ok (.return_, 1) := by decide +kernel
theorem dX6_markPartsOf_0 : decode cX6_markPartsOf 0 = .ok (.aload_n 0, 1) := by decide +kernel
theorem dX6_markPartsOf_1 : decode cX6_markPartsOf 1 = .ok (.iload_n 1, 1) := by decide +kernel
theorem dX6_markPartsOf_2 : decode cX6_markPartsOf 2 = .ok (.aload_n 0, 1) := by decide +kernel
theorem dX6_markPartsOf_3 : decode cX6_markPartsOf 3 = .ok (.getfield 28, 3) := by decide +kernel
theorem dX6_markPartsOf_6 : decode cX6_markPartsOf 6 = .ok (.invokevirtual 129, 3) := by decide +kernel
theorem dX6_markPartsOf_9 : decode cX6_markPartsOf 9 = .ok (.aload_n 0, 1) := by decide +kernel
theorem dX6_markPartsOf_10 : decode cX6_markPartsOf 10 = .ok (.getfield 28, 3) := by decide +kernel
theorem dX6_markPartsOf_13 : decode cX6_markPartsOf 13 = .ok (.invokevirtual 132, 3) := by decide +kernel
theorem dX6_markPartsOf_16 : decode cX6_markPartsOf 16 = .ok (.ifCond .ne 13, 3) := by decide +kernel
theorem dX6_markPartsOf_19 : decode cX6_markPartsOf 19 = .ok (.aload_n 0, 1) := by decide +kernel
theorem dX6_markPartsOf_20 : decode cX6_markPartsOf 20 = .ok (.getfield 28, 3) := by decide +kernel
theorem dX6_markPartsOf_23 : decode cX6_markPartsOf 23 = .ok (.invokevirtual 136, 3) := by decide +kernel
theorem dX6_markPartsOf_26 : decode cX6_markPartsOf 26 = .ok (.ifCond .ne 4, 3) := by decide +kernel
theorem dX6_markPartsOf_29 : decode cX6_markPartsOf 29 = .ok (.return_, 1) := by decide +kernel
theorem dX6_markPartsOf_30 : decode cX6_markPartsOf 30 = .ok (.iconst 1, 1) := by decide +kernel
theorem dX6_markPartsOf_31 : decode cX6_markPartsOf 31 = .ok (.istore_n 2, 1) := by decide +kernel
theorem dX6_markPartsOf_32 : decode cX6_markPartsOf 32 = .ok (.iconst 0, 1) := by decide +kernel
theorem dX6_markPartsOf_33 : decode cX6_markPartsOf 33 = .ok (.istore_n 3, 1) := by decide +kernel
theorem dX6_markPartsOf_34 : decode cX6_markPartsOf 34 = .ok (.iload_n 3, 1) := by decide +kernel
theorem dX6_markPartsOf_35 : decode cX6_markPartsOf 35 = .ok (.sipush 1600, 3) := by decide +kernel
theorem dX6_markPartsOf_38 : decode cX6_markPartsOf 38 = .ok (.if_icmp .ge 42, 3) := by decide +kernel
theorem dX6_markPartsOf_41 : decode cX6_markPartsOf 41 = .ok (.iload_n 2, 1) := by decide +kernel
theorem dX6_markPartsOf_42 : decode cX6_markPartsOf 42 = .ok (.ifCond .eq 38, 3) := by decide +kernel
theorem dX6_markPartsOf_45 : decode cX6_markPartsOf 45 = .ok (.aload_n 0, 1) := by decide +kernel
theorem dX6_markPartsOf_46 : decode cX6_markPartsOf 46 = .ok (.getfield 28, 3) := by decide +kernel
theorem dX6_markPartsOf_49 : decode cX6_markPartsOf 49 = .ok (.invokevirtual 139, 3) := by decide +kernel
theorem dX6_markPartsOf_52 : decode cX6_markPartsOf 52 = .ok (.ifCond .eq 28, 3) := by decide +kernel
theorem dX6_markPartsOf_55 : decode cX6_markPartsOf 55 = .ok (.aload_n 0, 1) := by decide +kernel
theorem dX6_markPartsOf_56 : decode cX6_markPartsOf 56 = .ok (.aload_n 0, 1) := by decide +kernel
theorem dX6_markPartsOf_57 : decode cX6_markPartsOf 57 = .ok (.getfield 28, 3) := by decide +kernel
theorem dX6_markPartsOf_60 : decode cX6_markPartsOf 60 = .ok (.getfield 142, 3) := by decide +kernel
theorem dX6_markPartsOf_63 : decode cX6_markPartsOf 63 = .ok (.invokevirtual 122, 3) := by decide +kernel
theorem dX6_markPartsOf_66 : decode cX6_markPartsOf 66 = .ok (.aload_n 0, 1) := by decide +kernel
theorem dX6_markPartsOf_67 : decode cX6_markPartsOf 67 = .ok (.getfield 28, 3) := by decide +kernel
theorem dX6_markPartsOf_70 : decode cX6_markPartsOf 70 = .ok (.invokevirtual 145, 3) := by decide +kernel
theorem dX6_markPartsOf_73 : decode cX6_markPartsOf 73 = .ok (.istore_n 2, 1) := by decide +kernel
theorem dX6_markPartsOf_74 : decode cX6_markPartsOf 74 = .ok (.iinc 3 1, 3) := by decide +kernel
theorem dX6_markPartsOf_77 : decode cX6_markPartsOf 77 = .ok (.goto (-43), 3) := by decide +kernel
theorem dX6_markPartsOf_80 : decode cX6_markPartsOf 80 = .ok (.return_, 1) := by decide +kernel
theorem dX7_init_0 : decode cX7_init 0 = .ok (.aload_n 0, 1) := by decide +kernel
theorem dX7_init_1 : decode cX7_init 1 = .ok (.invokespecial 3, 3) := by decide +kernel
theorem dX7_init_4 : decode cX7_init 4 = .ok (.aload_n 0, 1) := by decide +kernel
theorem dX7_init_5 : decode cX7_init 5 = .ok (.aload_n 1, 1) := by decide +kernel
theorem dX7_init_6 : decode cX7_init 6 = .ok (.putfield 9, 3) := by decide +kernel
theorem dX7_init_9 : decode cX7_init 9 = .ok (.return_, 1) := by decide +kernel
theorem dX7_set_0 : decode cX7_set 0 = .ok (.aload_n 0, 1) := by decide +kernel
theorem dX7_set_1 : decode cX7_set 1 = .ok (.lload_n 1, 1) := by decide +kernel
theorem dX7_set_2 : decode cX7_set 2 = .ok (.putfield 15, 3) := by decide +kernel
theorem dX7_set_5 : decode cX7_set 5 = .ok (.aload_n 0, 1) := by decide +kernel
theorem dX7_set_6 : decode cX7_set 6 = .ok (.lload_n 3, 1) := by decide +kernel
theorem dX7_set_7 : decode cX7_set 7 = .ok (.putfield 19, 3) := by decide +kernel
theorem dX7_set_10 : decode cX7_set 10 = .ok (.aload_n 0, 1) := by decide +kernel
theorem dX7_set_11 : decode cX7_set 11 = .ok (.iload 5, 2) := by decide +kernel
theorem dX7_set_13 : decode cX7_set 13 = .ok (.putfield 22, 3) := by decide +kernel
theorem dX7_set_16 : decode cX7_set 16 = .ok (.aload_n 0, 1) := by decide +kernel
theorem dX7_set_17 : decode cX7_set 17 = .ok (.iload 6, 2) := by decide +kernel
theorem dX7_set_19 : decode cX7_set 19 = .ok (.putfield 26, 3) := by decide +kernel
theorem dX7_set_22 : decode cX7_set 22 = .ok (.return_, 1) := by decide +kernel
theorem dX7_end_0 : decode cX7_end 0 = .ok (.aload_n 0, 1) := by decide +kernel
theorem dX7_end_1 : decode cX7_end 1 = .ok (.getfield 22, 3) := by decide +kernel
theorem dX7_end_4 : decode cX7_end 4 = .ok (.i2l, 1) := by decide +kernel
theorem dX7_end_5 : decode cX7_end 5 = .ok (.aload_n 0, 1) := by decide +kernel
theorem dX7_end_6 : decode cX7_end 6 = .ok (.getfield 26, 3) := by decide +kernel
theorem dX7_end_9 : decode cX7_end 9 = .ok (.i2l, 1) := by decide +kernel
theorem dX7_end_10 : decode cX7_end 10 = .ok (.ladd, 1) := by decide +kernel
theorem dX7_end_11 : decode cX7_end 11 = .ok (.lreturn, 1) := by decide +kernel
theorem dX7_one_0 : decode cX7_one 0 = .ok (.lload_n 1, 1) := by decide +kernel
theorem dX7_one_1 : decode cX7_one 1 = .ok (.lconst 0, 1) := by decide +kernel
theorem dX7_one_2 : decode cX7_one 2 = .ok (.lcmp, 1) := by decide +kernel
theorem dX7_one_3 : decode cX7_one 3 = .ok (.ifCond .ge 7, 3) := by decide +kernel
theorem dX7_one_6 : decode cX7_one 6 = .ok (.iconst (-1), 1) := by decide +kernel
theorem dX7_one_7 : decode cX7_one 7 = .ok (.goto 21, 3) := by decide +kernel
theorem dX7_one_10 : decode cX7_one 10 = .ok (.aload_n 0, 1) := by decide +kernel
theorem dX7_one_11 : decode cX7_one 11 = .ok (.getfield 9, 3) := by decide +kernel
theorem dX7_one_14 : decode cX7_one 14 = .ok (.aload_n 0, 1) := by decide +kernel
theorem dX7_one_15 : decode cX7_one 15 = .ok (.getfield 22, 3) := by decide +kernel
theorem dX7_one_18 : decode cX7_one 18 = .ok (.i2l, 1) := by decide +kernel
theorem dX7_one_19 : decode cX7_one 19 = .ok (.lload_n 1, 1) := by decide +kernel
theorem dX7_one_20 : decode cX7_one 20 = .ok (.ladd, 1) := by decide +kernel
theorem dX7_one_21 : decode cX7_one 21 = .ok (.aload_n 0, 1) := by decide +kernel
theorem dX7_one_22 : decode cX7_one 22 = .ok (.invokevirtual 29, 3) := by decide +kernel
theorem dX7_one_25 : decode cX7_one 25 = .ok (.invokevirtual 33, 3) := by decide +kernel
theorem dX7_one_28 : decode cX7_one 28 = .ok (.ireturn, 1) := by decide +kernel
theorem dX7_two_0 : decode cX7_two 0 = .ok (.lload_n 1, 1) := by decide +kernel
theorem dX7_two_1 : decode cX7_two 1 = .ok (.lconst 0, 1) := by decide +kernel
theorem dX7_two_2 : decode cX7_two 2 = .ok (.lcmp, 1) := by decide +kernel
theorem dX7_two_3 : decode cX7_two 3 = .ok (.ifCond .ge 7, 3) := by decide +kernel
theorem dX7_two_6 : decode cX7_two 6 = .ok (.iconst (-1), 1) := by decide +kernel
theorem dX7_two_7 : decode cX7_two 7 = .ok (.goto 21, 3) := by decide +kernel
theorem dX7_two_10 : decode cX7_two 10 = .ok (.aload_n 0, 1) := by decide +kernel
theorem dX7_two_11 : decode cX7_two 11 = .ok (.getfield 9, 3) := by decide +kernel
theorem dX7_two_14 : decode cX7_two 14 = .ok (.aload_n 0, 1) := by decide +kernel
theorem dX7_two_15 : decode cX7_two 15 = .ok (.getfield 22, 3) := by decide +kernel
theorem dX7_two_18 : decode cX7_two 18 = .ok (.i2l, 1) := by decide +kernel
theorem dX7_two_19 : decode cX7_two 19 = .ok (.lload_n 1, 1) := by decide +kernel
theorem dX7_two_20 : decode cX7_two 20 = .ok (.ladd, 1) := by decide +kernel
theorem dX7_two_21 : decode cX7_two 21 = .ok (.aload_n 0, 1) := by decide +kernel
theorem dX7_two_22 : decode cX7_two 22 = .ok (.invokevirtual 29, 3) := by decide +kernel
theorem dX7_two_25 : decode cX7_two 25 = .ok (.invokevirtual 39, 3) := by decide +kernel
theorem dX7_two_28 : decode cX7_two 28 = .ok (.ireturn, 1) := by decide +kernel
theorem dX7_four_0 : decode cX7_four 0 = .ok (.lload_n 1, 1) := by decide +kernel
theorem dX7_four_1 : decode cX7_four 1 = .ok (.lconst 0, 1) := by decide +kernel
theorem dX7_four_2 : decode cX7_four 2 = .ok (.lcmp, 1) := by decide +kernel
theorem dX7_four_3 : decode cX7_four 3 = .ok (.ifCond .ge 9, 3) := by decide +kernel
theorem dX7_four_6 : decode cX7_four 6 = .ok (.ldc2_w 42, 3) := by decide +kernel
theorem dX7_four_9 : decode cX7_four 9 = .ok (.goto 21, 3) := by decide +kernel
theorem dX7_four_12 : decode cX7_four 12 = .ok (.aload_n 0, 1) := by decide +kernel
theorem dX7_four_13 : decode cX7_four 13 = .ok (.getfield 9, 3) := by decide +kernel
theorem dX7_four_16 : decode cX7_four 16 = .ok (.aload_n 0, 1) := by decide +kernel
theorem dX7_four_17 : decode cX7_four 17 = .ok (.getfield 22, 3) := by decide +kernel
theorem dX7_four_20 : decode cX7_four 20 = .ok (.i2l, 1) := by decide +kernel
theorem dX7_four_21 : decode cX7_four 21 = .ok (.lload_n 1, 1) := by decide +kernel
theorem dX7_four_22 : decode cX7_four 22 = .ok (.ladd, 1) := by decide +kernel
theorem dX7_four_23 : decode cX7_four 23 = .ok (.aload_n 0, 1) := by decide +kernel
theorem dX7_four_24 : decode cX7_four 24 = .ok (.invokevirtual 29, 3) := by decide +kernel
theorem dX7_four_27 : decode cX7_four 27 = .ok (.invokevirtual 44, 3) := by decide +kernel
theorem dX7_four_30 : decode cX7_four 30 = .ok (.lreturn, 1) := by decide +kernel
theorem dX7_total_0 : decode cX7_total 0 = .ok (.lconst 0, 1) := by decide +kernel
theorem dX7_total_1 : decode cX7_total 1 = .ok (.lstore_n 2, 1) := by decide +kernel
theorem dX7_total_2 : decode cX7_total 2 = .ok (.iconst 0, 1) := by decide +kernel
theorem dX7_total_3 : decode cX7_total 3 = .ok (.istore 4, 2) := by decide +kernel
theorem dX7_total_5 : decode cX7_total 5 = .ok (.iload 4, 2) := by decide +kernel
theorem dX7_total_7 : decode cX7_total 7 = .ok (.aload_n 0, 1) := by decide +kernel
theorem dX7_total_8 : decode cX7_total 8 = .ok (.getfield 26, 3) := by decide +kernel
theorem dX7_total_11 : decode cX7_total 11 = .ok (.if_icmp .ge 61, 3) := by decide +kernel
theorem dX7_total_14 : decode cX7_total 14 = .ok (.iload_n 1, 1) := by decide +kernel
theorem dX7_total_15 : decode cX7_total 15 = .ok (.ifCond .eq 21, 3) := by decide +kernel
theorem dX7_total_18 : decode cX7_total 18 = .ok (.iload 4, 2) := by decide +kernel
theorem dX7_total_20 : decode cX7_total 20 = .ok (.bipush 8, 2) := by decide +kernel
theorem dX7_total_22 : decode cX7_total 22 = .ok (.if_icmp .lt 14, 3) := by decide +kernel
theorem dX7_total_25 : decode cX7_total 25 = .ok (.iload 4, 2) := by decide +kernel
theorem dX7_total_27 : decode cX7_total 27 = .ok (.bipush 12, 2) := by decide +kernel
theorem dX7_total_29 : decode cX7_total 29 = .ok (.if_icmp .ge 7, 3) := by decide +kernel
theorem dX7_total_32 : decode cX7_total 32 = .ok (.iconst 1, 1) := by decide +kernel
theorem dX7_total_33 : decode cX7_total 33 = .ok (.goto 4, 3) := by decide +kernel
theorem dX7_total_36 : decode cX7_total 36 = .ok (.iconst 0, 1) := by decide +kernel
theorem dX7_total_37 : decode cX7_total 37 = .ok (.istore 5, 2) := by decide +kernel
theorem dX7_total_39 : decode cX7_total 39 = .ok (.iload 5, 2) := by decide +kernel
theorem dX7_total_41 : decode cX7_total 41 = .ok (.ifCond .ne 25, 3) := by decide +kernel
theorem dX7_total_44 : decode cX7_total 44 = .ok (.lload_n 2, 1) := by decide +kernel
theorem dX7_total_45 : decode cX7_total 45 = .ok (.aload_n 0, 1) := by decide +kernel
theorem dX7_total_46 : decode cX7_total 46 = .ok (.iload 4, 2) := by decide +kernel
theorem dX7_total_48 : decode cX7_total 48 = .ok (.i2l, 1) := by decide +kernel
theorem dX7_total_49 : decode cX7_total 49 = .ok (.invokevirtual 48, 3) := by decide +kernel
theorem dX7_total_52 : decode cX7_total 52 = .ok (.i2l, 1) := by decide +kernel
theorem dX7_total_53 : decode cX7_total 53 = .ok (.bipush 24, 2) := by decide +kernel
theorem dX7_total_55 : decode cX7_total 55 = .ok (.bipush 8, 2) := by decide +kernel
theorem dX7_total_57 : decode cX7_total 57 = .ok (.iload 4, 2) := by decide +kernel
theorem dX7_total_59 : decode cX7_total 59 = .ok (.iconst 3, 1) := by decide +kernel
theorem dX7_total_60 : decode cX7_total 60 = .ok (.iand, 1) := by decide +kernel
theorem dX7_total_61 : decode cX7_total 61 = .ok (.imul, 1) := by decide +kernel
theorem dX7_total_62 : decode cX7_total 62 = .ok (.isub, 1) := by decide +kernel
theorem dX7_total_63 : decode cX7_total 63 = .ok (.lshl, 1) := by decide +kernel
theorem dX7_total_64 : decode cX7_total 64 = .ok (.ladd, 1) := by decide +kernel
theorem dX7_total_65 : decode cX7_total 65 = .ok (.lstore_n 2, 1) := by decide +kernel
theorem dX7_total_66 : decode cX7_total 66 = .ok (.iinc 4 1, 3) := by decide +kernel
theorem dX7_total_69 : decode cX7_total 69 = .ok (.goto (-64), 3) := by decide +kernel
theorem dX7_total_72 : decode cX7_total 72 = .ok (.lload_n 2, 1) := by decide +kernel
theorem dX7_total_73 : decode cX7_total 73 = .ok (.ldc2_w 51, 3) := by decide +kernel
theorem dX7_total_76 : decode cX7_total 76 = .ok (.land, 1) := by decide +kernel
theorem dX7_total_77 : decode cX7_total 77 = .ok (.lreturn, 1) := by decide +kernel
theorem dX8_init_0 : decode cX8_init 0 = .ok (.aload_n 0, 1) := by decide +kernel
theorem dX8_init_1 : decode cX8_init 1 = .ok (.invokespecial 3, 3) := by decide +kernel
theorem dX8_init_4 : decode cX8_init 4 = .ok (.aload_n 0, 1) := by decide +kernel
theorem dX8_init_5 : decode cX8_init 5 = .ok (.bipush 24, 2) := by decide +kernel
theorem dX8_init_7 : decode cX8_init 7 = .ok (.anewarray 9, 3) := by decide +kernel
theorem dX8_init_10 : decode cX8_init 10 = .ok (.putfield 11, 3) := by decide +kernel
theorem dX8_init_13 : decode cX8_init 13 = .ok (.aload_n 0, 1) := by decide +kernel
theorem dX8_init_14 : decode cX8_init 14 = .ok (.aload_n 1, 1) := by decide +kernel
theorem dX8_init_15 : decode cX8_init 15 = .ok (.putfield 17, 3) := by decide +kernel
theorem dX8_init_18 : decode cX8_init 18 = .ok (.aload_n 0, 1) := by decide +kernel
theorem dX8_init_19 : decode cX8_init 19 = .ok (.new 9, 3) := by decide +kernel
theorem dX8_init_22 : decode cX8_init 22 = .ok (.dup, 1) := by decide +kernel
theorem dX8_init_23 : decode cX8_init 23 = .ok (.aload_n 1, 1) := by decide +kernel
theorem dX8_init_24 : decode cX8_init 24 = .ok (.invokespecial 21, 3) := by decide +kernel
theorem dX8_init_27 : decode cX8_init 27 = .ok (.putfield 24, 3) := by decide +kernel
theorem dX8_init_30 : decode cX8_init 30 = .ok (.iconst 0, 1) := by decide +kernel
theorem dX8_init_31 : decode cX8_init 31 = .ok (.istore_n 2, 1) := by decide +kernel
theorem dX8_init_32 : decode cX8_init 32 = .ok (.iload_n 2, 1) := by decide +kernel
theorem dX8_init_33 : decode cX8_init 33 = .ok (.bipush 24, 2) := by decide +kernel
theorem dX8_init_35 : decode cX8_init 35 = .ok (.if_icmp .ge 23, 3) := by decide +kernel
theorem dX8_init_38 : decode cX8_init 38 = .ok (.aload_n 0, 1) := by decide +kernel
theorem dX8_init_39 : decode cX8_init 39 = .ok (.getfield 11, 3) := by decide +kernel
theorem dX8_init_42 : decode cX8_init 42 = .ok (.iload_n 2, 1) := by decide +kernel
theorem dX8_init_43 : decode cX8_init 43 = .ok (.new 9, 3) := by decide +kernel
theorem dX8_init_46 : decode cX8_init 46 = .ok (.dup, 1) := by decide +kernel
theorem dX8_init_47 : decode cX8_init 47 = .ok (.aload_n 1, 1) := by decide +kernel
theorem dX8_init_48 : decode cX8_init 48 = .ok (.invokespecial 21, 3) := by decide +kernel
theorem dX8_init_51 : decode cX8_init 51 = .ok (.aastore, 1) := by decide +kernel
theorem dX8_init_52 : decode cX8_init 52 = .ok (.iinc 2 1, 3) := by decide +kernel
theorem dX8_init_55 : decode cX8_init 55 = .ok (.goto (-23), 3) := by decide +kernel
theorem dX8_init_58 : decode cX8_init 58 = .ok (.return_, 1) := by decide +kernel
theorem dX8_size_0 : decode cX8_size 0 = .ok (.aload_n 0, 1) := by decide +kernel
theorem dX8_size_1 : decode cX8_size 1 = .ok (.getfield 28, 3) := by decide +kernel
theorem dX8_size_4 : decode cX8_size 4 = .ok (.ireturn, 1) := by decide +kernel
theorem dX8_has_0 : decode cX8_has 0 = .ok (.iload_n 1, 1) := by decide +kernel
theorem dX8_has_1 : decode cX8_has 1 = .ok (.ifCond .lt 15, 3) := by decide +kernel
theorem dX8_has_4 : decode cX8_has 4 = .ok (.iload_n 1, 1) := by decide +kernel
theorem dX8_has_5 : decode cX8_has 5 = .ok (.aload_n 0, 1) := by decide +kernel
theorem dX8_has_6 : decode cX8_has 6 = .ok (.getfield 28, 3) := by decide +kernel
theorem dX8_has_9 : decode cX8_has 9 = .ok (.if_icmp .ge 7, 3) := by decide +kernel
theorem dX8_has_12 : decode cX8_has 12 = .ok (.iconst 1, 1) := by decide +kernel
theorem dX8_has_13 : decode cX8_has 13 = .ok (.goto 4, 3) := by decide +kernel
theorem dX8_has_16 : decode cX8_has 16 = .ok (.iconst 0, 1) := by decide +kernel
theorem dX8_has_17 : decode cX8_has 17 = .ok (.ireturn, 1) := by decide +kernel
theorem dX8_get_0 : decode cX8_get 0 = .ok (.aload_n 0, 1) := by decide +kernel
theorem dX8_get_1 : decode cX8_get 1 = .ok (.iload_n 1, 1) := by decide +kernel
theorem dX8_get_2 : decode cX8_get 2 = .ok (.invokevirtual 32, 3) := by decide +kernel
theorem dX8_get_5 : decode cX8_get 5 = .ok (.ifCond .eq 12, 3) := by decide +kernel
theorem dX8_get_8 : decode cX8_get 8 = .ok (.aload_n 0, 1) := by decide +kernel
theorem dX8_get_9 : decode cX8_get 9 = .ok (.getfield 11, 3) := by decide +kernel
theorem dX8_get_12 : decode cX8_get 12 = .ok (.iload_n 1, 1) := by decide +kernel
theorem dX8_get_13 : decode cX8_get 13 = .ok (.aaload, 1) := by decide +kernel
theorem dX8_get_14 : decode cX8_get 14 = .ok (.goto 7, 3) := by decide +kernel
theorem dX8_get_17 : decode cX8_get 17 = .ok (.aload_n 0, 1) := by decide +kernel
theorem dX8_get_18 : decode cX8_get 18 = .ok (.getfield 24, 3) := by decide +kernel
theorem dX8_get_21 : decode cX8_get 21 = .ok (.areturn, 1) := by decide +kernel
theorem dX8_indexOf_0 : decode cX8_indexOf 0 = .ok (.iconst 0, 1) := by decide +kernel
theorem dX8_indexOf_1 : decode cX8_indexOf 1 = .ok (.istore_n 3, 1) := by decide +kernel
theorem dX8_indexOf_2 : decode cX8_indexOf 2 = .ok (.iload_n 3, 1) := by decide +kernel
theorem dX8_indexOf_3 : decode cX8_indexOf 3 = .ok (.aload_n 0, 1) := by decide +kernel
theorem dX8_indexOf_4 : decode cX8_indexOf 4 = .ok (.getfield 28, 3) := by decide +kernel
theorem dX8_indexOf_7 : decode cX8_indexOf 7 = .ok (.if_icmp .ge 25, 3) := by decide +kernel
theorem dX8_indexOf_10 : decode cX8_indexOf 10 = .ok (.aload_n 0, 1) := by decide +kernel
theorem dX8_indexOf_11 : decode cX8_indexOf 11 = .ok (.getfield 11, 3) := by decide +kernel
theorem dX8_indexOf_14 : decode cX8_indexOf 14 = .ok (.iload_n 3, 1) := by decide +kernel
theorem dX8_indexOf_15 : decode cX8_indexOf 15 = .ok (.aaload, 1) := by decide +kernel
theorem dX8_indexOf_16 : decode cX8_indexOf 16 = .ok (.getfield 36, 3) := by decide +kernel
theorem dX8_indexOf_19 : decode cX8_indexOf 19 = .ok (.lload_n 1, 1) := by decide +kernel
theorem dX8_indexOf_20 : decode cX8_indexOf 20 = .ok (.lcmp, 1) := by decide +kernel
theorem dX8_indexOf_21 : decode cX8_indexOf 21 = .ok (.ifCond .ne 5, 3) := by decide +kernel
theorem dX8_indexOf_24 : decode cX8_indexOf 24 = .ok (.iload_n 3, 1) := by decide +kernel
theorem dX8_indexOf_25 : decode cX8_indexOf 25 = .ok (.ireturn, 1) := by decide +kernel
theorem dX8_indexOf_26 : decode cX8_indexOf 26 = .ok (.iinc 3 1, 3) := by decide +kernel
theorem dX8_indexOf_29 : decode cX8_indexOf 29 = .ok (.goto (-27), 3) := by decide +kernel
theorem dX8_indexOf_32 : decode cX8_indexOf 32 = .ok (.iconst (-1), 1) := by decide +kernel
theorem dX8_indexOf_33 : decode cX8_indexOf 33 = .ok (.ireturn, 1) := by decide +kernel
theorem dX8_first_0 : decode cX8_first 0 = .ok (.aload_n 0, 1) := by decide +kernel
theorem dX8_first_1 : decode cX8_first 1 = .ok (.aload_n 0, 1) := by decide +kernel
theorem dX8_first_2 : decode cX8_first 2 = .ok (.lload_n 1, 1) := by decide +kernel
theorem dX8_first_3 : decode cX8_first 3 = .ok (.invokevirtual 40, 3) := by decide +kernel
theorem dX8_first_6 : decode cX8_first 6 = .ok (.invokevirtual 44, 3) := by decide +kernel
theorem dX8_first_9 : decode cX8_first 9 = .ok (.areturn, 1) := by decide +kernel
theorem dX8_isThere_0 : decode cX8_isThere 0 = .ok (.aload_n 0, 1) := by decide +kernel
theorem dX8_isThere_1 : decode cX8_isThere 1 = .ok (.lload_n 1, 1) := by decide +kernel
theorem dX8_isThere_2 : decode cX8_isThere 2 = .ok (.invokevirtual 40, 3) := by decide +kernel
theorem dX8_isThere_5 : decode cX8_isThere 5 = .ok (.ifCond .lt 7, 3) := by decide +kernel
theorem dX8_isThere_8 : decode cX8_isThere 8 = .ok (.iconst 1, 1) := by decide +kernel
theorem dX8_isThere_9 : decode cX8_isThere 9 = .ok (.goto 4, 3) := by decide +kernel
theorem dX8_isThere_12 : decode cX8_isThere 12 = .ok (.iconst 0, 1) := by decide +kernel
theorem dX8_isThere_13 : decode cX8_isThere 13 = .ok (.ireturn, 1) := by decide +kernel
theorem dX8_totalOf_0 : decode cX8_totalOf 0 = .ok (.aload_n 0, 1) := by decide +kernel
theorem dX8_totalOf_1 : decode cX8_totalOf 1 = .ok (.iload_n 1, 1) := by decide +kernel
theorem dX8_totalOf_2 : decode cX8_totalOf 2 = .ok (.invokevirtual 44, 3) := by decide +kernel
theorem dX8_totalOf_5 : decode cX8_totalOf 5 = .ok (.iload_n 1, 1) := by decide +kernel
theorem dX8_totalOf_6 : decode cX8_totalOf 6 = .ok (.aload_n 0, 1) := by decide +kernel
theorem dX8_totalOf_7 : decode cX8_totalOf 7 = .ok (.ldc2_w 48, 3) := by decide +kernel
theorem dX8_totalOf_10 : decode cX8_totalOf 10 = .ok (.invokevirtual 40, 3) := by decide +kernel
theorem dX8_totalOf_13 : decode cX8_totalOf 13 = .ok (.if_icmp .ne 7, 3) := by decide +kernel
theorem dX8_totalOf_16 : decode cX8_totalOf 16 = .ok (.iconst 1, 1) := by decide +kernel
theorem dX8_totalOf_17 : decode cX8_totalOf 17 = .ok (.goto 4, 3) := by decide +kernel
theorem dX8_totalOf_20 : decode cX8_totalOf 20 = .ok (.iconst 0, 1) := by decide +kernel
theorem dX8_totalOf_21 : decode cX8_totalOf 21 = .ok (.invokevirtual 50, 3) := by decide +kernel
theorem dX8_totalOf_24 : decode cX8_totalOf 24 = .ok (.lreturn, 1) := by decide +kernel
theorem dX8_load_0 : decode cX8_load 0 = .ok (.aload_n 0, 1) := by decide +kernel
theorem dX8_load_1 : decode cX8_load 1 = .ok (.iconst 0, 1) := by decide +kernel
theorem dX8_load_2 : decode cX8_load 2 = .ok (.putfield 28, 3) := by decide +kernel
theorem dX8_load_5 : decode cX8_load 5 = .ok (.aload_n 0, 1) := by decide +kernel
theorem dX8_load_6 : decode cX8_load 6 = .ok (.getfield 17, 3) := by decide +kernel
theorem dX8_load_9 : decode cX8_load 9 = .ok (.invokevirtual 54, 3) := by decide +kernel
theorem dX8_load_12 : decode cX8_load 12 = .ok (.bipush 12, 2) := by decide +kernel
theorem dX8_load_14 : decode cX8_load 14 = .ok (.if_icmp .ge 5, 3) := by decide +kernel
theorem dX8_load_17 : decode cX8_load 17 = .ok (.iconst (-1), 1) := by decide +kernel
theorem dX8_load_18 : decode cX8_load 18 = .ok (.ireturn, 1) := by decide +kernel
theorem dX8_load_19 : decode cX8_load 19 = .ok (.aload_n 0, 1) := by decide +kernel
theorem dX8_load_20 : decode cX8_load 20 = .ok (.getfield 17, 3) := by decide +kernel
theorem dX8_load_23 : decode cX8_load 23 = .ok (.ldc2_w 59, 3) := by decide +kernel
theorem dX8_load_26 : decode cX8_load 26 = .ok (.ldc2_w 61, 3) := by decide +kernel
theorem dX8_load_29 : decode cX8_load 29 = .ok (.invokevirtual 63, 3) := by decide +kernel
theorem dX8_load_32 : decode cX8_load 32 = .ok (.bipush 24, 2) := by decide +kernel
theorem dX8_load_34 : decode cX8_load 34 = .ok (.invokestatic 67, 3) := by decide +kernel
theorem dX8_load_37 : decode cX8_load 37 = .ok (.istore_n 1, 1) := by decide +kernel
theorem dX8_load_38 : decode cX8_load 38 = .ok (.iconst 0, 1) := by decide +kernel
theorem dX8_load_39 : decode cX8_load 39 = .ok (.istore_n 2, 1) := by decide +kernel
theorem dX8_load_40 : decode cX8_load 40 = .ok (.iload_n 2, 1) := by decide +kernel
theorem dX8_load_41 : decode cX8_load 41 = .ok (.iload_n 1, 1) := by decide +kernel
theorem dX8_load_42 : decode cX8_load 42 = .ok (.if_icmp .ge 21, 3) := by decide +kernel
theorem dX8_load_45 : decode cX8_load 45 = .ok (.aload_n 0, 1) := by decide +kernel
theorem dX8_load_46 : decode cX8_load 46 = .ok (.iload_n 2, 1) := by decide +kernel
theorem dX8_load_47 : decode cX8_load 47 = .ok (.invokevirtual 73, 3) := by decide +kernel
theorem dX8_load_50 : decode cX8_load 50 = .ok (.ifCond .ne 7, 3) := by decide +kernel
theorem dX8_load_53 : decode cX8_load 53 = .ok (.iconst (-1), 1) := by decide +kernel
theorem dX8_load_54 : decode cX8_load 54 = .ok (.iload_n 2, 1) := by decide +kernel
theorem dX8_load_55 : decode cX8_load 55 = .ok (.isub, 1) := by decide +kernel
theorem dX8_load_56 : decode cX8_load 56 = .ok (.ireturn, 1) := by decide +kernel
theorem dX8_load_57 : decode cX8_load 57 = .ok (.iinc 2 1, 3) := by decide +kernel
theorem dX8_load_60 : decode cX8_load 60 = .ok (.goto (-20), 3) := by decide +kernel
theorem dX8_load_63 : decode cX8_load 63 = .ok (.aload_n 0, 1) := by decide +kernel
theorem dX8_load_64 : decode cX8_load 64 = .ok (.iload_n 1, 1) := by decide +kernel
theorem dX8_load_65 : decode cX8_load 65 = .ok (.putfield 28, 3) := by decide +kernel
theorem dX8_load_68 : decode cX8_load 68 = .ok (.aload_n 0, 1) := by decide +kernel
theorem dX8_load_69 : decode cX8_load 69 = .ok (.getfield 28, 3) := by decide +kernel
theorem dX8_load_72 : decode cX8_load 72 = .ok (.ireturn, 1) := by decide +kernel
theorem dX8_loadEntry_0 : decode cX8_loadEntry 0 = .ok (.bipush 12, 2) := by decide +kernel
theorem dX8_loadEntry_2 : decode cX8_loadEntry 2 = .ok (.bipush 16, 2) := by decide +kernel
theorem dX8_loadEntry_4 : decode cX8_loadEntry 4 = .ok (.iload_n 1, 1) := by decide +kernel
theorem dX8_loadEntry_5 : decode cX8_loadEntry 5 = .ok (.imul, 1) := by decide +kernel
theorem dX8_loadEntry_6 : decode cX8_loadEntry 6 = .ok (.iadd, 1) := by decide +kernel
theorem dX8_loadEntry_7 : decode cX8_loadEntry 7 = .ok (.istore_n 2, 1) := by decide +kernel
theorem dX8_loadEntry_8 : decode cX8_loadEntry 8 = .ok (.aload_n 0, 1) := by decide +kernel
theorem dX8_loadEntry_9 : decode cX8_loadEntry 9 = .ok (.getfield 17, 3) := by decide +kernel
theorem dX8_loadEntry_12 : decode cX8_loadEntry 12 = .ok (.invokevirtual 54, 3) := by decide +kernel
theorem dX8_loadEntry_15 : decode cX8_loadEntry 15 = .ok (.i2l, 1) := by decide +kernel
theorem dX8_loadEntry_16 : decode cX8_loadEntry 16 = .ok (.lstore_n 3, 1) := by decide +kernel
theorem dX8_loadEntry_17 : decode cX8_loadEntry 17 = .ok (.aload_n 0, 1) := by decide +kernel
theorem dX8_loadEntry_18 : decode cX8_loadEntry 18 = .ok (.getfield 17, 3) := by decide +kernel
theorem dX8_loadEntry_21 : decode cX8_loadEntry 21 = .ok (.iload_n 2, 1) := by decide +kernel
theorem dX8_loadEntry_22 : decode cX8_loadEntry 22 = .ok (.bipush 8, 2) := by decide +kernel
theorem dX8_loadEntry_24 : decode cX8_loadEntry 24 = .ok (.iadd, 1) := by decide +kernel
theorem dX8_loadEntry_25 : decode cX8_loadEntry 25 = .ok (.i2l, 1) := by decide +kernel
theorem dX8_loadEntry_26 : decode cX8_loadEntry 26 = .ok (.lload_n 3, 1) := by decide +kernel
theorem dX8_loadEntry_27 : decode cX8_loadEntry 27 = .ok (.invokevirtual 76, 3) := by decide +kernel
theorem dX8_loadEntry_30 : decode cX8_loadEntry 30 = .ok (.lstore 5, 2) := by decide +kernel
theorem dX8_loadEntry_32 : decode cX8_loadEntry 32 = .ok (.aload_n 0, 1) := by decide +kernel
theorem dX8_loadEntry_33 : decode cX8_loadEntry 33 = .ok (.getfield 17, 3) := by decide +kernel
theorem dX8_loadEntry_36 : decode cX8_loadEntry 36 = .ok (.iload_n 2, 1) := by decide +kernel
theorem dX8_loadEntry_37 : decode cX8_loadEntry 37 = .ok (.bipush 12, 2) := by decide +kernel
theorem dX8_loadEntry_39 : decode cX8_loadEntry 39 = .ok (.iadd, 1) := by decide +kernel
theorem dX8_loadEntry_40 : decode cX8_loadEntry 40 = .ok (.i2l, 1) := by decide +kernel
theorem dX8_loadEntry_41 : decode cX8_loadEntry 41 = .ok (.lload_n 3, 1) := by decide +kernel
theorem dX8_loadEntry_42 : decode cX8_loadEntry 42 = .ok (.invokevirtual 76, 3) := by decide +kernel
theorem dX8_loadEntry_45 : decode cX8_loadEntry 45 = .ok (.lstore 7, 2) := by decide +kernel
theorem dX8_loadEntry_47 : decode cX8_loadEntry 47 = .ok (.lload 5, 2) := by decide +kernel
theorem dX8_loadEntry_49 : decode cX8_loadEntry 49 = .ok (.ldc2_w 80, 3) := by decide +kernel
theorem dX8_loadEntry_52 : decode cX8_loadEntry 52 = .ok (.lcmp, 1) := by decide +kernel
theorem dX8_loadEntry_53 : decode cX8_loadEntry 53 = .ok (.ifCond .eq 22, 3) := by decide +kernel
theorem dX8_loadEntry_56 : decode cX8_loadEntry 56 = .ok (.lload 7, 2) := by decide +kernel
theorem dX8_loadEntry_58 : decode cX8_loadEntry 58 = .ok (.ldc2_w 80, 3) := by decide +kernel
theorem dX8_loadEntry_61 : decode cX8_loadEntry 61 = .ok (.lcmp, 1) := by decide +kernel
theorem dX8_loadEntry_62 : decode cX8_loadEntry 62 = .ok (.ifCond .eq 13, 3) := by decide +kernel
theorem dX8_loadEntry_65 : decode cX8_loadEntry 65 = .ok (.lload 5, 2) := by decide +kernel
theorem dX8_loadEntry_67 : decode cX8_loadEntry 67 = .ok (.lload 7, 2) := by decide +kernel
theorem dX8_loadEntry_69 : decode cX8_loadEntry 69 = .ok (.ladd, 1) := by decide +kernel
theorem dX8_loadEntry_70 : decode cX8_loadEntry 70 = .ok (.lload_n 3, 1) := by decide +kernel
theorem dX8_loadEntry_71 : decode cX8_loadEntry 71 = .ok (.lcmp, 1) := by decide +kernel
theorem dX8_loadEntry_72 : decode cX8_loadEntry 72 = .ok (.ifCond .le 5, 3) := by decide +kernel
theorem dX8_loadEntry_75 : decode cX8_loadEntry 75 = .ok (.iconst 0, 1) := by decide +kernel
theorem dX8_loadEntry_76 : decode cX8_loadEntry 76 = .ok (.ireturn, 1) := by decide +kernel
theorem dX8_loadEntry_77 : decode cX8_loadEntry 77 = .ok (.aload_n 0, 1) := by decide +kernel
theorem dX8_loadEntry_78 : decode cX8_loadEntry 78 = .ok (.getfield 11, 3) := by decide +kernel
theorem dX8_loadEntry_81 : decode cX8_loadEntry 81 = .ok (.iload_n 1, 1) := by decide +kernel
theorem dX8_loadEntry_82 : decode cX8_loadEntry 82 = .ok (.aaload, 1) := by decide +kernel
theorem dX8_loadEntry_83 : decode cX8_loadEntry 83 = .ok (.aload_n 0, 1) := by decide +kernel
theorem dX8_loadEntry_84 : decode cX8_loadEntry 84 = .ok (.getfield 17, 3) := by decide +kernel
theorem dX8_loadEntry_87 : decode cX8_loadEntry 87 = .ok (.iload_n 2, 1) := by decide +kernel
theorem dX8_loadEntry_88 : decode cX8_loadEntry 88 = .ok (.i2l, 1) := by decide +kernel
theorem dX8_loadEntry_89 : decode cX8_loadEntry 89 = .ok (.lload_n 3, 1) := by decide +kernel
theorem dX8_loadEntry_90 : decode cX8_loadEntry 90 = .ok (.invokevirtual 76, 3) := by decide +kernel
theorem dX8_loadEntry_93 : decode cX8_loadEntry 93 = .ok (.aload_n 0, 1) := by decide +kernel
theorem dX8_loadEntry_94 : decode cX8_loadEntry 94 = .ok (.getfield 17, 3) := by decide +kernel
theorem dX8_loadEntry_97 : decode cX8_loadEntry 97 = .ok (.iload_n 2, 1) := by decide +kernel
theorem dX8_loadEntry_98 : decode cX8_loadEntry 98 = .ok (.iconst 4, 1) := by decide +kernel
theorem dX8_loadEntry_99 : decode cX8_loadEntry 99 = .ok (.iadd, 1) := by decide +kernel
theorem dX8_loadEntry_100 : decode cX8_loadEntry 100 = .ok (.i2l, 1) := by decide +kernel
theorem dX8_loadEntry_101 : decode cX8_loadEntry 101 = .ok (.lload_n 3, 1) := by decide +kernel
theorem dX8_loadEntry_102 : decode cX8_loadEntry 102 = .ok (.invokevirtual 76, 3) := by decide +kernel
theorem dX8_loadEntry_105 : decode cX8_loadEntry 105 = .ok (.lload 5, 2) := by decide +kernel
theorem dX8_loadEntry_107 : decode cX8_loadEntry 107 = .ok (.l2i, 1) := by decide +kernel
theorem dX8_loadEntry_108 : decode cX8_loadEntry 108 = .ok (.lload 7, 2) := by decide +kernel
theorem dX8_loadEntry_110 : decode cX8_loadEntry 110 = .ok (.l2i, 1) := by decide +kernel
theorem dX8_loadEntry_111 : decode cX8_loadEntry 111 = .ok (.invokevirtual 82, 3) := by decide +kernel
theorem dX8_loadEntry_114 : decode cX8_loadEntry 114 = .ok (.iconst 1, 1) := by decide +kernel
theorem dX8_loadEntry_115 : decode cX8_loadEntry 115 = .ok (.ireturn, 1) := by decide +kernel
theorem dX8_tellWrongSums_0 : decode cX8_tellWrongSums 0 = .ok (.iconst 0, 1) := by decide +kernel
theorem dX8_tellWrongSums_1 : decode cX8_tellWrongSums 1 = .ok (.istore_n 2, 1) := by decide +kernel
theorem dX8_tellWrongSums_2 : decode cX8_tellWrongSums 2 = .ok (.iload_n 2, 1) := by decide +kernel
theorem dX8_tellWrongSums_3 : decode cX8_tellWrongSums 3 = .ok (.aload_n 0, 1) := by decide +kernel
theorem dX8_tellWrongSums_4 : decode cX8_tellWrongSums 4 = .ok (.getfield 28, 3) := by decide +kernel
theorem dX8_tellWrongSums_7 : decode cX8_tellWrongSums 7 = .ok (.if_icmp .ge 33, 3) := by decide +kernel
theorem dX8_tellWrongSums_10 : decode cX8_tellWrongSums 10 = .ok (.aload_n 0, 1) := by decide +kernel
theorem dX8_tellWrongSums_11 : decode cX8_tellWrongSums 11 = .ok (.iload_n 2, 1) := by decide +kernel
theorem dX8_tellWrongSums_12 : decode cX8_tellWrongSums 12 = .ok (.invokevirtual 86, 3) := by decide +kernel
theorem dX8_tellWrongSums_15 : decode cX8_tellWrongSums 15 = .ok (.aload_n 0, 1) := by decide +kernel
theorem dX8_tellWrongSums_16 : decode cX8_tellWrongSums 16 = .ok (.getfield 11, 3) := by decide +kernel
theorem dX8_tellWrongSums_19 : decode cX8_tellWrongSums 19 = .ok (.iload_n 2, 1) := by decide +kernel
theorem dX8_tellWrongSums_20 : decode cX8_tellWrongSums 20 = .ok (.aaload, 1) := by decide +kernel
theorem dX8_tellWrongSums_21 : decode cX8_tellWrongSums 21 = .ok (.getfield 90, 3) := by decide +kernel
theorem dX8_tellWrongSums_24 : decode cX8_tellWrongSums 24 = .ok (.lcmp, 1) := by decide +kernel
theorem dX8_tellWrongSums_25 : decode cX8_tellWrongSums 25 = .ok (.ifCond .eq 9, 3) := by decide +kernel
theorem dX8_tellWrongSums_28 : decode cX8_tellWrongSums 28 = .ok (.aload_n 1, 1) := by decide +kernel
theorem dX8_tellWrongSums_29 : decode cX8_tellWrongSums 29 = .ok (.iconst 2, 1) := by decide +kernel
theorem dX8_tellWrongSums_30 : decode cX8_tellWrongSums 30 = .ok (.iload_n 2, 1) := by decide +kernel
theorem dX8_tellWrongSums_31 : decode cX8_tellWrongSums 31 = .ok (.invokevirtual 93, 3) := by decide +kernel
theorem dX8_tellWrongSums_34 : decode cX8_tellWrongSums 34 = .ok (.iinc 2 1, 3) := by decide +kernel
theorem dX8_tellWrongSums_37 : decode cX8_tellWrongSums 37 = .ok (.goto (-35), 3) := by decide +kernel
theorem dX8_tellWrongSums_40 : decode cX8_tellWrongSums 40 = .ok (.return_, 1) := by decide +kernel
theorem dX9_init_0 : decode cX9_init 0 = .ok (.aload_n 0, 1) := by decide +kernel
theorem dX9_init_1 : decode cX9_init 1 = .ok (.invokespecial 3, 3) := by decide +kernel
theorem dX9_init_4 : decode cX9_init 4 = .ok (.aload_n 0, 1) := by decide +kernel
theorem dX9_init_5 : decode cX9_init 5 = .ok (.bipush 100, 2) := by decide +kernel
theorem dX9_init_7 : decode cX9_init 7 = .ok (.newarray .int, 2) := by decide +kernel
theorem dX9_init_9 : decode cX9_init 9 = .ok (.putfield 9, 3) := by decide +kernel
theorem dX9_init_12 : decode cX9_init 12 = .ok (.aload_n 0, 1) := by decide +kernel
theorem dX9_init_13 : decode cX9_init 13 = .ok (.bipush 100, 2) := by decide +kernel
theorem dX9_init_15 : decode cX9_init 15 = .ok (.newarray .int, 2) := by decide +kernel
theorem dX9_init_17 : decode cX9_init 17 = .ok (.putfield 15, 3) := by decide +kernel
theorem dX9_init_20 : decode cX9_init 20 = .ok (.return_, 1) := by decide +kernel
theorem dX9_size_0 : decode cX9_size 0 = .ok (.aload_n 0, 1) := by decide +kernel
theorem dX9_size_1 : decode cX9_size 1 = .ok (.getfield 18, 3) := by decide +kernel
theorem dX9_size_4 : decode cX9_size 4 = .ok (.ireturn, 1) := by decide +kernel
theorem dX9_isFull_0 : decode cX9_isFull 0 = .ok (.aload_n 0, 1) := by decide +kernel
theorem dX9_isFull_1 : decode cX9_isFull 1 = .ok (.getfield 18, 3) := by decide +kernel
theorem dX9_isFull_4 : decode cX9_isFull 4 = .ok (.bipush 100, 2) := by decide +kernel
theorem dX9_isFull_6 : decode cX9_isFull 6 = .ok (.if_icmp .lt 7, 3) := by decide +kernel
theorem dX9_isFull_9 : decode cX9_isFull 9 = .ok (.iconst 1, 1) := by decide +kernel
theorem dX9_isFull_10 : decode cX9_isFull 10 = .ok (.goto 4, 3) := by decide +kernel
theorem dX9_isFull_13 : decode cX9_isFull 13 = .ok (.iconst 0, 1) := by decide +kernel
theorem dX9_isFull_14 : decode cX9_isFull 14 = .ok (.ireturn, 1) := by decide +kernel
theorem dX9_clear_0 : decode cX9_clear 0 = .ok (.aload_n 0, 1) := by decide +kernel
theorem dX9_clear_1 : decode cX9_clear 1 = .ok (.iconst 0, 1) := by decide +kernel
theorem dX9_clear_2 : decode cX9_clear 2 = .ok (.putfield 18, 3) := by decide +kernel
theorem dX9_clear_5 : decode cX9_clear 5 = .ok (.return_, 1) := by decide +kernel
theorem dX9_tell_0 : decode cX9_tell 0 = .ok (.aload_n 0, 1) := by decide +kernel
theorem dX9_tell_1 : decode cX9_tell 1 = .ok (.invokevirtual 22, 3) := by decide +kernel
theorem dX9_tell_4 : decode cX9_tell 4 = .ok (.ifCond .ne 33, 3) := by decide +kernel
theorem dX9_tell_7 : decode cX9_tell 7 = .ok (.aload_n 0, 1) := by decide +kernel
theorem dX9_tell_8 : decode cX9_tell 8 = .ok (.getfield 9, 3) := by decide +kernel
theorem dX9_tell_11 : decode cX9_tell 11 = .ok (.aload_n 0, 1) := by decide +kernel
theorem dX9_tell_12 : decode cX9_tell 12 = .ok (.getfield 18, 3) := by decide +kernel
theorem dX9_tell_15 : decode cX9_tell 15 = .ok (.iload_n 1, 1) := by decide +kernel
theorem dX9_tell_16 : decode cX9_tell 16 = .ok (.iastore, 1) := by decide +kernel
theorem dX9_tell_17 : decode cX9_tell 17 = .ok (.aload_n 0, 1) := by decide +kernel
theorem dX9_tell_18 : decode cX9_tell 18 = .ok (.getfield 15, 3) := by decide +kernel
theorem dX9_tell_21 : decode cX9_tell 21 = .ok (.aload_n 0, 1) := by decide +kernel
theorem dX9_tell_22 : decode cX9_tell 22 = .ok (.getfield 18, 3) := by decide +kernel
theorem dX9_tell_25 : decode cX9_tell 25 = .ok (.iload_n 2, 1) := by decide +kernel
theorem dX9_tell_26 : decode cX9_tell 26 = .ok (.iastore, 1) := by decide +kernel
theorem dX9_tell_27 : decode cX9_tell 27 = .ok (.aload_n 0, 1) := by decide +kernel
theorem dX9_tell_28 : decode cX9_tell 28 = .ok (.dup, 1) := by decide +kernel
theorem dX9_tell_29 : decode cX9_tell 29 = .ok (.getfield 18, 3) := by decide +kernel
theorem dX9_tell_32 : decode cX9_tell 32 = .ok (.iconst 1, 1) := by decide +kernel
theorem dX9_tell_33 : decode cX9_tell 33 = .ok (.iadd, 1) := by decide +kernel
theorem dX9_tell_34 : decode cX9_tell 34 = .ok (.putfield 18, 3) := by decide +kernel
theorem dX9_tell_37 : decode cX9_tell 37 = .ok (.return_, 1) := by decide +kernel
theorem dX9_has_0 : decode cX9_has 0 = .ok (.iload_n 1, 1) := by decide +kernel
theorem dX9_has_1 : decode cX9_has 1 = .ok (.ifCond .lt 24, 3) := by decide +kernel
theorem dX9_has_4 : decode cX9_has 4 = .ok (.iload_n 1, 1) := by decide +kernel
theorem dX9_has_5 : decode cX9_has 5 = .ok (.aload_n 0, 1) := by decide +kernel
theorem dX9_has_6 : decode cX9_has 6 = .ok (.getfield 18, 3) := by decide +kernel
theorem dX9_has_9 : decode cX9_has 9 = .ok (.if_icmp .ge 16, 3) := by decide +kernel
theorem dX9_has_12 : decode cX9_has 12 = .ok (.iload_n 2, 1) := by decide +kernel
theorem dX9_has_13 : decode cX9_has 13 = .ok (.ifCond .eq 8, 3) := by decide +kernel
theorem dX9_has_16 : decode cX9_has 16 = .ok (.iload_n 2, 1) := by decide +kernel
theorem dX9_has_17 : decode cX9_has 17 = .ok (.iconst 1, 1) := by decide +kernel
theorem dX9_has_18 : decode cX9_has 18 = .ok (.if_icmp .ne 7, 3) := by decide +kernel
theorem dX9_has_21 : decode cX9_has 21 = .ok (.iconst 1, 1) := by decide +kernel
theorem dX9_has_22 : decode cX9_has 22 = .ok (.goto 4, 3) := by decide +kernel
theorem dX9_has_25 : decode cX9_has 25 = .ok (.iconst 0, 1) := by decide +kernel
theorem dX9_has_26 : decode cX9_has 26 = .ok (.ireturn, 1) := by decide +kernel
theorem dX9_get_0 : decode cX9_get 0 = .ok (.aload_n 0, 1) := by decide +kernel
theorem dX9_get_1 : decode cX9_get 1 = .ok (.iload_n 1, 1) := by decide +kernel
theorem dX9_get_2 : decode cX9_get 2 = .ok (.iload_n 2, 1) := by decide +kernel
theorem dX9_get_3 : decode cX9_get 3 = .ok (.invokevirtual 26, 3) := by decide +kernel
theorem dX9_get_6 : decode cX9_get 6 = .ok (.ifCond .ne 5, 3) := by decide +kernel
theorem dX9_get_9 : decode cX9_get 9 = .ok (.iconst 0, 1) := by decide +kernel
theorem dX9_get_10 : decode cX9_get 10 = .ok (.ireturn, 1) := by decide +kernel
theorem dX9_get_11 : decode cX9_get 11 = .ok (.iload_n 2, 1) := by decide +kernel
theorem dX9_get_12 : decode cX9_get 12 = .ok (.ifCond .ne 12, 3) := by decide +kernel
theorem dX9_get_15 : decode cX9_get 15 = .ok (.aload_n 0, 1) := by decide +kernel
theorem dX9_get_16 : decode cX9_get 16 = .ok (.getfield 9, 3) := by decide +kernel
theorem dX9_get_19 : decode cX9_get 19 = .ok (.iload_n 1, 1) := by decide +kernel
theorem dX9_get_20 : decode cX9_get 20 = .ok (.iaload, 1) := by decide +kernel
theorem dX9_get_21 : decode cX9_get 21 = .ok (.goto 9, 3) := by decide +kernel
theorem dX9_get_24 : decode cX9_get 24 = .ok (.aload_n 0, 1) := by decide +kernel
theorem dX9_get_25 : decode cX9_get 25 = .ok (.getfield 15, 3) := by decide +kernel
theorem dX9_get_28 : decode cX9_get 28 = .ok (.iload_n 1, 1) := by decide +kernel
theorem dX9_get_29 : decode cX9_get 29 = .ok (.iaload, 1) := by decide +kernel
theorem dX9_get_30 : decode cX9_get 30 = .ok (.ireturn, 1) := by decide +kernel
theorem dX10_init_0 : decode cX10_init 0 = .ok (.aload_n 0, 1) := by decide +kernel
theorem dX10_init_1 : decode cX10_init 1 = .ok (.invokespecial 3, 3) := by decide +kernel
theorem dX10_init_4 : decode cX10_init 4 = .ok (.aload_n 0, 1) := by decide +kernel
theorem dX10_init_5 : decode cX10_init 5 = .ok (.new 9, 3) := by decide +kernel
theorem dX10_init_8 : decode cX10_init 8 = .ok (.dup, 1) := by decide +kernel
theorem dX10_init_9 : decode cX10_init 9 = .ok (.sipush 2400, 3) := by decide +kernel
theorem dX10_init_12 : decode cX10_init 12 = .ok (.newarray .int, 2) := by decide +kernel
theorem dX10_init_14 : decode cX10_init 14 = .ok (.invokespecial 11, 3) := by decide +kernel
theorem dX10_init_17 : decode cX10_init 17 = .ok (.putfield 14, 3) := by decide +kernel
theorem dX10_init_20 : decode cX10_init 20 = .ok (.aload_n 0, 1) := by decide +kernel
theorem dX10_init_21 : decode cX10_init 21 = .ok (.bipush 24, 2) := by decide +kernel
theorem dX10_init_23 : decode cX10_init 23 = .ok (.newarray .int, 2) := by decide +kernel
theorem dX10_init_25 : decode cX10_init 25 = .ok (.putfield 20, 3) := by decide +kernel
theorem dX10_init_28 : decode cX10_init 28 = .ok (.aload_n 0, 1) := by decide +kernel
theorem dX10_init_29 : decode cX10_init 29 = .ok (.sipush 200, 3) := by decide +kernel
theorem dX10_init_32 : decode cX10_init 32 = .ok (.newarray .int, 2) := by decide +kernel
theorem dX10_init_34 : decode cX10_init 34 = .ok (.putfield 24, 3) := by decide +kernel
theorem dX10_init_37 : decode cX10_init 37 = .ok (.aload_n 0, 1) := by decide +kernel
theorem dX10_init_38 : decode cX10_init 38 = .ok (.sipush 201, 3) := by decide +kernel
theorem dX10_init_41 : decode cX10_init 41 = .ok (.newarray .int, 2) := by decide +kernel
theorem dX10_init_43 : decode cX10_init 43 = .ok (.putfield 27, 3) := by decide +kernel
theorem dX10_init_46 : decode cX10_init 46 = .ok (.aload_n 0, 1) := by decide +kernel
theorem dX10_init_47 : decode cX10_init 47 = .ok (.aload_n 1, 1) := by decide +kernel
theorem dX10_init_48 : decode cX10_init 48 = .ok (.putfield 30, 3) := by decide +kernel
theorem dX10_init_51 : decode cX10_init 51 = .ok (.aload_n 0, 1) := by decide +kernel
theorem dX10_init_52 : decode cX10_init 52 = .ok (.aload_n 2, 1) := by decide +kernel
theorem dX10_init_53 : decode cX10_init 53 = .ok (.putfield 33, 3) := by decide +kernel
theorem dX10_init_56 : decode cX10_init 56 = .ok (.aload_n 0, 1) := by decide +kernel
theorem dX10_init_57 : decode cX10_init 57 = .ok (.aload_n 3, 1) := by decide +kernel
theorem dX10_init_58 : decode cX10_init 58 = .ok (.putfield 37, 3) := by decide +kernel
theorem dX10_init_61 : decode cX10_init 61 = .ok (.aload_n 0, 1) := by decide +kernel
theorem dX10_init_62 : decode cX10_init 62 = .ok (.new 41, 3) := by decide +kernel
theorem dX10_init_65 : decode cX10_init 65 = .ok (.dup, 1) := by decide +kernel
theorem dX10_init_66 : decode cX10_init 66 = .ok (.aload_n 0, 1) := by decide +kernel
theorem dX10_init_67 : decode cX10_init 67 = .ok (.getfield 14, 3) := by decide +kernel
theorem dX10_init_70 : decode cX10_init 70 = .ok (.invokespecial 43, 3) := by decide +kernel
theorem dX10_init_73 : decode cX10_init 73 = .ok (.putfield 46, 3) := by decide +kernel
theorem dX10_init_76 : decode cX10_init 76 = .ok (.return_, 1) := by decide +kernel
theorem dX10_one_0 : decode cX10_one 0 = .ok (.aload_n 0, 1) := by decide +kernel
theorem dX10_one_1 : decode cX10_one 1 = .ok (.getfield 14, 3) := by decide +kernel
theorem dX10_one_4 : decode cX10_one 4 = .ok (.iload_n 1, 1) := by decide +kernel
theorem dX10_one_5 : decode cX10_one 5 = .ok (.i2l, 1) := by decide +kernel
theorem dX10_one_6 : decode cX10_one 6 = .ok (.aload_n 0, 1) := by decide +kernel
theorem dX10_one_7 : decode cX10_one 7 = .ok (.getfield 14, 3) := by decide +kernel
theorem dX10_one_10 : decode cX10_one 10 = .ok (.invokevirtual 50, 3) := by decide +kernel
theorem dX10_one_13 : decode cX10_one 13 = .ok (.i2l, 1) := by decide +kernel
theorem dX10_one_14 : decode cX10_one 14 = .ok (.invokevirtual 54, 3) := by decide +kernel
theorem dX10_one_17 : decode cX10_one 17 = .ok (.ireturn, 1) := by decide +kernel
theorem dX10_make_0 : decode cX10_make 0 = .ok (.aload_n 0, 1) := by decide +kernel
theorem dX10_make_1 : decode cX10_make 1 = .ok (.invokevirtual 58, 3) := by decide +kernel
theorem dX10_make_4 : decode cX10_make 4 = .ok (.ifCond .ne 5, 3) := by decide +kernel
theorem dX10_make_7 : decode cX10_make 7 = .ok (.iconst (-1), 1) := by decide +kernel
theorem dX10_make_8 : decode cX10_make 8 = .ok (.ireturn, 1) := by decide +kernel
theorem dX10_make_9 : decode cX10_make 9 = .ok (.aload_n 0, 1) := by decide +kernel
theorem dX10_make_10 : decode cX10_make 10 = .ok (.invokevirtual 62, 3) := by decide +kernel
theorem dX10_make_13 : decode cX10_make 13 = .ok (.aload_n 0, 1) := by decide +kernel
theorem dX10_make_14 : decode cX10_make 14 = .ok (.invokevirtual 65, 3) := by decide +kernel
theorem dX10_make_17 : decode cX10_make 17 = .ok (.sipush 2400, 3) := by decide +kernel
theorem dX10_make_20 : decode cX10_make 20 = .ok (.if_icmp .le 5, 3) := by decide +kernel
theorem dX10_make_23 : decode cX10_make 23 = .ok (.iconst (-1), 1) := by decide +kernel
