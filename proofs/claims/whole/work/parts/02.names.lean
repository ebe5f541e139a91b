def RX0 : String := "OutlineEditor$Line"
def TX0 : u_T := fun k => match k with
  | 0 => ("OutlineEditor$Line", "codes", "[I", true)
  | _ => ("OutlineEditor$Line", "length", "I", false)
def tyX0 : Nat → FieldType := fun k => match k with
  | 0 => .array .int
  | _ => .int
theorem nmX0 : ∀ a, a < 2 → ∀ b, b < 2 → a ≠ b → (TX0 a).2.1 ≠ (TX0 b).2.1 := by decide +kernel
theorem tyX0_ok : ∀ k, k < 2 → parseFieldDescriptor (TX0 k).2.2.1 = some (tyX0 k) := by decide +kernel
abbrev cX0_init : ByteArray := prog_2_method_1_code
def yX0_init : MethodName := ⟨RX0, "<init>", "()V"⟩
abbrev cX0_clear : ByteArray := prog_2_method_2_code
def yX0_clear : MethodName := ⟨RX0, "clear", "()V"⟩
abbrev cX0_append : ByteArray := prog_2_method_3_code
def yX0_append : MethodName := ⟨RX0, "append", "(I)V"⟩
abbrev cX0_codeAt : ByteArray := prog_2_method_4_code
def yX0_codeAt : MethodName := ⟨RX0, "codeAt", "(I)I"⟩
abbrev cX0_sameAs : ByteArray := prog_2_method_5_code
def yX0_sameAs : MethodName := ⟨RX0, "sameAs", "(LOutlineEditor$Line;)Z"⟩
abbrev cX0_appendValue : ByteArray := prog_2_method_6_code
def yX0_appendValue : MethodName := ⟨RX0, "appendValue", "(II)V"⟩
abbrev cX0_appendDecimal : ByteArray := prog_2_method_7_code
def yX0_appendDecimal : MethodName := ⟨RX0, "appendDecimal", "(I)V"⟩
abbrev cX0_appendLetters : ByteArray := prog_2_method_8_code
def yX0_appendLetters : MethodName := ⟨RX0, "appendLetters", "(II)V"⟩
abbrev cX0_appendRoman : ByteArray := prog_2_method_9_code
def yX0_appendRoman : MethodName := ⟨RX0, "appendRoman", "(II)V"⟩
def RX1 : String := "OutlineEditor$Outline"
def TX1 : u_T := fun k => match k with
  | 0 => ("OutlineEditor$Outline", "count", "I", false)
  | 1 => ("OutlineEditor$Outline", "order", "[I", true)
  | 2 => ("OutlineEditor$Outline", "levels", "[I", true)
  | 3 => ("OutlineEditor$Outline", "kinds", "[I", true)
  | 4 => ("OutlineEditor$Outline", "tags", "[I", true)
  | 5 => ("OutlineEditor$Outline", "folded", "[I", true)
  | 6 => ("OutlineEditor$Outline", "starts", "[I", true)
  | 7 => ("OutlineEditor$Outline", "rules", "[I", true)
  | 8 => ("OutlineEditor$Outline", "schemes", "[I", true)
  | 9 => ("OutlineEditor$Outline", "filter", "I", false)
  | 10 => ("OutlineEditor$Outline", "references", "I", false)
  | 11 => ("OutlineEditor$Outline", "sources", "[I", true)
  | _ => ("OutlineEditor$Outline", "targets", "[I", true)
def tyX1 : Nat → FieldType := fun k => match k with
  | 0 => .int
  | 1 => .array .int
  | 2 => .array .int
  | 3 => .array .int
  | 4 => .array .int
  | 5 => .array .int
  | 6 => .array .int
  | 7 => .array .int
  | 8 => .array .int
  | 9 => .int
  | 10 => .int
  | 11 => .array .int
  | _ => .array .int
theorem nmX1 : ∀ a, a < 13 → ∀ b, b < 13 → a ≠ b → (TX1 a).2.1 ≠ (TX1 b).2.1 := by decide +kernel
theorem tyX1_ok : ∀ k, k < 13 → parseFieldDescriptor (TX1 k).2.2.1 = some (tyX1 k) := by decide +kernel
abbrev cX1_init : ByteArray := prog_3_method_1_code
def yX1_init : MethodName := ⟨RX1, "<init>", "()V"⟩
abbrev cX1_copyFrom : ByteArray := prog_3_method_2_code
def yX1_copyFrom : MethodName := ⟨RX1, "copyFrom", "(LOutlineEditor$Outline;)V"⟩
abbrev cX1_copyRow : ByteArray := prog_3_method_3_code
def yX1_copyRow : MethodName := ⟨RX1, "copyRow", "([I[I)V"⟩
abbrev cX1_has : ByteArray := prog_3_method_4_code
def yX1_has : MethodName := ⟨RX1, "has", "(I)Z"⟩
abbrev cX1_placeOf : ByteArray := prog_3_method_5_code
def yX1_placeOf : MethodName := ⟨RX1, "placeOf", "(I)I"⟩
abbrev cX1_idAt : ByteArray := prog_3_method_6_code
def yX1_idAt : MethodName := ⟨RX1, "idAt", "(I)I"⟩
abbrev cX1_levelAt : ByteArray := prog_3_method_7_code
def yX1_levelAt : MethodName := ⟨RX1, "levelAt", "(I)I"⟩
abbrev cX1_kindAt : ByteArray := prog_3_method_8_code
def yX1_kindAt : MethodName := ⟨RX1, "kindAt", "(I)I"⟩
abbrev cX1_tagsAt : ByteArray := prog_3_method_9_code
def yX1_tagsAt : MethodName := ⟨RX1, "tagsAt", "(I)I"⟩
abbrev cX1_startAt : ByteArray := prog_3_method_10_code
def yX1_startAt : MethodName := ⟨RX1, "startAt", "(I)I"⟩
abbrev cX1_placeAbove : ByteArray := prog_3_method_11_code
def yX1_placeAbove : MethodName := ⟨RX1, "placeAbove", "(II)I"⟩
abbrev cX1_endOfPart : ByteArray := prog_3_method_12_code
def yX1_endOfPart : MethodName := ⟨RX1, "endOfPart", "(I)I"⟩
abbrev cX1_deepest : ByteArray := prog_3_method_13_code
def yX1_deepest : MethodName := ⟨RX1, "deepest", "(II)I"⟩
abbrev cX1_countChildren : ByteArray := prog_3_method_14_code
def yX1_countChildren : MethodName := ⟨RX1, "countChildren", "(I)I"⟩
abbrev cX1_childPlace : ByteArray := prog_3_method_15_code
def yX1_childPlace : MethodName := ⟨RX1, "childPlace", "(II)I"⟩
abbrev cX1_allows : ByteArray := prog_3_method_16_code
def yX1_allows : MethodName := ⟨RX1, "allows", "(II)Z"⟩
abbrev cX1_allowsAll : ByteArray := prog_3_method_17_code
def yX1_allowsAll : MethodName := ⟨RX1, "allowsAll", "(III)Z"⟩
abbrev cX1_countMisplaced : ByteArray := prog_3_method_18_code
def yX1_countMisplaced : MethodName := ⟨RX1, "countMisplaced", "()I"⟩
abbrev cX1_isOpen : ByteArray := prog_3_method_19_code
def yX1_isOpen : MethodName := ⟨RX1, "isOpen", "(I)Z"⟩
abbrev cX1_matches : ByteArray := prog_3_method_20_code
def yX1_matches : MethodName := ⟨RX1, "matches", "(I)Z"⟩
abbrev cX1_isShown : ByteArray := prog_3_method_21_code
def yX1_isShown : MethodName := ⟨RX1, "isShown", "(I)Z"⟩
abbrev cX1_countOpen : ByteArray := prog_3_method_22_code
def yX1_countOpen : MethodName := ⟨RX1, "countOpen", "()I"⟩
abbrev cX1_countShown : ByteArray := prog_3_method_23_code
def yX1_countShown : MethodName := ⟨RX1, "countShown", "()I"⟩
abbrev cX1_valueAt : ByteArray := prog_3_method_24_code
def yX1_valueAt : MethodName := ⟨RX1, "valueAt", "(I)I"⟩
abbrev cX1_isNumbered : ByteArray := prog_3_method_25_code
def yX1_isNumbered : MethodName := ⟨RX1, "isNumbered", "(I)Z"⟩
abbrev cX1_writeNumber : ByteArray := prog_3_method_26_code
def yX1_writeNumber : MethodName := ⟨RX1, "writeNumber", "(ILOutlineEditor$Line;)V"⟩
abbrev cX1_insert : ByteArray := prog_3_method_27_code
def yX1_insert : MethodName := ⟨RX1, "insert", "(III)I"⟩
abbrev cX1_lowestFree : ByteArray := prog_3_method_28_code
def yX1_lowestFree : MethodName := ⟨RX1, "lowestFree", "()I"⟩
abbrev cX1_cut : ByteArray := prog_3_method_29_code
def yX1_cut : MethodName := ⟨RX1, "cut", "(II)V"⟩
abbrev cX1_shiftLevels : ByteArray := prog_3_method_30_code
def yX1_shiftLevels : MethodName := ⟨RX1, "shiftLevels", "(III)V"⟩
abbrev cX1_move : ByteArray := prog_3_method_31_code
def yX1_move : MethodName := ⟨RX1, "move", "(III)I"⟩
abbrev cX1_swapBlocks : ByteArray := prog_3_method_32_code
def yX1_swapBlocks : MethodName := ⟨RX1, "swapBlocks", "(III)V"⟩
abbrev cX1_turnRound : ByteArray := prog_3_method_33_code
def yX1_turnRound : MethodName := ⟨RX1, "turnRound", "(II)V"⟩
abbrev cX1_link : ByteArray := prog_3_method_34_code
def yX1_link : MethodName := ⟨RX1, "link", "(II)I"⟩
abbrev cX1_unlink : ByteArray := prog_3_method_35_code
def yX1_unlink : MethodName := ⟨RX1, "unlink", "(I)V"⟩
abbrev cX1_dropReferences : ByteArray := prog_3_method_36_code
def yX1_dropReferences : MethodName := ⟨RX1, "dropReferences", "(I)V"⟩
abbrev cX1_referencesTo : ByteArray := prog_3_method_37_code
def yX1_referencesTo : MethodName := ⟨RX1, "referencesTo", "(I)I"⟩
def RX2 : String := "OutlineEditor"
def TX2 : u_T := fun k => match k with
  | 0 => ("OutlineEditor", "now", "LOutlineEditor$Outline;", true)
  | 1 => ("OutlineEditor", "history", "[LOutlineEditor$Outline;", true)
  | 2 => ("OutlineEditor", "changes", "I", false)
  | 3 => ("OutlineEditor", "images", "[LOutlineEditor$Outline;", true)
  | 4 => ("OutlineEditor", "kept", "[Z", true)
  | 5 => ("OutlineEditor", "text", "LOutlineEditor$Line;", true)
  | _ => ("OutlineEditor", "number", "LOutlineEditor$Line;", true)
def tyX2 : Nat → FieldType := fun k => match k with
  | 0 => .object "OutlineEditor$Outline"
  | 1 => .array (.object "OutlineEditor$Outline")
  | 2 => .int
  | 3 => .array (.object "OutlineEditor$Outline")
  | 4 => .array .boolean
  | 5 => .object "OutlineEditor$Line"
  | _ => .object "OutlineEditor$Line"
theorem nmX2 : ∀ a, a < 7 → ∀ b, b < 7 → a ≠ b → (TX2 a).2.1 ≠ (TX2 b).2.1 := by decide +kernel
theorem tyX2_ok : ∀ k, k < 7 → parseFieldDescriptor (TX2 k).2.2.1 = some (tyX2 k) := by decide +kernel
abbrev cX2_init : ByteArray := prog_1_method_1_code
def yX2_init : MethodName := ⟨RX2, "<init>", "()V"⟩
abbrev cX2_add : ByteArray := prog_1_method_2_code
def yX2_add : MethodName := ⟨RX2, "add", "(III)I"⟩
abbrev cX2_remove : ByteArray := prog_1_method_3_code
def yX2_remove : MethodName := ⟨RX2, "remove", "(II)I"⟩
abbrev cX2_promote : ByteArray := prog_1_method_4_code
def yX2_promote : MethodName := ⟨RX2, "promote", "(I)I"⟩
abbrev cX2_demote : ByteArray := prog_1_method_5_code
def yX2_demote : MethodName := ⟨RX2, "demote", "(I)I"⟩
abbrev cX2_drag : ByteArray := prog_1_method_6_code
def yX2_drag : MethodName := ⟨RX2, "drag", "(III)I"⟩
abbrev cX2_setKind : ByteArray := prog_1_method_7_code
def yX2_setKind : MethodName := ⟨RX2, "setKind", "(II)I"⟩
abbrev cX2_setTags : ByteArray := prog_1_method_8_code
def yX2_setTags : MethodName := ⟨RX2, "setTags", "(II)I"⟩
abbrev cX2_fold : ByteArray := prog_1_method_9_code
def yX2_fold : MethodName := ⟨RX2, "fold", "(II)I"⟩
abbrev cX2_setStart : ByteArray := prog_1_method_10_code
def yX2_setStart : MethodName := ⟨RX2, "setStart", "(II)I"⟩
abbrev cX2_setScheme : ByteArray := prog_1_method_11_code
def yX2_setScheme : MethodName := ⟨RX2, "setScheme", "(II)I"⟩
abbrev cX2_setRule : ByteArray := prog_1_method_12_code
def yX2_setRule : MethodName := ⟨RX2, "setRule", "(II)I"⟩
abbrev cX2_setFilter : ByteArray := prog_1_method_13_code
def yX2_setFilter : MethodName := ⟨RX2, "setFilter", "(I)I"⟩
abbrev cX2_undo : ByteArray := prog_1_method_14_code
def yX2_undo : MethodName := ⟨RX2, "undo", "()I"⟩
abbrev cX2_refer : ByteArray := prog_1_method_15_code
def yX2_refer : MethodName := ⟨RX2, "refer", "(II)I"⟩
abbrev cX2_forget : ByteArray := prog_1_method_16_code
def yX2_forget : MethodName := ⟨RX2, "forget", "(I)I"⟩
abbrev cX2_reference : ByteArray := prog_1_method_17_code
def yX2_reference : MethodName := ⟨RX2, "reference", "(II)I"⟩
abbrev cX2_referenceText : ByteArray := prog_1_method_18_code
def yX2_referenceText : MethodName := ⟨RX2, "referenceText", "(II)I"⟩
abbrev cX2_told : ByteArray := prog_1_method_19_code
def yX2_told : MethodName := ⟨RX2, "told", "(I)I"⟩
abbrev cX2_headingAt : ByteArray := prog_1_method_20_code
def yX2_headingAt : MethodName := ⟨RX2, "headingAt", "(I)I"⟩
abbrev cX2_shownAt : ByteArray := prog_1_method_21_code
def yX2_shownAt : MethodName := ⟨RX2, "shownAt", "(I)I"⟩
abbrev cX2_heading : ByteArray := prog_1_method_22_code
def yX2_heading : MethodName := ⟨RX2, "heading", "(II)I"⟩
abbrev cX2_child : ByteArray := prog_1_method_23_code
def yX2_child : MethodName := ⟨RX2, "child", "(II)I"⟩
abbrev cX2_numberText : ByteArray := prog_1_method_24_code
def yX2_numberText : MethodName := ⟨RX2, "numberText", "(II)I"⟩
abbrev cX2_write : ByteArray := prog_1_method_25_code
def yX2_write : MethodName := ⟨RX2, "write", "(I)I"⟩
abbrev cX2_wipe : ByteArray := prog_1_method_26_code
def yX2_wipe : MethodName := ⟨RX2, "wipe", "()I"⟩
abbrev cX2_find : ByteArray := prog_1_method_27_code
def yX2_find : MethodName := ⟨RX2, "find", "(I)I"⟩
abbrev cX2_keep : ByteArray := prog_1_method_28_code
def yX2_keep : MethodName := ⟨RX2, "keep", "(I)I"⟩
abbrev cX2_back : ByteArray := prog_1_method_29_code
def yX2_back : MethodName := ⟨RX2, "back", "(I)I"⟩
abbrev cX2_within : ByteArray := prog_1_method_30_code
def yX2_within : MethodName := ⟨RX2, "within", "(III)Z"⟩
abbrev cX2_asNumber : ByteArray := prog_1_method_31_code
def yX2_asNumber : MethodName := ⟨RX2, "asNumber", "(Z)I"⟩
abbrev cX2_remember : ByteArray := prog_1_method_32_code
def yX2_remember : MethodName := ⟨RX2, "remember", "()V"⟩
abbrev cX2_dropOldest : ByteArray := prog_1_method_33_code
def yX2_dropOldest : MethodName := ⟨RX2, "dropOldest", "()V"⟩
abbrev cX2_placeForDrag : ByteArray := prog_1_method_34_code
def yX2_placeForDrag : MethodName := ⟨RX2, "placeForDrag", "(II)I"⟩
abbrev cX2_numberLength : ByteArray := prog_1_method_35_code
def yX2_numberLength : MethodName := ⟨RX2, "numberLength", "(I)I"⟩
abbrev cX2_writeReference : ByteArray := prog_1_method_36_code
def yX2_writeReference : MethodName := ⟨RX2, "writeReference", "(I)V"⟩
def RX3 : String := "OutlineEditorModel"
def TX3 : u_T := fun k => match k with
  | 0 => ("OutlineEditorModel", "w", "[I", true)
  | 1 => ("OutlineEditorModel", "past", "[I", true)
  | 2 => ("OutlineEditorModel", "pastMany", "I", false)
  | 3 => ("OutlineEditorModel", "images", "[I", true)
  | 4 => ("OutlineEditorModel", "filled", "I", false)
  | 5 => ("OutlineEditorModel", "text", "[I", true)
  | 6 => ("OutlineEditorModel", "length", "I", false)
  | 7 => ("OutlineEditorModel", "part", "[I", true)
  | 8 => ("OutlineEditorModel", "number", "[I", true)
  | _ => ("OutlineEditorModel", "numberMany", "I", false)
def tyX3 : Nat → FieldType := fun k => match k with
  | 0 => .array .int
  | 1 => .array .int
  | 2 => .int
  | 3 => .array .int
  | 4 => .int
  | 5 => .array .int
  | 6 => .int
  | 7 => .array .int
  | 8 => .array .int
  | _ => .int
theorem nmX3 : ∀ a, a < 10 → ∀ b, b < 10 → a ≠ b → (TX3 a).2.1 ≠ (TX3 b).2.1 := by decide +kernel
theorem tyX3_ok : ∀ k, k < 10 → parseFieldDescriptor (TX3 k).2.2.1 = some (tyX3 k) := by decide +kernel
abbrev cX3_init : ByteArray := prog_5_method_1_code
def yX3_init : MethodName := ⟨RX3, "<init>", "()V"⟩
abbrev cX3_isIn : ByteArray := prog_5_method_3_code
def yX3_isIn : MethodName := ⟨RX3, "isIn", "(III)Z"⟩
abbrev cX3_remember : ByteArray := prog_5_method_4_code
def yX3_remember : MethodName := ⟨RX3, "remember", "()V"⟩
abbrev cX3_many : ByteArray := prog_5_method_5_code
def yX3_many : MethodName := ⟨RX3, "many", "()I"⟩
abbrev cX3_at : ByteArray := prog_5_method_6_code
def yX3_at : MethodName := ⟨RX3, "at", "(I)I"⟩
abbrev cX3_levelAt : ByteArray := prog_5_method_7_code
def yX3_levelAt : MethodName := ⟨RX3, "levelAt", "(I)I"⟩
abbrev cX3_kindAt : ByteArray := prog_5_method_8_code
def yX3_kindAt : MethodName := ⟨RX3, "kindAt", "(I)I"⟩
abbrev cX3_placeOf : ByteArray := prog_5_method_9_code
def yX3_placeOf : MethodName := ⟨RX3, "placeOf", "(I)I"⟩
abbrev cX3_isHeading : ByteArray := prog_5_method_10_code
def yX3_isHeading : MethodName := ⟨RX3, "isHeading", "(I)Z"⟩
abbrev cX3_endOf : ByteArray := prog_5_method_11_code
def yX3_endOf : MethodName := ⟨RX3, "endOf", "(I)I"⟩
abbrev cX3_parentOf : ByteArray := prog_5_method_12_code
def yX3_parentOf : MethodName := ⟨RX3, "parentOf", "(I)I"⟩
abbrev cX3_isAllowed : ByteArray := prog_5_method_13_code
def yX3_isAllowed : MethodName := ⟨RX3, "isAllowed", "(II)Z"⟩
abbrev cX3_mayHave : ByteArray := prog_5_method_14_code
def yX3_mayHave : MethodName := ⟨RX3, "mayHave", "(III)Z"⟩
abbrev cX3_parentFor : ByteArray := prog_5_method_15_code
def yX3_parentFor : MethodName := ⟨RX3, "parentFor", "(II)I"⟩
abbrev cX3_lowestFree : ByteArray := prog_5_method_16_code
def yX3_lowestFree : MethodName := ⟨RX3, "lowestFree", "()I"⟩
abbrev cX3_add : ByteArray := prog_5_method_17_code
def yX3_add : MethodName := ⟨RX3, "add", "(III)I"⟩
abbrev cX3_dropReference : ByteArray := prog_5_method_18_code
def yX3_dropReference : MethodName := ⟨RX3, "dropReference", "(I)V"⟩
abbrev cX3_forgetHeading : ByteArray := prog_5_method_19_code
def yX3_forgetHeading : MethodName := ⟨RX3, "forgetHeading", "(I)V"⟩
abbrev cX3_cut : ByteArray := prog_5_method_20_code
def yX3_cut : MethodName := ⟨RX3, "cut", "(II)V"⟩
abbrev cX3_shiftLevels : ByteArray := prog_5_method_21_code
def yX3_shiftLevels : MethodName := ⟨RX3, "shiftLevels", "(III)V"⟩
abbrev cX3_mayMoveUp : ByteArray := prog_5_method_22_code
def yX3_mayMoveUp : MethodName := ⟨RX3, "mayMoveUp", "(I)Z"⟩
abbrev cX3_remove : ByteArray := prog_5_method_23_code
def yX3_remove : MethodName := ⟨RX3, "remove", "(II)I"⟩
abbrev cX3_promote : ByteArray := prog_5_method_24_code
def yX3_promote : MethodName := ⟨RX3, "promote", "(I)I"⟩
abbrev cX3_isDeep : ByteArray := prog_5_method_25_code
def yX3_isDeep : MethodName := ⟨RX3, "isDeep", "(III)Z"⟩
abbrev cX3_demote : ByteArray := prog_5_method_26_code
def yX3_demote : MethodName := ⟨RX3, "demote", "(I)I"⟩
abbrev cX3_drag : ByteArray := prog_5_method_27_code
def yX3_drag : MethodName := ⟨RX3, "drag", "(III)I"⟩
abbrev cX3_setKind : ByteArray := prog_5_method_28_code
def yX3_setKind : MethodName := ⟨RX3, "setKind", "(II)I"⟩
abbrev cX3_setOne : ByteArray := prog_5_method_29_code
def yX3_setOne : MethodName := ⟨RX3, "setOne", "(II)I"⟩
abbrev cX3_setTags : ByteArray := prog_5_method_30_code
def yX3_setTags : MethodName := ⟨RX3, "setTags", "(II)I"⟩
abbrev cX3_fold : ByteArray := prog_5_method_31_code
def yX3_fold : MethodName := ⟨RX3, "fold", "(II)I"⟩
abbrev cX3_setStart : ByteArray := prog_5_method_32_code
def yX3_setStart : MethodName := ⟨RX3, "setStart", "(II)I"⟩
abbrev cX3_setScheme : ByteArray := prog_5_method_33_code
def yX3_setScheme : MethodName := ⟨RX3, "setScheme", "(II)I"⟩
abbrev cX3_setRule : ByteArray := prog_5_method_34_code
def yX3_setRule : MethodName := ⟨RX3, "setRule", "(II)I"⟩
abbrev cX3_setFilter : ByteArray := prog_5_method_35_code
def yX3_setFilter : MethodName := ⟨RX3, "setFilter", "(I)I"⟩
abbrev cX3_undo : ByteArray := prog_5_method_36_code
def yX3_undo : MethodName := ⟨RX3, "undo", "()I"⟩
abbrev cX3_valueOf : ByteArray := prog_5_method_37_code
def yX3_valueOf : MethodName := ⟨RX3, "valueOf", "(I)I"⟩
abbrev cX3_lay : ByteArray := prog_5_method_38_code
def yX3_lay : MethodName := ⟨RX3, "lay", "(I)V"⟩
abbrev cX3_layDecimal : ByteArray := prog_5_method_39_code
def yX3_layDecimal : MethodName := ⟨RX3, "layDecimal", "(I)V"⟩
abbrev cX3_layLetters : ByteArray := prog_5_method_40_code
def yX3_layLetters : MethodName := ⟨RX3, "layLetters", "(II)V"⟩
abbrev cX3_layRoman : ByteArray := prog_5_method_41_code
def yX3_layRoman : MethodName := ⟨RX3, "layRoman", "(IIIII)V"⟩
abbrev cX3_layValue : ByteArray := prog_5_method_42_code
def yX3_layValue : MethodName := ⟨RX3, "layValue", "(II)V"⟩
abbrev cX3_schemeAt : ByteArray := prog_5_method_43_code
def yX3_schemeAt : MethodName := ⟨RX3, "schemeAt", "(I)I"⟩
abbrev cX3_isNumbered : ByteArray := prog_5_method_44_code
def yX3_isNumbered : MethodName := ⟨RX3, "isNumbered", "(I)Z"⟩
abbrev cX3_ancestorAt : ByteArray := prog_5_method_45_code
def yX3_ancestorAt : MethodName := ⟨RX3, "ancestorAt", "(II)I"⟩
abbrev cX3_layNumber : ByteArray := prog_5_method_46_code
def yX3_layNumber : MethodName := ⟨RX3, "layNumber", "(I)I"⟩
abbrev cX3_isReference : ByteArray := prog_5_method_47_code
def yX3_isReference : MethodName := ⟨RX3, "isReference", "(I)Z"⟩
abbrev cX3_refer : ByteArray := prog_5_method_48_code
def yX3_refer : MethodName := ⟨RX3, "refer", "(II)I"⟩
abbrev cX3_forget : ByteArray := prog_5_method_49_code
def yX3_forget : MethodName := ⟨RX3, "forget", "(I)I"⟩
abbrev cX3_isBroken : ByteArray := prog_5_method_50_code
def yX3_isBroken : MethodName := ⟨RX3, "isBroken", "(I)Z"⟩
abbrev cX3_layReference : ByteArray := prog_5_method_51_code
def yX3_layReference : MethodName := ⟨RX3, "layReference", "(I)I"⟩
abbrev cX3_reference : ByteArray := prog_5_method_52_code
def yX3_reference : MethodName := ⟨RX3, "reference", "(II)I"⟩
abbrev cX3_referenceText : ByteArray := prog_5_method_53_code
def yX3_referenceText : MethodName := ⟨RX3, "referenceText", "(II)I"⟩
abbrev cX3_isOpen : ByteArray := prog_5_method_54_code
def yX3_isOpen : MethodName := ⟨RX3, "isOpen", "(I)Z"⟩
abbrev cX3_isShown : ByteArray := prog_5_method_55_code
def yX3_isShown : MethodName := ⟨RX3, "isShown", "(I)Z"⟩
abbrev cX3_brokenOnes : ByteArray := prog_5_method_56_code
def yX3_brokenOnes : MethodName := ⟨RX3, "brokenOnes", "()I"⟩
abbrev cX3_headings : ByteArray := prog_5_method_57_code
def yX3_headings : MethodName := ⟨RX3, "headings", "(I)I"⟩
abbrev cX3_told : ByteArray := prog_5_method_58_code
def yX3_told : MethodName := ⟨RX3, "told", "(I)I"⟩
abbrev cX3_headingAt : ByteArray := prog_5_method_59_code
def yX3_headingAt : MethodName := ⟨RX3, "headingAt", "(I)I"⟩
abbrev cX3_shownAt : ByteArray := prog_5_method_60_code
def yX3_shownAt : MethodName := ⟨RX3, "shownAt", "(I)I"⟩
abbrev cX3_childOf : ByteArray := prog_5_method_61_code
def yX3_childOf : MethodName := ⟨RX3, "childOf", "(II)I"⟩
abbrev cX3_children : ByteArray := prog_5_method_62_code
def yX3_children : MethodName := ⟨RX3, "children", "(I)I"⟩
abbrev cX3_targeted : ByteArray := prog_5_method_63_code
def yX3_targeted : MethodName := ⟨RX3, "targeted", "(I)I"⟩
abbrev cX3_parentHeading : ByteArray := prog_5_method_64_code
def yX3_parentHeading : MethodName := ⟨RX3, "parentHeading", "(I)I"⟩
abbrev cX3_heading : ByteArray := prog_5_method_65_code
def yX3_heading : MethodName := ⟨RX3, "heading", "(II)I"⟩
abbrev cX3_child : ByteArray := prog_5_method_66_code
def yX3_child : MethodName := ⟨RX3, "child", "(II)I"⟩
abbrev cX3_numberText : ByteArray := prog_5_method_67_code
def yX3_numberText : MethodName := ⟨RX3, "numberText", "(II)I"⟩
abbrev cX3_write : ByteArray := prog_5_method_68_code
def yX3_write : MethodName := ⟨RX3, "write", "(I)I"⟩
abbrev cX3_wipe : ByteArray := prog_5_method_69_code
def yX3_wipe : MethodName := ⟨RX3, "wipe", "()I"⟩
abbrev cX3_isText : ByteArray := prog_5_method_70_code
def yX3_isText : MethodName := ⟨RX3, "isText", "(I)Z"⟩
abbrev cX3_find : ByteArray := prog_5_method_71_code
def yX3_find : MethodName := ⟨RX3, "find", "(I)I"⟩
abbrev cX3_keep : ByteArray := prog_5_method_72_code
def yX3_keep : MethodName := ⟨RX3, "keep", "(I)I"⟩
abbrev cX3_back : ByteArray := prog_5_method_73_code
def yX3_back : MethodName := ⟨RX3, "back", "(I)I"⟩

def RL : String := "OutlineEditorLaw"
abbrev cL_law : ByteArray := code
def yL_law : MethodName := ⟨RL, "law", "([I)Z"⟩

abbrev vwCl : List vw_C := [(RX0, TX0, 2), (RX1, TX1, 13), (RX2, TX2, 7), (RX3, TX3, 10)]
theorem gm_in0 : ∀ w ∈ u_ws RX0 TX0 2, w ∈ lw_tbl := by
  intro w hw
  obtain ⟨k, hk, rfl⟩ := List.mem_map.mp hw
  have hk := List.mem_range.mp hk
  match k, hk with
  | 0, _ => exact List.mem_of_getElem? (i := 138) (by decide +kernel)
  | 1, _ => exact List.mem_of_getElem? (i := 140) (by decide +kernel)
  | k + 2, hk => exact absurd hk (by omega)
theorem gm_in1 : ∀ w ∈ u_ws RX1 TX1 13, w ∈ lw_tbl := by
  intro w hw
  obtain ⟨k, hk, rfl⟩ := List.mem_map.mp hw
  have hk := List.mem_range.mp hk
  match k, hk with
  | 0, _ => exact List.mem_of_getElem? (i := 99) (by decide +kernel)
  | 1, _ => exact List.mem_of_getElem? (i := 101) (by decide +kernel)
  | 2, _ => exact List.mem_of_getElem? (i := 103) (by decide +kernel)
  | 3, _ => exact List.mem_of_getElem? (i := 105) (by decide +kernel)
  | 4, _ => exact List.mem_of_getElem? (i := 107) (by decide +kernel)
  | 5, _ => exact List.mem_of_getElem? (i := 109) (by decide +kernel)
  | 6, _ => exact List.mem_of_getElem? (i := 111) (by decide +kernel)
  | 7, _ => exact List.mem_of_getElem? (i := 113) (by decide +kernel)
  | 8, _ => exact List.mem_of_getElem? (i := 115) (by decide +kernel)
  | 9, _ => exact List.mem_of_getElem? (i := 117) (by decide +kernel)
  | 10, _ => exact List.mem_of_getElem? (i := 119) (by decide +kernel)
  | 11, _ => exact List.mem_of_getElem? (i := 121) (by decide +kernel)
  | 12, _ => exact List.mem_of_getElem? (i := 123) (by decide +kernel)
  | k + 13, hk => exact absurd hk (by omega)
theorem gm_in2 : ∀ w ∈ u_ws RX2 TX2 7, w ∈ lw_tbl := by
  intro w hw
  obtain ⟨k, hk, rfl⟩ := List.mem_map.mp hw
  have hk := List.mem_range.mp hk
  match k, hk with
  | 0, _ => exact List.mem_of_getElem? (i := 151) (by decide +kernel)
  | 1, _ => exact List.mem_of_getElem? (i := 153) (by decide +kernel)
  | 2, _ => exact List.mem_of_getElem? (i := 155) (by decide +kernel)
  | 3, _ => exact List.mem_of_getElem? (i := 157) (by decide +kernel)
  | 4, _ => exact List.mem_of_getElem? (i := 159) (by decide +kernel)
  | 5, _ => exact List.mem_of_getElem? (i := 161) (by decide +kernel)
  | 6, _ => exact List.mem_of_getElem? (i := 163) (by decide +kernel)
  | k + 7, hk => exact absurd hk (by omega)
theorem gm_in3 : ∀ w ∈ u_ws RX3 TX3 10, w ∈ lw_tbl := by
  intro w hw
  obtain ⟨k, hk, rfl⟩ := List.mem_map.mp hw
  have hk := List.mem_range.mp hk
  match k, hk with
  | 0, _ => exact List.mem_of_getElem? (i := 523) (by decide +kernel)
  | 1, _ => exact List.mem_of_getElem? (i := 525) (by decide +kernel)
  | 2, _ => exact List.mem_of_getElem? (i := 527) (by decide +kernel)
  | 3, _ => exact List.mem_of_getElem? (i := 529) (by decide +kernel)
  | 4, _ => exact List.mem_of_getElem? (i := 531) (by decide +kernel)
  | 5, _ => exact List.mem_of_getElem? (i := 533) (by decide +kernel)
  | 6, _ => exact List.mem_of_getElem? (i := 535) (by decide +kernel)
  | 7, _ => exact List.mem_of_getElem? (i := 537) (by decide +kernel)
  | 8, _ => exact List.mem_of_getElem? (i := 539) (by decide +kernel)
  | 9, _ => exact List.mem_of_getElem? (i := 541) (by decide +kernel)
  | k + 10, hk => exact absurd hk (by omega)
