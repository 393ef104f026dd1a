/-! ===== BEGIN printed: names, fields, word lists, decode rows ===== -/
def RX0 : String := "BeadParley$Barter"
def TX0 : u_T := fun k => match k with
  | 0 => ("BeadParley$Barter", "gives", "[I", true)
  | 1 => ("BeadParley$Barter", "wants", "[I", true)
  | 2 => ("BeadParley$Barter", "ready", "[Z", true)
  | 3 => ("BeadParley$Barter", "row", "[I", true)
  | 4 => ("BeadParley$Barter", "best", "[I", true)
  | _ => ("BeadParley$Barter", "bestLength", "I", false)
def tyX0 : Nat → FieldType := fun k => match k with
  | 0 => .array .int
  | 1 => .array .int
  | 2 => .array .boolean
  | 3 => .array .int
  | 4 => .array .int
  | _ => .int
abbrev wsX00 : List Cond := u_ws RX0 TX0 6
theorem nmX0 : ∀ a, a < 6 → ∀ b, b < 6 → a ≠ b → (TX0 a).2.1 ≠ (TX0 b).2.1 := by decide +kernel
theorem tyX0_ok : ∀ k, k < 6 → parseFieldDescriptor (TX0 k).2.2.1 = some (tyX0 k) := by decide +kernel
abbrev cX0_init : ByteArray := prog_2_method_1_code
def yX0_init : MethodName := ⟨RX0, "<init>", "()V"⟩
abbrev cX0_hasWish : ByteArray := prog_2_method_2_code
def yX0_hasWish : MethodName := ⟨RX0, "hasWish", "(I)Z"⟩
abbrev cX0_setWish : ByteArray := prog_2_method_3_code
def yX0_setWish : MethodName := ⟨RX0, "setWish", "(III)V"⟩
abbrev cX0_markReady : ByteArray := prog_2_method_4_code
def yX0_markReady : MethodName := ⟨RX0, "markReady", "([[I)V"⟩
abbrev cX0_getsFrom : ByteArray := prog_2_method_5_code
def yX0_getsFrom : MethodName := ⟨RX0, "getsFrom", "(II)Z"⟩
abbrev cX0_findBest : ByteArray := prog_2_method_6_code
def yX0_findBest : MethodName := ⟨RX0, "findBest", "([[I)V"⟩
abbrev cX0_extend : ByteArray := prog_2_method_7_code
def yX0_extend : MethodName := ⟨RX0, "extend", "(LBeadParley$Barter;I)V"⟩
abbrev cX0_isInRow : ByteArray := prog_2_method_8_code
def yX0_isInRow : MethodName := ⟨RX0, "isInRow", "(II)Z"⟩
abbrev cX0_exchange : ByteArray := prog_2_method_9_code
def yX0_exchange : MethodName := ⟨RX0, "exchange", "([[I)V"⟩
abbrev cX0_longestByOrders : ByteArray := prog_2_method_10_code
def yX0_longestByOrders : MethodName := ⟨RX0, "longestByOrders", "([[I)I"⟩
abbrev cX0_longestAtStartOfRow : ByteArray := prog_2_method_11_code
def yX0_longestAtStartOfRow : MethodName := ⟨RX0, "longestAtStartOfRow", "(I)I"⟩
abbrev cX0_nextOrder : ByteArray := prog_2_method_12_code
def yX0_nextOrder : MethodName := ⟨RX0, "nextOrder", "(I)Z"⟩
abbrev cX0_swap : ByteArray := prog_2_method_13_code
def yX0_swap : MethodName := ⟨RX0, "swap", "(II)V"⟩
def RX1 : String := "BeadParley$Grid"
def TX1 : u_T := fun k => match k with
  | 0 => ("BeadParley$Grid", "cells", "[I", true)
  | 1 => ("BeadParley$Grid", "columns", "I", false)
  | _ => ("BeadParley$Grid", "rows", "I", false)
def tyX1 : Nat → FieldType := fun k => match k with
  | 0 => .array .int
  | 1 => .int
  | _ => .int
abbrev wsX10 : List Cond := u_ws RX1 TX1 3
theorem nmX1 : ∀ a, a < 3 → ∀ b, b < 3 → a ≠ b → (TX1 a).2.1 ≠ (TX1 b).2.1 := by decide +kernel
theorem tyX1_ok : ∀ k, k < 3 → parseFieldDescriptor (TX1 k).2.2.1 = some (tyX1 k) := by decide +kernel
abbrev cX1_init : ByteArray := prog_3_method_1_code
def yX1_init : MethodName := ⟨RX1, "<init>", "()V"⟩
abbrev cX1_begin : ByteArray := prog_3_method_2_code
def yX1_begin : MethodName := ⟨RX1, "begin", "(II)V"⟩
abbrev cX1_copyFrom : ByteArray := prog_3_method_3_code
def yX1_copyFrom : MethodName := ⟨RX1, "copyFrom", "(LBeadParley$Grid;)V"⟩
abbrev cX1_size : ByteArray := prog_3_method_4_code
def yX1_size : MethodName := ⟨RX1, "size", "()I"⟩
abbrev cX1_hasCell : ByteArray := prog_3_method_5_code
def yX1_hasCell : MethodName := ⟨RX1, "hasCell", "(II)Z"⟩
abbrev cX1_colourAt : ByteArray := prog_3_method_6_code
def yX1_colourAt : MethodName := ⟨RX1, "colourAt", "(II)I"⟩
abbrev cX1_paint : ByteArray := prog_3_method_7_code
def yX1_paint : MethodName := ⟨RX1, "paint", "(III)V"⟩
abbrev cX1_cellsOf : ByteArray := prog_3_method_8_code
def yX1_cellsOf : MethodName := ⟨RX1, "cellsOf", "(I)I"⟩
abbrev cX1_hasImage : ByteArray := prog_3_method_9_code
def yX1_hasImage : MethodName := ⟨RX1, "hasImage", "(ILBeadParley$Grid;)Z"⟩
abbrev cX1_colourInImage : ByteArray := prog_3_method_10_code
def yX1_colourInImage : MethodName := ⟨RX1, "colourInImage", "(III)I"⟩
abbrev cX1_placesOf : ByteArray := prog_3_method_11_code
def yX1_placesOf : MethodName := ⟨RX1, "placesOf", "(LBeadParley$Grid;)I"⟩
abbrev cX1_shows : ByteArray := prog_3_method_12_code
def yX1_shows : MethodName := ⟨RX1, "shows", "(LBeadParley$Grid;II)Z"⟩
def RX2 : String := "BeadParley"
def TX2 : u_T := fun k => match k with
  | 0 => ("BeadParley", "hands", "[[I", true)
  | 1 => ("BeadParley", "stall", "[I", true)
  | 2 => ("BeadParley", "broughtSoFar", "[I", true)
  | 3 => ("BeadParley", "draftGrid", "LBeadParley$Grid;", true)
  | 4 => ("BeadParley", "patternGrids", "[LBeadParley$Grid;", true)
  | 5 => ("BeadParley", "patternAuthors", "[I", true)
  | 6 => ("BeadParley", "patternCount", "I", false)
  | 7 => ("BeadParley", "beltPatterns", "[I", true)
  | 8 => ("BeadParley", "beltOwners", "[I", true)
  | 9 => ("BeadParley", "creditsOf", "[I", true)
  | 10 => ("BeadParley", "barter", "LBeadParley$Barter;", true)
  | 11 => ("BeadParley", "signGrids", "[LBeadParley$Grid;", true)
  | 12 => ("BeadParley", "signWorths", "[I", true)
  | 13 => ("BeadParley", "signCount", "I", false)
  | _ => ("BeadParley", "heard", "[J", true)
def tyX2 : Nat → FieldType := fun k => match k with
  | 0 => .array (.array .int)
  | 1 => .array .int
  | 2 => .array .int
  | 3 => .object "BeadParley$Grid"
  | 4 => .array (.object "BeadParley$Grid")
  | 5 => .array .int
  | 6 => .int
  | 7 => .array .int
  | 8 => .array .int
  | 9 => .array .int
  | 10 => .object "BeadParley$Barter"
  | 11 => .array (.object "BeadParley$Grid")
  | 12 => .array .int
  | 13 => .int
  | _ => .array .long
abbrev wsX20 : List Cond := u_ws RX2 TX2 15
theorem nmX2 : ∀ a, a < 15 → ∀ b, b < 15 → a ≠ b → (TX2 a).2.1 ≠ (TX2 b).2.1 := by decide +kernel
theorem tyX2_ok : ∀ k, k < 15 → parseFieldDescriptor (TX2 k).2.2.1 = some (tyX2 k) := by decide +kernel
abbrev cX2_init : ByteArray := prog_1_method_1_code
def yX2_init : MethodName := ⟨RX2, "<init>", "()V"⟩
abbrev cX2_bring : ByteArray := prog_1_method_2_code
def yX2_bring : MethodName := ⟨RX2, "bring", "(III)I"⟩
abbrev cX2_lay : ByteArray := prog_1_method_3_code
def yX2_lay : MethodName := ⟨RX2, "lay", "(III)I"⟩
abbrev cX2_hand : ByteArray := prog_1_method_4_code
def yX2_hand : MethodName := ⟨RX2, "hand", "(II)I"⟩
abbrev cX2_beads : ByteArray := prog_1_method_5_code
def yX2_beads : MethodName := ⟨RX2, "beads", "(I)I"⟩
abbrev cX2_brought : ByteArray := prog_1_method_6_code
def yX2_brought : MethodName := ⟨RX2, "brought", "(I)I"⟩
abbrev cX2_draft : ByteArray := prog_1_method_7_code
def yX2_draft : MethodName := ⟨RX2, "draft", "(II)I"⟩
abbrev cX2_bead : ByteArray := prog_1_method_8_code
def yX2_bead : MethodName := ⟨RX2, "bead", "(III)I"⟩
abbrev cX2_pattern : ByteArray := prog_1_method_9_code
def yX2_pattern : MethodName := ⟨RX2, "pattern", "(I)I"⟩
abbrev cX2_patterns : ByteArray := prog_1_method_10_code
def yX2_patterns : MethodName := ⟨RX2, "patterns", "()I"⟩
abbrev cX2_symmetries : ByteArray := prog_1_method_11_code
def yX2_symmetries : MethodName := ⟨RX2, "symmetries", "(I)I"⟩
abbrev cX2_origin : ByteArray := prog_1_method_12_code
def yX2_origin : MethodName := ⟨RX2, "origin", "(I)I"⟩
abbrev cX2_needs : ByteArray := prog_1_method_13_code
def yX2_needs : MethodName := ⟨RX2, "needs", "(II)I"⟩
abbrev cX2_weave : ByteArray := prog_1_method_14_code
def yX2_weave : MethodName := ⟨RX2, "weave", "(II)I"⟩
abbrev cX2_apart : ByteArray := prog_1_method_15_code
def yX2_apart : MethodName := ⟨RX2, "apart", "(I)I"⟩
abbrev cX2_give : ByteArray := prog_1_method_16_code
def yX2_give : MethodName := ⟨RX2, "give", "(II)I"⟩
abbrev cX2_owner : ByteArray := prog_1_method_17_code
def yX2_owner : MethodName := ⟨RX2, "owner", "(I)I"⟩
abbrev cX2_credits : ByteArray := prog_1_method_18_code
def yX2_credits : MethodName := ⟨RX2, "credits", "(I)I"⟩
abbrev cX2_wish : ByteArray := prog_1_method_19_code
def yX2_wish : MethodName := ⟨RX2, "wish", "(III)Z"⟩
abbrev cX2_unwish : ByteArray := prog_1_method_20_code
def yX2_unwish : MethodName := ⟨RX2, "unwish", "(I)Z"⟩
abbrev cX2_chain : ByteArray := prog_1_method_21_code
def yX2_chain : MethodName := ⟨RX2, "chain", "()I"⟩
abbrev cX2_chainByOrders : ByteArray := prog_1_method_22_code
def yX2_chainByOrders : MethodName := ⟨RX2, "chainByOrders", "()I"⟩
abbrev cX2_chainAt : ByteArray := prog_1_method_23_code
def yX2_chainAt : MethodName := ⟨RX2, "chainAt", "(I)I"⟩
abbrev cX2_fair : ByteArray := prog_1_method_24_code
def yX2_fair : MethodName := ⟨RX2, "fair", "()I"⟩
abbrev cX2_sign : ByteArray := prog_1_method_25_code
def yX2_sign : MethodName := ⟨RX2, "sign", "(I)I"⟩
abbrev cX2_stands : ByteArray := prog_1_method_26_code
def yX2_stands : MethodName := ⟨RX2, "stands", "(II)I"⟩
abbrev cX2_story : ByteArray := prog_1_method_27_code
def yX2_story : MethodName := ⟨RX2, "story", "(I)I"⟩
abbrev cX2_hear : ByteArray := prog_1_method_28_code
def yX2_hear : MethodName := ⟨RX2, "hear", "(II)J"⟩
abbrev cX2_ranked : ByteArray := prog_1_method_29_code
def yX2_ranked : MethodName := ⟨RX2, "ranked", "(I)I"⟩
abbrev cX2_checkPerson : ByteArray := prog_1_method_30_code
def yX2_checkPerson : MethodName := ⟨RX2, "checkPerson", "(I)V"⟩
abbrev cX2_checkColour : ByteArray := prog_1_method_31_code
def yX2_checkColour : MethodName := ⟨RX2, "checkColour", "(I)V"⟩
abbrev cX2_checkPattern : ByteArray := prog_1_method_32_code
def yX2_checkPattern : MethodName := ⟨RX2, "checkPattern", "(I)V"⟩
abbrev cX2_checkBelt : ByteArray := prog_1_method_33_code
def yX2_checkBelt : MethodName := ⟨RX2, "checkBelt", "(I)V"⟩
abbrev cX2_checkRange : ByteArray := prog_1_method_34_code
def yX2_checkRange : MethodName := ⟨RX2, "checkRange", "(III)V"⟩
abbrev cX2_isBelt : ByteArray := prog_1_method_35_code
def yX2_isBelt : MethodName := ⟨RX2, "isBelt", "(I)Z"⟩
abbrev cX2_lowestFreeBelt : ByteArray := prog_1_method_36_code
def yX2_lowestFreeBelt : MethodName := ⟨RX2, "lowestFreeBelt", "()I"⟩
abbrev cX2_originOf : ByteArray := prog_1_method_37_code
def yX2_originOf : MethodName := ⟨RX2, "originOf", "(I)I"⟩
abbrev cX2_storyOf : ByteArray := prog_1_method_38_code
def yX2_storyOf : MethodName := ⟨RX2, "storyOf", "(I)I"⟩
abbrev cX2_rankOf : ByteArray := prog_1_method_39_code
def yX2_rankOf : MethodName := ⟨RX2, "rankOf", "(I)I"⟩
def RX3 : String := "BeadParleyModel"
def TX3 : u_T := fun k => match k with
  | _ => ("", "", "", false)
def tyX3 : Nat → FieldType := fun k => match k with
  | _ => .int
abbrev wsX30 : List Cond := u_ws RX3 TX3 0
theorem nmX3 : ∀ a, a < 0 → ∀ b, b < 0 → a ≠ b → (TX3 a).2.1 ≠ (TX3 b).2.1 := by decide +kernel
theorem tyX3_ok : ∀ k, k < 0 → parseFieldDescriptor (TX3 k).2.2.1 = some (tyX3 k) := by decide +kernel
def RJx145de : String := "java/io/Serializable"
def TJx145de : u_T := fun k => match k with
  | _ => ("", "", "", false)
def tyJx145de : Nat → FieldType := fun k => match k with
  | _ => .int
abbrev wsJx145de0 : List Cond := u_ws RJx145de TJx145de 0
theorem nmJx145de : ∀ a, a < 0 → ∀ b, b < 0 → a ≠ b → (TJx145de a).2.1 ≠ (TJx145de b).2.1 := by decide +kernel
theorem tyJx145de_ok : ∀ k, k < 0 → parseFieldDescriptor (TJx145de k).2.2.1 = some (tyJx145de k) := by decide +kernel
def RJ9 : String := "java/lang/Math"
def TJ9 : u_T := fun k => match k with
  | _ => ("", "", "", false)
def tyJ9 : Nat → FieldType := fun k => match k with
  | _ => .int
abbrev wsJ90 : List Cond := u_ws RJ9 TJ9 0
theorem nmJ9 : ∀ a, a < 0 → ∀ b, b < 0 → a ≠ b → (TJ9 a).2.1 ≠ (TJ9 b).2.1 := by decide +kernel
theorem tyJ9_ok : ∀ k, k < 0 → parseFieldDescriptor (TJ9 k).2.2.1 = some (tyJ9 k) := by decide +kernel
abbrev cJ9_max_7cf53 : ByteArray := prog_10_method_65_code
def yJ9_max_7cf53 : MethodName := ⟨RJ9, "max", "(II)I"⟩
def RJ0 : String := "java/lang/String"
def TJ0 : u_T := fun k => match k with
  | _ => ("", "", "", false)
def tyJ0 : Nat → FieldType := fun k => match k with
  | _ => .int
abbrev wsJ00 : List Cond := u_ws RJ0 TJ0 0
theorem nmJ0 : ∀ a, a < 0 → ∀ b, b < 0 → a ≠ b → (TJ0 a).2.1 ≠ (TJ0 b).2.1 := by decide +kernel
theorem tyJ0_ok : ∀ k, k < 0 → parseFieldDescriptor (TJ0 k).2.2.1 = some (tyJ0 k) := by decide +kernel
def RJ10 : String := "java/lang/System"
def TJ10 : u_T := fun k => match k with
  | _ => ("", "", "", false)
def tyJ10 : Nat → FieldType := fun k => match k with
  | _ => .int
abbrev wsJ100 : List Cond := u_ws RJ10 TJ10 0
theorem nmJ10 : ∀ a, a < 0 → ∀ b, b < 0 → a ≠ b → (TJ10 a).2.1 ≠ (TJ10 b).2.1 := by decide +kernel
theorem tyJ10_ok : ∀ k, k < 0 → parseFieldDescriptor (TJ10 k).2.2.1 = some (tyJ10 k) := by decide +kernel
def RJ7 : String := "java/util/Arrays"
def TJ7 : u_T := fun k => match k with
  | _ => ("", "", "", false)
def tyJ7 : Nat → FieldType := fun k => match k with
  | _ => .int
abbrev wsJ70 : List Cond := u_ws RJ7 TJ7 0
theorem nmJ7 : ∀ a, a < 0 → ∀ b, b < 0 → a ≠ b → (TJ7 a).2.1 ≠ (TJ7 b).2.1 := by decide +kernel
theorem tyJ7_ok : ∀ k, k < 0 → parseFieldDescriptor (TJ7 k).2.2.1 = some (tyJ7 k) := by decide +kernel
abbrev cJ7_fill_53178 : ByteArray := prog_15_method_103_code
def yJ7_fill_53178 : MethodName := ⟨RJ7, "fill", "([II)V"⟩
def RL : String := "BeadParleyLaw"
abbrev cL_cell : ByteArray := method_2_code
def yL_cell : MethodName := ⟨RL, "cell", "([II)I"⟩
abbrev cL_low : ByteArray := method_3_code
def yL_low : MethodName := ⟨RL, "low", "(II)I"⟩
abbrev cL_at : ByteArray := method_4_code
def yL_at : MethodName := ⟨RL, "at", "(III)I"⟩
abbrev cL_wide : ByteArray := method_5_code
def yL_wide : MethodName := ⟨RL, "wide", "(I)I"⟩
abbrev cL_high : ByteArray := method_6_code
def yL_high : MethodName := ⟨RL, "high", "(I)I"⟩
abbrev cL_put : ByteArray := method_7_code
def yL_put : MethodName := ⟨RL, "put", "(IIII)I"⟩
abbrev cL_empty : ByteArray := method_8_code
def yL_empty : MethodName := ⟨RL, "empty", "(II)I"⟩
abbrev cL_turned : ByteArray := method_9_code
def yL_turned : MethodName := ⟨RL, "turned", "(I)I"⟩
abbrev cL_exchanged : ByteArray := method_10_code
def yL_exchanged : MethodName := ⟨RL, "exchanged", "(I)I"⟩
abbrev cL_isImage : ByteArray := method_11_code
def yL_isImage : MethodName := ⟨RL, "isImage", "(II)Z"⟩
abbrev cL_needs : ByteArray := method_12_code
def yL_needs : MethodName := ⟨RL, "needs", "(II)I"⟩
abbrev cL_stands : ByteArray := method_13_code
def yL_stands : MethodName := ⟨RL, "stands", "(II)I"⟩
abbrev cL_chain : ByteArray := method_14_code
def yL_chain : MethodName := ⟨RL, "chain", "([I[I)I"⟩
abbrev cL_refused : ByteArray := method_15_code
def yL_refused : MethodName := ⟨RL, "refused", "(LBeadParley;IIII)I"⟩
abbrev cL_grids : ByteArray := method_16_code
def yL_grids : MethodName := ⟨RL, "grids", "(LBeadParley;[I[I[II)Z"⟩
abbrev cL_same : ByteArray := method_17_code
def yL_same : MethodName := ⟨RL, "same", "(LBeadParley;[I[I[I[I[I[JZ)Z"⟩
abbrev cL_law : ByteArray := code
def yL_law : MethodName := ⟨RL, "law", "([I)Z"⟩
def wsJ7_fill_53178 : List Cond := .code yJ7_fill_53178 cJ7_fill_53178 4 none :: ([])
def wsX0_init : List Cond := .code yX0_init cX0_init 1 none :: ([.methodLink RX0 3 objectInit, .instanceMethod objectInit, .code objectInit ⟨#[0xb1]⟩ 1 none, .arrayClass .int, .fieldLink RX0 9 "BeadParley$Barter" "gives" "[I", .fieldLink RX0 15 "BeadParley$Barter" "wants" "[I", .arrayClass .boolean, .fieldLink RX0 18 "BeadParley$Barter" "ready" "[Z", .fieldLink RX0 22 "BeadParley$Barter" "row" "[I", .fieldLink RX0 25 "BeadParley$Barter" "best" "[I", .methodLink RX0 28 yJ7_fill_53178, .static yJ7_fill_53178, .initialized RJ7, .code yJ7_fill_53178 cJ7_fill_53178 4 none] ++ wsX00)
def wsX0_hasWish : List Cond := .code yX0_hasWish cX0_hasWish 2 (some .boolean) :: ([.fieldLink RX0 9 "BeadParley$Barter" "gives" "[I"] ++ wsX00)
def wsX0_setWish : List Cond := .code yX0_setWish cX0_setWish 4 none :: ([.fieldLink RX0 9 "BeadParley$Barter" "gives" "[I", .fieldLink RX0 15 "BeadParley$Barter" "wants" "[I"] ++ wsX00)
def wsX0_markReady : List Cond := .code yX0_markReady cX0_markReady 3 none :: ([.fieldLink RX0 18 "BeadParley$Barter" "ready" "[Z", .fieldLink RX0 9 "BeadParley$Barter" "gives" "[I", .methodLink RX0 34 yX0_hasWish, .instanceMethod yX0_hasWish, .selects RX0 yX0_hasWish yX0_hasWish, .initialized RX0, .code yX0_hasWish cX0_hasWish 2 (some .boolean)] ++ wsX00)
def wsX0_getsFrom : List Cond := .code yX0_getsFrom cX0_getsFrom 3 (some .boolean) :: ([.fieldLink RX0 15 "BeadParley$Barter" "wants" "[I", .fieldLink RX0 9 "BeadParley$Barter" "gives" "[I"] ++ wsX00)
def wsX0_isInRow : List Cond := .code yX0_isInRow cX0_isInRow 4 (some .boolean) :: ([.fieldLink RX0 22 "BeadParley$Barter" "row" "[I"] ++ wsX00)
def wsX0_extend : List Cond := .code yX0_extend cX0_extend 5 none :: ([.fieldLink RX0 22 "BeadParley$Barter" "row" "[I", .fieldLink RX0 42 "BeadParley$Barter" "bestLength" "I", .fieldLink RX0 25 "BeadParley$Barter" "best" "[I", .methodLink RX0 54 arraycopyName, .native arraycopyName, .static arraycopyName, .initialized "java/lang/System", .fieldLink RX0 18 "BeadParley$Barter" "ready" "[Z", .methodLink RX0 50 yX0_getsFrom, .instanceMethod yX0_getsFrom, .selects RX0 yX0_getsFrom yX0_getsFrom, .initialized RX0, .code yX0_getsFrom cX0_getsFrom 3 (some .boolean), .fieldLink RX0 15 "BeadParley$Barter" "wants" "[I", .fieldLink RX0 9 "BeadParley$Barter" "gives" "[I", .methodLink RX0 60 yX0_isInRow, .instanceMethod yX0_isInRow, .selects RX0 yX0_isInRow yX0_isInRow, .code yX0_isInRow cX0_isInRow 4 (some .boolean), .methodLink RX0 46 yX0_extend, .static yX0_extend] ++ wsX00)
def wsX0_findBest_r1 : List Cond := [Cond.fieldLink RX0 42 "BeadParley$Barter" "bestLength" "I", Cond.fieldLink RX0 18 "BeadParley$Barter" "ready" "[Z", Cond.fieldLink RX0 22 "BeadParley$Barter" "row" "[I", Cond.methodLink RX0 38 yX0_markReady, Cond.instanceMethod yX0_markReady, Cond.selects RX0 yX0_markReady yX0_markReady, Cond.initialized RX0, Cond.code yX0_markReady cX0_markReady 3 none, Cond.fieldLink RX0 9 "BeadParley$Barter" "gives" "[I", Cond.methodLink RX0 34 yX0_hasWish, Cond.instanceMethod yX0_hasWish, Cond.selects RX0 yX0_hasWish yX0_hasWish, Cond.code yX0_hasWish cX0_hasWish 2 (some .boolean), Cond.methodLink RX0 46 yX0_extend, Cond.static yX0_extend, Cond.code yX0_extend cX0_extend 5 none, Cond.fieldLink RX0 25 "BeadParley$Barter" "best" "[I", Cond.methodLink RX0 54 arraycopyName, Cond.native arraycopyName, Cond.static arraycopyName, Cond.initialized "java/lang/System", Cond.methodLink RX0 50 yX0_getsFrom, Cond.instanceMethod yX0_getsFrom, Cond.selects RX0 yX0_getsFrom yX0_getsFrom]
def wsX0_findBest_r2 : List Cond := [Cond.code yX0_getsFrom cX0_getsFrom 3 (some .boolean), Cond.fieldLink RX0 15 "BeadParley$Barter" "wants" "[I", Cond.methodLink RX0 60 yX0_isInRow, Cond.instanceMethod yX0_isInRow, Cond.selects RX0 yX0_isInRow yX0_isInRow, Cond.code yX0_isInRow cX0_isInRow 4 (some .boolean)]
def wsX0_findBest : List Cond := .code yX0_findBest cX0_findBest 3 none :: ((wsX0_findBest_r1 ++ wsX0_findBest_r2) ++ wsX00)
def wsX0_exchange : List Cond := .code yX0_exchange cX0_exchange 5 none :: ([.fieldLink RX0 42 "BeadParley$Barter" "bestLength" "I", .fieldLink RX0 25 "BeadParley$Barter" "best" "[I", .fieldLink RX0 15 "BeadParley$Barter" "wants" "[I"] ++ wsX00)
def wsX0_longestAtStartOfRow : List Cond := .code yX0_longestAtStartOfRow cX0_longestAtStartOfRow 4 (some .int) :: ([.fieldLink RX0 22 "BeadParley$Barter" "row" "[I", .methodLink RX0 50 yX0_getsFrom, .instanceMethod yX0_getsFrom, .selects RX0 yX0_getsFrom yX0_getsFrom, .initialized RX0, .code yX0_getsFrom cX0_getsFrom 3 (some .boolean), .fieldLink RX0 15 "BeadParley$Barter" "wants" "[I", .fieldLink RX0 9 "BeadParley$Barter" "gives" "[I"] ++ wsX00)
def wsX0_swap : List Cond := .code yX0_swap cX0_swap 4 none :: ([.fieldLink RX0 22 "BeadParley$Barter" "row" "[I"] ++ wsX00)
def wsX0_nextOrder : List Cond := .code yX0_nextOrder cX0_nextOrder 6 (some .boolean) :: ([.fieldLink RX0 22 "BeadParley$Barter" "row" "[I", .methodLink RX0 76 yX0_swap, .instanceMethod yX0_swap, .selects RX0 yX0_swap yX0_swap, .initialized RX0, .code yX0_swap cX0_swap 4 none] ++ wsX00)
def wsX0_longestByOrders_r1 : List Cond := [Cond.fieldLink RX0 18 "BeadParley$Barter" "ready" "[Z", Cond.fieldLink RX0 22 "BeadParley$Barter" "row" "[I", Cond.methodLink RX0 67 Lib.Math.max.name, Cond.static Lib.Math.max.name, Cond.initialized "java/lang/Math", Cond.code Lib.Math.max.name Lib.Math.max.code 2 (some .int), Cond.methodLink RX0 38 yX0_markReady, Cond.instanceMethod yX0_markReady, Cond.selects RX0 yX0_markReady yX0_markReady, Cond.initialized RX0, Cond.code yX0_markReady cX0_markReady 3 none, Cond.fieldLink RX0 9 "BeadParley$Barter" "gives" "[I", Cond.methodLink RX0 34 yX0_hasWish, Cond.instanceMethod yX0_hasWish, Cond.selects RX0 yX0_hasWish yX0_hasWish, Cond.code yX0_hasWish cX0_hasWish 2 (some .boolean), Cond.methodLink RX0 63 yX0_longestAtStartOfRow, Cond.instanceMethod yX0_longestAtStartOfRow, Cond.selects RX0 yX0_longestAtStartOfRow yX0_longestAtStartOfRow, Cond.code yX0_longestAtStartOfRow cX0_longestAtStartOfRow 4 (some .int), Cond.methodLink RX0 50 yX0_getsFrom, Cond.instanceMethod yX0_getsFrom, Cond.selects RX0 yX0_getsFrom yX0_getsFrom, Cond.code yX0_getsFrom cX0_getsFrom 3 (some .boolean)]
def wsX0_longestByOrders_r2 : List Cond := [Cond.fieldLink RX0 15 "BeadParley$Barter" "wants" "[I", Cond.methodLink RX0 73 yX0_nextOrder, Cond.instanceMethod yX0_nextOrder, Cond.selects RX0 yX0_nextOrder yX0_nextOrder, Cond.code yX0_nextOrder cX0_nextOrder 6 (some .boolean), Cond.methodLink RX0 76 yX0_swap, Cond.instanceMethod yX0_swap, Cond.selects RX0 yX0_swap yX0_swap, Cond.code yX0_swap cX0_swap 4 none]
def wsX0_longestByOrders : List Cond := .code yX0_longestByOrders cX0_longestByOrders 6 (some .int) :: ((wsX0_longestByOrders_r1 ++ wsX0_longestByOrders_r2) ++ wsX00)
def wsX1_init : List Cond := .code yX1_init cX1_init 1 none :: ([.methodLink RX1 3 objectInit, .instanceMethod objectInit, .code objectInit ⟨#[0xb1]⟩ 1 none, .arrayClass .int, .fieldLink RX1 9 "BeadParley$Grid" "cells" "[I", .fieldLink RX1 15 "BeadParley$Grid" "columns" "I", .fieldLink RX1 19 "BeadParley$Grid" "rows" "I"] ++ wsX10)
def wsX1_begin : List Cond := .code yX1_begin cX1_begin 3 none :: ([.fieldLink RX1 15 "BeadParley$Grid" "columns" "I", .fieldLink RX1 19 "BeadParley$Grid" "rows" "I", .fieldLink RX1 9 "BeadParley$Grid" "cells" "[I", .methodLink RX1 22 yJ7_fill_53178, .static yJ7_fill_53178, .initialized RJ7, .code yJ7_fill_53178 cJ7_fill_53178 4 none] ++ wsX10)
def wsX1_copyFrom : List Cond := .code yX1_copyFrom cX1_copyFrom 2 none :: ([.fieldLink RX1 15 "BeadParley$Grid" "columns" "I", .fieldLink RX1 19 "BeadParley$Grid" "rows" "I", .fieldLink RX1 9 "BeadParley$Grid" "cells" "[I", .methodLink RX1 28 arraycopyName, .native arraycopyName, .static arraycopyName, .initialized "java/lang/System"] ++ wsX10)
def wsX1_size : List Cond := .code yX1_size cX1_size 1 (some .int) :: ([.fieldLink RX1 15 "BeadParley$Grid" "columns" "I", .fieldLink RX1 19 "BeadParley$Grid" "rows" "I"] ++ wsX10)
def wsX1_hasCell : List Cond := .code yX1_hasCell cX1_hasCell 3 (some .boolean) :: ([.fieldLink RX1 15 "BeadParley$Grid" "columns" "I", .fieldLink RX1 19 "BeadParley$Grid" "rows" "I"] ++ wsX10)
def wsX1_colourAt : List Cond := .code yX1_colourAt cX1_colourAt 3 (some .int) :: ([.fieldLink RX1 9 "BeadParley$Grid" "cells" "[I", .fieldLink RX1 15 "BeadParley$Grid" "columns" "I"] ++ wsX10)
def wsX1_paint : List Cond := .code yX1_paint cX1_paint 4 none :: ([.fieldLink RX1 9 "BeadParley$Grid" "cells" "[I", .fieldLink RX1 15 "BeadParley$Grid" "columns" "I"] ++ wsX10)
def wsX1_cellsOf : List Cond := .code yX1_cellsOf cX1_cellsOf 4 (some .int) :: ([.fieldLink RX1 9 "BeadParley$Grid" "cells" "[I", .methodLink RX1 34 yX1_size, .instanceMethod yX1_size, .selects RX1 yX1_size yX1_size, .initialized RX1, .code yX1_size cX1_size 1 (some .int), .fieldLink RX1 15 "BeadParley$Grid" "columns" "I", .fieldLink RX1 19 "BeadParley$Grid" "rows" "I"] ++ wsX10)
def wsX1_colourInImage : List Cond := .code yX1_colourInImage cX1_colourInImage 6 (some .int) :: ([.fieldLink RX1 19 "BeadParley$Grid" "rows" "I", .fieldLink RX1 15 "BeadParley$Grid" "columns" "I", .methodLink RX1 42 yX1_colourAt, .instanceMethod yX1_colourAt, .selects RX1 yX1_colourAt yX1_colourAt, .initialized RX1, .code yX1_colourAt cX1_colourAt 3 (some .int), .fieldLink RX1 9 "BeadParley$Grid" "cells" "[I"] ++ wsX10)
def wsX1_hasImage : List Cond := .code yX1_hasImage cX1_hasImage 6 (some .boolean) :: ([.fieldLink RX1 15 "BeadParley$Grid" "columns" "I", .fieldLink RX1 19 "BeadParley$Grid" "rows" "I", .methodLink RX1 38 yX1_colourInImage, .instanceMethod yX1_colourInImage, .selects RX1 yX1_colourInImage yX1_colourInImage, .initialized RX1, .code yX1_colourInImage cX1_colourInImage 6 (some .int), .methodLink RX1 42 yX1_colourAt, .instanceMethod yX1_colourAt, .selects RX1 yX1_colourAt yX1_colourAt, .code yX1_colourAt cX1_colourAt 3 (some .int), .fieldLink RX1 9 "BeadParley$Grid" "cells" "[I"] ++ wsX10)
def wsX1_shows : List Cond := .code yX1_shows cX1_shows 6 (some .boolean) :: ([.fieldLink RX1 19 "BeadParley$Grid" "rows" "I", .fieldLink RX1 15 "BeadParley$Grid" "columns" "I", .methodLink RX1 42 yX1_colourAt, .instanceMethod yX1_colourAt, .selects RX1 yX1_colourAt yX1_colourAt, .initialized RX1, .code yX1_colourAt cX1_colourAt 3 (some .int), .fieldLink RX1 9 "BeadParley$Grid" "cells" "[I"] ++ wsX10)
def wsX1_placesOf : List Cond := .code yX1_placesOf cX1_placesOf 5 (some .int) :: ([.fieldLink RX1 19 "BeadParley$Grid" "rows" "I", .fieldLink RX1 15 "BeadParley$Grid" "columns" "I", .methodLink RX1 46 yX1_shows, .instanceMethod yX1_shows, .selects RX1 yX1_shows yX1_shows, .initialized RX1, .code yX1_shows cX1_shows 6 (some .boolean), .methodLink RX1 42 yX1_colourAt, .instanceMethod yX1_colourAt, .selects RX1 yX1_colourAt yX1_colourAt, .code yX1_colourAt cX1_colourAt 3 (some .int), .fieldLink RX1 9 "BeadParley$Grid" "cells" "[I"] ++ wsX10)
def wsX2_init_r1 : List Cond := [Cond.methodLink RX2 1 objectInit, Cond.instanceMethod objectInit, Cond.code objectInit ⟨#[0xb1]⟩ 1 none, Cond.classLink RX2 9 "[[I", Cond.arrayClass .int, Cond.fieldLink RX2 11 "BeadParley" "hands" "[[I", Cond.fieldLink RX2 14 "BeadParley" "stall" "[I", Cond.fieldLink RX2 18 "BeadParley" "broughtSoFar" "[I", Cond.classLink RX2 21 RX1, Cond.instantiable RX1 3, Cond.initialized RX1, Cond.fieldLink RX2 24 "BeadParley" "draftGrid" "LBeadParley$Grid;", Cond.fieldLink RX2 28 "BeadParley" "patternGrids" "[LBeadParley$Grid;", Cond.fieldLink RX2 32 "BeadParley" "patternAuthors" "[I", Cond.fieldLink RX2 35 "BeadParley" "beltPatterns" "[I", Cond.fieldLink RX2 38 "BeadParley" "beltOwners" "[I", Cond.fieldLink RX2 41 "BeadParley" "creditsOf" "[I", Cond.classLink RX2 44 RX0, Cond.instantiable RX0 6, Cond.initialized RX0, Cond.fieldLink RX2 47 "BeadParley" "barter" "LBeadParley$Barter;", Cond.fieldLink RX2 51 "BeadParley" "signGrids" "[LBeadParley$Grid;", Cond.fieldLink RX2 54 "BeadParley" "signWorths" "[I", Cond.arrayClass .long]
def wsX2_init_r2 : List Cond := [Cond.fieldLink RX2 57 "BeadParley" "heard" "[J", Cond.instanceMethod yX1_init, Cond.code yX1_init cX1_init 1 none, Cond.methodLink RX1 3 objectInit, Cond.fieldLink RX1 9 "BeadParley$Grid" "cells" "[I", Cond.fieldLink RX1 15 "BeadParley$Grid" "columns" "I", Cond.fieldLink RX1 19 "BeadParley$Grid" "rows" "I", Cond.instanceMethod yX0_init, Cond.code yX0_init cX0_init 1 none, Cond.methodLink RX0 3 objectInit, Cond.fieldLink RX0 9 "BeadParley$Barter" "gives" "[I", Cond.fieldLink RX0 15 "BeadParley$Barter" "wants" "[I", Cond.arrayClass .boolean, Cond.fieldLink RX0 18 "BeadParley$Barter" "ready" "[Z", Cond.fieldLink RX0 22 "BeadParley$Barter" "row" "[I", Cond.fieldLink RX0 25 "BeadParley$Barter" "best" "[I", Cond.methodLink RX0 28 yJ7_fill_53178, Cond.static yJ7_fill_53178, Cond.initialized RJ7, Cond.code yJ7_fill_53178 cJ7_fill_53178 4 none, Cond.methodLink RX2 61 yJ7_fill_53178]
def wsX2_init : List Cond := .code yX2_init cX2_init 2 none :: ((wsX2_init_r1 ++ wsX2_init_r2) ++ wsX20 ++ wsX10 ++ wsX00)
def wsX2_checkPerson : List Cond := .code yX2_checkPerson cX2_checkPerson 1 none :: ([.classLink RX2 108 "java/lang/IndexOutOfBoundsException", .initialized "java/lang/IndexOutOfBoundsException"] ++ (vx_atS RX2 112 "java/lang/IndexOutOfBoundsException" ["java/lang/RuntimeException", "java/lang/Exception"]).filter goodWord)
def wsX2_checkColour : List Cond := .code yX2_checkColour cX2_checkColour 1 none :: ([.classLink RX2 108 "java/lang/IndexOutOfBoundsException", .initialized "java/lang/IndexOutOfBoundsException"] ++ (vx_atS RX2 112 "java/lang/IndexOutOfBoundsException" ["java/lang/RuntimeException", "java/lang/Exception"]).filter goodWord)
def wsX2_checkRange : List Cond := .code yX2_checkRange cX2_checkRange 3 none :: ([.classLink RX2 150 "java/lang/IllegalArgumentException", .initialized "java/lang/IllegalArgumentException"] ++ (vx_atS RX2 154 "java/lang/IllegalArgumentException" ["java/lang/RuntimeException", "java/lang/Exception"]).filter goodWord)
def wsX2_bring : List Cond := .code yX2_bring cX2_bring 5 (some .int) :: ([.classLink RX2 79 "java/lang/IllegalStateException", .initialized "java/lang/IllegalStateException", .fieldLink RX2 11 "BeadParley" "hands" "[[I", .constant RX2 78 (100000), .fieldLink RX2 18 "BeadParley" "broughtSoFar" "[I", .methodLink RX2 67 yX2_checkPerson, .static yX2_checkPerson, .initialized RX2, .code yX2_checkPerson cX2_checkPerson 1 none, .classLink RX2 108 "java/lang/IndexOutOfBoundsException", .initialized "java/lang/IndexOutOfBoundsException", .methodLink RX2 71 yX2_checkColour, .static yX2_checkColour, .code yX2_checkColour cX2_checkColour 1 none, .methodLink RX2 74 yX2_checkRange, .static yX2_checkRange, .code yX2_checkRange cX2_checkRange 3 none, .classLink RX2 150 "java/lang/IllegalArgumentException", .initialized "java/lang/IllegalArgumentException"] ++ wsX20 ++ (vx_atS RX2 83 "java/lang/IllegalStateException" ["java/lang/RuntimeException", "java/lang/Exception"]).filter goodWord ++ (vx_atS RX2 112 "java/lang/IndexOutOfBoundsException" ["java/lang/RuntimeException", "java/lang/Exception"]).filter goodWord ++ (vx_atS RX2 154 "java/lang/IllegalArgumentException" ["java/lang/RuntimeException", "java/lang/Exception"]).filter goodWord)
def wsX2_lay : List Cond := .code yX2_lay cX2_lay 6 (some .int) :: ([.classLink RX2 79 "java/lang/IllegalStateException", .initialized "java/lang/IllegalStateException", .fieldLink RX2 11 "BeadParley" "hands" "[[I", .fieldLink RX2 14 "BeadParley" "stall" "[I", .constant RX2 78 (100000), .methodLink RX2 67 yX2_checkPerson, .static yX2_checkPerson, .initialized RX2, .code yX2_checkPerson cX2_checkPerson 1 none, .classLink RX2 108 "java/lang/IndexOutOfBoundsException", .initialized "java/lang/IndexOutOfBoundsException", .methodLink RX2 71 yX2_checkColour, .static yX2_checkColour, .code yX2_checkColour cX2_checkColour 1 none, .methodLink RX2 74 yX2_checkRange, .static yX2_checkRange, .code yX2_checkRange cX2_checkRange 3 none, .classLink RX2 150 "java/lang/IllegalArgumentException", .initialized "java/lang/IllegalArgumentException"] ++ wsX20 ++ (vx_atS RX2 83 "java/lang/IllegalStateException" ["java/lang/RuntimeException", "java/lang/Exception"]).filter goodWord ++ (vx_atS RX2 112 "java/lang/IndexOutOfBoundsException" ["java/lang/RuntimeException", "java/lang/Exception"]).filter goodWord ++ (vx_atS RX2 154 "java/lang/IllegalArgumentException" ["java/lang/RuntimeException", "java/lang/Exception"]).filter goodWord)
def wsX2_hand : List Cond := .code yX2_hand cX2_hand 3 (some .int) :: ([.fieldLink RX2 11 "BeadParley" "hands" "[[I", .methodLink RX2 67 yX2_checkPerson, .static yX2_checkPerson, .initialized RX2, .code yX2_checkPerson cX2_checkPerson 1 none, .classLink RX2 108 "java/lang/IndexOutOfBoundsException", .initialized "java/lang/IndexOutOfBoundsException", .methodLink RX2 71 yX2_checkColour, .static yX2_checkColour, .code yX2_checkColour cX2_checkColour 1 none] ++ wsX20 ++ (vx_atS RX2 112 "java/lang/IndexOutOfBoundsException" ["java/lang/RuntimeException", "java/lang/Exception"]).filter goodWord)
def wsX2_isBelt : List Cond := .code yX2_isBelt cX2_isBelt 2 (some .boolean) :: ([.fieldLink RX2 35 "BeadParley" "beltPatterns" "[I"] ++ wsX20)
def wsX2_beads_r1 : List Cond := [Cond.fieldLink RX2 14 "BeadParley" "stall" "[I", Cond.fieldLink RX2 11 "BeadParley" "hands" "[[I", Cond.fieldLink RX2 28 "BeadParley" "patternGrids" "[LBeadParley$Grid;", Cond.fieldLink RX2 35 "BeadParley" "beltPatterns" "[I", Cond.methodLink RX2 71 yX2_checkColour, Cond.static yX2_checkColour, Cond.initialized RX2, Cond.code yX2_checkColour cX2_checkColour 1 none, Cond.classLink RX2 108 "java/lang/IndexOutOfBoundsException", Cond.initialized "java/lang/IndexOutOfBoundsException", Cond.methodLink RX2 88 yX2_isBelt, Cond.instanceMethod yX2_isBelt, Cond.selects RX2 yX2_isBelt yX2_isBelt, Cond.code yX2_isBelt cX2_isBelt 2 (some .boolean), Cond.instanceMethod yX1_cellsOf, Cond.initialized RX1, Cond.selects RX1 yX1_cellsOf yX1_cellsOf, Cond.code yX1_cellsOf cX1_cellsOf 4 (some .int), Cond.fieldLink RX1 9 "BeadParley$Grid" "cells" "[I", Cond.methodLink RX1 34 yX1_size, Cond.instanceMethod yX1_size, Cond.selects RX1 yX1_size yX1_size, Cond.code yX1_size cX1_size 1 (some .int), Cond.fieldLink RX1 15 "BeadParley$Grid" "columns" "I"]
def wsX2_beads_r2 : List Cond := [Cond.fieldLink RX1 19 "BeadParley$Grid" "rows" "I"]
def wsX2_beads : List Cond := .code yX2_beads cX2_beads 4 (some .int) :: ((wsX2_beads_r1 ++ wsX2_beads_r2) ++ wsX20 ++ wsX10 ++ (vx_atS RX2 112 "java/lang/IndexOutOfBoundsException" ["java/lang/RuntimeException", "java/lang/Exception"]).filter goodWord)
def wsX2_brought : List Cond := .code yX2_brought cX2_brought 2 (some .int) :: ([.fieldLink RX2 18 "BeadParley" "broughtSoFar" "[I", .methodLink RX2 71 yX2_checkColour, .static yX2_checkColour, .initialized RX2, .code yX2_checkColour cX2_checkColour 1 none, .classLink RX2 108 "java/lang/IndexOutOfBoundsException", .initialized "java/lang/IndexOutOfBoundsException"] ++ wsX20 ++ (vx_atS RX2 112 "java/lang/IndexOutOfBoundsException" ["java/lang/RuntimeException", "java/lang/Exception"]).filter goodWord)
def wsX2_draft : List Cond := .code yX2_draft cX2_draft 3 (some .int) :: ([.fieldLink RX2 24 "BeadParley" "draftGrid" "LBeadParley$Grid;", .methodLink RX2 74 yX2_checkRange, .static yX2_checkRange, .initialized RX2, .code yX2_checkRange cX2_checkRange 3 none, .classLink RX2 150 "java/lang/IllegalArgumentException", .initialized "java/lang/IllegalArgumentException", .instanceMethod yX1_begin, .initialized RX1, .selects RX1 yX1_begin yX1_begin, .code yX1_begin cX1_begin 3 none, .fieldLink RX1 15 "BeadParley$Grid" "columns" "I", .fieldLink RX1 19 "BeadParley$Grid" "rows" "I", .fieldLink RX1 9 "BeadParley$Grid" "cells" "[I", .methodLink RX1 22 yJ7_fill_53178, .static yJ7_fill_53178, .initialized RJ7, .code yJ7_fill_53178 cJ7_fill_53178 4 none, .instanceMethod yX1_size, .selects RX1 yX1_size yX1_size, .code yX1_size cX1_size 1 (some .int)] ++ wsX20 ++ wsX10 ++ (vx_atS RX2 154 "java/lang/IllegalArgumentException" ["java/lang/RuntimeException", "java/lang/Exception"]).filter goodWord)
def wsX2_bead : List Cond := .code yX2_bead cX2_bead 5 (some .int) :: ([.classLink RX2 108 "java/lang/IndexOutOfBoundsException", .initialized "java/lang/IndexOutOfBoundsException", .fieldLink RX2 24 "BeadParley" "draftGrid" "LBeadParley$Grid;", .instanceMethod yX1_hasCell, .initialized RX1, .selects RX1 yX1_hasCell yX1_hasCell, .code yX1_hasCell cX1_hasCell 3 (some .boolean), .fieldLink RX1 15 "BeadParley$Grid" "columns" "I", .fieldLink RX1 19 "BeadParley$Grid" "rows" "I", .methodLink RX2 71 yX2_checkColour, .static yX2_checkColour, .initialized RX2, .code yX2_checkColour cX2_checkColour 1 none, .instanceMethod yX1_colourAt, .selects RX1 yX1_colourAt yX1_colourAt, .code yX1_colourAt cX1_colourAt 3 (some .int), .fieldLink RX1 9 "BeadParley$Grid" "cells" "[I", .instanceMethod yX1_paint, .selects RX1 yX1_paint yX1_paint, .code yX1_paint cX1_paint 4 none] ++ wsX20 ++ wsX10 ++ (vx_atS RX2 112 "java/lang/IndexOutOfBoundsException" ["java/lang/RuntimeException", "java/lang/Exception"]).filter goodWord)
def wsX2_pattern : List Cond := .code yX2_pattern cX2_pattern 3 (some .int) :: ([.classLink RX2 79 "java/lang/IllegalStateException", .initialized "java/lang/IllegalStateException", .fieldLink RX2 120 "BeadParley" "patternCount" "I", .fieldLink RX2 28 "BeadParley" "patternGrids" "[LBeadParley$Grid;", .fieldLink RX2 24 "BeadParley" "draftGrid" "LBeadParley$Grid;", .fieldLink RX2 32 "BeadParley" "patternAuthors" "[I", .methodLink RX2 67 yX2_checkPerson, .static yX2_checkPerson, .initialized RX2, .code yX2_checkPerson cX2_checkPerson 1 none, .classLink RX2 108 "java/lang/IndexOutOfBoundsException", .initialized "java/lang/IndexOutOfBoundsException", .instanceMethod yX1_copyFrom, .initialized RX1, .selects RX1 yX1_copyFrom yX1_copyFrom, .code yX1_copyFrom cX1_copyFrom 2 none, .fieldLink RX1 15 "BeadParley$Grid" "columns" "I", .fieldLink RX1 19 "BeadParley$Grid" "rows" "I", .fieldLink RX1 9 "BeadParley$Grid" "cells" "[I", .methodLink RX1 28 arraycopyName, .native arraycopyName, .static arraycopyName, .initialized "java/lang/System"] ++ wsX20 ++ wsX10 ++ (vx_atS RX2 83 "java/lang/IllegalStateException" ["java/lang/RuntimeException", "java/lang/Exception"]).filter goodWord ++ (vx_atS RX2 112 "java/lang/IndexOutOfBoundsException" ["java/lang/RuntimeException", "java/lang/Exception"]).filter goodWord)
def wsX2_patterns : List Cond := .code yX2_patterns cX2_patterns 1 (some .int) :: ([.fieldLink RX2 120 "BeadParley" "patternCount" "I"] ++ wsX20)
def wsX2_checkPattern : List Cond := .code yX2_checkPattern cX2_checkPattern 2 none :: ([.classLink RX2 108 "java/lang/IndexOutOfBoundsException", .initialized "java/lang/IndexOutOfBoundsException", .fieldLink RX2 120 "BeadParley" "patternCount" "I"] ++ wsX20 ++ (vx_atS RX2 112 "java/lang/IndexOutOfBoundsException" ["java/lang/RuntimeException", "java/lang/Exception"]).filter goodWord)
def wsX2_symmetries : List Cond := .code yX2_symmetries cX2_symmetries 3 (some .int) :: ([.fieldLink RX2 28 "BeadParley" "patternGrids" "[LBeadParley$Grid;", .methodLink RX2 130 yX2_checkPattern, .instanceMethod yX2_checkPattern, .selects RX2 yX2_checkPattern yX2_checkPattern, .initialized RX2, .code yX2_checkPattern cX2_checkPattern 2 none, .classLink RX2 108 "java/lang/IndexOutOfBoundsException", .initialized "java/lang/IndexOutOfBoundsException", .fieldLink RX2 120 "BeadParley" "patternCount" "I", .instanceMethod yX1_hasImage, .initialized RX1, .selects RX1 yX1_hasImage yX1_hasImage, .code yX1_hasImage cX1_hasImage 6 (some .boolean), .fieldLink RX1 15 "BeadParley$Grid" "columns" "I", .fieldLink RX1 19 "BeadParley$Grid" "rows" "I", .methodLink RX1 38 yX1_colourInImage, .instanceMethod yX1_colourInImage, .selects RX1 yX1_colourInImage yX1_colourInImage, .code yX1_colourInImage cX1_colourInImage 6 (some .int), .methodLink RX1 42 yX1_colourAt, .instanceMethod yX1_colourAt, .selects RX1 yX1_colourAt yX1_colourAt, .code yX1_colourAt cX1_colourAt 3 (some .int), .fieldLink RX1 9 "BeadParley$Grid" "cells" "[I"] ++ wsX20 ++ wsX10 ++ (vx_atS RX2 112 "java/lang/IndexOutOfBoundsException" ["java/lang/RuntimeException", "java/lang/Exception"]).filter goodWord)
def wsX2_originOf : List Cond := .code yX2_originOf cX2_originOf 4 (some .int) :: ([.fieldLink RX2 28 "BeadParley" "patternGrids" "[LBeadParley$Grid;", .instanceMethod yX1_hasImage, .initialized RX1, .selects RX1 yX1_hasImage yX1_hasImage, .code yX1_hasImage cX1_hasImage 6 (some .boolean), .fieldLink RX1 15 "BeadParley$Grid" "columns" "I", .fieldLink RX1 19 "BeadParley$Grid" "rows" "I", .methodLink RX1 38 yX1_colourInImage, .instanceMethod yX1_colourInImage, .selects RX1 yX1_colourInImage yX1_colourInImage, .code yX1_colourInImage cX1_colourInImage 6 (some .int), .methodLink RX1 42 yX1_colourAt, .instanceMethod yX1_colourAt, .selects RX1 yX1_colourAt yX1_colourAt, .code yX1_colourAt cX1_colourAt 3 (some .int), .fieldLink RX1 9 "BeadParley$Grid" "cells" "[I"] ++ wsX20 ++ wsX10)
def wsX2_origin_r1 : List Cond := [Cond.methodLink RX2 130 yX2_checkPattern, Cond.instanceMethod yX2_checkPattern, Cond.selects RX2 yX2_checkPattern yX2_checkPattern, Cond.initialized RX2, Cond.code yX2_checkPattern cX2_checkPattern 2 none, Cond.classLink RX2 108 "java/lang/IndexOutOfBoundsException", Cond.initialized "java/lang/IndexOutOfBoundsException", Cond.fieldLink RX2 120 "BeadParley" "patternCount" "I", Cond.methodLink RX2 137 yX2_originOf, Cond.instanceMethod yX2_originOf, Cond.selects RX2 yX2_originOf yX2_originOf, Cond.code yX2_originOf cX2_originOf 4 (some .int), Cond.fieldLink RX2 28 "BeadParley" "patternGrids" "[LBeadParley$Grid;", Cond.instanceMethod yX1_hasImage, Cond.initialized RX1, Cond.selects RX1 yX1_hasImage yX1_hasImage, Cond.code yX1_hasImage cX1_hasImage 6 (some .boolean), Cond.fieldLink RX1 15 "BeadParley$Grid" "columns" "I", Cond.fieldLink RX1 19 "BeadParley$Grid" "rows" "I", Cond.methodLink RX1 38 yX1_colourInImage, Cond.instanceMethod yX1_colourInImage, Cond.selects RX1 yX1_colourInImage yX1_colourInImage, Cond.code yX1_colourInImage cX1_colourInImage 6 (some .int), Cond.methodLink RX1 42 yX1_colourAt]
def wsX2_origin_r2 : List Cond := [Cond.instanceMethod yX1_colourAt, Cond.selects RX1 yX1_colourAt yX1_colourAt, Cond.code yX1_colourAt cX1_colourAt 3 (some .int), Cond.fieldLink RX1 9 "BeadParley$Grid" "cells" "[I"]
def wsX2_origin : List Cond := .code yX2_origin cX2_origin 2 (some .int) :: ((wsX2_origin_r1 ++ wsX2_origin_r2) ++ wsX20 ++ wsX10 ++ (vx_atS RX2 112 "java/lang/IndexOutOfBoundsException" ["java/lang/RuntimeException", "java/lang/Exception"]).filter goodWord)
def wsX2_needs : List Cond := .code yX2_needs cX2_needs 3 (some .int) :: ([.fieldLink RX2 28 "BeadParley" "patternGrids" "[LBeadParley$Grid;", .methodLink RX2 130 yX2_checkPattern, .instanceMethod yX2_checkPattern, .selects RX2 yX2_checkPattern yX2_checkPattern, .initialized RX2, .code yX2_checkPattern cX2_checkPattern 2 none, .classLink RX2 108 "java/lang/IndexOutOfBoundsException", .initialized "java/lang/IndexOutOfBoundsException", .fieldLink RX2 120 "BeadParley" "patternCount" "I", .methodLink RX2 71 yX2_checkColour, .static yX2_checkColour, .code yX2_checkColour cX2_checkColour 1 none, .instanceMethod yX1_cellsOf, .initialized RX1, .selects RX1 yX1_cellsOf yX1_cellsOf, .code yX1_cellsOf cX1_cellsOf 4 (some .int), .fieldLink RX1 9 "BeadParley$Grid" "cells" "[I", .methodLink RX1 34 yX1_size, .instanceMethod yX1_size, .selects RX1 yX1_size yX1_size, .code yX1_size cX1_size 1 (some .int), .fieldLink RX1 15 "BeadParley$Grid" "columns" "I", .fieldLink RX1 19 "BeadParley$Grid" "rows" "I"] ++ wsX20 ++ wsX10 ++ (vx_atS RX2 112 "java/lang/IndexOutOfBoundsException" ["java/lang/RuntimeException", "java/lang/Exception"]).filter goodWord)
def wsX2_lowestFreeBelt : List Cond := .code yX2_lowestFreeBelt cX2_lowestFreeBelt 2 (some .int) :: ([.methodLink RX2 88 yX2_isBelt, .instanceMethod yX2_isBelt, .selects RX2 yX2_isBelt yX2_isBelt, .initialized RX2, .code yX2_isBelt cX2_isBelt 2 (some .boolean), .fieldLink RX2 35 "BeadParley" "beltPatterns" "[I"] ++ wsX20)
def wsX2_weave_r1 : List Cond := [Cond.classLink RX2 79 "java/lang/IllegalStateException", Cond.initialized "java/lang/IllegalStateException", Cond.fieldLink RX2 28 "BeadParley" "patternGrids" "[LBeadParley$Grid;", Cond.fieldLink RX2 11 "BeadParley" "hands" "[[I", Cond.fieldLink RX2 35 "BeadParley" "beltPatterns" "[I", Cond.fieldLink RX2 38 "BeadParley" "beltOwners" "[I", Cond.fieldLink RX2 41 "BeadParley" "creditsOf" "[I", Cond.fieldLink RX2 32 "BeadParley" "patternAuthors" "[I", Cond.methodLink RX2 67 yX2_checkPerson, Cond.static yX2_checkPerson, Cond.initialized RX2, Cond.code yX2_checkPerson cX2_checkPerson 1 none, Cond.classLink RX2 108 "java/lang/IndexOutOfBoundsException", Cond.initialized "java/lang/IndexOutOfBoundsException", Cond.methodLink RX2 130 yX2_checkPattern, Cond.instanceMethod yX2_checkPattern, Cond.selects RX2 yX2_checkPattern yX2_checkPattern, Cond.code yX2_checkPattern cX2_checkPattern 2 none, Cond.fieldLink RX2 120 "BeadParley" "patternCount" "I", Cond.methodLink RX2 140 yX2_lowestFreeBelt, Cond.instanceMethod yX2_lowestFreeBelt, Cond.selects RX2 yX2_lowestFreeBelt yX2_lowestFreeBelt, Cond.code yX2_lowestFreeBelt cX2_lowestFreeBelt 2 (some .int), Cond.methodLink RX2 88 yX2_isBelt]
def wsX2_weave_r2 : List Cond := [Cond.instanceMethod yX2_isBelt, Cond.selects RX2 yX2_isBelt yX2_isBelt, Cond.code yX2_isBelt cX2_isBelt 2 (some .boolean), Cond.instanceMethod yX1_cellsOf, Cond.initialized RX1, Cond.selects RX1 yX1_cellsOf yX1_cellsOf, Cond.code yX1_cellsOf cX1_cellsOf 4 (some .int), Cond.fieldLink RX1 9 "BeadParley$Grid" "cells" "[I", Cond.methodLink RX1 34 yX1_size, Cond.instanceMethod yX1_size, Cond.selects RX1 yX1_size yX1_size, Cond.code yX1_size cX1_size 1 (some .int), Cond.fieldLink RX1 15 "BeadParley$Grid" "columns" "I", Cond.fieldLink RX1 19 "BeadParley$Grid" "rows" "I", Cond.methodLink RX2 137 yX2_originOf, Cond.instanceMethod yX2_originOf, Cond.selects RX2 yX2_originOf yX2_originOf, Cond.code yX2_originOf cX2_originOf 4 (some .int), Cond.instanceMethod yX1_hasImage, Cond.selects RX1 yX1_hasImage yX1_hasImage, Cond.code yX1_hasImage cX1_hasImage 6 (some .boolean), Cond.methodLink RX1 38 yX1_colourInImage, Cond.instanceMethod yX1_colourInImage, Cond.selects RX1 yX1_colourInImage yX1_colourInImage]
def wsX2_weave_r3 : List Cond := [Cond.code yX1_colourInImage cX1_colourInImage 6 (some .int), Cond.methodLink RX1 42 yX1_colourAt, Cond.instanceMethod yX1_colourAt, Cond.selects RX1 yX1_colourAt yX1_colourAt, Cond.code yX1_colourAt cX1_colourAt 3 (some .int)]
def wsX2_weave : List Cond := .code yX2_weave cX2_weave 6 (some .int) :: ((wsX2_weave_r1 ++ (wsX2_weave_r2 ++ wsX2_weave_r3)) ++ wsX20 ++ wsX10 ++ (vx_atS RX2 83 "java/lang/IllegalStateException" ["java/lang/RuntimeException", "java/lang/Exception"]).filter goodWord ++ (vx_atS RX2 112 "java/lang/IndexOutOfBoundsException" ["java/lang/RuntimeException", "java/lang/Exception"]).filter goodWord)
def wsX2_checkBelt : List Cond := .code yX2_checkBelt cX2_checkBelt 2 none :: ([.classLink RX2 108 "java/lang/IndexOutOfBoundsException", .initialized "java/lang/IndexOutOfBoundsException", .methodLink RX2 88 yX2_isBelt, .instanceMethod yX2_isBelt, .selects RX2 yX2_isBelt yX2_isBelt, .initialized RX2, .code yX2_isBelt cX2_isBelt 2 (some .boolean), .fieldLink RX2 35 "BeadParley" "beltPatterns" "[I"] ++ wsX20 ++ (vx_atS RX2 112 "java/lang/IndexOutOfBoundsException" ["java/lang/RuntimeException", "java/lang/Exception"]).filter goodWord)
def wsX2_apart_r1 : List Cond := [Cond.classLink RX2 79 "java/lang/IllegalStateException", Cond.initialized "java/lang/IllegalStateException", Cond.fieldLink RX2 28 "BeadParley" "patternGrids" "[LBeadParley$Grid;", Cond.fieldLink RX2 35 "BeadParley" "beltPatterns" "[I", Cond.fieldLink RX2 11 "BeadParley" "hands" "[[I", Cond.fieldLink RX2 38 "BeadParley" "beltOwners" "[I", Cond.constant RX2 78 (100000), Cond.methodLink RX2 147 yX2_checkBelt, Cond.instanceMethod yX2_checkBelt, Cond.selects RX2 yX2_checkBelt yX2_checkBelt, Cond.initialized RX2, Cond.code yX2_checkBelt cX2_checkBelt 2 none, Cond.classLink RX2 108 "java/lang/IndexOutOfBoundsException", Cond.initialized "java/lang/IndexOutOfBoundsException", Cond.methodLink RX2 88 yX2_isBelt, Cond.instanceMethod yX2_isBelt, Cond.selects RX2 yX2_isBelt yX2_isBelt, Cond.code yX2_isBelt cX2_isBelt 2 (some .boolean), Cond.instanceMethod yX1_cellsOf, Cond.initialized RX1, Cond.selects RX1 yX1_cellsOf yX1_cellsOf, Cond.code yX1_cellsOf cX1_cellsOf 4 (some .int), Cond.fieldLink RX1 9 "BeadParley$Grid" "cells" "[I", Cond.methodLink RX1 34 yX1_size]
def wsX2_apart_r2 : List Cond := [Cond.instanceMethod yX1_size, Cond.selects RX1 yX1_size yX1_size, Cond.code yX1_size cX1_size 1 (some .int), Cond.fieldLink RX1 15 "BeadParley$Grid" "columns" "I", Cond.fieldLink RX1 19 "BeadParley$Grid" "rows" "I"]
def wsX2_apart : List Cond := .code yX2_apart cX2_apart 5 (some .int) :: ((wsX2_apart_r1 ++ wsX2_apart_r2) ++ wsX20 ++ wsX10 ++ (vx_atS RX2 83 "java/lang/IllegalStateException" ["java/lang/RuntimeException", "java/lang/Exception"]).filter goodWord ++ (vx_atS RX2 112 "java/lang/IndexOutOfBoundsException" ["java/lang/RuntimeException", "java/lang/Exception"]).filter goodWord)
def wsX2_give : List Cond := .code yX2_give cX2_give 4 (some .int) :: ([.fieldLink RX2 38 "BeadParley" "beltOwners" "[I", .methodLink RX2 147 yX2_checkBelt, .instanceMethod yX2_checkBelt, .selects RX2 yX2_checkBelt yX2_checkBelt, .initialized RX2, .code yX2_checkBelt cX2_checkBelt 2 none, .classLink RX2 108 "java/lang/IndexOutOfBoundsException", .initialized "java/lang/IndexOutOfBoundsException", .methodLink RX2 88 yX2_isBelt, .instanceMethod yX2_isBelt, .selects RX2 yX2_isBelt yX2_isBelt, .code yX2_isBelt cX2_isBelt 2 (some .boolean), .fieldLink RX2 35 "BeadParley" "beltPatterns" "[I", .methodLink RX2 67 yX2_checkPerson, .static yX2_checkPerson, .code yX2_checkPerson cX2_checkPerson 1 none] ++ wsX20 ++ (vx_atS RX2 112 "java/lang/IndexOutOfBoundsException" ["java/lang/RuntimeException", "java/lang/Exception"]).filter goodWord)
def wsX2_owner : List Cond := .code yX2_owner cX2_owner 2 (some .int) :: ([.fieldLink RX2 38 "BeadParley" "beltOwners" "[I", .methodLink RX2 147 yX2_checkBelt, .instanceMethod yX2_checkBelt, .selects RX2 yX2_checkBelt yX2_checkBelt, .initialized RX2, .code yX2_checkBelt cX2_checkBelt 2 none, .classLink RX2 108 "java/lang/IndexOutOfBoundsException", .initialized "java/lang/IndexOutOfBoundsException", .methodLink RX2 88 yX2_isBelt, .instanceMethod yX2_isBelt, .selects RX2 yX2_isBelt yX2_isBelt, .code yX2_isBelt cX2_isBelt 2 (some .boolean), .fieldLink RX2 35 "BeadParley" "beltPatterns" "[I"] ++ wsX20 ++ (vx_atS RX2 112 "java/lang/IndexOutOfBoundsException" ["java/lang/RuntimeException", "java/lang/Exception"]).filter goodWord)
def wsX2_credits : List Cond := .code yX2_credits cX2_credits 2 (some .int) :: ([.fieldLink RX2 41 "BeadParley" "creditsOf" "[I", .methodLink RX2 67 yX2_checkPerson, .static yX2_checkPerson, .initialized RX2, .code yX2_checkPerson cX2_checkPerson 1 none, .classLink RX2 108 "java/lang/IndexOutOfBoundsException", .initialized "java/lang/IndexOutOfBoundsException"] ++ wsX20 ++ (vx_atS RX2 112 "java/lang/IndexOutOfBoundsException" ["java/lang/RuntimeException", "java/lang/Exception"]).filter goodWord)
def wsX2_wish : List Cond := .code yX2_wish cX2_wish 5 (some .boolean) :: ([.classLink RX2 150 "java/lang/IllegalArgumentException", .initialized "java/lang/IllegalArgumentException", .fieldLink RX2 47 "BeadParley" "barter" "LBeadParley$Barter;", .methodLink RX2 67 yX2_checkPerson, .static yX2_checkPerson, .initialized RX2, .code yX2_checkPerson cX2_checkPerson 1 none, .classLink RX2 108 "java/lang/IndexOutOfBoundsException", .initialized "java/lang/IndexOutOfBoundsException", .methodLink RX2 71 yX2_checkColour, .static yX2_checkColour, .code yX2_checkColour cX2_checkColour 1 none, .instanceMethod yX0_hasWish, .initialized RX0, .selects RX0 yX0_hasWish yX0_hasWish, .code yX0_hasWish cX0_hasWish 2 (some .boolean), .fieldLink RX0 9 "BeadParley$Barter" "gives" "[I", .instanceMethod yX0_setWish, .selects RX0 yX0_setWish yX0_setWish, .code yX0_setWish cX0_setWish 4 none, .fieldLink RX0 15 "BeadParley$Barter" "wants" "[I"] ++ wsX20 ++ wsX00 ++ (vx_atS RX2 154 "java/lang/IllegalArgumentException" ["java/lang/RuntimeException", "java/lang/Exception"]).filter goodWord ++ (vx_atS RX2 112 "java/lang/IndexOutOfBoundsException" ["java/lang/RuntimeException", "java/lang/Exception"]).filter goodWord)
def wsX2_unwish : List Cond := .code yX2_unwish cX2_unwish 3 (some .boolean) :: ([.fieldLink RX2 47 "BeadParley" "barter" "LBeadParley$Barter;", .methodLink RX2 67 yX2_checkPerson, .static yX2_checkPerson, .initialized RX2, .code yX2_checkPerson cX2_checkPerson 1 none, .classLink RX2 108 "java/lang/IndexOutOfBoundsException", .initialized "java/lang/IndexOutOfBoundsException", .instanceMethod yX0_hasWish, .initialized RX0, .selects RX0 yX0_hasWish yX0_hasWish, .code yX0_hasWish cX0_hasWish 2 (some .boolean), .fieldLink RX0 9 "BeadParley$Barter" "gives" "[I", .instanceMethod yX0_setWish, .selects RX0 yX0_setWish yX0_setWish, .code yX0_setWish cX0_setWish 4 none, .fieldLink RX0 15 "BeadParley$Barter" "wants" "[I"] ++ wsX20 ++ wsX00 ++ (vx_atS RX2 112 "java/lang/IndexOutOfBoundsException" ["java/lang/RuntimeException", "java/lang/Exception"]).filter goodWord)
def wsX2_chain_r1 : List Cond := [Cond.fieldLink RX2 47 "BeadParley" "barter" "LBeadParley$Barter;", Cond.fieldLink RX2 11 "BeadParley" "hands" "[[I", Cond.instanceMethod yX0_findBest, Cond.initialized RX0, Cond.selects RX0 yX0_findBest yX0_findBest, Cond.code yX0_findBest cX0_findBest 3 none, Cond.fieldLink RX0 42 "BeadParley$Barter" "bestLength" "I", Cond.fieldLink RX0 18 "BeadParley$Barter" "ready" "[Z", Cond.fieldLink RX0 22 "BeadParley$Barter" "row" "[I", Cond.methodLink RX0 38 yX0_markReady, Cond.instanceMethod yX0_markReady, Cond.selects RX0 yX0_markReady yX0_markReady, Cond.code yX0_markReady cX0_markReady 3 none, Cond.fieldLink RX0 9 "BeadParley$Barter" "gives" "[I", Cond.methodLink RX0 34 yX0_hasWish, Cond.instanceMethod yX0_hasWish, Cond.selects RX0 yX0_hasWish yX0_hasWish, Cond.code yX0_hasWish cX0_hasWish 2 (some .boolean), Cond.methodLink RX0 46 yX0_extend, Cond.static yX0_extend, Cond.code yX0_extend cX0_extend 5 none, Cond.fieldLink RX0 25 "BeadParley$Barter" "best" "[I", Cond.methodLink RX0 54 arraycopyName, Cond.native arraycopyName]
def wsX2_chain_r2 : List Cond := [Cond.static arraycopyName, Cond.initialized "java/lang/System", Cond.methodLink RX0 50 yX0_getsFrom, Cond.instanceMethod yX0_getsFrom, Cond.selects RX0 yX0_getsFrom yX0_getsFrom, Cond.code yX0_getsFrom cX0_getsFrom 3 (some .boolean), Cond.fieldLink RX0 15 "BeadParley$Barter" "wants" "[I", Cond.methodLink RX0 60 yX0_isInRow, Cond.instanceMethod yX0_isInRow, Cond.selects RX0 yX0_isInRow yX0_isInRow, Cond.code yX0_isInRow cX0_isInRow 4 (some .boolean)]
def wsX2_chain : List Cond := .code yX2_chain cX2_chain 1 (some .int) :: ((wsX2_chain_r1 ++ wsX2_chain_r2) ++ wsX20 ++ wsX00)
def wsX2_chainByOrders_r1 : List Cond := [Cond.fieldLink RX2 47 "BeadParley" "barter" "LBeadParley$Barter;", Cond.fieldLink RX2 11 "BeadParley" "hands" "[[I", Cond.instanceMethod yX0_longestByOrders, Cond.initialized RX0, Cond.selects RX0 yX0_longestByOrders yX0_longestByOrders, Cond.code yX0_longestByOrders cX0_longestByOrders 6 (some .int), Cond.fieldLink RX0 18 "BeadParley$Barter" "ready" "[Z", Cond.fieldLink RX0 22 "BeadParley$Barter" "row" "[I", Cond.methodLink RX0 67 Lib.Math.max.name, Cond.static Lib.Math.max.name, Cond.initialized "java/lang/Math", Cond.code Lib.Math.max.name Lib.Math.max.code 2 (some .int), Cond.methodLink RX0 38 yX0_markReady, Cond.instanceMethod yX0_markReady, Cond.selects RX0 yX0_markReady yX0_markReady, Cond.code yX0_markReady cX0_markReady 3 none, Cond.fieldLink RX0 9 "BeadParley$Barter" "gives" "[I", Cond.methodLink RX0 34 yX0_hasWish, Cond.instanceMethod yX0_hasWish, Cond.selects RX0 yX0_hasWish yX0_hasWish, Cond.code yX0_hasWish cX0_hasWish 2 (some .boolean), Cond.methodLink RX0 63 yX0_longestAtStartOfRow, Cond.instanceMethod yX0_longestAtStartOfRow, Cond.selects RX0 yX0_longestAtStartOfRow yX0_longestAtStartOfRow]
def wsX2_chainByOrders_r2 : List Cond := [Cond.code yX0_longestAtStartOfRow cX0_longestAtStartOfRow 4 (some .int), Cond.methodLink RX0 50 yX0_getsFrom, Cond.instanceMethod yX0_getsFrom, Cond.selects RX0 yX0_getsFrom yX0_getsFrom, Cond.code yX0_getsFrom cX0_getsFrom 3 (some .boolean), Cond.fieldLink RX0 15 "BeadParley$Barter" "wants" "[I", Cond.methodLink RX0 73 yX0_nextOrder, Cond.instanceMethod yX0_nextOrder, Cond.selects RX0 yX0_nextOrder yX0_nextOrder, Cond.code yX0_nextOrder cX0_nextOrder 6 (some .boolean), Cond.methodLink RX0 76 yX0_swap, Cond.instanceMethod yX0_swap, Cond.selects RX0 yX0_swap yX0_swap, Cond.code yX0_swap cX0_swap 4 none]
def wsX2_chainByOrders : List Cond := .code yX2_chainByOrders cX2_chainByOrders 1 (some .int) :: ((wsX2_chainByOrders_r1 ++ wsX2_chainByOrders_r2) ++ wsX20 ++ wsX00)
def wsX2_chainAt_r1 : List Cond := [Cond.classLink RX2 108 "java/lang/IndexOutOfBoundsException", Cond.initialized "java/lang/IndexOutOfBoundsException", Cond.fieldLink RX2 47 "BeadParley" "barter" "LBeadParley$Barter;", Cond.fieldLink RX2 11 "BeadParley" "hands" "[[I", Cond.instanceMethod yX0_findBest, Cond.initialized RX0, Cond.selects RX0 yX0_findBest yX0_findBest, Cond.code yX0_findBest cX0_findBest 3 none, Cond.fieldLink RX0 42 "BeadParley$Barter" "bestLength" "I", Cond.fieldLink RX0 18 "BeadParley$Barter" "ready" "[Z", Cond.fieldLink RX0 22 "BeadParley$Barter" "row" "[I", Cond.methodLink RX0 38 yX0_markReady, Cond.instanceMethod yX0_markReady, Cond.selects RX0 yX0_markReady yX0_markReady, Cond.code yX0_markReady cX0_markReady 3 none, Cond.fieldLink RX0 9 "BeadParley$Barter" "gives" "[I", Cond.methodLink RX0 34 yX0_hasWish, Cond.instanceMethod yX0_hasWish, Cond.selects RX0 yX0_hasWish yX0_hasWish, Cond.code yX0_hasWish cX0_hasWish 2 (some .boolean), Cond.methodLink RX0 46 yX0_extend, Cond.static yX0_extend, Cond.code yX0_extend cX0_extend 5 none, Cond.fieldLink RX0 25 "BeadParley$Barter" "best" "[I"]
def wsX2_chainAt_r2 : List Cond := [Cond.methodLink RX0 54 arraycopyName, Cond.native arraycopyName, Cond.static arraycopyName, Cond.initialized "java/lang/System", Cond.methodLink RX0 50 yX0_getsFrom, Cond.instanceMethod yX0_getsFrom, Cond.selects RX0 yX0_getsFrom yX0_getsFrom, Cond.code yX0_getsFrom cX0_getsFrom 3 (some .boolean), Cond.fieldLink RX0 15 "BeadParley$Barter" "wants" "[I", Cond.methodLink RX0 60 yX0_isInRow, Cond.instanceMethod yX0_isInRow, Cond.selects RX0 yX0_isInRow yX0_isInRow, Cond.code yX0_isInRow cX0_isInRow 4 (some .boolean)]
def wsX2_chainAt : List Cond := .code yX2_chainAt cX2_chainAt 2 (some .int) :: ((wsX2_chainAt_r1 ++ wsX2_chainAt_r2) ++ wsX20 ++ wsX00 ++ (vx_atS RX2 112 "java/lang/IndexOutOfBoundsException" ["java/lang/RuntimeException", "java/lang/Exception"]).filter goodWord)
def wsX2_fair_r1 : List Cond := [Cond.fieldLink RX2 47 "BeadParley" "barter" "LBeadParley$Barter;", Cond.fieldLink RX2 11 "BeadParley" "hands" "[[I", Cond.instanceMethod yX0_findBest, Cond.initialized RX0, Cond.selects RX0 yX0_findBest yX0_findBest, Cond.code yX0_findBest cX0_findBest 3 none, Cond.fieldLink RX0 42 "BeadParley$Barter" "bestLength" "I", Cond.fieldLink RX0 18 "BeadParley$Barter" "ready" "[Z", Cond.fieldLink RX0 22 "BeadParley$Barter" "row" "[I", Cond.methodLink RX0 38 yX0_markReady, Cond.instanceMethod yX0_markReady, Cond.selects RX0 yX0_markReady yX0_markReady, Cond.code yX0_markReady cX0_markReady 3 none, Cond.fieldLink RX0 9 "BeadParley$Barter" "gives" "[I", Cond.methodLink RX0 34 yX0_hasWish, Cond.instanceMethod yX0_hasWish, Cond.selects RX0 yX0_hasWish yX0_hasWish, Cond.code yX0_hasWish cX0_hasWish 2 (some .boolean), Cond.methodLink RX0 46 yX0_extend, Cond.static yX0_extend, Cond.code yX0_extend cX0_extend 5 none, Cond.fieldLink RX0 25 "BeadParley$Barter" "best" "[I", Cond.methodLink RX0 54 arraycopyName, Cond.native arraycopyName]
def wsX2_fair_r2 : List Cond := [Cond.static arraycopyName, Cond.initialized "java/lang/System", Cond.methodLink RX0 50 yX0_getsFrom, Cond.instanceMethod yX0_getsFrom, Cond.selects RX0 yX0_getsFrom yX0_getsFrom, Cond.code yX0_getsFrom cX0_getsFrom 3 (some .boolean), Cond.fieldLink RX0 15 "BeadParley$Barter" "wants" "[I", Cond.methodLink RX0 60 yX0_isInRow, Cond.instanceMethod yX0_isInRow, Cond.selects RX0 yX0_isInRow yX0_isInRow, Cond.code yX0_isInRow cX0_isInRow 4 (some .boolean), Cond.instanceMethod yX0_exchange, Cond.selects RX0 yX0_exchange yX0_exchange, Cond.code yX0_exchange cX0_exchange 5 none]
def wsX2_fair : List Cond := .code yX2_fair cX2_fair 1 (some .int) :: ((wsX2_fair_r1 ++ wsX2_fair_r2) ++ wsX20 ++ wsX00)
def wsX2_sign : List Cond := .code yX2_sign cX2_sign 3 (some .int) :: ([.classLink RX2 79 "java/lang/IllegalStateException", .initialized "java/lang/IllegalStateException", .fieldLink RX2 24 "BeadParley" "draftGrid" "LBeadParley$Grid;", .fieldLink RX2 188 "BeadParley" "signCount" "I", .fieldLink RX2 51 "BeadParley" "signGrids" "[LBeadParley$Grid;", .fieldLink RX2 54 "BeadParley" "signWorths" "[I", .methodLink RX2 74 yX2_checkRange, .static yX2_checkRange, .initialized RX2, .code yX2_checkRange cX2_checkRange 3 none, .classLink RX2 150 "java/lang/IllegalArgumentException", .initialized "java/lang/IllegalArgumentException", .instanceMethod yX1_copyFrom, .initialized RX1, .selects RX1 yX1_copyFrom yX1_copyFrom, .code yX1_copyFrom cX1_copyFrom 2 none, .fieldLink RX1 15 "BeadParley$Grid" "columns" "I", .fieldLink RX1 19 "BeadParley$Grid" "rows" "I", .fieldLink RX1 9 "BeadParley$Grid" "cells" "[I", .methodLink RX1 28 arraycopyName, .native arraycopyName, .static arraycopyName, .initialized "java/lang/System"] ++ wsX20 ++ wsX10 ++ (vx_atS RX2 83 "java/lang/IllegalStateException" ["java/lang/RuntimeException", "java/lang/Exception"]).filter goodWord ++ (vx_atS RX2 154 "java/lang/IllegalArgumentException" ["java/lang/RuntimeException", "java/lang/Exception"]).filter goodWord)
def wsX2_stands_r1 : List Cond := [Cond.classLink RX2 108 "java/lang/IndexOutOfBoundsException", Cond.initialized "java/lang/IndexOutOfBoundsException", Cond.fieldLink RX2 188 "BeadParley" "signCount" "I", Cond.fieldLink RX2 28 "BeadParley" "patternGrids" "[LBeadParley$Grid;", Cond.fieldLink RX2 51 "BeadParley" "signGrids" "[LBeadParley$Grid;", Cond.methodLink RX2 130 yX2_checkPattern, Cond.instanceMethod yX2_checkPattern, Cond.selects RX2 yX2_checkPattern yX2_checkPattern, Cond.initialized RX2, Cond.code yX2_checkPattern cX2_checkPattern 2 none, Cond.fieldLink RX2 120 "BeadParley" "patternCount" "I", Cond.instanceMethod yX1_placesOf, Cond.initialized RX1, Cond.selects RX1 yX1_placesOf yX1_placesOf, Cond.code yX1_placesOf cX1_placesOf 5 (some .int), Cond.fieldLink RX1 19 "BeadParley$Grid" "rows" "I", Cond.fieldLink RX1 15 "BeadParley$Grid" "columns" "I", Cond.methodLink RX1 46 yX1_shows, Cond.instanceMethod yX1_shows, Cond.selects RX1 yX1_shows yX1_shows, Cond.code yX1_shows cX1_shows 6 (some .boolean), Cond.methodLink RX1 42 yX1_colourAt, Cond.instanceMethod yX1_colourAt, Cond.selects RX1 yX1_colourAt yX1_colourAt]
def wsX2_stands_r2 : List Cond := [Cond.code yX1_colourAt cX1_colourAt 3 (some .int), Cond.fieldLink RX1 9 "BeadParley$Grid" "cells" "[I"]
def wsX2_stands : List Cond := .code yX2_stands cX2_stands 3 (some .int) :: ((wsX2_stands_r1 ++ wsX2_stands_r2) ++ wsX20 ++ wsX10 ++ (vx_atS RX2 112 "java/lang/IndexOutOfBoundsException" ["java/lang/RuntimeException", "java/lang/Exception"]).filter goodWord)
def wsX2_storyOf : List Cond := .code yX2_storyOf cX2_storyOf 4 (some .int) :: ([.fieldLink RX2 188 "BeadParley" "signCount" "I", .fieldLink RX2 54 "BeadParley" "signWorths" "[I", .fieldLink RX2 28 "BeadParley" "patternGrids" "[LBeadParley$Grid;", .fieldLink RX2 51 "BeadParley" "signGrids" "[LBeadParley$Grid;", .instanceMethod yX1_placesOf, .initialized RX1, .selects RX1 yX1_placesOf yX1_placesOf, .code yX1_placesOf cX1_placesOf 5 (some .int), .fieldLink RX1 19 "BeadParley$Grid" "rows" "I", .fieldLink RX1 15 "BeadParley$Grid" "columns" "I", .methodLink RX1 46 yX1_shows, .instanceMethod yX1_shows, .selects RX1 yX1_shows yX1_shows, .code yX1_shows cX1_shows 6 (some .boolean), .methodLink RX1 42 yX1_colourAt, .instanceMethod yX1_colourAt, .selects RX1 yX1_colourAt yX1_colourAt, .code yX1_colourAt cX1_colourAt 3 (some .int), .fieldLink RX1 9 "BeadParley$Grid" "cells" "[I"] ++ wsX20 ++ wsX10)
def wsX2_story_r1 : List Cond := [Cond.methodLink RX2 130 yX2_checkPattern, Cond.instanceMethod yX2_checkPattern, Cond.selects RX2 yX2_checkPattern yX2_checkPattern, Cond.initialized RX2, Cond.code yX2_checkPattern cX2_checkPattern 2 none, Cond.classLink RX2 108 "java/lang/IndexOutOfBoundsException", Cond.initialized "java/lang/IndexOutOfBoundsException", Cond.fieldLink RX2 120 "BeadParley" "patternCount" "I", Cond.methodLink RX2 199 yX2_storyOf, Cond.instanceMethod yX2_storyOf, Cond.selects RX2 yX2_storyOf yX2_storyOf, Cond.code yX2_storyOf cX2_storyOf 4 (some .int), Cond.fieldLink RX2 188 "BeadParley" "signCount" "I", Cond.fieldLink RX2 54 "BeadParley" "signWorths" "[I", Cond.fieldLink RX2 28 "BeadParley" "patternGrids" "[LBeadParley$Grid;", Cond.fieldLink RX2 51 "BeadParley" "signGrids" "[LBeadParley$Grid;", Cond.instanceMethod yX1_placesOf, Cond.initialized RX1, Cond.selects RX1 yX1_placesOf yX1_placesOf, Cond.code yX1_placesOf cX1_placesOf 5 (some .int), Cond.fieldLink RX1 19 "BeadParley$Grid" "rows" "I", Cond.fieldLink RX1 15 "BeadParley$Grid" "columns" "I", Cond.methodLink RX1 46 yX1_shows, Cond.instanceMethod yX1_shows]
def wsX2_story_r2 : List Cond := [Cond.selects RX1 yX1_shows yX1_shows, Cond.code yX1_shows cX1_shows 6 (some .boolean), Cond.methodLink RX1 42 yX1_colourAt, Cond.instanceMethod yX1_colourAt, Cond.selects RX1 yX1_colourAt yX1_colourAt, Cond.code yX1_colourAt cX1_colourAt 3 (some .int), Cond.fieldLink RX1 9 "BeadParley$Grid" "cells" "[I"]
def wsX2_story : List Cond := .code yX2_story cX2_story 2 (some .int) :: ((wsX2_story_r1 ++ wsX2_story_r2) ++ wsX20 ++ wsX10 ++ (vx_atS RX2 112 "java/lang/IndexOutOfBoundsException" ["java/lang/RuntimeException", "java/lang/Exception"]).filter goodWord)
def wsX2_hear_r1 : List Cond := [Cond.fieldLink RX2 57 "BeadParley" "heard" "[J", Cond.fieldLink RX2 35 "BeadParley" "beltPatterns" "[I", Cond.methodLink RX2 147 yX2_checkBelt, Cond.instanceMethod yX2_checkBelt, Cond.selects RX2 yX2_checkBelt yX2_checkBelt, Cond.initialized RX2, Cond.code yX2_checkBelt cX2_checkBelt 2 none, Cond.classLink RX2 108 "java/lang/IndexOutOfBoundsException", Cond.initialized "java/lang/IndexOutOfBoundsException", Cond.methodLink RX2 88 yX2_isBelt, Cond.instanceMethod yX2_isBelt, Cond.selects RX2 yX2_isBelt yX2_isBelt, Cond.code yX2_isBelt cX2_isBelt 2 (some .boolean), Cond.methodLink RX2 67 yX2_checkPerson, Cond.static yX2_checkPerson, Cond.code yX2_checkPerson cX2_checkPerson 1 none, Cond.methodLink RX2 199 yX2_storyOf, Cond.instanceMethod yX2_storyOf, Cond.selects RX2 yX2_storyOf yX2_storyOf, Cond.code yX2_storyOf cX2_storyOf 4 (some .int), Cond.fieldLink RX2 188 "BeadParley" "signCount" "I", Cond.fieldLink RX2 54 "BeadParley" "signWorths" "[I", Cond.fieldLink RX2 28 "BeadParley" "patternGrids" "[LBeadParley$Grid;", Cond.fieldLink RX2 51 "BeadParley" "signGrids" "[LBeadParley$Grid;"]
def wsX2_hear_r2 : List Cond := [Cond.instanceMethod yX1_placesOf, Cond.initialized RX1, Cond.selects RX1 yX1_placesOf yX1_placesOf, Cond.code yX1_placesOf cX1_placesOf 5 (some .int), Cond.fieldLink RX1 19 "BeadParley$Grid" "rows" "I", Cond.fieldLink RX1 15 "BeadParley$Grid" "columns" "I", Cond.methodLink RX1 46 yX1_shows, Cond.instanceMethod yX1_shows, Cond.selects RX1 yX1_shows yX1_shows, Cond.code yX1_shows cX1_shows 6 (some .boolean), Cond.methodLink RX1 42 yX1_colourAt, Cond.instanceMethod yX1_colourAt, Cond.selects RX1 yX1_colourAt yX1_colourAt, Cond.code yX1_colourAt cX1_colourAt 3 (some .int), Cond.fieldLink RX1 9 "BeadParley$Grid" "cells" "[I"]
def wsX2_hear : List Cond := .code yX2_hear cX2_hear 3 (some .long) :: ((wsX2_hear_r1 ++ wsX2_hear_r2) ++ wsX20 ++ wsX10 ++ (vx_atS RX2 112 "java/lang/IndexOutOfBoundsException" ["java/lang/RuntimeException", "java/lang/Exception"]).filter goodWord)
def wsX2_rankOf : List Cond := .code yX2_rankOf cX2_rankOf 4 (some .int) :: ([.fieldLink RX2 57 "BeadParley" "heard" "[J"] ++ wsX20)
def wsX2_ranked : List Cond := .code yX2_ranked cX2_ranked 3 (some .int) :: ([.classLink RX2 108 "java/lang/IndexOutOfBoundsException", .initialized "java/lang/IndexOutOfBoundsException", .methodLink RX2 204 yX2_rankOf, .instanceMethod yX2_rankOf, .selects RX2 yX2_rankOf yX2_rankOf, .initialized RX2, .code yX2_rankOf cX2_rankOf 4 (some .int), .fieldLink RX2 57 "BeadParley" "heard" "[J"] ++ wsX20 ++ (vx_atS RX2 112 "java/lang/IndexOutOfBoundsException" ["java/lang/RuntimeException", "java/lang/Exception"]).filter goodWord)
def wsJ9_max_7cf53 : List Cond := .code yJ9_max_7cf53 cJ9_max_7cf53 2 (some .int) :: ([])
def wsL_cell : List Cond := .code yL_cell cL_cell 2 (some .int) :: ([.constant RL 7 (1000308239), .constant RL 8 (751363413)])
def wsL_low : List Cond := .code yL_low cL_low 2 (some .int) :: ([.constant RL 9 (2147483647)])
def wsL_at : List Cond := .code yL_at cL_at 3 (some .int) :: ([])
def wsL_wide : List Cond := .code yL_wide cL_wide 1 (some .int) :: ([])
def wsL_high : List Cond := .code yL_high cL_high 1 (some .int) :: ([])
def wsL_put : List Cond := .code yL_put cL_put 5 (some .int) :: ([])
def wsL_empty : List Cond := .code yL_empty cL_empty 2 (some .int) :: ([])
def wsL_turned : List Cond := .code yL_turned cL_turned 4 (some .int) :: ([.methodLink RL 10 yL_high, .static yL_high, .initialized RL, .code yL_high cL_high 1 (some .int), .methodLink RL 16 yL_wide, .static yL_wide, .code yL_wide cL_wide 1 (some .int), .methodLink RL 19 yL_empty, .static yL_empty, .code yL_empty cL_empty 2 (some .int), .methodLink RL 23 yL_at, .static yL_at, .code yL_at cL_at 3 (some .int), .methodLink RL 27 yL_put, .static yL_put, .code yL_put cL_put 5 (some .int)])
def wsL_exchanged : List Cond := .code yL_exchanged cL_exchanged 4 (some .int) :: ([.methodLink RL 16 yL_wide, .static yL_wide, .initialized RL, .code yL_wide cL_wide 1 (some .int), .methodLink RL 10 yL_high, .static yL_high, .code yL_high cL_high 1 (some .int), .methodLink RL 19 yL_empty, .static yL_empty, .code yL_empty cL_empty 2 (some .int), .methodLink RL 23 yL_at, .static yL_at, .code yL_at cL_at 3 (some .int), .methodLink RL 27 yL_put, .static yL_put, .code yL_put cL_put 5 (some .int)])
def wsL_isImage : List Cond := .code yL_isImage cL_isImage 5 (some .boolean) :: ([.methodLink RL 31 yL_exchanged, .static yL_exchanged, .initialized RL, .code yL_exchanged cL_exchanged 4 (some .int), .methodLink RL 16 yL_wide, .static yL_wide, .code yL_wide cL_wide 1 (some .int), .methodLink RL 10 yL_high, .static yL_high, .code yL_high cL_high 1 (some .int), .methodLink RL 19 yL_empty, .static yL_empty, .code yL_empty cL_empty 2 (some .int), .methodLink RL 23 yL_at, .static yL_at, .code yL_at cL_at 3 (some .int), .methodLink RL 27 yL_put, .static yL_put, .code yL_put cL_put 5 (some .int), .methodLink RL 34 yL_turned, .static yL_turned, .code yL_turned cL_turned 4 (some .int)])
def wsL_needs : List Cond := .code yL_needs cL_needs 5 (some .int) :: ([.methodLink RL 16 yL_wide, .static yL_wide, .initialized RL, .code yL_wide cL_wide 1 (some .int), .methodLink RL 10 yL_high, .static yL_high, .code yL_high cL_high 1 (some .int), .methodLink RL 23 yL_at, .static yL_at, .code yL_at cL_at 3 (some .int)])
def wsL_stands : List Cond := .code yL_stands cL_stands 8 (some .int) :: ([.methodLink RL 16 yL_wide, .static yL_wide, .initialized RL, .code yL_wide cL_wide 1 (some .int), .methodLink RL 10 yL_high, .static yL_high, .code yL_high cL_high 1 (some .int), .methodLink RL 23 yL_at, .static yL_at, .code yL_at cL_at 3 (some .int)])
def wsL_chain : List Cond := .code yL_chain cL_chain 13 (some .int) :: ([])
def wsL_refused_r1 : List Cond := [Cond.classLink RL 57 "java/lang/IndexOutOfBoundsException", Cond.classLink RL 59 "java/lang/IllegalArgumentException", Cond.classLink RL 61 "java/lang/IllegalStateException", Cond.methodLink RL 37 yX2_weave, Cond.instanceMethod yX2_weave, Cond.selects RX2 yX2_weave yX2_weave, Cond.initialized RX2, Cond.code yX2_weave cX2_weave 6 (some .int), Cond.classLink RX2 79 "java/lang/IllegalStateException", Cond.initialized "java/lang/IllegalStateException", Cond.fieldLink RX2 28 "BeadParley" "patternGrids" "[LBeadParley$Grid;", Cond.fieldLink RX2 11 "BeadParley" "hands" "[[I", Cond.fieldLink RX2 35 "BeadParley" "beltPatterns" "[I", Cond.fieldLink RX2 38 "BeadParley" "beltOwners" "[I", Cond.fieldLink RX2 41 "BeadParley" "creditsOf" "[I", Cond.fieldLink RX2 32 "BeadParley" "patternAuthors" "[I", Cond.methodLink RX2 67 yX2_checkPerson, Cond.static yX2_checkPerson, Cond.code yX2_checkPerson cX2_checkPerson 1 none, Cond.classLink RX2 108 "java/lang/IndexOutOfBoundsException", Cond.initialized "java/lang/IndexOutOfBoundsException", Cond.methodLink RX2 130 yX2_checkPattern, Cond.instanceMethod yX2_checkPattern, Cond.selects RX2 yX2_checkPattern yX2_checkPattern]
def wsL_refused_r2 : List Cond := [Cond.code yX2_checkPattern cX2_checkPattern 2 none, Cond.fieldLink RX2 120 "BeadParley" "patternCount" "I", Cond.methodLink RX2 140 yX2_lowestFreeBelt, Cond.instanceMethod yX2_lowestFreeBelt, Cond.selects RX2 yX2_lowestFreeBelt yX2_lowestFreeBelt, Cond.code yX2_lowestFreeBelt cX2_lowestFreeBelt 2 (some .int), Cond.methodLink RX2 88 yX2_isBelt, Cond.instanceMethod yX2_isBelt, Cond.selects RX2 yX2_isBelt yX2_isBelt, Cond.code yX2_isBelt cX2_isBelt 2 (some .boolean), Cond.instanceMethod yX1_cellsOf, Cond.initialized RX1, Cond.selects RX1 yX1_cellsOf yX1_cellsOf, Cond.code yX1_cellsOf cX1_cellsOf 4 (some .int), Cond.fieldLink RX1 9 "BeadParley$Grid" "cells" "[I", Cond.methodLink RX1 34 yX1_size, Cond.instanceMethod yX1_size, Cond.selects RX1 yX1_size yX1_size, Cond.code yX1_size cX1_size 1 (some .int), Cond.fieldLink RX1 15 "BeadParley$Grid" "columns" "I", Cond.fieldLink RX1 19 "BeadParley$Grid" "rows" "I", Cond.methodLink RX2 137 yX2_originOf, Cond.instanceMethod yX2_originOf, Cond.selects RX2 yX2_originOf yX2_originOf]
def wsL_refused_r3 : List Cond := [Cond.code yX2_originOf cX2_originOf 4 (some .int), Cond.instanceMethod yX1_hasImage, Cond.selects RX1 yX1_hasImage yX1_hasImage, Cond.code yX1_hasImage cX1_hasImage 6 (some .boolean), Cond.methodLink RX1 38 yX1_colourInImage, Cond.instanceMethod yX1_colourInImage, Cond.selects RX1 yX1_colourInImage yX1_colourInImage, Cond.code yX1_colourInImage cX1_colourInImage 6 (some .int), Cond.methodLink RX1 42 yX1_colourAt, Cond.instanceMethod yX1_colourAt, Cond.selects RX1 yX1_colourAt yX1_colourAt, Cond.code yX1_colourAt cX1_colourAt 3 (some .int), Cond.methodLink RL 42 yX2_lay, Cond.instanceMethod yX2_lay, Cond.selects RX2 yX2_lay yX2_lay, Cond.code yX2_lay cX2_lay 6 (some .int), Cond.fieldLink RX2 14 "BeadParley" "stall" "[I", Cond.constant RX2 78 (100000), Cond.methodLink RX2 71 yX2_checkColour, Cond.static yX2_checkColour, Cond.code yX2_checkColour cX2_checkColour 1 none, Cond.methodLink RX2 74 yX2_checkRange, Cond.static yX2_checkRange, Cond.code yX2_checkRange cX2_checkRange 3 none]
def wsL_refused_r4 : List Cond := [Cond.classLink RX2 150 "java/lang/IllegalArgumentException", Cond.initialized "java/lang/IllegalArgumentException", Cond.methodLink RL 45 yX2_apart, Cond.instanceMethod yX2_apart, Cond.selects RX2 yX2_apart yX2_apart, Cond.code yX2_apart cX2_apart 5 (some .int), Cond.methodLink RX2 147 yX2_checkBelt, Cond.instanceMethod yX2_checkBelt, Cond.selects RX2 yX2_checkBelt yX2_checkBelt, Cond.code yX2_checkBelt cX2_checkBelt 2 none, Cond.methodLink RL 48 yX2_owner, Cond.instanceMethod yX2_owner, Cond.selects RX2 yX2_owner yX2_owner, Cond.code yX2_owner cX2_owner 2 (some .int), Cond.methodLink RL 51 yX2_chainAt, Cond.instanceMethod yX2_chainAt, Cond.selects RX2 yX2_chainAt yX2_chainAt, Cond.code yX2_chainAt cX2_chainAt 2 (some .int), Cond.fieldLink RX2 47 "BeadParley" "barter" "LBeadParley$Barter;", Cond.instanceMethod yX0_findBest, Cond.initialized RX0, Cond.selects RX0 yX0_findBest yX0_findBest, Cond.code yX0_findBest cX0_findBest 3 none, Cond.fieldLink RX0 42 "BeadParley$Barter" "bestLength" "I"]
def wsL_refused_r5 : List Cond := [Cond.fieldLink RX0 18 "BeadParley$Barter" "ready" "[Z", Cond.fieldLink RX0 22 "BeadParley$Barter" "row" "[I", Cond.methodLink RX0 38 yX0_markReady, Cond.instanceMethod yX0_markReady, Cond.selects RX0 yX0_markReady yX0_markReady, Cond.code yX0_markReady cX0_markReady 3 none, Cond.fieldLink RX0 9 "BeadParley$Barter" "gives" "[I", Cond.methodLink RX0 34 yX0_hasWish, Cond.instanceMethod yX0_hasWish, Cond.selects RX0 yX0_hasWish yX0_hasWish, Cond.code yX0_hasWish cX0_hasWish 2 (some .boolean), Cond.methodLink RX0 46 yX0_extend, Cond.static yX0_extend, Cond.code yX0_extend cX0_extend 5 none, Cond.fieldLink RX0 25 "BeadParley$Barter" "best" "[I", Cond.methodLink RX0 54 arraycopyName, Cond.native arraycopyName, Cond.static arraycopyName, Cond.initialized "java/lang/System", Cond.methodLink RX0 50 yX0_getsFrom, Cond.instanceMethod yX0_getsFrom, Cond.selects RX0 yX0_getsFrom yX0_getsFrom, Cond.code yX0_getsFrom cX0_getsFrom 3 (some .boolean), Cond.fieldLink RX0 15 "BeadParley$Barter" "wants" "[I"]
def wsL_refused_r6 : List Cond := [Cond.methodLink RX0 60 yX0_isInRow, Cond.instanceMethod yX0_isInRow, Cond.selects RX0 yX0_isInRow yX0_isInRow, Cond.code yX0_isInRow cX0_isInRow 4 (some .boolean), Cond.methodLink RL 54 yX2_bead, Cond.instanceMethod yX2_bead, Cond.selects RX2 yX2_bead yX2_bead, Cond.code yX2_bead cX2_bead 5 (some .int), Cond.fieldLink RX2 24 "BeadParley" "draftGrid" "LBeadParley$Grid;", Cond.instanceMethod yX1_hasCell, Cond.selects RX1 yX1_hasCell yX1_hasCell, Cond.code yX1_hasCell cX1_hasCell 3 (some .boolean), Cond.instanceMethod yX1_paint, Cond.selects RX1 yX1_paint yX1_paint, Cond.code yX1_paint cX1_paint 4 none]
def wsL_refused : List Cond := .codeWith yL_refused cL_refused 6 (some .int) [(0, 78, 79, 57), (0, 78, 83, 59), (0, 78, 87, 61)] :: ((wsL_refused_r1 ++ (wsL_refused_r2 ++ (wsL_refused_r3 ++ (wsL_refused_r4 ++ (wsL_refused_r5 ++ wsL_refused_r6))))) ++ wsX20 ++ wsX10 ++ wsX00 ++ (vx_atS RX2 83 "java/lang/IllegalStateException" ["java/lang/RuntimeException", "java/lang/Exception"]).filter goodWord ++ (vx_atS RX2 112 "java/lang/IndexOutOfBoundsException" ["java/lang/RuntimeException", "java/lang/Exception"]).filter goodWord ++ (vx_atS RX2 154 "java/lang/IllegalArgumentException" ["java/lang/RuntimeException", "java/lang/Exception"]).filter goodWord)
def wsL_grids_r1 : List Cond := [Cond.methodLink RL 34 yL_turned, Cond.static yL_turned, Cond.initialized RL, Cond.code yL_turned cL_turned 4 (some .int), Cond.methodLink RL 10 yL_high, Cond.static yL_high, Cond.code yL_high cL_high 1 (some .int), Cond.methodLink RL 16 yL_wide, Cond.static yL_wide, Cond.code yL_wide cL_wide 1 (some .int), Cond.methodLink RL 19 yL_empty, Cond.static yL_empty, Cond.code yL_empty cL_empty 2 (some .int), Cond.methodLink RL 23 yL_at, Cond.static yL_at, Cond.code yL_at cL_at 3 (some .int), Cond.methodLink RL 27 yL_put, Cond.static yL_put, Cond.code yL_put cL_put 5 (some .int), Cond.methodLink RL 31 yL_exchanged, Cond.static yL_exchanged, Cond.code yL_exchanged cL_exchanged 4 (some .int), Cond.methodLink RL 63 yL_stands, Cond.static yL_stands]
def wsL_grids_r2 : List Cond := [Cond.code yL_stands cL_stands 8 (some .int), Cond.methodLink RL 66 yX2_stands, Cond.instanceMethod yX2_stands, Cond.selects RX2 yX2_stands yX2_stands, Cond.initialized RX2, Cond.code yX2_stands cX2_stands 3 (some .int), Cond.classLink RX2 108 "java/lang/IndexOutOfBoundsException", Cond.initialized "java/lang/IndexOutOfBoundsException", Cond.fieldLink RX2 188 "BeadParley" "signCount" "I", Cond.fieldLink RX2 28 "BeadParley" "patternGrids" "[LBeadParley$Grid;", Cond.fieldLink RX2 51 "BeadParley" "signGrids" "[LBeadParley$Grid;", Cond.methodLink RX2 130 yX2_checkPattern, Cond.instanceMethod yX2_checkPattern, Cond.selects RX2 yX2_checkPattern yX2_checkPattern, Cond.code yX2_checkPattern cX2_checkPattern 2 none, Cond.fieldLink RX2 120 "BeadParley" "patternCount" "I", Cond.instanceMethod yX1_placesOf, Cond.initialized RX1, Cond.selects RX1 yX1_placesOf yX1_placesOf, Cond.code yX1_placesOf cX1_placesOf 5 (some .int), Cond.fieldLink RX1 19 "BeadParley$Grid" "rows" "I", Cond.fieldLink RX1 15 "BeadParley$Grid" "columns" "I", Cond.methodLink RX1 46 yX1_shows, Cond.instanceMethod yX1_shows]
def wsL_grids_r3 : List Cond := [Cond.selects RX1 yX1_shows yX1_shows, Cond.code yX1_shows cX1_shows 6 (some .boolean), Cond.methodLink RX1 42 yX1_colourAt, Cond.instanceMethod yX1_colourAt, Cond.selects RX1 yX1_colourAt yX1_colourAt, Cond.code yX1_colourAt cX1_colourAt 3 (some .int), Cond.fieldLink RX1 9 "BeadParley$Grid" "cells" "[I", Cond.methodLink RL 67 yX2_symmetries, Cond.instanceMethod yX2_symmetries, Cond.selects RX2 yX2_symmetries yX2_symmetries, Cond.code yX2_symmetries cX2_symmetries 3 (some .int), Cond.instanceMethod yX1_hasImage, Cond.selects RX1 yX1_hasImage yX1_hasImage, Cond.code yX1_hasImage cX1_hasImage 6 (some .boolean), Cond.methodLink RX1 38 yX1_colourInImage, Cond.instanceMethod yX1_colourInImage, Cond.selects RX1 yX1_colourInImage yX1_colourInImage, Cond.code yX1_colourInImage cX1_colourInImage 6 (some .int), Cond.methodLink RL 70 yX2_origin, Cond.instanceMethod yX2_origin, Cond.selects RX2 yX2_origin yX2_origin, Cond.code yX2_origin cX2_origin 2 (some .int), Cond.methodLink RX2 137 yX2_originOf, Cond.instanceMethod yX2_originOf]
def wsL_grids_r4 : List Cond := [Cond.selects RX2 yX2_originOf yX2_originOf, Cond.code yX2_originOf cX2_originOf 4 (some .int), Cond.methodLink RL 73 yX2_needs, Cond.instanceMethod yX2_needs, Cond.selects RX2 yX2_needs yX2_needs, Cond.code yX2_needs cX2_needs 3 (some .int), Cond.methodLink RX2 71 yX2_checkColour, Cond.static yX2_checkColour, Cond.code yX2_checkColour cX2_checkColour 1 none, Cond.instanceMethod yX1_cellsOf, Cond.selects RX1 yX1_cellsOf yX1_cellsOf, Cond.code yX1_cellsOf cX1_cellsOf 4 (some .int), Cond.methodLink RX1 34 yX1_size, Cond.instanceMethod yX1_size, Cond.selects RX1 yX1_size yX1_size, Cond.code yX1_size cX1_size 1 (some .int), Cond.methodLink RL 76 yL_needs, Cond.static yL_needs, Cond.code yL_needs cL_needs 5 (some .int), Cond.methodLink RL 77 yX2_story, Cond.instanceMethod yX2_story, Cond.selects RX2 yX2_story yX2_story, Cond.code yX2_story cX2_story 2 (some .int), Cond.methodLink RX2 199 yX2_storyOf]
def wsL_grids_r5 : List Cond := [Cond.instanceMethod yX2_storyOf, Cond.selects RX2 yX2_storyOf yX2_storyOf, Cond.code yX2_storyOf cX2_storyOf 4 (some .int), Cond.fieldLink RX2 54 "BeadParley" "signWorths" "[I", Cond.methodLink RL 80 yX2_patterns, Cond.instanceMethod yX2_patterns, Cond.selects RX2 yX2_patterns yX2_patterns, Cond.code yX2_patterns cX2_patterns 1 (some .int)]
def wsL_grids : List Cond := .code yL_grids cL_grids 11 (some .boolean) :: ((wsL_grids_r1 ++ (wsL_grids_r2 ++ (wsL_grids_r3 ++ (wsL_grids_r4 ++ wsL_grids_r5)))) ++ wsX20 ++ wsX10 ++ (vx_atS RX2 112 "java/lang/IndexOutOfBoundsException" ["java/lang/RuntimeException", "java/lang/Exception"]).filter goodWord)
def wsL_same_r1 : List Cond := [Cond.methodLink RL 84 yL_chain, Cond.static yL_chain, Cond.initialized RL, Cond.code yL_chain cL_chain 13 (some .int), Cond.methodLink RL 51 yX2_chainAt, Cond.instanceMethod yX2_chainAt, Cond.selects RX2 yX2_chainAt yX2_chainAt, Cond.initialized RX2, Cond.code yX2_chainAt cX2_chainAt 2 (some .int), Cond.classLink RX2 108 "java/lang/IndexOutOfBoundsException", Cond.initialized "java/lang/IndexOutOfBoundsException", Cond.fieldLink RX2 47 "BeadParley" "barter" "LBeadParley$Barter;", Cond.fieldLink RX2 11 "BeadParley" "hands" "[[I", Cond.instanceMethod yX0_findBest, Cond.initialized RX0, Cond.selects RX0 yX0_findBest yX0_findBest, Cond.code yX0_findBest cX0_findBest 3 none, Cond.fieldLink RX0 42 "BeadParley$Barter" "bestLength" "I", Cond.fieldLink RX0 18 "BeadParley$Barter" "ready" "[Z", Cond.fieldLink RX0 22 "BeadParley$Barter" "row" "[I", Cond.methodLink RX0 38 yX0_markReady, Cond.instanceMethod yX0_markReady, Cond.selects RX0 yX0_markReady yX0_markReady, Cond.code yX0_markReady cX0_markReady 3 none]
def wsL_same_r2 : List Cond := [Cond.fieldLink RX0 9 "BeadParley$Barter" "gives" "[I", Cond.methodLink RX0 34 yX0_hasWish, Cond.instanceMethod yX0_hasWish, Cond.selects RX0 yX0_hasWish yX0_hasWish, Cond.code yX0_hasWish cX0_hasWish 2 (some .boolean), Cond.methodLink RX0 46 yX0_extend, Cond.static yX0_extend, Cond.code yX0_extend cX0_extend 5 none, Cond.fieldLink RX0 25 "BeadParley$Barter" "best" "[I", Cond.methodLink RX0 54 arraycopyName, Cond.native arraycopyName, Cond.static arraycopyName, Cond.initialized "java/lang/System", Cond.methodLink RX0 50 yX0_getsFrom, Cond.instanceMethod yX0_getsFrom, Cond.selects RX0 yX0_getsFrom yX0_getsFrom, Cond.code yX0_getsFrom cX0_getsFrom 3 (some .boolean), Cond.fieldLink RX0 15 "BeadParley$Barter" "wants" "[I", Cond.methodLink RX0 60 yX0_isInRow, Cond.instanceMethod yX0_isInRow, Cond.selects RX0 yX0_isInRow yX0_isInRow, Cond.code yX0_isInRow cX0_isInRow 4 (some .boolean), Cond.methodLink RL 88 yX2_hand, Cond.instanceMethod yX2_hand]
def wsL_same_r3 : List Cond := [Cond.selects RX2 yX2_hand yX2_hand, Cond.code yX2_hand cX2_hand 3 (some .int), Cond.methodLink RX2 67 yX2_checkPerson, Cond.static yX2_checkPerson, Cond.code yX2_checkPerson cX2_checkPerson 1 none, Cond.methodLink RX2 71 yX2_checkColour, Cond.static yX2_checkColour, Cond.code yX2_checkColour cX2_checkColour 1 none, Cond.methodLink RL 76 yL_needs, Cond.static yL_needs, Cond.code yL_needs cL_needs 5 (some .int), Cond.methodLink RL 16 yL_wide, Cond.static yL_wide, Cond.code yL_wide cL_wide 1 (some .int), Cond.methodLink RL 10 yL_high, Cond.static yL_high, Cond.code yL_high cL_high 1 (some .int), Cond.methodLink RL 23 yL_at, Cond.static yL_at, Cond.code yL_at cL_at 3 (some .int), Cond.methodLink RL 91 yX2_beads, Cond.instanceMethod yX2_beads, Cond.selects RX2 yX2_beads yX2_beads, Cond.code yX2_beads cX2_beads 4 (some .int)]
def wsL_same_r4 : List Cond := [Cond.fieldLink RX2 14 "BeadParley" "stall" "[I", Cond.fieldLink RX2 28 "BeadParley" "patternGrids" "[LBeadParley$Grid;", Cond.fieldLink RX2 35 "BeadParley" "beltPatterns" "[I", Cond.methodLink RX2 88 yX2_isBelt, Cond.instanceMethod yX2_isBelt, Cond.selects RX2 yX2_isBelt yX2_isBelt, Cond.code yX2_isBelt cX2_isBelt 2 (some .boolean), Cond.instanceMethod yX1_cellsOf, Cond.initialized RX1, Cond.selects RX1 yX1_cellsOf yX1_cellsOf, Cond.code yX1_cellsOf cX1_cellsOf 4 (some .int), Cond.fieldLink RX1 9 "BeadParley$Grid" "cells" "[I", Cond.methodLink RX1 34 yX1_size, Cond.instanceMethod yX1_size, Cond.selects RX1 yX1_size yX1_size, Cond.code yX1_size cX1_size 1 (some .int), Cond.fieldLink RX1 15 "BeadParley$Grid" "columns" "I", Cond.fieldLink RX1 19 "BeadParley$Grid" "rows" "I", Cond.methodLink RL 94 yX2_brought, Cond.instanceMethod yX2_brought, Cond.selects RX2 yX2_brought yX2_brought, Cond.code yX2_brought cX2_brought 2 (some .int), Cond.fieldLink RX2 18 "BeadParley" "broughtSoFar" "[I", Cond.methodLink RL 97 yX2_credits]
def wsL_same_r5 : List Cond := [Cond.instanceMethod yX2_credits, Cond.selects RX2 yX2_credits yX2_credits, Cond.code yX2_credits cX2_credits 2 (some .int), Cond.fieldLink RX2 41 "BeadParley" "creditsOf" "[I", Cond.methodLink RL 100 yX2_ranked, Cond.instanceMethod yX2_ranked, Cond.selects RX2 yX2_ranked yX2_ranked, Cond.code yX2_ranked cX2_ranked 3 (some .int), Cond.methodLink RX2 204 yX2_rankOf, Cond.instanceMethod yX2_rankOf, Cond.selects RX2 yX2_rankOf yX2_rankOf, Cond.code yX2_rankOf cX2_rankOf 4 (some .int), Cond.fieldLink RX2 57 "BeadParley" "heard" "[J", Cond.methodLink RL 103 yL_refused, Cond.static yL_refused, Cond.codeWith yL_refused cL_refused 6 (some .int) [(0, 78, 79, 57), (0, 78, 83, 59), (0, 78, 87, 61)], Cond.classLink RL 57 "java/lang/IndexOutOfBoundsException", Cond.classLink RL 59 "java/lang/IllegalArgumentException", Cond.classLink RL 61 "java/lang/IllegalStateException", Cond.methodLink RL 37 yX2_weave, Cond.instanceMethod yX2_weave, Cond.selects RX2 yX2_weave yX2_weave, Cond.code yX2_weave cX2_weave 6 (some .int), Cond.classLink RX2 79 "java/lang/IllegalStateException"]
def wsL_same_r6 : List Cond := [Cond.initialized "java/lang/IllegalStateException", Cond.fieldLink RX2 38 "BeadParley" "beltOwners" "[I", Cond.fieldLink RX2 32 "BeadParley" "patternAuthors" "[I", Cond.methodLink RX2 130 yX2_checkPattern, Cond.instanceMethod yX2_checkPattern, Cond.selects RX2 yX2_checkPattern yX2_checkPattern, Cond.code yX2_checkPattern cX2_checkPattern 2 none, Cond.fieldLink RX2 120 "BeadParley" "patternCount" "I", Cond.methodLink RX2 140 yX2_lowestFreeBelt, Cond.instanceMethod yX2_lowestFreeBelt, Cond.selects RX2 yX2_lowestFreeBelt yX2_lowestFreeBelt, Cond.code yX2_lowestFreeBelt cX2_lowestFreeBelt 2 (some .int), Cond.methodLink RX2 137 yX2_originOf, Cond.instanceMethod yX2_originOf, Cond.selects RX2 yX2_originOf yX2_originOf, Cond.code yX2_originOf cX2_originOf 4 (some .int), Cond.instanceMethod yX1_hasImage, Cond.selects RX1 yX1_hasImage yX1_hasImage, Cond.code yX1_hasImage cX1_hasImage 6 (some .boolean), Cond.methodLink RX1 38 yX1_colourInImage, Cond.instanceMethod yX1_colourInImage, Cond.selects RX1 yX1_colourInImage yX1_colourInImage, Cond.code yX1_colourInImage cX1_colourInImage 6 (some .int), Cond.methodLink RX1 42 yX1_colourAt]
def wsL_same_r7 : List Cond := [Cond.instanceMethod yX1_colourAt, Cond.selects RX1 yX1_colourAt yX1_colourAt, Cond.code yX1_colourAt cX1_colourAt 3 (some .int), Cond.methodLink RL 42 yX2_lay, Cond.instanceMethod yX2_lay, Cond.selects RX2 yX2_lay yX2_lay, Cond.code yX2_lay cX2_lay 6 (some .int), Cond.constant RX2 78 (100000), Cond.methodLink RX2 74 yX2_checkRange, Cond.static yX2_checkRange, Cond.code yX2_checkRange cX2_checkRange 3 none, Cond.classLink RX2 150 "java/lang/IllegalArgumentException", Cond.initialized "java/lang/IllegalArgumentException", Cond.methodLink RL 45 yX2_apart, Cond.instanceMethod yX2_apart, Cond.selects RX2 yX2_apart yX2_apart, Cond.code yX2_apart cX2_apart 5 (some .int), Cond.methodLink RX2 147 yX2_checkBelt, Cond.instanceMethod yX2_checkBelt, Cond.selects RX2 yX2_checkBelt yX2_checkBelt, Cond.code yX2_checkBelt cX2_checkBelt 2 none, Cond.methodLink RL 48 yX2_owner, Cond.instanceMethod yX2_owner, Cond.selects RX2 yX2_owner yX2_owner]
def wsL_same_r8 : List Cond := [Cond.code yX2_owner cX2_owner 2 (some .int), Cond.methodLink RL 54 yX2_bead, Cond.instanceMethod yX2_bead, Cond.selects RX2 yX2_bead yX2_bead, Cond.code yX2_bead cX2_bead 5 (some .int), Cond.fieldLink RX2 24 "BeadParley" "draftGrid" "LBeadParley$Grid;", Cond.instanceMethod yX1_hasCell, Cond.selects RX1 yX1_hasCell yX1_hasCell, Cond.code yX1_hasCell cX1_hasCell 3 (some .boolean), Cond.instanceMethod yX1_paint, Cond.selects RX1 yX1_paint yX1_paint, Cond.code yX1_paint cX1_paint 4 none, Cond.methodLink RL 107 yX2_chain, Cond.instanceMethod yX2_chain, Cond.selects RX2 yX2_chain yX2_chain, Cond.code yX2_chain cX2_chain 1 (some .int), Cond.methodLink RL 109 yX2_chainByOrders, Cond.instanceMethod yX2_chainByOrders, Cond.selects RX2 yX2_chainByOrders yX2_chainByOrders, Cond.code yX2_chainByOrders cX2_chainByOrders 1 (some .int), Cond.instanceMethod yX0_longestByOrders, Cond.selects RX0 yX0_longestByOrders yX0_longestByOrders, Cond.code yX0_longestByOrders cX0_longestByOrders 6 (some .int), Cond.methodLink RX0 67 Lib.Math.max.name]
def wsL_same_r9 : List Cond := [Cond.static Lib.Math.max.name, Cond.initialized "java/lang/Math", Cond.code Lib.Math.max.name Lib.Math.max.code 2 (some .int), Cond.methodLink RX0 63 yX0_longestAtStartOfRow, Cond.instanceMethod yX0_longestAtStartOfRow, Cond.selects RX0 yX0_longestAtStartOfRow yX0_longestAtStartOfRow, Cond.code yX0_longestAtStartOfRow cX0_longestAtStartOfRow 4 (some .int), Cond.methodLink RX0 73 yX0_nextOrder, Cond.instanceMethod yX0_nextOrder, Cond.selects RX0 yX0_nextOrder yX0_nextOrder, Cond.code yX0_nextOrder cX0_nextOrder 6 (some .boolean), Cond.methodLink RX0 76 yX0_swap, Cond.instanceMethod yX0_swap, Cond.selects RX0 yX0_swap yX0_swap, Cond.code yX0_swap cX0_swap 4 none]
def wsL_same : List Cond := .code yL_same cL_same 13 (some .boolean) :: ((wsL_same_r1 ++ (wsL_same_r2 ++ (wsL_same_r3 ++ (wsL_same_r4 ++ (wsL_same_r5 ++ (wsL_same_r6 ++ (wsL_same_r7 ++ (wsL_same_r8 ++ wsL_same_r9)))))))) ++ wsX20 ++ wsX00 ++ wsX10 ++ (vx_atS RX2 112 "java/lang/IndexOutOfBoundsException" ["java/lang/RuntimeException", "java/lang/Exception"]).filter goodWord ++ (vx_atS RX2 83 "java/lang/IllegalStateException" ["java/lang/RuntimeException", "java/lang/Exception"]).filter goodWord ++ (vx_atS RX2 154 "java/lang/IllegalArgumentException" ["java/lang/RuntimeException", "java/lang/Exception"]).filter goodWord)
def wsL_law0_r1 : List Cond := [Cond.classLink RL 38 RX2, Cond.instantiable RX2 15, Cond.initialized RX2, Cond.arrayClass .int, Cond.arrayClass .long, Cond.methodLink RL 112 yX2_init, Cond.instanceMethod yX2_init, Cond.code yX2_init cX2_init 2 none, Cond.methodLink RX2 1 objectInit, Cond.instanceMethod objectInit, Cond.code objectInit ⟨#[0xb1]⟩ 1 none, Cond.classLink RX2 9 "[[I", Cond.fieldLink RX2 11 "BeadParley" "hands" "[[I", Cond.fieldLink RX2 14 "BeadParley" "stall" "[I", Cond.fieldLink RX2 18 "BeadParley" "broughtSoFar" "[I", Cond.classLink RX2 21 RX1, Cond.instantiable RX1 3, Cond.initialized RX1, Cond.fieldLink RX2 24 "BeadParley" "draftGrid" "LBeadParley$Grid;", Cond.fieldLink RX2 28 "BeadParley" "patternGrids" "[LBeadParley$Grid;", Cond.fieldLink RX2 32 "BeadParley" "patternAuthors" "[I", Cond.fieldLink RX2 35 "BeadParley" "beltPatterns" "[I", Cond.fieldLink RX2 38 "BeadParley" "beltOwners" "[I", Cond.fieldLink RX2 41 "BeadParley" "creditsOf" "[I"]
def wsL_law0_r2 : List Cond := [Cond.classLink RX2 44 RX0, Cond.instantiable RX0 6, Cond.initialized RX0, Cond.fieldLink RX2 47 "BeadParley" "barter" "LBeadParley$Barter;", Cond.fieldLink RX2 51 "BeadParley" "signGrids" "[LBeadParley$Grid;", Cond.fieldLink RX2 54 "BeadParley" "signWorths" "[I", Cond.fieldLink RX2 57 "BeadParley" "heard" "[J", Cond.instanceMethod yX1_init, Cond.code yX1_init cX1_init 1 none, Cond.methodLink RX1 3 objectInit, Cond.fieldLink RX1 9 "BeadParley$Grid" "cells" "[I", Cond.fieldLink RX1 15 "BeadParley$Grid" "columns" "I", Cond.fieldLink RX1 19 "BeadParley$Grid" "rows" "I", Cond.instanceMethod yX0_init, Cond.code yX0_init cX0_init 1 none, Cond.methodLink RX0 3 objectInit, Cond.fieldLink RX0 9 "BeadParley$Barter" "gives" "[I", Cond.fieldLink RX0 15 "BeadParley$Barter" "wants" "[I", Cond.arrayClass .boolean, Cond.fieldLink RX0 18 "BeadParley$Barter" "ready" "[Z", Cond.fieldLink RX0 22 "BeadParley$Barter" "row" "[I", Cond.fieldLink RX0 25 "BeadParley$Barter" "best" "[I", Cond.methodLink RX0 28 yJ7_fill_53178, Cond.static yJ7_fill_53178]
def wsL_law0_r3 : List Cond := [Cond.initialized RJ7, Cond.code yJ7_fill_53178 cJ7_fill_53178 4 none, Cond.methodLink RX2 61 yJ7_fill_53178, Cond.methodLink RL 19 yL_empty, Cond.static yL_empty, Cond.initialized RL, Cond.code yL_empty cL_empty 2 (some .int), Cond.methodLink RL 113 yL_cell, Cond.static yL_cell, Cond.code yL_cell cL_cell 2 (some .int), Cond.constant RL 7 (1000308239), Cond.constant RL 8 (751363413), Cond.methodLink RL 117 yL_low, Cond.static yL_low, Cond.code yL_low cL_low 2 (some .int), Cond.constant RL 9 (2147483647), Cond.methodLink RL 120 yX2_bring, Cond.instanceMethod yX2_bring, Cond.selects RX2 yX2_bring yX2_bring, Cond.code yX2_bring cX2_bring 5 (some .int), Cond.classLink RX2 79 "java/lang/IllegalStateException", Cond.initialized "java/lang/IllegalStateException", Cond.constant RX2 78 (100000), Cond.methodLink RX2 67 yX2_checkPerson]
def wsL_law0_r4 : List Cond := [Cond.static yX2_checkPerson, Cond.code yX2_checkPerson cX2_checkPerson 1 none, Cond.classLink RX2 108 "java/lang/IndexOutOfBoundsException", Cond.initialized "java/lang/IndexOutOfBoundsException", Cond.methodLink RX2 71 yX2_checkColour, Cond.static yX2_checkColour, Cond.code yX2_checkColour cX2_checkColour 1 none, Cond.methodLink RX2 74 yX2_checkRange, Cond.static yX2_checkRange, Cond.code yX2_checkRange cX2_checkRange 3 none, Cond.classLink RX2 150 "java/lang/IllegalArgumentException", Cond.initialized "java/lang/IllegalArgumentException", Cond.methodLink RL 103 yL_refused, Cond.static yL_refused, Cond.codeWith yL_refused cL_refused 6 (some .int) [(0, 78, 79, 57), (0, 78, 83, 59), (0, 78, 87, 61)], Cond.classLink RL 57 "java/lang/IndexOutOfBoundsException", Cond.classLink RL 59 "java/lang/IllegalArgumentException", Cond.classLink RL 61 "java/lang/IllegalStateException", Cond.methodLink RL 37 yX2_weave, Cond.instanceMethod yX2_weave, Cond.selects RX2 yX2_weave yX2_weave, Cond.code yX2_weave cX2_weave 6 (some .int), Cond.methodLink RX2 130 yX2_checkPattern, Cond.instanceMethod yX2_checkPattern]
def wsL_law0_r5 : List Cond := [Cond.selects RX2 yX2_checkPattern yX2_checkPattern, Cond.code yX2_checkPattern cX2_checkPattern 2 none, Cond.fieldLink RX2 120 "BeadParley" "patternCount" "I", Cond.methodLink RX2 140 yX2_lowestFreeBelt, Cond.instanceMethod yX2_lowestFreeBelt, Cond.selects RX2 yX2_lowestFreeBelt yX2_lowestFreeBelt, Cond.code yX2_lowestFreeBelt cX2_lowestFreeBelt 2 (some .int), Cond.methodLink RX2 88 yX2_isBelt, Cond.instanceMethod yX2_isBelt, Cond.selects RX2 yX2_isBelt yX2_isBelt, Cond.code yX2_isBelt cX2_isBelt 2 (some .boolean), Cond.instanceMethod yX1_cellsOf, Cond.selects RX1 yX1_cellsOf yX1_cellsOf, Cond.code yX1_cellsOf cX1_cellsOf 4 (some .int), Cond.methodLink RX1 34 yX1_size, Cond.instanceMethod yX1_size, Cond.selects RX1 yX1_size yX1_size, Cond.code yX1_size cX1_size 1 (some .int), Cond.methodLink RX2 137 yX2_originOf, Cond.instanceMethod yX2_originOf, Cond.selects RX2 yX2_originOf yX2_originOf, Cond.code yX2_originOf cX2_originOf 4 (some .int), Cond.instanceMethod yX1_hasImage, Cond.selects RX1 yX1_hasImage yX1_hasImage]
def wsL_law0_r6 : List Cond := [Cond.code yX1_hasImage cX1_hasImage 6 (some .boolean), Cond.methodLink RX1 38 yX1_colourInImage, Cond.instanceMethod yX1_colourInImage, Cond.selects RX1 yX1_colourInImage yX1_colourInImage, Cond.code yX1_colourInImage cX1_colourInImage 6 (some .int), Cond.methodLink RX1 42 yX1_colourAt, Cond.instanceMethod yX1_colourAt, Cond.selects RX1 yX1_colourAt yX1_colourAt, Cond.code yX1_colourAt cX1_colourAt 3 (some .int), Cond.methodLink RL 42 yX2_lay, Cond.instanceMethod yX2_lay, Cond.selects RX2 yX2_lay yX2_lay, Cond.code yX2_lay cX2_lay 6 (some .int), Cond.methodLink RL 45 yX2_apart, Cond.instanceMethod yX2_apart, Cond.selects RX2 yX2_apart yX2_apart, Cond.code yX2_apart cX2_apart 5 (some .int), Cond.methodLink RX2 147 yX2_checkBelt, Cond.instanceMethod yX2_checkBelt, Cond.selects RX2 yX2_checkBelt yX2_checkBelt, Cond.code yX2_checkBelt cX2_checkBelt 2 none, Cond.methodLink RL 48 yX2_owner, Cond.instanceMethod yX2_owner, Cond.selects RX2 yX2_owner yX2_owner]
def wsL_law0_r7 : List Cond := [Cond.code yX2_owner cX2_owner 2 (some .int), Cond.methodLink RL 51 yX2_chainAt, Cond.instanceMethod yX2_chainAt, Cond.selects RX2 yX2_chainAt yX2_chainAt, Cond.code yX2_chainAt cX2_chainAt 2 (some .int), Cond.instanceMethod yX0_findBest, Cond.selects RX0 yX0_findBest yX0_findBest, Cond.code yX0_findBest cX0_findBest 3 none, Cond.fieldLink RX0 42 "BeadParley$Barter" "bestLength" "I", Cond.methodLink RX0 38 yX0_markReady, Cond.instanceMethod yX0_markReady, Cond.selects RX0 yX0_markReady yX0_markReady, Cond.code yX0_markReady cX0_markReady 3 none, Cond.methodLink RX0 34 yX0_hasWish, Cond.instanceMethod yX0_hasWish, Cond.selects RX0 yX0_hasWish yX0_hasWish, Cond.code yX0_hasWish cX0_hasWish 2 (some .boolean), Cond.methodLink RX0 46 yX0_extend, Cond.static yX0_extend, Cond.code yX0_extend cX0_extend 5 none, Cond.methodLink RX0 54 arraycopyName, Cond.native arraycopyName, Cond.static arraycopyName, Cond.initialized "java/lang/System"]
def wsL_law0_r8 : List Cond := [Cond.methodLink RX0 50 yX0_getsFrom, Cond.instanceMethod yX0_getsFrom, Cond.selects RX0 yX0_getsFrom yX0_getsFrom, Cond.code yX0_getsFrom cX0_getsFrom 3 (some .boolean), Cond.methodLink RX0 60 yX0_isInRow, Cond.instanceMethod yX0_isInRow, Cond.selects RX0 yX0_isInRow yX0_isInRow, Cond.code yX0_isInRow cX0_isInRow 4 (some .boolean), Cond.methodLink RL 54 yX2_bead, Cond.instanceMethod yX2_bead, Cond.selects RX2 yX2_bead yX2_bead, Cond.code yX2_bead cX2_bead 5 (some .int), Cond.instanceMethod yX1_hasCell, Cond.selects RX1 yX1_hasCell yX1_hasCell, Cond.code yX1_hasCell cX1_hasCell 3 (some .boolean), Cond.instanceMethod yX1_paint, Cond.selects RX1 yX1_paint yX1_paint, Cond.code yX1_paint cX1_paint 4 none, Cond.methodLink RL 123 yX2_draft, Cond.instanceMethod yX2_draft, Cond.selects RX2 yX2_draft yX2_draft, Cond.code yX2_draft cX2_draft 3 (some .int), Cond.instanceMethod yX1_begin, Cond.selects RX1 yX1_begin yX1_begin]
def wsL_law0_r9 : List Cond := [Cond.code yX1_begin cX1_begin 3 none, Cond.methodLink RX1 22 yJ7_fill_53178, Cond.methodLink RL 16 yL_wide, Cond.static yL_wide, Cond.code yL_wide cL_wide 1 (some .int), Cond.methodLink RL 10 yL_high, Cond.static yL_high, Cond.code yL_high cL_high 1 (some .int), Cond.methodLink RL 23 yL_at, Cond.static yL_at, Cond.code yL_at cL_at 3 (some .int), Cond.methodLink RL 27 yL_put, Cond.static yL_put, Cond.code yL_put cL_put 5 (some .int), Cond.methodLink RL 126 yL_isImage, Cond.static yL_isImage, Cond.code yL_isImage cL_isImage 5 (some .boolean), Cond.methodLink RL 31 yL_exchanged, Cond.static yL_exchanged, Cond.code yL_exchanged cL_exchanged 4 (some .int), Cond.methodLink RL 34 yL_turned, Cond.static yL_turned, Cond.code yL_turned cL_turned 4 (some .int), Cond.methodLink RL 130 yX2_pattern]
def wsL_law0_r10 : List Cond := [Cond.instanceMethod yX2_pattern, Cond.selects RX2 yX2_pattern yX2_pattern, Cond.code yX2_pattern cX2_pattern 3 (some .int), Cond.instanceMethod yX1_copyFrom, Cond.selects RX1 yX1_copyFrom yX1_copyFrom, Cond.code yX1_copyFrom cX1_copyFrom 2 none, Cond.methodLink RX1 28 arraycopyName, Cond.methodLink RL 133 yX2_sign, Cond.instanceMethod yX2_sign, Cond.selects RX2 yX2_sign yX2_sign, Cond.code yX2_sign cX2_sign 3 (some .int), Cond.fieldLink RX2 188 "BeadParley" "signCount" "I", Cond.methodLink RL 76 yL_needs, Cond.static yL_needs, Cond.code yL_needs cL_needs 5 (some .int), Cond.methodLink RL 136 yX2_give, Cond.instanceMethod yX2_give, Cond.selects RX2 yX2_give yX2_give, Cond.code yX2_give cX2_give 4 (some .int), Cond.methodLink RL 63 yL_stands, Cond.static yL_stands, Cond.code yL_stands cL_stands 8 (some .int), Cond.methodLink RL 139 yX2_hear, Cond.instanceMethod yX2_hear]
def wsL_law0_r11 : List Cond := [Cond.selects RX2 yX2_hear yX2_hear, Cond.code yX2_hear cX2_hear 3 (some .long), Cond.methodLink RX2 199 yX2_storyOf, Cond.instanceMethod yX2_storyOf, Cond.selects RX2 yX2_storyOf yX2_storyOf, Cond.code yX2_storyOf cX2_storyOf 4 (some .int), Cond.instanceMethod yX1_placesOf, Cond.selects RX1 yX1_placesOf yX1_placesOf, Cond.code yX1_placesOf cX1_placesOf 5 (some .int), Cond.methodLink RX1 46 yX1_shows, Cond.instanceMethod yX1_shows, Cond.selects RX1 yX1_shows yX1_shows, Cond.code yX1_shows cX1_shows 6 (some .boolean), Cond.methodLink RL 143 yX2_unwish, Cond.instanceMethod yX2_unwish, Cond.selects RX2 yX2_unwish yX2_unwish, Cond.code yX2_unwish cX2_unwish 3 (some .boolean), Cond.instanceMethod yX0_setWish, Cond.selects RX0 yX0_setWish yX0_setWish, Cond.code yX0_setWish cX0_setWish 4 none, Cond.methodLink RL 147 yX2_wish, Cond.instanceMethod yX2_wish, Cond.selects RX2 yX2_wish yX2_wish, Cond.code yX2_wish cX2_wish 5 (some .boolean)]
def wsL_law0_r12 : List Cond := [Cond.methodLink RL 84 yL_chain, Cond.static yL_chain, Cond.code yL_chain cL_chain 13 (some .int), Cond.methodLink RL 151 yX2_fair, Cond.instanceMethod yX2_fair, Cond.selects RX2 yX2_fair yX2_fair, Cond.code yX2_fair cX2_fair 1 (some .int), Cond.instanceMethod yX0_exchange, Cond.selects RX0 yX0_exchange yX0_exchange, Cond.code yX0_exchange cX0_exchange 5 none, Cond.methodLink RL 154 yL_grids, Cond.static yL_grids, Cond.code yL_grids cL_grids 11 (some .boolean), Cond.methodLink RL 66 yX2_stands, Cond.instanceMethod yX2_stands, Cond.selects RX2 yX2_stands yX2_stands, Cond.code yX2_stands cX2_stands 3 (some .int), Cond.methodLink RL 67 yX2_symmetries, Cond.instanceMethod yX2_symmetries, Cond.selects RX2 yX2_symmetries yX2_symmetries, Cond.code yX2_symmetries cX2_symmetries 3 (some .int), Cond.methodLink RL 70 yX2_origin, Cond.instanceMethod yX2_origin, Cond.selects RX2 yX2_origin yX2_origin]
def wsL_law0_r13 : List Cond := [Cond.code yX2_origin cX2_origin 2 (some .int), Cond.methodLink RL 73 yX2_needs, Cond.instanceMethod yX2_needs, Cond.selects RX2 yX2_needs yX2_needs, Cond.code yX2_needs cX2_needs 3 (some .int), Cond.methodLink RL 77 yX2_story, Cond.instanceMethod yX2_story, Cond.selects RX2 yX2_story yX2_story, Cond.code yX2_story cX2_story 2 (some .int), Cond.methodLink RL 80 yX2_patterns, Cond.instanceMethod yX2_patterns, Cond.selects RX2 yX2_patterns yX2_patterns, Cond.code yX2_patterns cX2_patterns 1 (some .int), Cond.methodLink RL 158 yL_same, Cond.static yL_same, Cond.code yL_same cL_same 13 (some .boolean), Cond.methodLink RL 88 yX2_hand, Cond.instanceMethod yX2_hand, Cond.selects RX2 yX2_hand yX2_hand, Cond.code yX2_hand cX2_hand 3 (some .int), Cond.methodLink RL 91 yX2_beads, Cond.instanceMethod yX2_beads, Cond.selects RX2 yX2_beads yX2_beads, Cond.code yX2_beads cX2_beads 4 (some .int)]
def wsL_law0_r14 : List Cond := [Cond.methodLink RL 94 yX2_brought, Cond.instanceMethod yX2_brought, Cond.selects RX2 yX2_brought yX2_brought, Cond.code yX2_brought cX2_brought 2 (some .int), Cond.methodLink RL 97 yX2_credits, Cond.instanceMethod yX2_credits, Cond.selects RX2 yX2_credits yX2_credits, Cond.code yX2_credits cX2_credits 2 (some .int), Cond.methodLink RL 100 yX2_ranked, Cond.instanceMethod yX2_ranked, Cond.selects RX2 yX2_ranked yX2_ranked, Cond.code yX2_ranked cX2_ranked 3 (some .int), Cond.methodLink RX2 204 yX2_rankOf, Cond.instanceMethod yX2_rankOf, Cond.selects RX2 yX2_rankOf yX2_rankOf, Cond.code yX2_rankOf cX2_rankOf 4 (some .int), Cond.methodLink RL 107 yX2_chain, Cond.instanceMethod yX2_chain, Cond.selects RX2 yX2_chain yX2_chain, Cond.code yX2_chain cX2_chain 1 (some .int), Cond.methodLink RL 109 yX2_chainByOrders, Cond.instanceMethod yX2_chainByOrders, Cond.selects RX2 yX2_chainByOrders yX2_chainByOrders, Cond.code yX2_chainByOrders cX2_chainByOrders 1 (some .int)]
def wsL_law0_r15 : List Cond := [Cond.instanceMethod yX0_longestByOrders, Cond.selects RX0 yX0_longestByOrders yX0_longestByOrders, Cond.code yX0_longestByOrders cX0_longestByOrders 6 (some .int), Cond.methodLink RX0 67 Lib.Math.max.name, Cond.static Lib.Math.max.name, Cond.initialized "java/lang/Math", Cond.code Lib.Math.max.name Lib.Math.max.code 2 (some .int), Cond.methodLink RX0 63 yX0_longestAtStartOfRow, Cond.instanceMethod yX0_longestAtStartOfRow, Cond.selects RX0 yX0_longestAtStartOfRow yX0_longestAtStartOfRow, Cond.code yX0_longestAtStartOfRow cX0_longestAtStartOfRow 4 (some .int), Cond.methodLink RX0 73 yX0_nextOrder, Cond.instanceMethod yX0_nextOrder, Cond.selects RX0 yX0_nextOrder yX0_nextOrder, Cond.code yX0_nextOrder cX0_nextOrder 6 (some .boolean), Cond.methodLink RX0 76 yX0_swap, Cond.instanceMethod yX0_swap, Cond.selects RX0 yX0_swap yX0_swap, Cond.code yX0_swap cX0_swap 4 none]
def wsL_law0 : List Cond := (wsL_law0_r1 ++ (wsL_law0_r2 ++ (wsL_law0_r3 ++ (wsL_law0_r4 ++ (wsL_law0_r5 ++ (wsL_law0_r6 ++ (wsL_law0_r7 ++ (wsL_law0_r8 ++ (wsL_law0_r9 ++ (wsL_law0_r10 ++ (wsL_law0_r11 ++ (wsL_law0_r12 ++ (wsL_law0_r13 ++ (wsL_law0_r14 ++ wsL_law0_r15)))))))))))))) ++ wsX20 ++ wsX10 ++ wsX00 ++ ([] : List Cond)
def wsL_law : List Cond := wsL_law0 ++ (vx_atS RX2 83 "java/lang/IllegalStateException" ["java/lang/RuntimeException", "java/lang/Exception"]).filter goodWord ++ (vx_atS RX2 112 "java/lang/IndexOutOfBoundsException" ["java/lang/RuntimeException", "java/lang/Exception"]).filter goodWord ++ (vx_atS RX2 154 "java/lang/IllegalArgumentException" ["java/lang/RuntimeException", "java/lang/Exception"]).filter goodWord
set_option maxRecDepth 20000 in
theorem wsL_law0_r1_g : GoodIn lw_tbl wsL_law0_r1 := goodIn_r _ [43, 44, 31, 71, 151, 45, 46, 47, 48, 49, 50, 51, 105, 106, 107, 53, 54, 32, 108, 109, 110, 112, 113, 114] (by decide +kernel) (by decide +kernel)
theorem wsL_law0_r2_g : GoodIn lw_tbl wsL_law0_r2 := goodIn_r _ [73, 74, 33, 115, 116, 117, 119, 56, 57, 58, 59, 60, 62, 76, 77, 78, 82, 83, 103, 84, 85, 86, 79, 80] (by decide +kernel) (by decide +kernel)
theorem wsL_law0_r3_g : GoodIn lw_tbl wsL_law0_r3 := goodIn_r _ [34, 81, 104, 453, 454, 30, 455, 432, 433, 434, 435, 436, 437, 438, 439, 440, 152, 153, 154, 155, 251, 40, 250, 156] (by decide +kernel) (by decide +kernel)
theorem wsL_law0_r4_g : GoodIn lw_tbl wsL_law0_r4 := goodIn_r _ [157, 158, 159, 38, 227, 228, 229, 231, 232, 233, 234, 39, 474, 475, 476, 477, 478, 479, 314, 315, 316, 317, 318, 320] (by decide +kernel) (by decide +kernel)
theorem wsL_law0_r5_g : GoodIn lw_tbl wsL_law0_r5 := goodIn_r _ [7, 321, 111, 323, 325, 8, 326, 327, 329, 9, 330, 334, 10, 335, 336, 283, 2, 284, 338, 340, 11, 341, 344, 12] (by decide +kernel) (by decide +kernel)
theorem wsL_law0_r6_g : GoodIn lw_tbl wsL_law0_r6 := goodIn_r _ [345, 346, 348, 13, 349, 350, 296, 4, 297, 267, 268, 269, 270, 351, 352, 353, 354, 355, 357, 14, 358, 480, 481, 482] (by decide +kernel) (by decide +kernel)
theorem wsL_law0_r7_g : GoodIn lw_tbl wsL_law0_r7 := goodIn_r _ [483, 484, 485, 486, 487, 387, 17, 388, 88, 389, 391, 18, 392, 393, 371, 15, 372, 394, 395, 396, 401, 313, 312, 41] (by decide +kernel) (by decide +kernel)
theorem wsL_law0_r8_g : GoodIn lw_tbl wsL_law0_r8 := goodIn_r _ [397, 399, 19, 400, 402, 404, 20, 405, 285, 286, 287, 288, 291, 3, 292, 300, 5, 301, 272, 273, 274, 275, 278, 1] (by decide +kernel) (by decide +kernel)
theorem wsL_law0_r9_g : GoodIn lw_tbl wsL_law0_r9 := goodIn_r _ [279, 280, 444, 445, 446, 447, 448, 449, 441, 442, 443, 450, 451, 452, 456, 457, 458, 459, 460, 461, 462, 463, 464, 302] (by decide +kernel) (by decide +kernel)
theorem wsL_law0_r10_g : GoodIn lw_tbl wsL_law0_r10 := goodIn_r _ [303, 304, 305, 309, 6, 310, 311, 410, 411, 412, 413, 118, 465, 466, 467, 360, 361, 362, 363, 468, 469, 470, 416, 417] (by decide +kernel) (by decide +kernel)
theorem wsL_law0_r11_g : GoodIn lw_tbl wsL_law0_r11 := goodIn_r _ [418, 419, 420, 422, 22, 423, 426, 23, 427, 428, 430, 24, 431, 377, 378, 379, 380, 375, 16, 376, 364, 365, 366, 367] (by decide +kernel) (by decide +kernel)
theorem wsL_law0_r12_g : GoodIn lw_tbl wsL_law0_r12 := goodIn_r _ [471, 472, 473, 381, 382, 383, 384, 408, 21, 409, 489, 490, 491, 492, 493, 494, 495, 497, 498, 499, 500, 501, 502, 503] (by decide +kernel) (by decide +kernel)
theorem wsL_law0_r13_g : GoodIn lw_tbl wsL_law0_r13 := goodIn_r _ [504, 505, 506, 507, 508, 509, 510, 511, 512, 513, 514, 515, 516, 517, 518, 519, 520, 521, 522, 523, 524, 525, 526, 527] (by decide +kernel) (by decide +kernel)
theorem wsL_law0_r14_g : GoodIn lw_tbl wsL_law0_r14 := goodIn_r _ [528, 529, 530, 531, 532, 533, 534, 535, 536, 537, 538, 539, 541, 543, 25, 544, 545, 546, 547, 548, 549, 550, 551, 552] (by decide +kernel) (by decide +kernel)
theorem wsL_law0_r15_g : GoodIn lw_tbl wsL_law0_r15 := goodIn_r _ [555, 26, 556, 561, 562, 42, 563, 557, 559, 27, 560, 564, 566, 28, 567, 568, 570, 29, 571] (by decide +kernel) (by decide +kernel)
theorem wsX20_g : GoodIn lw_tbl wsX20 := goodIn_sub (by decide +kernel) (by decide +kernel)
theorem wsX10_g : GoodIn lw_tbl wsX10 := goodIn_sub (by decide +kernel) (by decide +kernel)
theorem wsX00_g : GoodIn lw_tbl wsX00 := goodIn_sub (by decide +kernel) (by decide +kernel)
theorem wsL_law_in0 : ∀ w ∈ wsL_law0, w ∈ lw_tbl := fun w h => ((goodIn_app (goodIn_app (goodIn_app (goodIn_app (goodIn_app wsL_law0_r1_g (goodIn_app wsL_law0_r2_g (goodIn_app wsL_law0_r3_g (goodIn_app wsL_law0_r4_g (goodIn_app wsL_law0_r5_g (goodIn_app wsL_law0_r6_g (goodIn_app wsL_law0_r7_g (goodIn_app wsL_law0_r8_g (goodIn_app wsL_law0_r9_g (goodIn_app wsL_law0_r10_g (goodIn_app wsL_law0_r11_g (goodIn_app wsL_law0_r12_g (goodIn_app wsL_law0_r13_g (goodIn_app wsL_law0_r14_g (wsL_law0_r15_g))))))))))))))) wsX20_g) wsX10_g) wsX00_g) (fun _ h => nomatch h) : GoodIn lw_tbl wsL_law0) w h).1
theorem wsL_law_x0 : ∀ w ∈ (vx_atS RX2 83 "java/lang/IllegalStateException" ["java/lang/RuntimeException", "java/lang/Exception"]).filter goodWord, w ∈ lw_tbl := by decide +kernel
theorem wsL_law_x1 : ∀ w ∈ (vx_atS RX2 112 "java/lang/IndexOutOfBoundsException" ["java/lang/RuntimeException", "java/lang/Exception"]).filter goodWord, w ∈ lw_tbl := by decide +kernel
theorem wsL_law_x2 : ∀ w ∈ (vx_atS RX2 154 "java/lang/IllegalArgumentException" ["java/lang/RuntimeException", "java/lang/Exception"]).filter goodWord, w ∈ lw_tbl := by decide +kernel
theorem wsL_law_in : ∀ w ∈ wsL_law, w ∈ lw_tbl := fun w h => (List.mem_append.mp h).elim (fun h => (List.mem_append.mp h).elim (fun h => (List.mem_append.mp h).elim (fun h => wsL_law_in0 w h) (fun h => wsL_law_x0 w h)) (fun h => wsL_law_x1 w h)) (fun h => wsL_law_x2 w h)
theorem inlX0 : ∀ w ∈ wsX00, w ∈ wsL_law := fun _ h => List.mem_append_left _ (List.mem_append_left _ (List.mem_append_left _ (List.mem_append_left _ (List.mem_append_right _ h))))
theorem inX0 : ∀ w ∈ wsX00, w ∈ lw_tbl := fun w h => wsL_law_in w (inlX0 w h)
theorem inlX1 : ∀ w ∈ wsX10, w ∈ wsL_law := fun _ h => List.mem_append_left _ (List.mem_append_left _ (List.mem_append_left _ (List.mem_append_left _ (List.mem_append_left _ (List.mem_append_right _ h)))))
theorem inX1 : ∀ w ∈ wsX10, w ∈ lw_tbl := fun w h => wsL_law_in w (inlX1 w h)
theorem inlX2 : ∀ w ∈ wsX20, w ∈ wsL_law := fun _ h => List.mem_append_left _ (List.mem_append_left _ (List.mem_append_left _ (List.mem_append_left _ (List.mem_append_left _ (List.mem_append_left _ (List.mem_append_right _ h))))))
theorem inX2 : ∀ w ∈ wsX20, w ∈ lw_tbl := fun w h => wsL_law_in w (inlX2 w h)
theorem inX3 : ∀ w ∈ wsX30, w ∈ lw_tbl := by decide +kernel
theorem inJx145de : ∀ w ∈ wsJx145de0, w ∈ lw_tbl := by decide +kernel
theorem inJ9 : ∀ w ∈ wsJ90, w ∈ lw_tbl := by decide +kernel
theorem inJ0 : ∀ w ∈ wsJ00, w ∈ lw_tbl := by decide +kernel
theorem inJ10 : ∀ w ∈ wsJ100, w ∈ lw_tbl := by decide +kernel
theorem inJ7 : ∀ w ∈ wsJ70, w ∈ lw_tbl := by decide +kernel
set_option maxRecDepth 20000 in
theorem ggX0_init_J7_fill_53178 : GoodIn wsX0_init wsJ7_fill_53178 := goodIn_r _ [14] (by decide +kernel) (by decide +kernel)
set_option maxRecDepth 20000 in
theorem gX0_init_J7_fill_53178 : GoodIn wsX0_init (va_wsS RX0 28 yJ7_fill_53178 wsJ7_fill_53178) := goodIn_app (goodIn_of _ (by decide +kernel)) ggX0_init_J7_fill_53178
theorem dX0_init_0 : decode cX0_init 0 = .ok (.aload_n 0, 1) := by decide +kernel
theorem dX0_init_1 : decode cX0_init 1 = .ok (.invokespecial 3, 3) := by decide +kernel
theorem dX0_init_4 : decode cX0_init 4 = .ok (.aload_n 0, 1) := by decide +kernel
theorem dX0_init_5 : decode cX0_init 5 = .ok (.bipush 7, 2) := by decide +kernel
theorem dX0_init_7 : decode cX0_init 7 = .ok (.newarray .int, 2) := by decide +kernel
theorem dX0_init_9 : decode cX0_init 9 = .ok (.putfield 9, 3) := by decide +kernel
theorem dX0_init_12 : decode cX0_init 12 = .ok (.aload_n 0, 1) := by decide +kernel
theorem dX0_init_13 : decode cX0_init 13 = .ok (.bipush 7, 2) := by decide +kernel
theorem dX0_init_15 : decode cX0_init 15 = .ok (.newarray .int, 2) := by decide +kernel
theorem dX0_init_17 : decode cX0_init 17 = .ok (.putfield 15, 3) := by decide +kernel
theorem dX0_init_20 : decode cX0_init 20 = .ok (.aload_n 0, 1) := by decide +kernel
theorem dX0_init_21 : decode cX0_init 21 = .ok (.bipush 7, 2) := by decide +kernel
theorem dX0_init_23 : decode cX0_init 23 = .ok (.newarray .boolean, 2) := by decide +kernel
theorem dX0_init_25 : decode cX0_init 25 = .ok (.putfield 18, 3) := by decide +kernel
theorem dX0_init_28 : decode cX0_init 28 = .ok (.aload_n 0, 1) := by decide +kernel
theorem dX0_init_29 : decode cX0_init 29 = .ok (.bipush 7, 2) := by decide +kernel
theorem dX0_init_31 : decode cX0_init 31 = .ok (.newarray .int, 2) := by decide +kernel
theorem dX0_init_33 : decode cX0_init 33 = .ok (.putfield 22, 3) := by decide +kernel
theorem dX0_init_36 : decode cX0_init 36 = .ok (.aload_n 0, 1) := by decide +kernel
theorem dX0_init_37 : decode cX0_init 37 = .ok (.bipush 7, 2) := by decide +kernel
theorem dX0_init_39 : decode cX0_init 39 = .ok (.newarray .int, 2) := by decide +kernel
theorem dX0_init_41 : decode cX0_init 41 = .ok (.putfield 25, 3) := by decide +kernel
theorem dX0_init_44 : decode cX0_init 44 = .ok (.aload_n 0, 1) := by decide +kernel
theorem dX0_init_45 : decode cX0_init 45 = .ok (.getfield 9, 3) := by decide +kernel
theorem dX0_init_48 : decode cX0_init 48 = .ok (.iconst (-1), 1) := by decide +kernel
theorem dX0_init_49 : decode cX0_init 49 = .ok (.invokestatic 28, 3) := by decide +kernel
theorem dX0_init_52 : decode cX0_init 52 = .ok (.aload_n 0, 1) := by decide +kernel
theorem dX0_init_53 : decode cX0_init 53 = .ok (.getfield 15, 3) := by decide +kernel
theorem dX0_init_56 : decode cX0_init 56 = .ok (.iconst (-1), 1) := by decide +kernel
theorem dX0_init_57 : decode cX0_init 57 = .ok (.invokestatic 28, 3) := by decide +kernel
theorem dX0_init_60 : decode cX0_init 60 = .ok (.return_, 1) := by decide +kernel
theorem dX0_hasWish_0 : decode cX0_hasWish 0 = .ok (.aload_n 0, 1) := by decide +kernel
theorem dX0_hasWish_1 : decode cX0_hasWish 1 = .ok (.getfield 9, 3) := by decide +kernel
theorem dX0_hasWish_4 : decode cX0_hasWish 4 = .ok (.iload_n 1, 1) := by decide +kernel
theorem dX0_hasWish_5 : decode cX0_hasWish 5 = .ok (.iaload, 1) := by decide +kernel
theorem dX0_hasWish_6 : decode cX0_hasWish 6 = .ok (.iconst (-1), 1) := by decide +kernel
theorem dX0_hasWish_7 : decode cX0_hasWish 7 = .ok (.if_icmp .eq 7, 3) := by decide +kernel
theorem dX0_hasWish_10 : decode cX0_hasWish 10 = .ok (.iconst 1, 1) := by decide +kernel
theorem dX0_hasWish_11 : decode cX0_hasWish 11 = .ok (.goto 4, 3) := by decide +kernel
theorem dX0_hasWish_14 : decode cX0_hasWish 14 = .ok (.iconst 0, 1) := by decide +kernel
theorem dX0_hasWish_15 : decode cX0_hasWish 15 = .ok (.ireturn, 1) := by decide +kernel
theorem dX0_setWish_0 : decode cX0_setWish 0 = .ok (.aload_n 0, 1) := by decide +kernel
theorem dX0_setWish_1 : decode cX0_setWish 1 = .ok (.getfield 9, 3) := by decide +kernel
theorem dX0_setWish_4 : decode cX0_setWish 4 = .ok (.iload_n 1, 1) := by decide +kernel
theorem dX0_setWish_5 : decode cX0_setWish 5 = .ok (.iload_n 2, 1) := by decide +kernel
theorem dX0_setWish_6 : decode cX0_setWish 6 = .ok (.iastore, 1) := by decide +kernel
theorem dX0_setWish_7 : decode cX0_setWish 7 = .ok (.aload_n 0, 1) := by decide +kernel
theorem dX0_setWish_8 : decode cX0_setWish 8 = .ok (.getfield 15, 3) := by decide +kernel
theorem dX0_setWish_11 : decode cX0_setWish 11 = .ok (.iload_n 1, 1) := by decide +kernel
theorem dX0_setWish_12 : decode cX0_setWish 12 = .ok (.iload_n 3, 1) := by decide +kernel
theorem dX0_setWish_13 : decode cX0_setWish 13 = .ok (.iastore, 1) := by decide +kernel
theorem dX0_setWish_14 : decode cX0_setWish 14 = .ok (.return_, 1) := by decide +kernel
set_option maxRecDepth 20000 in
theorem ggX0_markReady_X0_hasWish : GoodIn wsX0_markReady wsX0_hasWish := goodIn_r _ [7, 2, 8, 9, 10, 11, 12, 13] (by decide +kernel) (by decide +kernel)
set_option maxRecDepth 20000 in
theorem gX0_markReady_X0_hasWish : GoodIn wsX0_markReady (wsV RX0 34 RX0 yX0_hasWish wsX0_hasWish) := goodIn_app (goodIn_of _ (by decide +kernel)) ggX0_markReady_X0_hasWish
theorem dX0_markReady_0 : decode cX0_markReady 0 = .ok (.iconst 0, 1) := by decide +kernel
theorem dX0_markReady_1 : decode cX0_markReady 1 = .ok (.istore_n 2, 1) := by decide +kernel
theorem dX0_markReady_2 : decode cX0_markReady 2 = .ok (.iload_n 2, 1) := by decide +kernel
theorem dX0_markReady_3 : decode cX0_markReady 3 = .ok (.bipush 7, 2) := by decide +kernel
theorem dX0_markReady_5 : decode cX0_markReady 5 = .ok (.if_icmp .ge 41, 3) := by decide +kernel
theorem dX0_markReady_8 : decode cX0_markReady 8 = .ok (.aload_n 0, 1) := by decide +kernel
theorem dX0_markReady_9 : decode cX0_markReady 9 = .ok (.getfield 18, 3) := by decide +kernel
theorem dX0_markReady_12 : decode cX0_markReady 12 = .ok (.iload_n 2, 1) := by decide +kernel
theorem dX0_markReady_13 : decode cX0_markReady 13 = .ok (.aload_n 0, 1) := by decide +kernel
theorem dX0_markReady_14 : decode cX0_markReady 14 = .ok (.iload_n 2, 1) := by decide +kernel
theorem dX0_markReady_15 : decode cX0_markReady 15 = .ok (.invokevirtual 34, 3) := by decide +kernel
theorem dX0_markReady_18 : decode cX0_markReady 18 = .ok (.ifCond .eq 20, 3) := by decide +kernel
theorem dX0_markReady_21 : decode cX0_markReady 21 = .ok (.aload_n 1, 1) := by decide +kernel
theorem dX0_markReady_22 : decode cX0_markReady 22 = .ok (.iload_n 2, 1) := by decide +kernel
theorem dX0_markReady_23 : decode cX0_markReady 23 = .ok (.aaload, 1) := by decide +kernel
theorem dX0_markReady_24 : decode cX0_markReady 24 = .ok (.aload_n 0, 1) := by decide +kernel
theorem dX0_markReady_25 : decode cX0_markReady 25 = .ok (.getfield 9, 3) := by decide +kernel
theorem dX0_markReady_28 : decode cX0_markReady 28 = .ok (.iload_n 2, 1) := by decide +kernel
theorem dX0_markReady_29 : decode cX0_markReady 29 = .ok (.iaload, 1) := by decide +kernel
theorem dX0_markReady_30 : decode cX0_markReady 30 = .ok (.iaload, 1) := by decide +kernel
theorem dX0_markReady_31 : decode cX0_markReady 31 = .ok (.ifCond .le 7, 3) := by decide +kernel
theorem dX0_markReady_34 : decode cX0_markReady 34 = .ok (.iconst 1, 1) := by decide +kernel
theorem dX0_markReady_35 : decode cX0_markReady 35 = .ok (.goto 4, 3) := by decide +kernel
theorem dX0_markReady_38 : decode cX0_markReady 38 = .ok (.iconst 0, 1) := by decide +kernel
theorem dX0_markReady_39 : decode cX0_markReady 39 = .ok (.bastore, 1) := by decide +kernel
theorem dX0_markReady_40 : decode cX0_markReady 40 = .ok (.iinc 2 1, 3) := by decide +kernel
theorem dX0_markReady_43 : decode cX0_markReady 43 = .ok (.goto (-41), 3) := by decide +kernel
theorem dX0_markReady_46 : decode cX0_markReady 46 = .ok (.return_, 1) := by decide +kernel
theorem dX0_getsFrom_0 : decode cX0_getsFrom 0 = .ok (.aload_n 0, 1) := by decide +kernel
theorem dX0_getsFrom_1 : decode cX0_getsFrom 1 = .ok (.getfield 15, 3) := by decide +kernel
theorem dX0_getsFrom_4 : decode cX0_getsFrom 4 = .ok (.iload_n 1, 1) := by decide +kernel
theorem dX0_getsFrom_5 : decode cX0_getsFrom 5 = .ok (.iaload, 1) := by decide +kernel
theorem dX0_getsFrom_6 : decode cX0_getsFrom 6 = .ok (.aload_n 0, 1) := by decide +kernel
theorem dX0_getsFrom_7 : decode cX0_getsFrom 7 = .ok (.getfield 9, 3) := by decide +kernel
theorem dX0_getsFrom_10 : decode cX0_getsFrom 10 = .ok (.iload_n 2, 1) := by decide +kernel
theorem dX0_getsFrom_11 : decode cX0_getsFrom 11 = .ok (.iaload, 1) := by decide +kernel
theorem dX0_getsFrom_12 : decode cX0_getsFrom 12 = .ok (.if_icmp .ne 7, 3) := by decide +kernel
theorem dX0_getsFrom_15 : decode cX0_getsFrom 15 = .ok (.iconst 1, 1) := by decide +kernel
theorem dX0_getsFrom_16 : decode cX0_getsFrom 16 = .ok (.goto 4, 3) := by decide +kernel
theorem dX0_getsFrom_19 : decode cX0_getsFrom 19 = .ok (.iconst 0, 1) := by decide +kernel
theorem dX0_getsFrom_20 : decode cX0_getsFrom 20 = .ok (.ireturn, 1) := by decide +kernel
set_option maxRecDepth 20000 in
theorem ggX0_findBest_X0_markReady : GoodIn wsX0_findBest wsX0_markReady := goodIn_r _ [8, 2, 9, 10, 11, 12, 7, 13, 31, 32, 33, 34, 35, 36] (by decide +kernel) (by decide +kernel)
set_option maxRecDepth 20000 in
theorem gX0_findBest_X0_markReady : GoodIn wsX0_findBest (wsV RX0 38 RX0 yX0_markReady wsX0_markReady) := goodIn_app (goodIn_of _ (by decide +kernel)) ggX0_findBest_X0_markReady
set_option maxRecDepth 20000 in
theorem ggX0_findBest_X0_extend : GoodIn wsX0_findBest wsX0_extend := goodIn_r _ [16, 3, 1, 17, 18, 19, 20, 21, 2, 22, 23, 24, 7, 25, 26, 9, 27, 28, 29, 30, 14, 15, 31, 32, 33, 34, 35, 36] (by decide +kernel) (by decide +kernel)
set_option maxRecDepth 20000 in
theorem gX0_findBest_X0_extend : GoodIn wsX0_findBest (va_wsS RX0 46 yX0_extend wsX0_extend) := goodIn_app (goodIn_of _ (by decide +kernel)) ggX0_findBest_X0_extend
theorem dX0_findBest_0 : decode cX0_findBest 0 = .ok (.aload_n 0, 1) := by decide +kernel
theorem dX0_findBest_1 : decode cX0_findBest 1 = .ok (.aload_n 1, 1) := by decide +kernel
theorem dX0_findBest_2 : decode cX0_findBest 2 = .ok (.invokevirtual 38, 3) := by decide +kernel
theorem dX0_findBest_5 : decode cX0_findBest 5 = .ok (.aload_n 0, 1) := by decide +kernel
theorem dX0_findBest_6 : decode cX0_findBest 6 = .ok (.iconst 0, 1) := by decide +kernel
theorem dX0_findBest_7 : decode cX0_findBest 7 = .ok (.putfield 42, 3) := by decide +kernel
theorem dX0_findBest_10 : decode cX0_findBest 10 = .ok (.iconst 0, 1) := by decide +kernel
theorem dX0_findBest_11 : decode cX0_findBest 11 = .ok (.istore_n 2, 1) := by decide +kernel
theorem dX0_findBest_12 : decode cX0_findBest 12 = .ok (.iload_n 2, 1) := by decide +kernel
theorem dX0_findBest_13 : decode cX0_findBest 13 = .ok (.bipush 7, 2) := by decide +kernel
theorem dX0_findBest_15 : decode cX0_findBest 15 = .ok (.if_icmp .ge 30, 3) := by decide +kernel
theorem dX0_findBest_18 : decode cX0_findBest 18 = .ok (.aload_n 0, 1) := by decide +kernel
theorem dX0_findBest_19 : decode cX0_findBest 19 = .ok (.getfield 18, 3) := by decide +kernel
theorem dX0_findBest_22 : decode cX0_findBest 22 = .ok (.iload_n 2, 1) := by decide +kernel
theorem dX0_findBest_23 : decode cX0_findBest 23 = .ok (.baload, 1) := by decide +kernel
theorem dX0_findBest_24 : decode cX0_findBest 24 = .ok (.ifCond .eq 15, 3) := by decide +kernel
theorem dX0_findBest_27 : decode cX0_findBest 27 = .ok (.aload_n 0, 1) := by decide +kernel
theorem dX0_findBest_28 : decode cX0_findBest 28 = .ok (.getfield 22, 3) := by decide +kernel
theorem dX0_findBest_31 : decode cX0_findBest 31 = .ok (.iconst 0, 1) := by decide +kernel
theorem dX0_findBest_32 : decode cX0_findBest 32 = .ok (.iload_n 2, 1) := by decide +kernel
theorem dX0_findBest_33 : decode cX0_findBest 33 = .ok (.iastore, 1) := by decide +kernel
theorem dX0_findBest_34 : decode cX0_findBest 34 = .ok (.aload_n 0, 1) := by decide +kernel
theorem dX0_findBest_35 : decode cX0_findBest 35 = .ok (.iconst 1, 1) := by decide +kernel
theorem dX0_findBest_36 : decode cX0_findBest 36 = .ok (.invokestatic 46, 3) := by decide +kernel
theorem dX0_findBest_39 : decode cX0_findBest 39 = .ok (.iinc 2 1, 3) := by decide +kernel
theorem dX0_findBest_42 : decode cX0_findBest 42 = .ok (.goto (-30), 3) := by decide +kernel
theorem dX0_findBest_45 : decode cX0_findBest 45 = .ok (.return_, 1) := by decide +kernel
set_option maxRecDepth 20000 in
theorem ggX0_extend_X0_getsFrom : GoodIn wsX0_extend wsX0_getsFrom := goodIn_r _ [13, 14, 15, 22, 23, 24, 25, 26, 27] (by decide +kernel) (by decide +kernel)
set_option maxRecDepth 20000 in
theorem gX0_extend_X0_getsFrom : GoodIn wsX0_extend (wsV RX0 50 RX0 yX0_getsFrom wsX0_getsFrom) := goodIn_app (goodIn_of _ (by decide +kernel)) ggX0_extend_X0_getsFrom
set_option maxRecDepth 20000 in
theorem ggX0_extend_X0_isInRow : GoodIn wsX0_extend wsX0_isInRow := goodIn_r _ [19, 1, 22, 23, 24, 25, 26, 27] (by decide +kernel) (by decide +kernel)
set_option maxRecDepth 20000 in
theorem gX0_extend_X0_isInRow : GoodIn wsX0_extend (wsV RX0 60 RX0 yX0_isInRow wsX0_isInRow) := goodIn_app (goodIn_of _ (by decide +kernel)) ggX0_extend_X0_isInRow
set_option maxRecDepth 20000 in
theorem ggX0_extend_X0_extend : GoodIn wsX0_extend wsX0_extend := goodIn_r _ [0, 1, 2, 3, 4, 5, 6, 7, 8, 9, 10, 11, 12, 13, 14, 15, 16, 17, 18, 19, 20, 21, 22, 23, 24, 25, 26, 27] (by decide +kernel) (by decide +kernel)
set_option maxRecDepth 20000 in
theorem gX0_extend_X0_extend : GoodIn wsX0_extend (va_wsS RX0 46 yX0_extend wsX0_extend) := goodIn_app (goodIn_of _ (by decide +kernel)) ggX0_extend_X0_extend
theorem dX0_extend_0 : decode cX0_extend 0 = .ok (.iload_n 1, 1) := by decide +kernel
theorem dX0_extend_1 : decode cX0_extend 1 = .ok (.iconst 1, 1) := by decide +kernel
theorem dX0_extend_2 : decode cX0_extend 2 = .ok (.if_icmp .lt 9, 3) := by decide +kernel
theorem dX0_extend_5 : decode cX0_extend 5 = .ok (.iload_n 1, 1) := by decide +kernel
theorem dX0_extend_6 : decode cX0_extend 6 = .ok (.bipush 7, 2) := by decide +kernel
theorem dX0_extend_8 : decode cX0_extend 8 = .ok (.if_icmp .le 4, 3) := by decide +kernel
theorem dX0_extend_11 : decode cX0_extend 11 = .ok (.return_, 1) := by decide +kernel
theorem dX0_extend_12 : decode cX0_extend 12 = .ok (.aload_n 0, 1) := by decide +kernel
theorem dX0_extend_13 : decode cX0_extend 13 = .ok (.getfield 22, 3) := by decide +kernel
theorem dX0_extend_16 : decode cX0_extend 16 = .ok (.astore_n 2, 1) := by decide +kernel
theorem dX0_extend_17 : decode cX0_extend 17 = .ok (.aload_n 2, 1) := by decide +kernel
theorem dX0_extend_18 : decode cX0_extend 18 = .ok (.iload_n 1, 1) := by decide +kernel
theorem dX0_extend_19 : decode cX0_extend 19 = .ok (.iconst 1, 1) := by decide +kernel
theorem dX0_extend_20 : decode cX0_extend 20 = .ok (.isub, 1) := by decide +kernel
theorem dX0_extend_21 : decode cX0_extend 21 = .ok (.iaload, 1) := by decide +kernel
theorem dX0_extend_22 : decode cX0_extend 22 = .ok (.istore_n 3, 1) := by decide +kernel
theorem dX0_extend_23 : decode cX0_extend 23 = .ok (.iload_n 1, 1) := by decide +kernel
theorem dX0_extend_24 : decode cX0_extend 24 = .ok (.iconst 1, 1) := by decide +kernel
theorem dX0_extend_25 : decode cX0_extend 25 = .ok (.if_icmp .le 38, 3) := by decide +kernel
theorem dX0_extend_28 : decode cX0_extend 28 = .ok (.iload_n 1, 1) := by decide +kernel
theorem dX0_extend_29 : decode cX0_extend 29 = .ok (.aload_n 0, 1) := by decide +kernel
theorem dX0_extend_30 : decode cX0_extend 30 = .ok (.getfield 42, 3) := by decide +kernel
theorem dX0_extend_33 : decode cX0_extend 33 = .ok (.if_icmp .le 30, 3) := by decide +kernel
theorem dX0_extend_36 : decode cX0_extend 36 = .ok (.aload_n 0, 1) := by decide +kernel
theorem dX0_extend_37 : decode cX0_extend 37 = .ok (.iload_n 3, 1) := by decide +kernel
theorem dX0_extend_38 : decode cX0_extend 38 = .ok (.aload_n 2, 1) := by decide +kernel
theorem dX0_extend_39 : decode cX0_extend 39 = .ok (.iconst 0, 1) := by decide +kernel
theorem dX0_extend_40 : decode cX0_extend 40 = .ok (.iaload, 1) := by decide +kernel
theorem dX0_extend_41 : decode cX0_extend 41 = .ok (.invokevirtual 50, 3) := by decide +kernel
theorem dX0_extend_44 : decode cX0_extend 44 = .ok (.ifCond .eq 19, 3) := by decide +kernel
theorem dX0_extend_47 : decode cX0_extend 47 = .ok (.aload_n 2, 1) := by decide +kernel
theorem dX0_extend_48 : decode cX0_extend 48 = .ok (.iconst 0, 1) := by decide +kernel
theorem dX0_extend_49 : decode cX0_extend 49 = .ok (.aload_n 0, 1) := by decide +kernel
theorem dX0_extend_50 : decode cX0_extend 50 = .ok (.getfield 25, 3) := by decide +kernel
theorem dX0_extend_53 : decode cX0_extend 53 = .ok (.iconst 0, 1) := by decide +kernel
theorem dX0_extend_54 : decode cX0_extend 54 = .ok (.iload_n 1, 1) := by decide +kernel
theorem dX0_extend_55 : decode cX0_extend 55 = .ok (.invokestatic 54, 3) := by decide +kernel
theorem dX0_extend_58 : decode cX0_extend 58 = .ok (.aload_n 0, 1) := by decide +kernel
theorem dX0_extend_59 : decode cX0_extend 59 = .ok (.iload_n 1, 1) := by decide +kernel
theorem dX0_extend_60 : decode cX0_extend 60 = .ok (.putfield 42, 3) := by decide +kernel
theorem dX0_extend_63 : decode cX0_extend 63 = .ok (.aload_n 2, 1) := by decide +kernel
theorem dX0_extend_64 : decode cX0_extend 64 = .ok (.iconst 0, 1) := by decide +kernel
theorem dX0_extend_65 : decode cX0_extend 65 = .ok (.iaload, 1) := by decide +kernel
theorem dX0_extend_66 : decode cX0_extend 66 = .ok (.iconst 1, 1) := by decide +kernel
theorem dX0_extend_67 : decode cX0_extend 67 = .ok (.iadd, 1) := by decide +kernel
theorem dX0_extend_68 : decode cX0_extend 68 = .ok (.istore 4, 2) := by decide +kernel
theorem dX0_extend_70 : decode cX0_extend 70 = .ok (.iload 4, 2) := by decide +kernel
theorem dX0_extend_72 : decode cX0_extend 72 = .ok (.bipush 7, 2) := by decide +kernel
theorem dX0_extend_74 : decode cX0_extend 74 = .ok (.if_icmp .ge 57, 3) := by decide +kernel
theorem dX0_extend_77 : decode cX0_extend 77 = .ok (.iload_n 1, 1) := by decide +kernel
theorem dX0_extend_78 : decode cX0_extend 78 = .ok (.bipush 7, 2) := by decide +kernel
theorem dX0_extend_80 : decode cX0_extend 80 = .ok (.if_icmp .ge 51, 3) := by decide +kernel
theorem dX0_extend_83 : decode cX0_extend 83 = .ok (.aload_n 0, 1) := by decide +kernel
theorem dX0_extend_84 : decode cX0_extend 84 = .ok (.getfield 18, 3) := by decide +kernel
theorem dX0_extend_87 : decode cX0_extend 87 = .ok (.iload 4, 2) := by decide +kernel
theorem dX0_extend_89 : decode cX0_extend 89 = .ok (.baload, 1) := by decide +kernel
theorem dX0_extend_90 : decode cX0_extend 90 = .ok (.ifCond .eq 35, 3) := by decide +kernel
theorem dX0_extend_93 : decode cX0_extend 93 = .ok (.aload_n 0, 1) := by decide +kernel
theorem dX0_extend_94 : decode cX0_extend 94 = .ok (.iload_n 3, 1) := by decide +kernel
theorem dX0_extend_95 : decode cX0_extend 95 = .ok (.iload 4, 2) := by decide +kernel
theorem dX0_extend_97 : decode cX0_extend 97 = .ok (.invokevirtual 50, 3) := by decide +kernel
theorem dX0_extend_100 : decode cX0_extend 100 = .ok (.ifCond .eq 25, 3) := by decide +kernel
theorem dX0_extend_103 : decode cX0_extend 103 = .ok (.aload_n 0, 1) := by decide +kernel
theorem dX0_extend_104 : decode cX0_extend 104 = .ok (.iload 4, 2) := by decide +kernel
theorem dX0_extend_106 : decode cX0_extend 106 = .ok (.iload_n 1, 1) := by decide +kernel
theorem dX0_extend_107 : decode cX0_extend 107 = .ok (.invokevirtual 60, 3) := by decide +kernel
theorem dX0_extend_110 : decode cX0_extend 110 = .ok (.ifCond .ne 15, 3) := by decide +kernel
theorem dX0_extend_113 : decode cX0_extend 113 = .ok (.aload_n 2, 1) := by decide +kernel
theorem dX0_extend_114 : decode cX0_extend 114 = .ok (.iload_n 1, 1) := by decide +kernel
theorem dX0_extend_115 : decode cX0_extend 115 = .ok (.iload 4, 2) := by decide +kernel
theorem dX0_extend_117 : decode cX0_extend 117 = .ok (.iastore, 1) := by decide +kernel
theorem dX0_extend_118 : decode cX0_extend 118 = .ok (.aload_n 0, 1) := by decide +kernel
theorem dX0_extend_119 : decode cX0_extend 119 = .ok (.iload_n 1, 1) := by decide +kernel
theorem dX0_extend_120 : decode cX0_extend 120 = .ok (.iconst 1, 1) := by decide +kernel
theorem dX0_extend_121 : decode cX0_extend 121 = .ok (.iadd, 1) := by decide +kernel
theorem dX0_extend_122 : decode cX0_extend 122 = .ok (.invokestatic 46, 3) := by decide +kernel
theorem dX0_extend_125 : decode cX0_extend 125 = .ok (.iinc 4 1, 3) := by decide +kernel
theorem dX0_extend_128 : decode cX0_extend 128 = .ok (.goto (-58), 3) := by decide +kernel
theorem dX0_extend_131 : decode cX0_extend 131 = .ok (.return_, 1) := by decide +kernel
theorem dX0_isInRow_0 : decode cX0_isInRow 0 = .ok (.iconst 0, 1) := by decide +kernel
theorem dX0_isInRow_1 : decode cX0_isInRow 1 = .ok (.istore_n 3, 1) := by decide +kernel
theorem dX0_isInRow_2 : decode cX0_isInRow 2 = .ok (.iload_n 3, 1) := by decide +kernel
theorem dX0_isInRow_3 : decode cX0_isInRow 3 = .ok (.iload_n 2, 1) := by decide +kernel
theorem dX0_isInRow_4 : decode cX0_isInRow 4 = .ok (.if_icmp .ge 21, 3) := by decide +kernel
theorem dX0_isInRow_7 : decode cX0_isInRow 7 = .ok (.aload_n 0, 1) := by decide +kernel
theorem dX0_isInRow_8 : decode cX0_isInRow 8 = .ok (.getfield 22, 3) := by decide +kernel
theorem dX0_isInRow_11 : decode cX0_isInRow 11 = .ok (.iload_n 3, 1) := by decide +kernel
theorem dX0_isInRow_12 : decode cX0_isInRow 12 = .ok (.iaload, 1) := by decide +kernel
theorem dX0_isInRow_13 : decode cX0_isInRow 13 = .ok (.iload_n 1, 1) := by decide +kernel
theorem dX0_isInRow_14 : decode cX0_isInRow 14 = .ok (.if_icmp .ne 5, 3) := by decide +kernel
theorem dX0_isInRow_17 : decode cX0_isInRow 17 = .ok (.iconst 1, 1) := by decide +kernel
theorem dX0_isInRow_18 : decode cX0_isInRow 18 = .ok (.ireturn, 1) := by decide +kernel
theorem dX0_isInRow_19 : decode cX0_isInRow 19 = .ok (.iinc 3 1, 3) := by decide +kernel
theorem dX0_isInRow_22 : decode cX0_isInRow 22 = .ok (.goto (-20), 3) := by decide +kernel
theorem dX0_isInRow_25 : decode cX0_isInRow 25 = .ok (.iconst 0, 1) := by decide +kernel
theorem dX0_isInRow_26 : decode cX0_isInRow 26 = .ok (.ireturn, 1) := by decide +kernel
theorem dX0_exchange_0 : decode cX0_exchange 0 = .ok (.iconst 0, 1) := by decide +kernel
theorem dX0_exchange_1 : decode cX0_exchange 1 = .ok (.istore_n 2, 1) := by decide +kernel
theorem dX0_exchange_2 : decode cX0_exchange 2 = .ok (.iload_n 2, 1) := by decide +kernel
theorem dX0_exchange_3 : decode cX0_exchange 3 = .ok (.aload_n 0, 1) := by decide +kernel
theorem dX0_exchange_4 : decode cX0_exchange 4 = .ok (.getfield 42, 3) := by decide +kernel
theorem dX0_exchange_7 : decode cX0_exchange 7 = .ok (.if_icmp .ge 69, 3) := by decide +kernel
theorem dX0_exchange_10 : decode cX0_exchange 10 = .ok (.aload_n 0, 1) := by decide +kernel
theorem dX0_exchange_11 : decode cX0_exchange 11 = .ok (.getfield 25, 3) := by decide +kernel
theorem dX0_exchange_14 : decode cX0_exchange 14 = .ok (.iload_n 2, 1) := by decide +kernel
theorem dX0_exchange_15 : decode cX0_exchange 15 = .ok (.iaload, 1) := by decide +kernel
theorem dX0_exchange_16 : decode cX0_exchange 16 = .ok (.istore_n 3, 1) := by decide +kernel
theorem dX0_exchange_17 : decode cX0_exchange 17 = .ok (.aload_n 0, 1) := by decide +kernel
theorem dX0_exchange_18 : decode cX0_exchange 18 = .ok (.getfield 25, 3) := by decide +kernel
theorem dX0_exchange_21 : decode cX0_exchange 21 = .ok (.iload_n 2, 1) := by decide +kernel
theorem dX0_exchange_22 : decode cX0_exchange 22 = .ok (.iconst 1, 1) := by decide +kernel
theorem dX0_exchange_23 : decode cX0_exchange 23 = .ok (.iadd, 1) := by decide +kernel
theorem dX0_exchange_24 : decode cX0_exchange 24 = .ok (.aload_n 0, 1) := by decide +kernel
theorem dX0_exchange_25 : decode cX0_exchange 25 = .ok (.getfield 42, 3) := by decide +kernel
theorem dX0_exchange_28 : decode cX0_exchange 28 = .ok (.if_icmp .ge 9, 3) := by decide +kernel
theorem dX0_exchange_31 : decode cX0_exchange 31 = .ok (.iload_n 2, 1) := by decide +kernel
theorem dX0_exchange_32 : decode cX0_exchange 32 = .ok (.iconst 1, 1) := by decide +kernel
theorem dX0_exchange_33 : decode cX0_exchange 33 = .ok (.iadd, 1) := by decide +kernel
theorem dX0_exchange_34 : decode cX0_exchange 34 = .ok (.goto 4, 3) := by decide +kernel
theorem dX0_exchange_37 : decode cX0_exchange 37 = .ok (.iconst 0, 1) := by decide +kernel
theorem dX0_exchange_38 : decode cX0_exchange 38 = .ok (.iaload, 1) := by decide +kernel
theorem dX0_exchange_39 : decode cX0_exchange 39 = .ok (.istore 4, 2) := by decide +kernel
theorem dX0_exchange_41 : decode cX0_exchange 41 = .ok (.aload_n 1, 1) := by decide +kernel
theorem dX0_exchange_42 : decode cX0_exchange 42 = .ok (.iload_n 3, 1) := by decide +kernel
theorem dX0_exchange_43 : decode cX0_exchange 43 = .ok (.aaload, 1) := by decide +kernel
theorem dX0_exchange_44 : decode cX0_exchange 44 = .ok (.aload_n 0, 1) := by decide +kernel
theorem dX0_exchange_45 : decode cX0_exchange 45 = .ok (.getfield 15, 3) := by decide +kernel
theorem dX0_exchange_48 : decode cX0_exchange 48 = .ok (.iload_n 3, 1) := by decide +kernel
theorem dX0_exchange_49 : decode cX0_exchange 49 = .ok (.iaload, 1) := by decide +kernel
theorem dX0_exchange_50 : decode cX0_exchange 50 = .ok (.dup2, 1) := by decide +kernel
theorem dX0_exchange_51 : decode cX0_exchange 51 = .ok (.iaload, 1) := by decide +kernel
theorem dX0_exchange_52 : decode cX0_exchange 52 = .ok (.iconst 1, 1) := by decide +kernel
theorem dX0_exchange_53 : decode cX0_exchange 53 = .ok (.iadd, 1) := by decide +kernel
theorem dX0_exchange_54 : decode cX0_exchange 54 = .ok (.iastore, 1) := by decide +kernel
theorem dX0_exchange_55 : decode cX0_exchange 55 = .ok (.aload_n 1, 1) := by decide +kernel
theorem dX0_exchange_56 : decode cX0_exchange 56 = .ok (.iload 4, 2) := by decide +kernel
theorem dX0_exchange_58 : decode cX0_exchange 58 = .ok (.aaload, 1) := by decide +kernel
theorem dX0_exchange_59 : decode cX0_exchange 59 = .ok (.aload_n 0, 1) := by decide +kernel
theorem dX0_exchange_60 : decode cX0_exchange 60 = .ok (.getfield 15, 3) := by decide +kernel
theorem dX0_exchange_63 : decode cX0_exchange 63 = .ok (.iload_n 3, 1) := by decide +kernel
theorem dX0_exchange_64 : decode cX0_exchange 64 = .ok (.iaload, 1) := by decide +kernel
theorem dX0_exchange_65 : decode cX0_exchange 65 = .ok (.dup2, 1) := by decide +kernel
theorem dX0_exchange_66 : decode cX0_exchange 66 = .ok (.iaload, 1) := by decide +kernel
theorem dX0_exchange_67 : decode cX0_exchange 67 = .ok (.iconst 1, 1) := by decide +kernel
theorem dX0_exchange_68 : decode cX0_exchange 68 = .ok (.isub, 1) := by decide +kernel
theorem dX0_exchange_69 : decode cX0_exchange 69 = .ok (.iastore, 1) := by decide +kernel
theorem dX0_exchange_70 : decode cX0_exchange 70 = .ok (.iinc 2 1, 3) := by decide +kernel
theorem dX0_exchange_73 : decode cX0_exchange 73 = .ok (.goto (-71), 3) := by decide +kernel
theorem dX0_exchange_76 : decode cX0_exchange 76 = .ok (.return_, 1) := by decide +kernel
set_option maxRecDepth 20000 in
theorem ggX0_longestByOrders_X0_markReady : GoodIn wsX0_longestByOrders wsX0_markReady := goodIn_r _ [11, 1, 12, 13, 14, 15, 10, 16, 34, 35, 36, 37, 38, 39] (by decide +kernel) (by decide +kernel)
set_option maxRecDepth 20000 in
theorem gX0_longestByOrders_X0_markReady : GoodIn wsX0_longestByOrders (wsV RX0 38 RX0 yX0_markReady wsX0_markReady) := goodIn_app (goodIn_of _ (by decide +kernel)) ggX0_longestByOrders_X0_markReady
set_option maxRecDepth 20000 in
theorem ggX0_longestByOrders_X0_longestAtStartOfRow : GoodIn wsX0_longestByOrders wsX0_longestAtStartOfRow := goodIn_r _ [20, 2, 21, 22, 23, 10, 24, 25, 12, 34, 35, 36, 37, 38, 39] (by decide +kernel) (by decide +kernel)
set_option maxRecDepth 20000 in
theorem gX0_longestByOrders_X0_longestAtStartOfRow : GoodIn wsX0_longestByOrders (wsV RX0 63 RX0 yX0_longestAtStartOfRow wsX0_longestAtStartOfRow) := goodIn_app (goodIn_of _ (by decide +kernel)) ggX0_longestByOrders_X0_longestAtStartOfRow
set_option maxRecDepth 20000 in
theorem ggX0_longestByOrders_X0_nextOrder : GoodIn wsX0_longestByOrders wsX0_nextOrder := goodIn_r _ [29, 2, 30, 31, 32, 10, 33, 34, 35, 36, 37, 38, 39] (by decide +kernel) (by decide +kernel)
set_option maxRecDepth 20000 in
theorem gX0_longestByOrders_X0_nextOrder : GoodIn wsX0_longestByOrders (wsV RX0 73 RX0 yX0_nextOrder wsX0_nextOrder) := goodIn_app (goodIn_of _ (by decide +kernel)) ggX0_longestByOrders_X0_nextOrder
theorem dX0_longestByOrders_0 : decode cX0_longestByOrders 0 = .ok (.aload_n 0, 1) := by decide +kernel
theorem dX0_longestByOrders_1 : decode cX0_longestByOrders 1 = .ok (.aload_n 1, 1) := by decide +kernel
theorem dX0_longestByOrders_2 : decode cX0_longestByOrders 2 = .ok (.invokevirtual 38, 3) := by decide +kernel
theorem dX0_longestByOrders_5 : decode cX0_longestByOrders 5 = .ok (.iconst 0, 1) := by decide +kernel
theorem dX0_longestByOrders_6 : decode cX0_longestByOrders 6 = .ok (.istore_n 2, 1) := by decide +kernel
theorem dX0_longestByOrders_7 : decode cX0_longestByOrders 7 = .ok (.iconst 0, 1) := by decide +kernel
theorem dX0_longestByOrders_8 : decode cX0_longestByOrders 8 = .ok (.istore_n 3, 1) := by decide +kernel
theorem dX0_longestByOrders_9 : decode cX0_longestByOrders 9 = .ok (.iload_n 3, 1) := by decide +kernel
theorem dX0_longestByOrders_10 : decode cX0_longestByOrders 10 = .ok (.bipush 7, 2) := by decide +kernel
theorem dX0_longestByOrders_12 : decode cX0_longestByOrders 12 = .ok (.if_icmp .ge 28, 3) := by decide +kernel
theorem dX0_longestByOrders_15 : decode cX0_longestByOrders 15 = .ok (.aload_n 0, 1) := by decide +kernel
theorem dX0_longestByOrders_16 : decode cX0_longestByOrders 16 = .ok (.getfield 18, 3) := by decide +kernel
theorem dX0_longestByOrders_19 : decode cX0_longestByOrders 19 = .ok (.iload_n 3, 1) := by decide +kernel
theorem dX0_longestByOrders_20 : decode cX0_longestByOrders 20 = .ok (.baload, 1) := by decide +kernel
theorem dX0_longestByOrders_21 : decode cX0_longestByOrders 21 = .ok (.ifCond .eq 13, 3) := by decide +kernel
theorem dX0_longestByOrders_24 : decode cX0_longestByOrders 24 = .ok (.aload_n 0, 1) := by decide +kernel
theorem dX0_longestByOrders_25 : decode cX0_longestByOrders 25 = .ok (.getfield 22, 3) := by decide +kernel
theorem dX0_longestByOrders_28 : decode cX0_longestByOrders 28 = .ok (.iload_n 2, 1) := by decide +kernel
theorem dX0_longestByOrders_29 : decode cX0_longestByOrders 29 = .ok (.iload_n 3, 1) := by decide +kernel
theorem dX0_longestByOrders_30 : decode cX0_longestByOrders 30 = .ok (.iastore, 1) := by decide +kernel
theorem dX0_longestByOrders_31 : decode cX0_longestByOrders 31 = .ok (.iinc 2 1, 3) := by decide +kernel
theorem dX0_longestByOrders_34 : decode cX0_longestByOrders 34 = .ok (.iinc 3 1, 3) := by decide +kernel
theorem dX0_longestByOrders_37 : decode cX0_longestByOrders 37 = .ok (.goto (-28), 3) := by decide +kernel
theorem dX0_longestByOrders_40 : decode cX0_longestByOrders 40 = .ok (.iconst 0, 1) := by decide +kernel
theorem dX0_longestByOrders_41 : decode cX0_longestByOrders 41 = .ok (.istore_n 3, 1) := by decide +kernel
theorem dX0_longestByOrders_42 : decode cX0_longestByOrders 42 = .ok (.iconst 1, 1) := by decide +kernel
theorem dX0_longestByOrders_43 : decode cX0_longestByOrders 43 = .ok (.istore 4, 2) := by decide +kernel
theorem dX0_longestByOrders_45 : decode cX0_longestByOrders 45 = .ok (.iconst 0, 1) := by decide +kernel
theorem dX0_longestByOrders_46 : decode cX0_longestByOrders 46 = .ok (.istore 5, 2) := by decide +kernel
theorem dX0_longestByOrders_48 : decode cX0_longestByOrders 48 = .ok (.iload 5, 2) := by decide +kernel
theorem dX0_longestByOrders_50 : decode cX0_longestByOrders 50 = .ok (.sipush 5040, 3) := by decide +kernel
theorem dX0_longestByOrders_53 : decode cX0_longestByOrders 53 = .ok (.if_icmp .ge 31, 3) := by decide +kernel
theorem dX0_longestByOrders_56 : decode cX0_longestByOrders 56 = .ok (.iload 4, 2) := by decide +kernel
theorem dX0_longestByOrders_58 : decode cX0_longestByOrders 58 = .ok (.ifCond .eq 26, 3) := by decide +kernel
theorem dX0_longestByOrders_61 : decode cX0_longestByOrders 61 = .ok (.iload_n 3, 1) := by decide +kernel
theorem dX0_longestByOrders_62 : decode cX0_longestByOrders 62 = .ok (.aload_n 0, 1) := by decide +kernel
theorem dX0_longestByOrders_63 : decode cX0_longestByOrders 63 = .ok (.iload_n 2, 1) := by decide +kernel
theorem dX0_longestByOrders_64 : decode cX0_longestByOrders 64 = .ok (.invokevirtual 63, 3) := by decide +kernel
theorem dX0_longestByOrders_67 : decode cX0_longestByOrders 67 = .ok (.invokestatic 67, 3) := by decide +kernel
theorem dX0_longestByOrders_70 : decode cX0_longestByOrders 70 = .ok (.istore_n 3, 1) := by decide +kernel
theorem dX0_longestByOrders_71 : decode cX0_longestByOrders 71 = .ok (.aload_n 0, 1) := by decide +kernel
theorem dX0_longestByOrders_72 : decode cX0_longestByOrders 72 = .ok (.iload_n 2, 1) := by decide +kernel
theorem dX0_longestByOrders_73 : decode cX0_longestByOrders 73 = .ok (.invokevirtual 73, 3) := by decide +kernel
theorem dX0_longestByOrders_76 : decode cX0_longestByOrders 76 = .ok (.istore 4, 2) := by decide +kernel
theorem dX0_longestByOrders_78 : decode cX0_longestByOrders 78 = .ok (.iinc 5 1, 3) := by decide +kernel
theorem dX0_longestByOrders_81 : decode cX0_longestByOrders 81 = .ok (.goto (-33), 3) := by decide +kernel
theorem dX0_longestByOrders_84 : decode cX0_longestByOrders 84 = .ok (.iload_n 3, 1) := by decide +kernel
theorem dX0_longestByOrders_85 : decode cX0_longestByOrders 85 = .ok (.ireturn, 1) := by decide +kernel
set_option maxRecDepth 20000 in
theorem ggX0_longestAtStartOfRow_X0_getsFrom : GoodIn wsX0_longestAtStartOfRow wsX0_getsFrom := goodIn_r _ [6, 7, 8, 9, 10, 11, 12, 13, 14] (by decide +kernel) (by decide +kernel)
set_option maxRecDepth 20000 in
theorem gX0_longestAtStartOfRow_X0_getsFrom : GoodIn wsX0_longestAtStartOfRow (wsV RX0 50 RX0 yX0_getsFrom wsX0_getsFrom) := goodIn_app (goodIn_of _ (by decide +kernel)) ggX0_longestAtStartOfRow_X0_getsFrom
theorem dX0_longestAtStartOfRow_0 : decode cX0_longestAtStartOfRow 0 = .ok (.iconst 0, 1) := by decide +kernel
theorem dX0_longestAtStartOfRow_1 : decode cX0_longestAtStartOfRow 1 = .ok (.istore_n 2, 1) := by decide +kernel
theorem dX0_longestAtStartOfRow_2 : decode cX0_longestAtStartOfRow 2 = .ok (.iconst 2, 1) := by decide +kernel
theorem dX0_longestAtStartOfRow_3 : decode cX0_longestAtStartOfRow 3 = .ok (.istore_n 3, 1) := by decide +kernel
theorem dX0_longestAtStartOfRow_4 : decode cX0_longestAtStartOfRow 4 = .ok (.iload_n 3, 1) := by decide +kernel
theorem dX0_longestAtStartOfRow_5 : decode cX0_longestAtStartOfRow 5 = .ok (.iload_n 1, 1) := by decide +kernel
theorem dX0_longestAtStartOfRow_6 : decode cX0_longestAtStartOfRow 6 = .ok (.if_icmp .gt 55, 3) := by decide +kernel
theorem dX0_longestAtStartOfRow_9 : decode cX0_longestAtStartOfRow 9 = .ok (.aload_n 0, 1) := by decide +kernel
theorem dX0_longestAtStartOfRow_10 : decode cX0_longestAtStartOfRow 10 = .ok (.aload_n 0, 1) := by decide +kernel
theorem dX0_longestAtStartOfRow_11 : decode cX0_longestAtStartOfRow 11 = .ok (.getfield 22, 3) := by decide +kernel
theorem dX0_longestAtStartOfRow_14 : decode cX0_longestAtStartOfRow 14 = .ok (.iload_n 3, 1) := by decide +kernel
theorem dX0_longestAtStartOfRow_15 : decode cX0_longestAtStartOfRow 15 = .ok (.iconst 2, 1) := by decide +kernel
theorem dX0_longestAtStartOfRow_16 : decode cX0_longestAtStartOfRow 16 = .ok (.isub, 1) := by decide +kernel
theorem dX0_longestAtStartOfRow_17 : decode cX0_longestAtStartOfRow 17 = .ok (.iaload, 1) := by decide +kernel
theorem dX0_longestAtStartOfRow_18 : decode cX0_longestAtStartOfRow 18 = .ok (.aload_n 0, 1) := by decide +kernel
theorem dX0_longestAtStartOfRow_19 : decode cX0_longestAtStartOfRow 19 = .ok (.getfield 22, 3) := by decide +kernel
theorem dX0_longestAtStartOfRow_22 : decode cX0_longestAtStartOfRow 22 = .ok (.iload_n 3, 1) := by decide +kernel
theorem dX0_longestAtStartOfRow_23 : decode cX0_longestAtStartOfRow 23 = .ok (.iconst 1, 1) := by decide +kernel
theorem dX0_longestAtStartOfRow_24 : decode cX0_longestAtStartOfRow 24 = .ok (.isub, 1) := by decide +kernel
theorem dX0_longestAtStartOfRow_25 : decode cX0_longestAtStartOfRow 25 = .ok (.iaload, 1) := by decide +kernel
theorem dX0_longestAtStartOfRow_26 : decode cX0_longestAtStartOfRow 26 = .ok (.invokevirtual 50, 3) := by decide +kernel
theorem dX0_longestAtStartOfRow_29 : decode cX0_longestAtStartOfRow 29 = .ok (.ifCond .eq 32, 3) := by decide +kernel
theorem dX0_longestAtStartOfRow_32 : decode cX0_longestAtStartOfRow 32 = .ok (.aload_n 0, 1) := by decide +kernel
theorem dX0_longestAtStartOfRow_33 : decode cX0_longestAtStartOfRow 33 = .ok (.aload_n 0, 1) := by decide +kernel
theorem dX0_longestAtStartOfRow_34 : decode cX0_longestAtStartOfRow 34 = .ok (.getfield 22, 3) := by decide +kernel
theorem dX0_longestAtStartOfRow_37 : decode cX0_longestAtStartOfRow 37 = .ok (.iload_n 3, 1) := by decide +kernel
theorem dX0_longestAtStartOfRow_38 : decode cX0_longestAtStartOfRow 38 = .ok (.iconst 1, 1) := by decide +kernel
theorem dX0_longestAtStartOfRow_39 : decode cX0_longestAtStartOfRow 39 = .ok (.isub, 1) := by decide +kernel
theorem dX0_longestAtStartOfRow_40 : decode cX0_longestAtStartOfRow 40 = .ok (.iaload, 1) := by decide +kernel
theorem dX0_longestAtStartOfRow_41 : decode cX0_longestAtStartOfRow 41 = .ok (.aload_n 0, 1) := by decide +kernel
theorem dX0_longestAtStartOfRow_42 : decode cX0_longestAtStartOfRow 42 = .ok (.getfield 22, 3) := by decide +kernel
theorem dX0_longestAtStartOfRow_45 : decode cX0_longestAtStartOfRow 45 = .ok (.iconst 0, 1) := by decide +kernel
theorem dX0_longestAtStartOfRow_46 : decode cX0_longestAtStartOfRow 46 = .ok (.iaload, 1) := by decide +kernel
theorem dX0_longestAtStartOfRow_47 : decode cX0_longestAtStartOfRow 47 = .ok (.invokevirtual 50, 3) := by decide +kernel
theorem dX0_longestAtStartOfRow_50 : decode cX0_longestAtStartOfRow 50 = .ok (.ifCond .eq 5, 3) := by decide +kernel
theorem dX0_longestAtStartOfRow_53 : decode cX0_longestAtStartOfRow 53 = .ok (.iload_n 3, 1) := by decide +kernel
theorem dX0_longestAtStartOfRow_54 : decode cX0_longestAtStartOfRow 54 = .ok (.istore_n 2, 1) := by decide +kernel
theorem dX0_longestAtStartOfRow_55 : decode cX0_longestAtStartOfRow 55 = .ok (.iinc 3 1, 3) := by decide +kernel
theorem dX0_longestAtStartOfRow_58 : decode cX0_longestAtStartOfRow 58 = .ok (.goto (-54), 3) := by decide +kernel
theorem dX0_longestAtStartOfRow_61 : decode cX0_longestAtStartOfRow 61 = .ok (.iload_n 2, 1) := by decide +kernel
theorem dX0_longestAtStartOfRow_62 : decode cX0_longestAtStartOfRow 62 = .ok (.ireturn, 1) := by decide +kernel
set_option maxRecDepth 20000 in
theorem ggX0_nextOrder_X0_swap : GoodIn wsX0_nextOrder wsX0_swap := goodIn_r _ [6, 1, 7, 8, 9, 10, 11, 12] (by decide +kernel) (by decide +kernel)
set_option maxRecDepth 20000 in
theorem gX0_nextOrder_X0_swap : GoodIn wsX0_nextOrder (wsV RX0 76 RX0 yX0_swap wsX0_swap) := goodIn_app (goodIn_of _ (by decide +kernel)) ggX0_nextOrder_X0_swap
theorem dX0_nextOrder_0 : decode cX0_nextOrder 0 = .ok (.iload_n 1, 1) := by decide +kernel
theorem dX0_nextOrder_1 : decode cX0_nextOrder 1 = .ok (.iconst 2, 1) := by decide +kernel
theorem dX0_nextOrder_2 : decode cX0_nextOrder 2 = .ok (.isub, 1) := by decide +kernel
theorem dX0_nextOrder_3 : decode cX0_nextOrder 3 = .ok (.istore_n 2, 1) := by decide +kernel
theorem dX0_nextOrder_4 : decode cX0_nextOrder 4 = .ok (.iload_n 2, 1) := by decide +kernel
theorem dX0_nextOrder_5 : decode cX0_nextOrder 5 = .ok (.ifCond .lt 26, 3) := by decide +kernel
theorem dX0_nextOrder_8 : decode cX0_nextOrder 8 = .ok (.aload_n 0, 1) := by decide +kernel
theorem dX0_nextOrder_9 : decode cX0_nextOrder 9 = .ok (.getfield 22, 3) := by decide +kernel
theorem dX0_nextOrder_12 : decode cX0_nextOrder 12 = .ok (.iload_n 2, 1) := by decide +kernel
theorem dX0_nextOrder_13 : decode cX0_nextOrder 13 = .ok (.iaload, 1) := by decide +kernel
theorem dX0_nextOrder_14 : decode cX0_nextOrder 14 = .ok (.aload_n 0, 1) := by decide +kernel
theorem dX0_nextOrder_15 : decode cX0_nextOrder 15 = .ok (.getfield 22, 3) := by decide +kernel
theorem dX0_nextOrder_18 : decode cX0_nextOrder 18 = .ok (.iload_n 2, 1) := by decide +kernel
theorem dX0_nextOrder_19 : decode cX0_nextOrder 19 = .ok (.iconst 1, 1) := by decide +kernel
theorem dX0_nextOrder_20 : decode cX0_nextOrder 20 = .ok (.iadd, 1) := by decide +kernel
theorem dX0_nextOrder_21 : decode cX0_nextOrder 21 = .ok (.iaload, 1) := by decide +kernel
theorem dX0_nextOrder_22 : decode cX0_nextOrder 22 = .ok (.if_icmp .le 9, 3) := by decide +kernel
theorem dX0_nextOrder_25 : decode cX0_nextOrder 25 = .ok (.iinc 2 (-1), 3) := by decide +kernel
theorem dX0_nextOrder_28 : decode cX0_nextOrder 28 = .ok (.goto (-24), 3) := by decide +kernel
theorem dX0_nextOrder_31 : decode cX0_nextOrder 31 = .ok (.iload_n 2, 1) := by decide +kernel
theorem dX0_nextOrder_32 : decode cX0_nextOrder 32 = .ok (.ifCond .ge 5, 3) := by decide +kernel
theorem dX0_nextOrder_35 : decode cX0_nextOrder 35 = .ok (.iconst 0, 1) := by decide +kernel
theorem dX0_nextOrder_36 : decode cX0_nextOrder 36 = .ok (.ireturn, 1) := by decide +kernel
theorem dX0_nextOrder_37 : decode cX0_nextOrder 37 = .ok (.iload_n 1, 1) := by decide +kernel
theorem dX0_nextOrder_38 : decode cX0_nextOrder 38 = .ok (.iconst 1, 1) := by decide +kernel
theorem dX0_nextOrder_39 : decode cX0_nextOrder 39 = .ok (.isub, 1) := by decide +kernel
theorem dX0_nextOrder_40 : decode cX0_nextOrder 40 = .ok (.istore_n 3, 1) := by decide +kernel
theorem dX0_nextOrder_41 : decode cX0_nextOrder 41 = .ok (.iload_n 3, 1) := by decide +kernel
theorem dX0_nextOrder_42 : decode cX0_nextOrder 42 = .ok (.iload_n 2, 1) := by decide +kernel
theorem dX0_nextOrder_43 : decode cX0_nextOrder 43 = .ok (.iconst 1, 1) := by decide +kernel
theorem dX0_nextOrder_44 : decode cX0_nextOrder 44 = .ok (.iadd, 1) := by decide +kernel
theorem dX0_nextOrder_45 : decode cX0_nextOrder 45 = .ok (.if_icmp .le 24, 3) := by decide +kernel
theorem dX0_nextOrder_48 : decode cX0_nextOrder 48 = .ok (.aload_n 0, 1) := by decide +kernel
theorem dX0_nextOrder_49 : decode cX0_nextOrder 49 = .ok (.getfield 22, 3) := by decide +kernel
theorem dX0_nextOrder_52 : decode cX0_nextOrder 52 = .ok (.iload_n 3, 1) := by decide +kernel
theorem dX0_nextOrder_53 : decode cX0_nextOrder 53 = .ok (.iaload, 1) := by decide +kernel
theorem dX0_nextOrder_54 : decode cX0_nextOrder 54 = .ok (.aload_n 0, 1) := by decide +kernel
theorem dX0_nextOrder_55 : decode cX0_nextOrder 55 = .ok (.getfield 22, 3) := by decide +kernel
theorem dX0_nextOrder_58 : decode cX0_nextOrder 58 = .ok (.iload_n 2, 1) := by decide +kernel
theorem dX0_nextOrder_59 : decode cX0_nextOrder 59 = .ok (.iaload, 1) := by decide +kernel
theorem dX0_nextOrder_60 : decode cX0_nextOrder 60 = .ok (.if_icmp .ge 9, 3) := by decide +kernel
theorem dX0_nextOrder_63 : decode cX0_nextOrder 63 = .ok (.iinc 3 (-1), 3) := by decide +kernel
theorem dX0_nextOrder_66 : decode cX0_nextOrder 66 = .ok (.goto (-25), 3) := by decide +kernel
theorem dX0_nextOrder_69 : decode cX0_nextOrder 69 = .ok (.aload_n 0, 1) := by decide +kernel
theorem dX0_nextOrder_70 : decode cX0_nextOrder 70 = .ok (.iload_n 2, 1) := by decide +kernel
theorem dX0_nextOrder_71 : decode cX0_nextOrder 71 = .ok (.iload_n 3, 1) := by decide +kernel
theorem dX0_nextOrder_72 : decode cX0_nextOrder 72 = .ok (.invokevirtual 76, 3) := by decide +kernel
theorem dX0_nextOrder_75 : decode cX0_nextOrder 75 = .ok (.iload_n 2, 1) := by decide +kernel
theorem dX0_nextOrder_76 : decode cX0_nextOrder 76 = .ok (.iconst 1, 1) := by decide +kernel
theorem dX0_nextOrder_77 : decode cX0_nextOrder 77 = .ok (.iadd, 1) := by decide +kernel
theorem dX0_nextOrder_78 : decode cX0_nextOrder 78 = .ok (.istore 4, 2) := by decide +kernel
theorem dX0_nextOrder_80 : decode cX0_nextOrder 80 = .ok (.iload_n 1, 1) := by decide +kernel
theorem dX0_nextOrder_81 : decode cX0_nextOrder 81 = .ok (.iconst 1, 1) := by decide +kernel
theorem dX0_nextOrder_82 : decode cX0_nextOrder 82 = .ok (.isub, 1) := by decide +kernel
theorem dX0_nextOrder_83 : decode cX0_nextOrder 83 = .ok (.istore 5, 2) := by decide +kernel
theorem dX0_nextOrder_85 : decode cX0_nextOrder 85 = .ok (.iload 4, 2) := by decide +kernel
theorem dX0_nextOrder_87 : decode cX0_nextOrder 87 = .ok (.iload 5, 2) := by decide +kernel
theorem dX0_nextOrder_89 : decode cX0_nextOrder 89 = .ok (.if_icmp .ge 20, 3) := by decide +kernel
theorem dX0_nextOrder_92 : decode cX0_nextOrder 92 = .ok (.aload_n 0, 1) := by decide +kernel
theorem dX0_nextOrder_93 : decode cX0_nextOrder 93 = .ok (.iload 4, 2) := by decide +kernel
theorem dX0_nextOrder_95 : decode cX0_nextOrder 95 = .ok (.iload 5, 2) := by decide +kernel
theorem dX0_nextOrder_97 : decode cX0_nextOrder 97 = .ok (.invokevirtual 76, 3) := by decide +kernel
theorem dX0_nextOrder_100 : decode cX0_nextOrder 100 = .ok (.iinc 4 1, 3) := by decide +kernel
theorem dX0_nextOrder_103 : decode cX0_nextOrder 103 = .ok (.iinc 5 (-1), 3) := by decide +kernel
theorem dX0_nextOrder_106 : decode cX0_nextOrder 106 = .ok (.goto (-21), 3) := by decide +kernel
theorem dX0_nextOrder_109 : decode cX0_nextOrder 109 = .ok (.iconst 1, 1) := by decide +kernel
theorem dX0_nextOrder_110 : decode cX0_nextOrder 110 = .ok (.ireturn, 1) := by decide +kernel
theorem dX0_swap_0 : decode cX0_swap 0 = .ok (.aload_n 0, 1) := by decide +kernel
theorem dX0_swap_1 : decode cX0_swap 1 = .ok (.getfield 22, 3) := by decide +kernel
theorem dX0_swap_4 : decode cX0_swap 4 = .ok (.iload_n 1, 1) := by decide +kernel
theorem dX0_swap_5 : decode cX0_swap 5 = .ok (.iaload, 1) := by decide +kernel
theorem dX0_swap_6 : decode cX0_swap 6 = .ok (.istore_n 3, 1) := by decide +kernel
theorem dX0_swap_7 : decode cX0_swap 7 = .ok (.aload_n 0, 1) := by decide +kernel
theorem dX0_swap_8 : decode cX0_swap 8 = .ok (.getfield 22, 3) := by decide +kernel
theorem dX0_swap_11 : decode cX0_swap 11 = .ok (.iload_n 1, 1) := by decide +kernel
theorem dX0_swap_12 : decode cX0_swap 12 = .ok (.aload_n 0, 1) := by decide +kernel
theorem dX0_swap_13 : decode cX0_swap 13 = .ok (.getfield 22, 3) := by decide +kernel
theorem dX0_swap_16 : decode cX0_swap 16 = .ok (.iload_n 2, 1) := by decide +kernel
theorem dX0_swap_17 : decode cX0_swap 17 = .ok (.iaload, 1) := by decide +kernel
theorem dX0_swap_18 : decode cX0_swap 18 = .ok (.iastore, 1) := by decide +kernel
theorem dX0_swap_19 : decode cX0_swap 19 = .ok (.aload_n 0, 1) := by decide +kernel
theorem dX0_swap_20 : decode cX0_swap 20 = .ok (.getfield 22, 3) := by decide +kernel
theorem dX0_swap_23 : decode cX0_swap 23 = .ok (.iload_n 2, 1) := by decide +kernel
theorem dX0_swap_24 : decode cX0_swap 24 = .ok (.iload_n 3, 1) := by decide +kernel
theorem dX0_swap_25 : decode cX0_swap 25 = .ok (.iastore, 1) := by decide +kernel
theorem dX0_swap_26 : decode cX0_swap 26 = .ok (.return_, 1) := by decide +kernel
