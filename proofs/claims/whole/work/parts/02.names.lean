def RX0 : String := "LentGrannies$Acts"
def TX0 : u_T := fun k => match k with
  | 0 => ("LentGrannies$Acts", "before", "[[I", true)
  | 1 => ("LentGrannies$Acts", "oldest", "I", false)
  | _ => ("LentGrannies$Acts", "kept", "I", false)
def tyX0 : Nat → FieldType := fun k => match k with
  | 0 => .array (.array .int)
  | 1 => .int
  | _ => .int
abbrev wsX00 : List Cond := u_ws RX0 TX0 3
theorem nmX0 : ∀ a, a < 3 → ∀ b, b < 3 → a ≠ b → (TX0 a).2.1 ≠ (TX0 b).2.1 := by decide +kernel
theorem tyX0_ok : ∀ k, k < 3 → parseFieldDescriptor (TX0 k).2.2.1 = some (tyX0 k) := by decide +kernel
abbrev cX0_init : ByteArray := prog_2_method_1_code
def yX0_init : MethodName := ⟨RX0, "<init>", "()V"⟩
abbrev cX0_forget : ByteArray := prog_2_method_2_code
def yX0_forget : MethodName := ⟨RX0, "forget", "()V"⟩
abbrev cX0_keep : ByteArray := prog_2_method_3_code
def yX0_keep : MethodName := ⟨RX0, "keep", "(LLentGrannies$Town;)V"⟩
abbrev cX0_takeBack : ByteArray := prog_2_method_4_code
def yX0_takeBack : MethodName := ⟨RX0, "takeBack", "(LLentGrannies$Town;)Z"⟩
def RX1 : String := "LentGrannies$Asker"
def TX1 : u_T := fun k => match k with
  | 0 => ("LentGrannies$Asker", "bodies", "[I", true)
  | 1 => ("LentGrannies$Asker", "length", "I", false)
  | 2 => ("LentGrannies$Asker", "one", "I", false)
  | 3 => ("LentGrannies$Asker", "kind", "I", false)
  | 4 => ("LentGrannies$Asker", "art", "I", false)
  | _ => ("LentGrannies$Asker", "first", "I", false)
def tyX1 : Nat → FieldType := fun k => match k with
  | 0 => .array .int
  | 1 => .int
  | 2 => .int
  | 3 => .int
  | 4 => .int
  | _ => .int
abbrev wsX10 : List Cond := u_ws RX1 TX1 6
theorem nmX1 : ∀ a, a < 6 → ∀ b, b < 6 → a ≠ b → (TX1 a).2.1 ≠ (TX1 b).2.1 := by decide +kernel
theorem tyX1_ok : ∀ k, k < 6 → parseFieldDescriptor (TX1 k).2.2.1 = some (tyX1 k) := by decide +kernel
abbrev cX1_init : ByteArray := prog_3_method_1_code
def yX1_init : MethodName := ⟨RX1, "<init>", "()V"⟩
abbrev cX1_turnTo : ByteArray := prog_3_method_2_code
def yX1_turnTo : MethodName := ⟨RX1, "turnTo", "(ILLentGrannies$Town;)V"⟩
abbrev cX1_sizeAsked : ByteArray := prog_3_method_3_code
def yX1_sizeAsked : MethodName := ⟨RX1, "sizeAsked", "()I"⟩
abbrev cX1_markAsked : ByteArray := prog_3_method_4_code
def yX1_markAsked : MethodName := ⟨RX1, "markAsked", "()I"⟩
abbrev cX1_sizeOfSoup : ByteArray := prog_3_method_5_code
def yX1_sizeOfSoup : MethodName := ⟨RX1, "sizeOfSoup", "()I"⟩
abbrev cX1_sizeOfStern : ByteArray := prog_3_method_6_code
def yX1_sizeOfStern : MethodName := ⟨RX1, "sizeOfStern", "()I"⟩
abbrev cX1_sizeOfAnyStern : ByteArray := prog_3_method_7_code
def yX1_sizeOfAnyStern : MethodName := ⟨RX1, "sizeOfAnyStern", "()I"⟩
abbrev cX1_sizeLent : ByteArray := prog_3_method_8_code
def yX1_sizeLent : MethodName := ⟨RX1, "sizeLent", "()I"⟩
abbrev cX1_markOfSoup : ByteArray := prog_3_method_9_code
def yX1_markOfSoup : MethodName := ⟨RX1, "markOfSoup", "()I"⟩
abbrev cX1_markOfAnySoup : ByteArray := prog_3_method_10_code
def yX1_markOfAnySoup : MethodName := ⟨RX1, "markOfAnySoup", "()I"⟩
abbrev cX1_markOfStern : ByteArray := prog_3_method_11_code
def yX1_markOfStern : MethodName := ⟨RX1, "markOfStern", "()I"⟩
abbrev cX1_markLent : ByteArray := prog_3_method_12_code
def yX1_markLent : MethodName := ⟨RX1, "markLent", "()I"⟩
abbrev cX1_begin : ByteArray := prog_3_method_13_code
def yX1_begin : MethodName := ⟨RX1, "begin", "(I)V"⟩
def RX2 : String := "LentGrannies$Reader"
def TX2 : u_T := fun k => match k with
  | 0 => ("LentGrannies$Reader", "draft", "LLentGrannies$Town;", true)
  | 1 => ("LentGrannies$Reader", "length", "I", false)
  | 2 => ("LentGrannies$Reader", "place", "I", false)
  | 3 => ("LentGrannies$Reader", "tape", "[I", true)
  | 4 => ("LentGrannies$Reader", "at", "I", false)
  | _ => ("LentGrannies$Reader", "fault", "I", false)
def tyX2 : Nat → FieldType := fun k => match k with
  | 0 => .object "LentGrannies$Town"
  | 1 => .int
  | 2 => .int
  | 3 => .array .int
  | 4 => .int
  | _ => .int
abbrev wsX20 : List Cond := u_ws RX2 TX2 6
theorem nmX2 : ∀ a, a < 6 → ∀ b, b < 6 → a ≠ b → (TX2 a).2.1 ≠ (TX2 b).2.1 := by decide +kernel
theorem tyX2_ok : ∀ k, k < 6 → parseFieldDescriptor (TX2 k).2.2.1 = some (tyX2 k) := by decide +kernel
abbrev cX2_init : ByteArray := prog_4_method_1_code
def yX2_init : MethodName := ⟨RX2, "<init>", "()V"⟩
abbrev cX2_append : ByteArray := prog_4_method_2_code
def yX2_append : MethodName := ⟨RX2, "append", "(I)Z"⟩
abbrev cX2_readAll : ByteArray := prog_4_method_3_code
def yX2_readAll : MethodName := ⟨RX2, "readAll", "()I"⟩
abbrev cX2_readLaw : ByteArray := prog_4_method_4_code
def yX2_readLaw : MethodName := ⟨RX2, "readLaw", "()V"⟩
abbrev cX2_readChildren : ByteArray := prog_4_method_5_code
def yX2_readChildren : MethodName := ⟨RX2, "readChildren", "()V"⟩
abbrev cX2_readGrans : ByteArray := prog_4_method_6_code
def yX2_readGrans : MethodName := ⟨RX2, "readGrans", "()V"⟩
abbrev cX2_nextByte : ByteArray := prog_4_method_7_code
def yX2_nextByte : MethodName := ⟨RX2, "nextByte", "()I"⟩
abbrev cX2_fail : ByteArray := prog_4_method_8_code
def yX2_fail : MethodName := ⟨RX2, "fail", "(I)V"⟩
abbrev cX2_takeSign : ByteArray := prog_4_method_9_code
def yX2_takeSign : MethodName := ⟨RX2, "takeSign", "(I)V"⟩
abbrev cX2_takeSort : ByteArray := prog_4_method_10_code
def yX2_takeSort : MethodName := ⟨RX2, "takeSort", "()I"⟩
abbrev cX2_takeNumber : ByteArray := prog_4_method_11_code
def yX2_takeNumber : MethodName := ⟨RX2, "takeNumber", "(II)I"⟩
abbrev cX2_sortOf : ByteArray := prog_4_method_12_code
def yX2_sortOf : MethodName := ⟨RX2, "sortOf", "(I)I"⟩
def RX3 : String := "LentGrannies$Rota"
def TX3 : u_T := fun k => match k with
  | 0 => ("LentGrannies$Rota", "town", "LLentGrannies$Town;", true)
  | 1 => ("LentGrannies$Rota", "was", "[I", true)
  | 2 => ("LentGrannies$Rota", "reach", "[I", true)
  | 3 => ("LentGrannies$Rota", "reachFrom", "[I", true)
  | 4 => ("LentGrannies$Rota", "wanted", "I", false)
  | _ => ("LentGrannies$Rota", "span", "I", false)
def tyX3 : Nat → FieldType := fun k => match k with
  | 0 => .object "LentGrannies$Town"
  | 1 => .array .int
  | 2 => .array .int
  | 3 => .array .int
  | 4 => .int
  | _ => .int
abbrev wsX30 : List Cond := u_ws RX3 TX3 6
theorem nmX3 : ∀ a, a < 6 → ∀ b, b < 6 → a ≠ b → (TX3 a).2.1 ≠ (TX3 b).2.1 := by decide +kernel
theorem tyX3_ok : ∀ k, k < 6 → parseFieldDescriptor (TX3 k).2.2.1 = some (tyX3 k) := by decide +kernel
abbrev cX3_init : ByteArray := prog_5_method_1_code
def yX3_init : MethodName := ⟨RX3, "<init>", "()V"⟩
abbrev cX3_fewestChanges : ByteArray := prog_5_method_2_code
def yX3_fewestChanges : MethodName := ⟨RX3, "fewestChanges", "([III)I"⟩
abbrev cX3_longestIll : ByteArray := prog_5_method_3_code
def yX3_longestIll : MethodName := ⟨RX3, "longestIll", "()I"⟩
abbrev cX3_noteReach : ByteArray := prog_5_method_4_code
def yX3_noteReach : MethodName := ⟨RX3, "noteReach", "()V"⟩
abbrev cX3_visited : ByteArray := prog_5_method_5_code
def yX3_visited : MethodName := ⟨RX3, "visited", "(I)I"⟩
abbrev cX3_place : ByteArray := prog_5_method_6_code
def yX3_place : MethodName := ⟨RX3, "place", "(III)Z"⟩
def RX4 : String := "LentGrannies$Shelf"
def TX4 : u_T := fun k => match k with
  | 0 => ("LentGrannies$Shelf", "items", "[[I", true)
  | 1 => ("LentGrannies$Shelf", "lanes", "[I", true)
  | _ => ("LentGrannies$Shelf", "sizes", "[I", true)
def tyX4 : Nat → FieldType := fun k => match k with
  | 0 => .array (.array .int)
  | 1 => .array .int
  | _ => .array .int
abbrev wsX40 : List Cond := u_ws RX4 TX4 3
theorem nmX4 : ∀ a, a < 3 → ∀ b, b < 3 → a ≠ b → (TX4 a).2.1 ≠ (TX4 b).2.1 := by decide +kernel
theorem tyX4_ok : ∀ k, k < 3 → parseFieldDescriptor (TX4 k).2.2.1 = some (tyX4 k) := by decide +kernel
abbrev cX4_init : ByteArray := prog_6_method_1_code
def yX4_init : MethodName := ⟨RX4, "<init>", "()V"⟩
abbrev cX4_holds : ByteArray := prog_6_method_2_code
def yX4_holds : MethodName := ⟨RX4, "holds", "(I)Z"⟩
abbrev cX4_isMissing : ByteArray := prog_6_method_3_code
def yX4_isMissing : MethodName := ⟨RX4, "isMissing", "(I)Z"⟩
abbrev cX4_lay : ByteArray := prog_6_method_4_code
def yX4_lay : MethodName := ⟨RX4, "lay", "(III)V"⟩
abbrev cX4_takeAway : ByteArray := prog_6_method_5_code
def yX4_takeAway : MethodName := ⟨RX4, "takeAway", "(I)I"⟩
abbrev cX4_put : ByteArray := prog_6_method_6_code
def yX4_put : MethodName := ⟨RX4, "put", "(III)I"⟩
abbrev cX4_itemAt : ByteArray := prog_6_method_7_code
def yX4_itemAt : MethodName := ⟨RX4, "itemAt", "(II)I"⟩
abbrev cX4_findingOf : ByteArray := prog_6_method_8_code
def yX4_findingOf : MethodName := ⟨RX4, "findingOf", "(III)I"⟩
abbrev cX4_findingOfMove : ByteArray := prog_6_method_9_code
def yX4_findingOfMove : MethodName := ⟨RX4, "findingOfMove", "(IIIII)I"⟩
abbrev cX4_move : ByteArray := prog_6_method_10_code
def yX4_move : MethodName := ⟨RX4, "move", "(IIIII)V"⟩
abbrev cX4_rowsThere : ByteArray := prog_6_method_11_code
def yX4_rowsThere : MethodName := ⟨RX4, "rowsThere", "()I"⟩
abbrev cX4_isSpan : ByteArray := prog_6_method_12_code
def yX4_isSpan : MethodName := ⟨RX4, "isSpan", "(III)Z"⟩
def RX5 : String := "LentGrannies$Town"
def TX5 : u_T := fun k => match k with
  | 0 => ("LentGrannies$Town", "eats", "I", false)
  | 1 => ("LentGrannies$Town", "parts", "I", false)
  | 2 => ("LentGrannies$Town", "children", "I", false)
  | 3 => ("LentGrannies$Town", "grans", "I", false)
  | 4 => ("LentGrannies$Town", "day", "I", false)
  | 5 => ("LentGrannies$Town", "fed", "[I", true)
  | 6 => ("LentGrannies$Town", "spoilt", "[I", true)
  | 7 => ("LentGrannies$Town", "told", "[I", true)
  | 8 => ("LentGrannies$Town", "sort", "[I", true)
  | 9 => ("LentGrannies$Town", "art", "[I", true)
  | 10 => ("LentGrannies$Town", "first", "[I", true)
  | 11 => ("LentGrannies$Town", "step", "[I", true)
  | 12 => ("LentGrannies$Town", "ill", "[I", true)
  | 13 => ("LentGrannies$Town", "foes", "[I", true)
  | 14 => ("LentGrannies$Town", "host", "[I", true)
  | _ => ("LentGrannies$Town", "guests", "[I", true)
def tyX5 : Nat → FieldType := fun k => match k with
  | 0 => .int
  | 1 => .int
  | 2 => .int
  | 3 => .int
  | 4 => .int
  | 5 => .array .int
  | 6 => .array .int
  | 7 => .array .int
  | 8 => .array .int
  | 9 => .array .int
  | 10 => .array .int
  | 11 => .array .int
  | 12 => .array .int
  | 13 => .array .int
  | 14 => .array .int
  | _ => .array .int
abbrev wsX50 : List Cond := u_ws RX5 TX5 16
theorem nmX5 : ∀ a, a < 16 → ∀ b, b < 16 → a ≠ b → (TX5 a).2.1 ≠ (TX5 b).2.1 := by decide +kernel
theorem tyX5_ok : ∀ k, k < 16 → parseFieldDescriptor (TX5 k).2.2.1 = some (tyX5 k) := by decide +kernel
abbrev cX5_init : ByteArray := prog_7_method_1_code
def yX5_init : MethodName := ⟨RX5, "<init>", "()V"⟩
abbrev cX5_hasChild : ByteArray := prog_7_method_2_code
def yX5_hasChild : MethodName := ⟨RX5, "hasChild", "(I)Z"⟩
abbrev cX5_hasGran : ByteArray := prog_7_method_3_code
def yX5_hasGran : MethodName := ⟨RX5, "hasGran", "(I)Z"⟩
abbrev cX5_allChildren : ByteArray := prog_7_method_4_code
def yX5_allChildren : MethodName := ⟨RX5, "allChildren", "()I"⟩
abbrev cX5_save : ByteArray := prog_7_method_5_code
def yX5_save : MethodName := ⟨RX5, "save", "([I)V"⟩
abbrev cX5_load : ByteArray := prog_7_method_6_code
def yX5_load : MethodName := ⟨RX5, "load", "([I)V"⟩
abbrev cX5_hostOf : ByteArray := prog_7_method_7_code
def yX5_hostOf : MethodName := ⟨RX5, "hostOf", "(II)I"⟩
abbrev cX5_seat : ByteArray := prog_7_method_8_code
def yX5_seat : MethodName := ⟨RX5, "seat", "(I)V"⟩
abbrev cX5_brings : ByteArray := prog_7_method_9_code
def yX5_brings : MethodName := ⟨RX5, "brings", "(I)Z"⟩
abbrev cX5_guestsOf : ByteArray := prog_7_method_10_code
def yX5_guestsOf : MethodName := ⟨RX5, "guestsOf", "(I)I"⟩
abbrev cX5_lostOn : ByteArray := prog_7_method_11_code
def yX5_lostOn : MethodName := ⟨RX5, "lostOn", "(I)I"⟩
abbrev cX5_servedIn : ByteArray := prog_7_method_12_code
def yX5_servedIn : MethodName := ⟨RX5, "servedIn", "(I)I"⟩
abbrev cX5_servedOn : ByteArray := prog_7_method_13_code
def yX5_servedOn : MethodName := ⟨RX5, "servedOn", "(I)I"⟩
abbrev cX5_hasPeaceful : ByteArray := prog_7_method_14_code
def yX5_hasPeaceful : MethodName := ⟨RX5, "hasPeaceful", "(I)Z"⟩
abbrev cX5_passDays : ByteArray := prog_7_method_15_code
def yX5_passDays : MethodName := ⟨RX5, "passDays", "(I)V"⟩
abbrev cX5_passDay : ByteArray := prog_7_method_16_code
def yX5_passDay : MethodName := ⟨RX5, "passDay", "()V"⟩
abbrev cX5_visit : ByteArray := prog_7_method_17_code
def yX5_visit : MethodName := ⟨RX5, "visit", "(II)V"⟩
abbrev cX5_addFed : ByteArray := prog_7_method_18_code
def yX5_addFed : MethodName := ⟨RX5, "addFed", "(II)V"⟩
abbrev cX5_addSpoilt : ByteArray := prog_7_method_19_code
def yX5_addSpoilt : MethodName := ⟨RX5, "addSpoilt", "(II)V"⟩
abbrev cX5_daysToWhole : ByteArray := prog_7_method_20_code
def yX5_daysToWhole : MethodName := ⟨RX5, "daysToWhole", "(I)I"⟩
abbrev cX5_fallIll : ByteArray := prog_7_method_21_code
def yX5_fallIll : MethodName := ⟨RX5, "fallIll", "(J)V"⟩
abbrev cX5_sumOf : ByteArray := prog_7_method_22_code
def yX5_sumOf : MethodName := ⟨RX5, "sumOf", "([II)I"⟩
def RX6 : String := "LentGrannies"
def TX6 : u_T := fun k => match k with
  | 0 => ("LentGrannies", "shelf", "LLentGrannies$Shelf;", true)
  | 1 => ("LentGrannies", "reader", "LLentGrannies$Reader;", true)
  | 2 => ("LentGrannies", "now", "LLentGrannies$Town;", true)
  | 3 => ("LentGrannies", "trial", "LLentGrannies$Town;", true)
  | 4 => ("LentGrannies", "page", "[I", true)
  | 5 => ("LentGrannies", "fedUnswapped", "[I", true)
  | 6 => ("LentGrannies", "acts", "LLentGrannies$Acts;", true)
  | 7 => ("LentGrannies", "images", "[[I", true)
  | 8 => ("LentGrannies", "imageKept", "[Z", true)
  | 9 => ("LentGrannies", "asker", "LLentGrannies$Asker;", true)
  | 10 => ("LentGrannies", "search", "LLentGrannies$Rota;", true)
  | 11 => ("LentGrannies", "latestFault", "I", false)
  | _ => ("LentGrannies", "latestFinding", "I", false)
def tyX6 : Nat → FieldType := fun k => match k with
  | 0 => .object "LentGrannies$Shelf"
  | 1 => .object "LentGrannies$Reader"
  | 2 => .object "LentGrannies$Town"
  | 3 => .object "LentGrannies$Town"
  | 4 => .array .int
  | 5 => .array .int
  | 6 => .object "LentGrannies$Acts"
  | 7 => .array (.array .int)
  | 8 => .array .boolean
  | 9 => .object "LentGrannies$Asker"
  | 10 => .object "LentGrannies$Rota"
  | 11 => .int
  | _ => .int
abbrev wsX60 : List Cond := u_ws RX6 TX6 13
theorem nmX6 : ∀ a, a < 13 → ∀ b, b < 13 → a ≠ b → (TX6 a).2.1 ≠ (TX6 b).2.1 := by decide +kernel
theorem tyX6_ok : ∀ k, k < 13 → parseFieldDescriptor (TX6 k).2.2.1 = some (tyX6 k) := by decide +kernel
abbrev cX6_init : ByteArray := prog_1_method_1_code
def yX6_init : MethodName := ⟨RX6, "<init>", "()V"⟩
abbrev cX6_row : ByteArray := prog_1_method_2_code
def yX6_row : MethodName := ⟨RX6, "row", "(III)I"⟩
abbrev cX6_set : ByteArray := prog_1_method_3_code
def yX6_set : MethodName := ⟨RX6, "set", "(III)I"⟩
abbrev cX6_copy : ByteArray := prog_1_method_4_code
def yX6_copy : MethodName := ⟨RX6, "copy", "(IIIII)I"⟩
abbrev cX6_drop : ByteArray := prog_1_method_5_code
def yX6_drop : MethodName := ⟨RX6, "drop", "(I)I"⟩
abbrev cX6_feed : ByteArray := prog_1_method_6_code
def yX6_feed : MethodName := ⟨RX6, "feed", "(I)I"⟩
abbrev cX6_town : ByteArray := prog_1_method_7_code
def yX6_town : MethodName := ⟨RX6, "town", "()I"⟩
abbrev cX6_fault : ByteArray := prog_1_method_8_code
def yX6_fault : MethodName := ⟨RX6, "fault", "()I"⟩
abbrev cX6_undo : ByteArray := prog_1_method_9_code
def yX6_undo : MethodName := ⟨RX6, "undo", "()I"⟩
abbrev cX6_days : ByteArray := prog_1_method_10_code
def yX6_days : MethodName := ⟨RX6, "days", "(I)I"⟩
abbrev cX6_sick : ByteArray := prog_1_method_11_code
def yX6_sick : MethodName := ⟨RX6, "sick", "(II)I"⟩
abbrev cX6_swap : ByteArray := prog_1_method_12_code
def yX6_swap : MethodName := ⟨RX6, "swap", "(II)I"⟩
abbrev cX6_pace : ByteArray := prog_1_method_13_code
def yX6_pace : MethodName := ⟨RX6, "pace", "(II)I"⟩
abbrev cX6_quarrel : ByteArray := prog_1_method_14_code
def yX6_quarrel : MethodName := ⟨RX6, "quarrel", "(III)I"⟩
abbrev cX6_spoil : ByteArray := prog_1_method_15_code
def yX6_spoil : MethodName := ⟨RX6, "spoil", "(II)I"⟩
abbrev cX6_gran : ByteArray := prog_1_method_16_code
def yX6_gran : MethodName := ⟨RX6, "gran", "(II)I"⟩
abbrev cX6_child : ByteArray := prog_1_method_17_code
def yX6_child : MethodName := ⟨RX6, "child", "(II)I"⟩
abbrev cX6_ahead : ByteArray := prog_1_method_18_code
def yX6_ahead : MethodName := ⟨RX6, "ahead", "(III)I"⟩
abbrev cX6_withWhom : ByteArray := prog_1_method_19_code
def yX6_withWhom : MethodName := ⟨RX6, "withWhom", "(II)I"⟩
abbrev cX6_whole : ByteArray := prog_1_method_20_code
def yX6_whole : MethodName := ⟨RX6, "whole", "(I)I"⟩
abbrev cX6_hungry : ByteArray := prog_1_method_21_code
def yX6_hungry : MethodName := ⟨RX6, "hungry", "(I)I"⟩
abbrev cX6_without : ByteArray := prog_1_method_22_code
def yX6_without : MethodName := ⟨RX6, "without", "(I)I"⟩
abbrev cX6_rota : ByteArray := prog_1_method_23_code
def yX6_rota : MethodName := ⟨RX6, "rota", "(III)I"⟩
abbrev cX6_meets : ByteArray := prog_1_method_24_code
def yX6_meets : MethodName := ⟨RX6, "meets", "(II)I"⟩
abbrev cX6_lost : ByteArray := prog_1_method_25_code
def yX6_lost : MethodName := ⟨RX6, "lost", "(I)I"⟩
abbrev cX6_swaps : ByteArray := prog_1_method_26_code
def yX6_swaps : MethodName := ⟨RX6, "swaps", "(II)I"⟩
abbrev cX6_soon : ByteArray := prog_1_method_27_code
def yX6_soon : MethodName := ⟨RX6, "soon", "(II)I"⟩
abbrev cX6_who : ByteArray := prog_1_method_28_code
def yX6_who : MethodName := ⟨RX6, "who", "(IIIII)I"⟩
abbrev cX6_firsts : ByteArray := prog_1_method_29_code
def yX6_firsts : MethodName := ⟨RX6, "firsts", "(IIIII)I"⟩
abbrev cX6_steps : ByteArray := prog_1_method_30_code
def yX6_steps : MethodName := ⟨RX6, "steps", "(IIIII)I"⟩
abbrev cX6_even : ByteArray := prog_1_method_31_code
def yX6_even : MethodName := ⟨RX6, "even", "(I)I"⟩
abbrev cX6_fever : ByteArray := prog_1_method_32_code
def yX6_fever : MethodName := ⟨RX6, "fever", "(III)J"⟩
abbrev cX6_drawn : ByteArray := prog_1_method_33_code
def yX6_drawn : MethodName := ⟨RX6, "drawn", "(III)I"⟩
abbrev cX6_image : ByteArray := prog_1_method_34_code
def yX6_image : MethodName := ⟨RX6, "image", "(I)I"⟩
abbrev cX6_restore : ByteArray := prog_1_method_35_code
def yX6_restore : MethodName := ⟨RX6, "restore", "(I)I"⟩
abbrev cX6_kind : ByteArray := prog_1_method_36_code
def yX6_kind : MethodName := ⟨RX6, "kind", "(I)I"⟩
abbrev cX6_as : ByteArray := prog_1_method_37_code
def yX6_as : MethodName := ⟨RX6, "as", "(II)I"⟩
abbrev cX6_ask : ByteArray := prog_1_method_38_code
def yX6_ask : MethodName := ⟨RX6, "ask", "(II)I"⟩
abbrev cX6_trace : ByteArray := prog_1_method_39_code
def yX6_trace : MethodName := ⟨RX6, "trace", "(I)I"⟩
abbrev cX6_count : ByteArray := prog_1_method_40_code
def yX6_count : MethodName := ⟨RX6, "count", "(I)I"⟩
abbrev cX6_status : ByteArray := prog_1_method_41_code
def yX6_status : MethodName := ⟨RX6, "status", "()I"⟩
abbrev cX6_within : ByteArray := prog_1_method_42_code
def yX6_within : MethodName := ⟨RX6, "within", "(III)Z"⟩
abbrev cX6_found : ByteArray := prog_1_method_43_code
def yX6_found : MethodName := ⟨RX6, "found", "(I)I"⟩
abbrev cX6_noTown : ByteArray := prog_1_method_44_code
def yX6_noTown : MethodName := ⟨RX6, "noTown", "()Z"⟩
abbrev cX6_openTrial : ByteArray := prog_1_method_45_code
def yX6_openTrial : MethodName := ⟨RX6, "openTrial", "()V"⟩
abbrev cX6_isGoodSwap : ByteArray := prog_1_method_46_code
def yX6_isGoodSwap : MethodName := ⟨RX6, "isGoodSwap", "(III)Z"⟩
abbrev cX6_refusalOfTold : ByteArray := prog_1_method_47_code
def yX6_refusalOfTold : MethodName := ⟨RX6, "refusalOfTold", "(IIIII)I"⟩
abbrev cX6_isFedAsTold : ByteArray := prog_1_method_48_code
def yX6_isFedAsTold : MethodName := ⟨RX6, "isFedAsTold", "(IIII)Z"⟩
abbrev cX6_isOfKind : ByteArray := prog_1_method_49_code
def yX6_isOfKind : MethodName := ⟨RX6, "isOfKind", "(II)Z"⟩
abbrev cX6_power : ByteArray := prog_1_method_50_code
def yX6_power : MethodName := ⟨RX6, "power", "(II)J"⟩
abbrev cX6_commonDivisor : ByteArray := prog_1_method_51_code
def yX6_commonDivisor : MethodName := ⟨RX6, "commonDivisor", "(JJ)J"⟩
def RX7 : String := "LentGranniesModel"
def TX7 : u_T := fun k => match k with
  | 0 => ("LentGranniesModel", "row", "[I", true)
  | 1 => ("LentGranniesModel", "isTown", "Z", false)
  | 2 => ("LentGranniesModel", "undos", "I", false)
  | 3 => ("LentGranniesModel", "isKept", "[Z", true)
  | 4 => ("LentGranniesModel", "lanes", "[I", true)
  | 5 => ("LentGranniesModel", "sizes", "[I", true)
  | 6 => ("LentGranniesModel", "items", "[I", true)
  | 7 => ("LentGranniesModel", "tape", "[I", true)
  | 8 => ("LentGranniesModel", "length", "I", false)
  | 9 => ("LentGranniesModel", "fault", "I", false)
  | 10 => ("LentGranniesModel", "status", "I", false)
  | 11 => ("LentGranniesModel", "trace", "[I", true)
  | 12 => ("LentGranniesModel", "traced", "I", false)
  | 13 => ("LentGranniesModel", "at", "I", false)
  | 14 => ("LentGranniesModel", "wrong", "I", false)
  | 15 => ("LentGranniesModel", "number", "I", false)
  | 16 => ("LentGranniesModel", "tryFirsts", "[I", true)
  | 17 => ("LentGranniesModel", "bestFirsts", "[I", true)
  | _ => ("LentGranniesModel", "fedThen", "[I", true)
def tyX7 : Nat → FieldType := fun k => match k with
  | 0 => .array .int
  | 1 => .boolean
  | 2 => .int
  | 3 => .array .boolean
  | 4 => .array .int
  | 5 => .array .int
  | 6 => .array .int
  | 7 => .array .int
  | 8 => .int
  | 9 => .int
  | 10 => .int
  | 11 => .array .int
  | 12 => .int
  | 13 => .int
  | 14 => .int
  | 15 => .int
  | 16 => .array .int
  | 17 => .array .int
  | _ => .array .int
abbrev wsX70 : List Cond := u_ws RX7 TX7 19
theorem nmX7 : ∀ a, a < 19 → ∀ b, b < 19 → a ≠ b → (TX7 a).2.1 ≠ (TX7 b).2.1 := by decide +kernel
theorem tyX7_ok : ∀ k, k < 19 → parseFieldDescriptor (TX7 k).2.2.1 = some (tyX7 k) := by decide +kernel
abbrev cX7_init : ByteArray := prog_9_method_1_code
def yX7_init : MethodName := ⟨RX7, "<init>", "()V"⟩
abbrev cX7_in : ByteArray := prog_9_method_2_code
def yX7_in : MethodName := ⟨RX7, "in", "(JJJ)Z"⟩
abbrev cX7_has : ByteArray := prog_9_method_3_code
def yX7_has : MethodName := ⟨RX7, "has", "(II)Z"⟩
abbrev cX7_between : ByteArray := prog_9_method_4_code
def yX7_between : MethodName := ⟨RX7, "between", "(II)I"⟩
abbrev cX7_find : ByteArray := prog_9_method_5_code
def yX7_find : MethodName := ⟨RX7, "find", "(I)I"⟩
abbrev cX7_well : ByteArray := prog_9_method_6_code
def yX7_well : MethodName := ⟨RX7, "well", "(I)I"⟩
abbrev cX7_isRow : ByteArray := prog_9_method_7_code
def yX7_isRow : MethodName := ⟨RX7, "isRow", "(I)Z"⟩
abbrev cX7_row : ByteArray := prog_9_method_8_code
def yX7_row : MethodName := ⟨RX7, "row", "(III)I"⟩
abbrev cX7_narrow : ByteArray := prog_9_method_9_code
def yX7_narrow : MethodName := ⟨RX7, "narrow", "(II)I"⟩
abbrev cX7_set : ByteArray := prog_9_method_10_code
def yX7_set : MethodName := ⟨RX7, "set", "(III)I"⟩
abbrev cX7_isSpan : ByteArray := prog_9_method_11_code
def yX7_isSpan : MethodName := ⟨RX7, "isSpan", "(III)Z"⟩
abbrev cX7_copy : ByteArray := prog_9_method_12_code
def yX7_copy : MethodName := ⟨RX7, "copy", "(IIIII)I"⟩
abbrev cX7_drop : ByteArray := prog_9_method_13_code
def yX7_drop : MethodName := ⟨RX7, "drop", "(I)I"⟩
abbrev cX7_feed : ByteArray := prog_9_method_14_code
def yX7_feed : MethodName := ⟨RX7, "feed", "(I)I"⟩
abbrev cX7_isLetter : ByteArray := prog_9_method_15_code
def yX7_isLetter : MethodName := ⟨RX7, "isLetter", "(I)Z"⟩
abbrev cX7_isFigure : ByteArray := prog_9_method_16_code
def yX7_isFigure : MethodName := ⟨RX7, "isFigure", "(I)Z"⟩
abbrev cX7_refuse : ByteArray := prog_9_method_17_code
def yX7_refuse : MethodName := ⟨RX7, "refuse", "(I)Z"⟩
abbrev cX7_sign : ByteArray := prog_9_method_18_code
def yX7_sign : MethodName := ⟨RX7, "sign", "(I)Z"⟩
abbrev cX7_readsNumber : ByteArray := prog_9_method_19_code
def yX7_readsNumber : MethodName := ⟨RX7, "readsNumber", "(II)Z"⟩
abbrev cX7_readsLaw : ByteArray := prog_9_method_20_code
def yX7_readsLaw : MethodName := ⟨RX7, "readsLaw", "()Z"⟩
abbrev cX7_readsChild : ByteArray := prog_9_method_21_code
def yX7_readsChild : MethodName := ⟨RX7, "readsChild", "()Z"⟩
abbrev cX7_kindOfLetter : ByteArray := prog_9_method_22_code
def yX7_kindOfLetter : MethodName := ⟨RX7, "kindOfLetter", "(I)I"⟩
abbrev cX7_readsGran : ByteArray := prog_9_method_23_code
def yX7_readsGran : MethodName := ⟨RX7, "readsGran", "()Z"⟩
abbrev cX7_isSort : ByteArray := prog_9_method_24_code
def yX7_isSort : MethodName := ⟨RX7, "isSort", "()Z"⟩
abbrev cX7_reads : ByteArray := prog_9_method_25_code
def yX7_reads : MethodName := ⟨RX7, "reads", "()Z"⟩
abbrev cX7_town : ByteArray := prog_9_method_26_code
def yX7_town : MethodName := ⟨RX7, "town", "()I"⟩
abbrev cX7_fault : ByteArray := prog_9_method_27_code
def yX7_fault : MethodName := ⟨RX7, "fault", "()I"⟩
abbrev cX7_copyTown : ByteArray := prog_9_method_28_code
def yX7_copyTown : MethodName := ⟨RX7, "copyTown", "(II)V"⟩
abbrev cX7_keepPast : ByteArray := prog_9_method_29_code
def yX7_keepPast : MethodName := ⟨RX7, "keepPast", "()V"⟩
abbrev cX7_undo : ByteArray := prog_9_method_30_code
def yX7_undo : MethodName := ⟨RX7, "undo", "()I"⟩
abbrev cX7_isChild : ByteArray := prog_9_method_31_code
def yX7_isChild : MethodName := ⟨RX7, "isChild", "(I)Z"⟩
abbrev cX7_isGran : ByteArray := prog_9_method_32_code
def yX7_isGran : MethodName := ⟨RX7, "isGran", "(I)Z"⟩
abbrev cX7_withOf : ByteArray := prog_9_method_33_code
def yX7_withOf : MethodName := ⟨RX7, "withOf", "(II)I"⟩
abbrev cX7_isLost : ByteArray := prog_9_method_34_code
def yX7_isLost : MethodName := ⟨RX7, "isLost", "(II)Z"⟩
abbrev cX7_feeds : ByteArray := prog_9_method_35_code
def yX7_feeds : MethodName := ⟨RX7, "feeds", "(III)V"⟩
abbrev cX7_spoils : ByteArray := prog_9_method_36_code
def yX7_spoils : MethodName := ⟨RX7, "spoils", "(III)V"⟩
abbrev cX7_brings : ByteArray := prog_9_method_37_code
def yX7_brings : MethodName := ⟨RX7, "brings", "(III)V"⟩
abbrev cX7_pass : ByteArray := prog_9_method_38_code
def yX7_pass : MethodName := ⟨RX7, "pass", "(I)V"⟩
abbrev cX7_days : ByteArray := prog_9_method_39_code
def yX7_days : MethodName := ⟨RX7, "days", "(I)I"⟩
abbrev cX7_put : ByteArray := prog_9_method_40_code
def yX7_put : MethodName := ⟨RX7, "put", "(II)I"⟩
abbrev cX7_sick : ByteArray := prog_9_method_41_code
def yX7_sick : MethodName := ⟨RX7, "sick", "(II)I"⟩
abbrev cX7_swap : ByteArray := prog_9_method_42_code
def yX7_swap : MethodName := ⟨RX7, "swap", "(II)I"⟩
abbrev cX7_pace : ByteArray := prog_9_method_43_code
def yX7_pace : MethodName := ⟨RX7, "pace", "(II)I"⟩
abbrev cX7_areTwo : ByteArray := prog_9_method_44_code
def yX7_areTwo : MethodName := ⟨RX7, "areTwo", "(II)Z"⟩
abbrev cX7_quarrel : ByteArray := prog_9_method_45_code
def yX7_quarrel : MethodName := ⟨RX7, "quarrel", "(III)I"⟩
abbrev cX7_spoil : ByteArray := prog_9_method_46_code
def yX7_spoil : MethodName := ⟨RX7, "spoil", "(II)I"⟩
abbrev cX7_gran : ByteArray := prog_9_method_47_code
def yX7_gran : MethodName := ⟨RX7, "gran", "(II)I"⟩
abbrev cX7_visitors : ByteArray := prog_9_method_48_code
def yX7_visitors : MethodName := ⟨RX7, "visitors", "(I)I"⟩
abbrev cX7_child : ByteArray := prog_9_method_49_code
def yX7_child : MethodName := ⟨RX7, "child", "(II)I"⟩
abbrev cX7_layTried : ByteArray := prog_9_method_50_code
def yX7_layTried : MethodName := ⟨RX7, "layTried", "(I)V"⟩
abbrev cX7_ahead : ByteArray := prog_9_method_51_code
def yX7_ahead : MethodName := ⟨RX7, "ahead", "(III)I"⟩
abbrev cX7_withWhom : ByteArray := prog_9_method_52_code
def yX7_withWhom : MethodName := ⟨RX7, "withWhom", "(II)I"⟩
abbrev cX7_wholeTried : ByteArray := prog_9_method_53_code
def yX7_wholeTried : MethodName := ⟨RX7, "wholeTried", "(I)I"⟩
abbrev cX7_whole : ByteArray := prog_9_method_54_code
def yX7_whole : MethodName := ⟨RX7, "whole", "(I)I"⟩
abbrev cX7_hungry : ByteArray := prog_9_method_55_code
def yX7_hungry : MethodName := ⟨RX7, "hungry", "(I)I"⟩
abbrev cX7_visitedTried : ByteArray := prog_9_method_56_code
def yX7_visitedTried : MethodName := ⟨RX7, "visitedTried", "(I)I"⟩
abbrev cX7_allChildren : ByteArray := prog_9_method_57_code
def yX7_allChildren : MethodName := ⟨RX7, "allChildren", "()I"⟩
abbrev cX7_without : ByteArray := prog_9_method_58_code
def yX7_without : MethodName := ⟨RX7, "without", "(I)I"⟩
abbrev cX7_nextFirsts : ByteArray := prog_9_method_59_code
def yX7_nextFirsts : MethodName := ⟨RX7, "nextFirsts", "()Z"⟩
abbrev cX7_changes : ByteArray := prog_9_method_60_code
def yX7_changes : MethodName := ⟨RX7, "changes", "()I"⟩
abbrev cX7_servesAll : ByteArray := prog_9_method_61_code
def yX7_servesAll : MethodName := ⟨RX7, "servesAll", "(II)Z"⟩
abbrev cX7_rota : ByteArray := prog_9_method_62_code
def yX7_rota : MethodName := ⟨RX7, "rota", "(III)I"⟩
abbrev cX7_meets : ByteArray := prog_9_method_63_code
def yX7_meets : MethodName := ⟨RX7, "meets", "(II)I"⟩
abbrev cX7_lost : ByteArray := prog_9_method_64_code
def yX7_lost : MethodName := ⟨RX7, "lost", "(I)I"⟩
abbrev cX7_isBetter : ByteArray := prog_9_method_65_code
def yX7_isBetter : MethodName := ⟨RX7, "isBetter", "(III)Z"⟩
abbrev cX7_swaps : ByteArray := prog_9_method_66_code
def yX7_swaps : MethodName := ⟨RX7, "swaps", "(II)I"⟩
abbrev cX7_soon : ByteArray := prog_9_method_67_code
def yX7_soon : MethodName := ⟨RX7, "soon", "(II)I"⟩
abbrev cX7_noItems : ByteArray := prog_9_method_68_code
def yX7_noItems : MethodName := ⟨RX7, "noItems", "(IIIII)I"⟩
abbrev cX7_isFedSo : ByteArray := prog_9_method_69_code
def yX7_isFedSo : MethodName := ⟨RX7, "isFedSo", "(IIIIII)Z"⟩
abbrev cX7_who : ByteArray := prog_9_method_70_code
def yX7_who : MethodName := ⟨RX7, "who", "(IIIII)I"⟩
abbrev cX7_firsts : ByteArray := prog_9_method_71_code
def yX7_firsts : MethodName := ⟨RX7, "firsts", "(IIIII)I"⟩
abbrev cX7_steps : ByteArray := prog_9_method_72_code
def yX7_steps : MethodName := ⟨RX7, "steps", "(IIIII)I"⟩
abbrev cX7_even : ByteArray := prog_9_method_73_code
def yX7_even : MethodName := ⟨RX7, "even", "(I)I"⟩
abbrev cX7_isVisited : ByteArray := prog_9_method_74_code
def yX7_isVisited : MethodName := ⟨RX7, "isVisited", "(I)Z"⟩
abbrev cX7_fever : ByteArray := prog_9_method_75_code
def yX7_fever : MethodName := ⟨RX7, "fever", "(III)J"⟩
abbrev cX7_sumOf : ByteArray := prog_9_method_76_code
def yX7_sumOf : MethodName := ⟨RX7, "sumOf", "(I)I"⟩
abbrev cX7_drawn : ByteArray := prog_9_method_77_code
def yX7_drawn : MethodName := ⟨RX7, "drawn", "(III)I"⟩
abbrev cX7_image : ByteArray := prog_9_method_78_code
def yX7_image : MethodName := ⟨RX7, "image", "(I)I"⟩
abbrev cX7_restore : ByteArray := prog_9_method_79_code
def yX7_restore : MethodName := ⟨RX7, "restore", "(I)I"⟩
abbrev cX7_kind : ByteArray := prog_9_method_80_code
def yX7_kind : MethodName := ⟨RX7, "kind", "(I)I"⟩
abbrev cX7_isOf : ByteArray := prog_9_method_81_code
def yX7_isOf : MethodName := ⟨RX7, "isOf", "(II)Z"⟩
abbrev cX7_as : ByteArray := prog_9_method_82_code
def yX7_as : MethodName := ⟨RX7, "as", "(II)I"⟩
abbrev cX7_begin : ByteArray := prog_9_method_83_code
def yX7_begin : MethodName := ⟨RX7, "begin", "(I)V"⟩
abbrev cX7_lentSize : ByteArray := prog_9_method_84_code
def yX7_lentSize : MethodName := ⟨RX7, "lentSize", "(I)I"⟩
abbrev cX7_soupsSize : ByteArray := prog_9_method_85_code
def yX7_soupsSize : MethodName := ⟨RX7, "soupsSize", "(I)I"⟩
abbrev cX7_sternSize : ByteArray := prog_9_method_86_code
def yX7_sternSize : MethodName := ⟨RX7, "sternSize", "(I)I"⟩
abbrev cX7_sizeOf : ByteArray := prog_9_method_87_code
def yX7_sizeOf : MethodName := ⟨RX7, "sizeOf", "(I)I"⟩
abbrev cX7_lentMark : ByteArray := prog_9_method_88_code
def yX7_lentMark : MethodName := ⟨RX7, "lentMark", "(I)I"⟩
abbrev cX7_soupsMark : ByteArray := prog_9_method_89_code
def yX7_soupsMark : MethodName := ⟨RX7, "soupsMark", "(I)I"⟩
abbrev cX7_mark : ByteArray := prog_9_method_90_code
def yX7_mark : MethodName := ⟨RX7, "mark", "(I)I"⟩
abbrev cX7_sternMark : ByteArray := prog_9_method_91_code
def yX7_sternMark : MethodName := ⟨RX7, "sternMark", "(I)I"⟩
abbrev cX7_ask : ByteArray := prog_9_method_92_code
def yX7_ask : MethodName := ⟨RX7, "ask", "(II)I"⟩
abbrev cX7_trace : ByteArray := prog_9_method_93_code
def yX7_trace : MethodName := ⟨RX7, "trace", "(I)I"⟩
abbrev cX7_count : ByteArray := prog_9_method_94_code
def yX7_count : MethodName := ⟨RX7, "count", "(I)I"⟩
abbrev cX7_status : ByteArray := prog_9_method_95_code
def yX7_status : MethodName := ⟨RX7, "status", "()I"⟩
def RJ6 : String := "java/lang/Integer"
def TJ6 : u_T := fun k => match k with
  | _ => ("", "", "", false)
def tyJ6 : Nat → FieldType := fun k => match k with
  | _ => .int
abbrev cJ6_bitCount_0f7a4 : ByteArray := prog_10_method_49_code
def yJ6_bitCount_0f7a4 : MethodName := ⟨RJ6, "bitCount", "(I)I"⟩
def RJ9 : String := "java/lang/Math"
def TJ9 : u_T := fun k => match k with
  | _ => ("", "", "", false)
def tyJ9 : Nat → FieldType := fun k => match k with
  | _ => .int
abbrev cJ9_max_7cf53 : ByteArray := prog_11_method_65_code
def yJ9_max_7cf53 : MethodName := ⟨RJ9, "max", "(II)I"⟩
abbrev cJ9_max_f86c9 : ByteArray := prog_11_method_66_code
def yJ9_max_f86c9 : MethodName := ⟨RJ9, "max", "(JJ)J"⟩
abbrev cJ9_min_7cf53 : ByteArray := prog_11_method_69_code
def yJ9_min_7cf53 : MethodName := ⟨RJ9, "min", "(II)I"⟩
def RJ10 : String := "java/lang/System"
def TJ10 : u_T := fun k => match k with
  | _ => ("", "", "", false)
def tyJ10 : Nat → FieldType := fun k => match k with
  | _ => .int
def RL : String := "LentGranniesLaw"
abbrev cL_law : ByteArray := code
def yL_law : MethodName := ⟨RL, "law", "([I)Z"⟩
abbrev vwCl : List vw_C := [(RX0, TX0, 3), (RX1, TX1, 6), (RX2, TX2, 6), (RX3, TX3, 6), (RX4, TX4, 3), (RX5, TX5, 16), (RX6, TX6, 13), (RX7, TX7, 19)]
def va_AOA (t : FieldType) (U : State) : Prop := (Cond.arrayOver (.array t)).before #[] U = true
theorem va_AOA.of {t : FieldType} {A : Array Value} {U : State} (h : (Cond.arrayOver (.array t)).before A U = true) : va_AOA t U := h
theorem va_AOA.use {t : FieldType} {A : Array Value} {U : State} (h : va_AOA t U) : (Cond.arrayOver (.array t)).before A U = true := h
/-- f, but v at every address of l -/
def vr_up {α : Type} (f : Nat → α) (l : List Nat) (v : α) : Nat → α := fun a => if a ∈ l then v else f a
theorem vr_up_in {α : Type} {f : Nat → α} {l : List Nat} {v : α} {a : Nat} (h : a ∈ l) : vr_up f l v a = v := if_pos h
theorem vr_up_ne {α : Type} {f : Nat → α} {l : List Nat} {v : α} {a : Nat} (h : a ∉ l) : vr_up f l v a = f a := if_neg h
theorem vr_rows {L l : List Nat} {f : Nat → va_E} {e : va_E} (h : ∀ a, a ∈ l → a ∉ L) : va_pl L f ++ l.map (fun a => (a, e)) = va_pl (L ++ l) (vr_up f l e) := by
  unfold va_pl
  rw [List.map_append]
  congr 1
  · apply List.map_congr_left
    intro a ha
    rw [vr_up_ne (fun q => h a q ha)]
  · apply List.map_congr_left
    intro a ha
    rw [vr_up_in ha]
theorem vr_lay {X rows : va_W} {x : Nat × va_E} {pl : va_W} {D : va_G} {cl : List vw_C} {H : Heap} (hP : va_P D cl (((X ++ pl) ++ [x]) ++ rows) H) : va_P D cl ((X ++ [x]) ++ (pl ++ rows)) H := by
  rw [List.append_assoc (X ++ pl)] at hP
  have h := va_P.swap hP
  rw [← List.append_assoc X] at h
  have h2 := va_P.swap h
  rw [List.append_assoc (X ++ [x])] at h2
  exact h2
theorem vr_layD {X rows : va_W} {x : Nat × va_E} {pl : va_W} {A : Nat → Prop} (hD : va_D A (((X ++ pl) ++ [x]) ++ rows)) : va_D A ((X ++ [x]) ++ (pl ++ rows)) := by
  rw [List.append_assoc (X ++ pl)] at hD
  have h := va_D.swap hD
  rw [← List.append_assoc X] at h
  have h2 := va_D.swap h
  rw [List.append_assoc (X ++ [x])] at h2
  exact h2
theorem vr_outer (c : ClassId) (N h0 : Nat) : ∀ i : Nat, Jvm.Free.Multi.outerC c N h0 i = arrV c N (fun j => va_rf (if j < i then some (h0 + 1 + j) else none))
  | 0 => by
    show ({ cls := c, slots := Array.replicate N .null, vm := .none } : Cell) = _
    rw [arrV_new]
    refine congrArg (arrV c N) (funext fun j => ?_)
    simp [va_rf]
  | i + 1 => by
    show (Jvm.Free.Multi.outerC c N h0 i).setSlot i (.ref (h0 + 1 + i)) = _
    rw [vr_outer c N h0 i, arrV_store]
    refine congrArg (arrV c N) (funext fun j => ?_)
    by_cases e : j = i
    · subst e
      simp [updV, va_rf]
    · by_cases h : j < i
      · simp [updV, e, h, Nat.lt_succ_of_lt h]
      · simp [updV, e, h, show ¬ j < i + 1 by omega]
section VGM
variable {p : Program} {l : Launch} {e : Env} {R : Room} {s : State} {m : MethodId} {args : Array Value} {below : List Frame} {meth : Method} {c : Code} {H : Heap} {locs : List Loc} {cells slots : Nat} {Q : State → Prop}
variable {cc : ByteArray} {pc : Nat} {ls : Array Slot} {rest : List Value} {D : va_G} {cl : List vw_C} {A : Nat → Prop} {a : Nat} {tys : List (ClassId × FieldType)} {ws : va_W} {H0 : Heap}
theorem va_mna {X : va_W} {L : List Nat} {f : Nat → va_E} {cc : ByteArray} (hexec : p.tables.exec = Jvm.exec) (hb : c.code = cc) {own : String} {index : Nat} {ty : FieldType} {cy : ClassId} (hown : s.vm.findClass own = some m.cls) (hclink : (Cond.classLink own index ("[" ++ (FieldType.array ty).toString)).before args s = true) (hover : va_AOA ty s) (harr : (Cond.arrayClass ty).before args s = true) (hcy : s.vm.findClass (FieldType.array ty).toString = some cy)
    (hK : va_K D cl tys s) (hP : va_P D cl (X ++ va_pl L f) H) (hD : va_D A (X ++ va_pl L f)) (hS : va_S A H0 H locs) (hA : ∀ q, H0.size ≤ q → A q) {n k : Int32} {N' K' : Nat} {z : vp_A} (hn : ¬ n < 0) (hk : ¬ k < 0) (hN : n.toNatClampNeg = N') (hM : k.toNatClampNeg = K')
    (hb1 : N' * 4 ≤ 536870912) (hb2 : K' * componentBytes ty ≤ 536870912) (hb3 : K' ≤ 536870912) (hdf : fits ty (defaultValue ty) = true) (hdd : (defaultValue ty).isDefault = true) (hcells : cells + (1 + N') ≤ R.cells) (hslots : slots + (N' + N' * K') ≤ R.slots) (hz : ∀ c : ClassId, Jvm.Free.Multi.innerC c K' (defaultValue ty) = vp_cell c z) (hdg : decode cc pc = .ok (.multianewarray index 2, 4))
    (kk : ∀ (q : Nat) (r : Nat → Nat) (cA : ClassId) (H1 : Heap), (∀ i j : Nat, i < N' → j < N' → r i = r j → i = j) → (∀ i : Nat, i < N' → r i ∉ L) → va_K D cl (tys ++ [(cA, .array ty)]) s →
      va_P D cl ((X ++ [(q, .inl (cA, N', .inr (.inr (.inr (.inr (fun i => if i < N' then some (r i) else none))))))]) ++ va_pl (L ++ (List.range N').map r) (vr_up f ((List.range N').map r) (.inl (cy, z)))) H1 → va_D A ((X ++ [(q, .inl (cA, N', .inr (.inr (.inr (.inr (fun i => if i < N' then some (r i) else none))))))]) ++ va_pl (L ++ (List.range N').map r) (vr_up f ((List.range N').map r) (.inl (cy, z)))) → va_S A H0 H1 locs →
      W p l e R s m args below meth c H1 locs (cells + 1 + N') (slots + N' + N' * K') Q (F0 m (pc + 4) ls (.ref q :: rest))) : W p l e R s m args below meth c H locs cells slots Q (F0 m pc ls (.int k :: .int n :: rest)) := by
  subst hN
  subst hM
  intro T hT Xs
  obtain ⟨vm₁, cA, comp, -, fA, fC, hO, -, X', step⟩ := Xs.multianewarray2F hexec hown hclink (va_AOA.use hover) harr (g := F0 m pc ls (.int k :: .int n :: rest)) rfl (by rw [hb]; exact hdg) rfl hn hk hb1 hb2 hb3 hdf hdd hcells hslots
  have ec : some cy = some comp := hcy.symm.trans fC
  cases ec
  generalize hF : Jvm.Free.Multi.fill (T.setVm vm₁) cA cy n.toNatClampNeg k.toNatClampNeg (defaultValue ty) n.toNatClampNeg = F at X' step
  have hTh : (T.setVm vm₁).heap = H := hT
  obtain ⟨f1, f2, -, -⟩ := Jvm.Free.Multi.fill_facts (T.setVm vm₁) cA cy n.toNatClampNeg k.toNatClampNeg (defaultValue ty) n.toNatClampNeg
  rw [hF, hTh] at f1 f2
  have hold : ∀ x : Nat, x < H.size → F.heap[x]? = H[x]? := fun x hx => by
    have := Jvm.Free.Multi.fill_old (T.setVm vm₁) cA cy n.toNatClampNeg k.toNatClampNeg (defaultValue ty) (a := x) (by rw [hTh]; exact hx) n.toNatClampNeg
    rw [hF, hTh] at this
    exact this
  have hrow : ∀ j : Nat, j < n.toNatClampNeg → F.heap[H.size + 1 + j]? = some (vp_cell cy z) := fun j hj => by
    have := Jvm.Free.Multi.fill_inner (T.setVm vm₁) cA cy n.toNatClampNeg k.toNatClampNeg (defaultValue ty) n.toNatClampNeg j hj
    rw [hF, hTh, hz] at this
    exact this
  have hout : Jvm.Free.Multi.outerC cA n.toNatClampNeg H.size n.toNatClampNeg = vp_cell cA (n.toNatClampNeg, .inr (.inr (.inr (.inr (fun i => if i < n.toNatClampNeg then some (H.size + 1 + i) else none))))) := by
    rw [vp_cell_q]
    exact vr_outer cA n.toNatClampNeg H.size n.toNatClampNeg
  rw [hout] at f2
  have hlt : ∀ a, a ∈ L → a < H.size := fun a ha => by
    obtain ⟨k9, hk9⟩ := va_pl_get (X := X) (f := f) ha
    exact (hP k9 _ hk9).lt
  have hnl : ∀ i : Nat, i < n.toNatClampNeg → H.size + 1 + i ∉ L := fun i _ h => by
    have := hlt _ h
    omega
  have hnm : ∀ a, a ∈ (List.range n.toNatClampNeg).map (fun i => H.size + 1 + i) → a ∉ L := fun a ha h => by
    obtain ⟨i, -, rfl⟩ := List.mem_map.mp ha
    have := hlt _ h
    omega
  have hP0 : va_P D cl (X ++ va_pl L f) F.heap := hP.kept (fun k9 x hx => hold x.1 ((hP k9 x hx).lt))
  have hP1 : va_P D cl ((X ++ va_pl L f) ++ [(H.size, .inl (cA, n.toNatClampNeg, .inr (.inr (.inr (.inr (fun i => if i < n.toNatClampNeg then some (H.size + 1 + i) else none))))))]) F.heap := hP0.app (fun k9 x hx => by
    have h0 : k9 < 1 := (List.getElem?_eq_some_iff.mp hx).1
    rw [show k9 = 0 by omega] at hx
    cases hx
    exact f2)
  have hP2 : va_P D cl (((X ++ va_pl L f) ++ [(H.size, .inl (cA, n.toNatClampNeg, .inr (.inr (.inr (.inr (fun i => if i < n.toNatClampNeg then some (H.size + 1 + i) else none))))))]) ++ ((List.range n.toNatClampNeg).map (fun i => H.size + 1 + i)).map (fun a => (a, .inl (cy, z)))) F.heap := hP1.app (fun k9 x hx => by
    obtain ⟨a, ha, rfl⟩ := List.mem_map.mp (List.mem_of_getElem? hx)
    obtain ⟨i, hi, rfl⟩ := List.mem_map.mp ha
    exact hrow i (List.mem_range.mp hi))
  have hD2 : va_D A (((X ++ va_pl L f) ++ [(H.size, .inl (cA, n.toNatClampNeg, .inr (.inr (.inr (.inr (fun i => if i < n.toNatClampNeg then some (H.size + 1 + i) else none))))))]) ++ ((List.range n.toNatClampNeg).map (fun i => H.size + 1 + i)).map (fun a => (a, .inl (cy, z)))) := by
    have hD1 := hD.push (e := .inl (cA, n.toNatClampNeg, .inr (.inr (.inr (.inr (fun i => if i < n.toNatClampNeg then some (H.size + 1 + i) else none)))))) hP rfl (hA _ hS.1)
    generalize hW1 : (X ++ va_pl L f) ++ [(H.size, .inl (cA, n.toNatClampNeg, .inr (.inr (.inr (.inr (fun i => if i < n.toNatClampNeg then some (H.size + 1 + i) else none))))))] = W1 at hD1 hP1 ⊢
    have hle : ∀ (k9 : Nat) (x : Nat × va_E), W1[k9]? = some x → x.1 ≤ H.size := fun k9 x hx => by
      rw [← hW1] at hx
      by_cases hl : k9 < (X ++ va_pl L f).length
      · rw [List.getElem?_append_left hl] at hx
        exact Nat.le_of_lt ((hP k9 x hx).lt)
      · rw [List.getElem?_append_right (by omega)] at hx
        have h0 : k9 - (X ++ va_pl L f).length < 1 := (List.getElem?_eq_some_iff.mp hx).1
        rw [show k9 - (X ++ va_pl L f).length = 0 by omega] at hx
        cases hx
        exact Nat.le_refl _
    have hr : ∀ (k9 : Nat) (x : Nat × va_E), (((List.range n.toNatClampNeg).map (fun i => H.size + 1 + i)).map (fun a => ((a, .inl (cy, z)) : Nat × va_E)))[k9]? = some x → x.1 = H.size + 1 + k9 := fun k9 x hx => by
      rw [List.getElem?_map, List.getElem?_map] at hx
      by_cases h9 : k9 < n.toNatClampNeg
      · rw [List.getElem?_range h9] at hx
        cases hx
        rfl
      · have hn0 : (List.range n.toNatClampNeg)[k9]? = none := List.getElem?_eq_none (by rw [List.length_range]; omega)
        rw [hn0] at hx
        cases hx
    refine ⟨fun i j x y hi hj hxy => ?_, fun k9 x hx => ?_⟩
    · by_cases h1 : i < W1.length <;> by_cases h2 : j < W1.length
      · rw [List.getElem?_append_left h1] at hi
        rw [List.getElem?_append_left h2] at hj
        exact hD1.1 i j x y hi hj hxy
      · rw [List.getElem?_append_left h1] at hi
        rw [List.getElem?_append_right (by omega)] at hj
        have := hle _ _ hi
        have := hr _ _ hj
        omega
      · rw [List.getElem?_append_right (by omega)] at hi
        rw [List.getElem?_append_left h2] at hj
        have := hle _ _ hj
        have := hr _ _ hi
        omega
      · rw [List.getElem?_append_right (by omega)] at hi hj
        have := hr _ _ hi
        have := hr _ _ hj
        omega
    · by_cases h1 : k9 < W1.length
      · rw [List.getElem?_append_left h1] at hx
        exact hD1.2 k9 x hx
      · rw [List.getElem?_append_right (by omega)] at hx
        have := hr _ _ hx
        exact hA _ (by have := hS.1; omega)
  have hAr : ArrOfT s cA (.array ty) := fun N9 z9 => by
    obtain ⟨-, k9, hk9, cm9, hkk9⟩ := (hO 0 0 0).1
    exact ⟨(fun q hq => by cases hq), k9, hk9, cm9, hkk9⟩
  have hK2 : va_K D cl (tys ++ [(cA, .array ty)]) s := ⟨hK.1, fun k9 x hx => by
    by_cases hl : k9 < tys.length
    · rw [List.getElem?_append_left hl] at hx
      exact hK.2 k9 x hx
    · rw [List.getElem?_append_right (by omega)] at hx
      have h0 : k9 - tys.length < 1 := (List.getElem?_eq_some_iff.mp hx).1
      rw [show k9 - tys.length = 0 by omega] at hx
      cases hx
      exact ⟨hAr, fA⟩⟩
  obtain ⟨t, a1, b1⟩ := kk H.size (fun i => H.size + 1 + i) cA F.heap (fun i j _ _ h => by have h9 : H.size + 1 + i = H.size + 1 + j := h; omega) hnl hK2 (by rw [← vr_rows hnm]; exact vr_lay hP2) (by rw [← vr_rows hnm]; exact vr_layD hD2) ⟨by rw [f1]; have := hS.1; omega, fun x h1 h2 => (hold x (Nat.lt_of_lt_of_le h1 hS.1)).trans (hS.2.1 x h1 h2), hS.2.2⟩ F rfl X'
  refine ⟨t, step t ?_, b1⟩
  have e : T.heap.size = H.size := by rw [hT]
  rw [e]
  exact a1
end VGM
