noncomputable section
/-! ===== BEGIN printed: names, fields, word lists, decode rows ===== -/
def RX0 : String := "MapRevisions$Content"
def TX0 : u_T := fun k => match k with
  | 0 => ("MapRevisions$Content", "there", "Z", true)
  | 1 => ("MapRevisions$Content", "x", "I", true)
  | 2 => ("MapRevisions$Content", "y", "I", true)
  | _ => ("MapRevisions$Content", "members", "[I", true)
def tyX0 : Nat → FieldType := fun k => match k with
  | 0 => .boolean
  | 1 => .int
  | 2 => .int
  | _ => .array .int
abbrev wsX00 : List Cond := u_ws RX0 TX0 4
theorem nmX0 : ∀ a, a < 4 → ∀ b, b < 4 → a ≠ b → (TX0 a).2.1 ≠ (TX0 b).2.1 := by decide +kernel
theorem tyX0_ok : ∀ k, k < 4 → parseFieldDescriptor (TX0 k).2.2.1 = some (tyX0 k) := by decide +kernel
abbrev cX0_init : ByteArray := prog_2_method_1_code
def yX0_init : MethodName := ⟨RX0, "<init>", "(ZII[I)V"⟩
def RX1 : String := "MapRevisions$Thing"
def TX1 : u_T := fun k => match k with
  | 0 => ("MapRevisions$Thing", "kind", "I", true)
  | _ => ("MapRevisions$Thing", "last", "LMapRevisions$Version;", false)
def tyX1 : Nat → FieldType := fun k => match k with
  | 0 => .int
  | _ => .object "MapRevisions$Version"
abbrev wsX10 : List Cond := u_ws RX1 TX1 2
theorem nmX1 : ∀ a, a < 2 → ∀ b, b < 2 → a ≠ b → (TX1 a).2.1 ≠ (TX1 b).2.1 := by decide +kernel
theorem tyX1_ok : ∀ k, k < 2 → parseFieldDescriptor (TX1 k).2.2.1 = some (tyX1 k) := by decide +kernel
abbrev cX1_init : ByteArray := prog_3_method_1_code
def yX1_init : MethodName := ⟨RX1, "<init>", "(ILMapRevisions$Version;)V"⟩
def RX2 : String := "MapRevisions$Version"
def TX2 : u_T := fun k => match k with
  | 0 => ("MapRevisions$Version", "before", "LMapRevisions$Version;", true)
  | 1 => ("MapRevisions$Version", "number", "I", true)
  | 2 => ("MapRevisions$Version", "set", "I", true)
  | 3 => ("MapRevisions$Version", "minute", "I", true)
  | 4 => ("MapRevisions$Version", "content", "LMapRevisions$Content;", true)
  | _ => ("MapRevisions$Version", "hidden", "Z", false)
def tyX2 : Nat → FieldType := fun k => match k with
  | 0 => .object "MapRevisions$Version"
  | 1 => .int
  | 2 => .int
  | 3 => .int
  | 4 => .object "MapRevisions$Content"
  | _ => .boolean
abbrev wsX20 : List Cond := u_ws RX2 TX2 6
theorem nmX2 : ∀ a, a < 6 → ∀ b, b < 6 → a ≠ b → (TX2 a).2.1 ≠ (TX2 b).2.1 := by decide +kernel
theorem tyX2_ok : ∀ k, k < 6 → parseFieldDescriptor (TX2 k).2.2.1 = some (tyX2 k) := by decide +kernel
abbrev cX2_init : ByteArray := prog_4_method_1_code
def yX2_init : MethodName := ⟨RX2, "<init>", "(LMapRevisions$Version;IILMapRevisions$Content;)V"⟩
def RX3 : String := "MapRevisions"
def TX3 : u_T := fun k => match k with
  | 0 => ("MapRevisions", "none", "[I", true)
  | 1 => ("MapRevisions", "gone", "LMapRevisions$Content;", true)
  | 2 => ("MapRevisions", "all", "Ljava/util/ArrayList;", true)
  | 3 => ("MapRevisions", "closed", "[Z", true)
  | 4 => ("MapRevisions", "versionsOf", "[I", true)
  | 5 => ("MapRevisions", "draft", "[I", true)
  | 6 => ("MapRevisions", "sets", "I", false)
  | 7 => ("MapRevisions", "drafted", "I", false)
  | 8 => ("MapRevisions", "versions", "I", false)
  | 9 => ("MapRevisions", "now", "I", false)
  | _ => ("MapRevisions", "copyMinute", "I", false)
def tyX3 : Nat → FieldType := fun k => match k with
  | 0 => .array .int
  | 1 => .object "MapRevisions$Content"
  | 2 => .object "java/util/ArrayList"
  | 3 => .array .boolean
  | 4 => .array .int
  | 5 => .array .int
  | 6 => .int
  | 7 => .int
  | 8 => .int
  | 9 => .int
  | _ => .int
abbrev wsX30 : List Cond := u_ws RX3 TX3 11
theorem nmX3 : ∀ a, a < 11 → ∀ b, b < 11 → a ≠ b → (TX3 a).2.1 ≠ (TX3 b).2.1 := by decide +kernel
theorem tyX3_ok : ∀ k, k < 11 → parseFieldDescriptor (TX3 k).2.2.1 = some (tyX3 k) := by decide +kernel
abbrev cX3_init : ByteArray := prog_1_method_1_code
def yX3_init : MethodName := ⟨RX3, "<init>", "()V"⟩
abbrev cX3_open : ByteArray := prog_1_method_2_code
def yX3_open : MethodName := ⟨RX3, "open", "()I"⟩
abbrev cX3_close : ByteArray := prog_1_method_3_code
def yX3_close : MethodName := ⟨RX3, "close", "(I)I"⟩
abbrev cX3_refer : ByteArray := prog_1_method_4_code
def yX3_refer : MethodName := ⟨RX3, "refer", "(I)I"⟩
abbrev cX3_wipe : ByteArray := prog_1_method_5_code
def yX3_wipe : MethodName := ⟨RX3, "wipe", "()I"⟩
abbrev cX3_point : ByteArray := prog_1_method_6_code
def yX3_point : MethodName := ⟨RX3, "point", "(III)I"⟩
abbrev cX3_make : ByteArray := prog_1_method_7_code
def yX3_make : MethodName := ⟨RX3, "make", "(II)I"⟩
abbrev cX3_move : ByteArray := prog_1_method_8_code
def yX3_move : MethodName := ⟨RX3, "move", "(IIIII)I"⟩
abbrev cX3_change : ByteArray := prog_1_method_9_code
def yX3_change : MethodName := ⟨RX3, "change", "(III)I"⟩
abbrev cX3_delete : ByteArray := prog_1_method_10_code
def yX3_delete : MethodName := ⟨RX3, "delete", "(III)I"⟩
abbrev cX3_undo : ByteArray := prog_1_method_11_code
def yX3_undo : MethodName := ⟨RX3, "undo", "(II)I"⟩
abbrev cX3_things : ByteArray := prog_1_method_12_code
def yX3_things : MethodName := ⟨RX3, "things", "()I"⟩
abbrev cX3_latest : ByteArray := prog_1_method_13_code
def yX3_latest : MethodName := ⟨RX3, "latest", "(I)I"⟩
abbrev cX3_isThere : ByteArray := prog_1_method_14_code
def yX3_isThere : MethodName := ⟨RX3, "isThere", "(I)Z"⟩
abbrev cX3_whereIs : ByteArray := prog_1_method_15_code
def yX3_whereIs : MethodName := ⟨RX3, "whereIs", "(I)I"⟩
abbrev cX3_members : ByteArray := prog_1_method_16_code
def yX3_members : MethodName := ⟨RX3, "members", "(I)I"⟩
abbrev cX3_usedBy : ByteArray := prog_1_method_17_code
def yX3_usedBy : MethodName := ⟨RX3, "usedBy", "(I)I"⟩
abbrev cX3_hide : ByteArray := prog_1_method_18_code
def yX3_hide : MethodName := ⟨RX3, "hide", "(II)I"⟩
abbrev cX3_setOf : ByteArray := prog_1_method_19_code
def yX3_setOf : MethodName := ⟨RX3, "setOf", "(II)I"⟩
abbrev cX3_versionAt : ByteArray := prog_1_method_20_code
def yX3_versionAt : MethodName := ⟨RX3, "versionAt", "(II)I"⟩
abbrev cX3_inBox : ByteArray := prog_1_method_21_code
def yX3_inBox : MethodName := ⟨RX3, "inBox", "(IIIII)I"⟩
abbrev cX3_pass : ByteArray := prog_1_method_22_code
def yX3_pass : MethodName := ⟨RX3, "pass", "(I)I"⟩
abbrev cX3_take : ByteArray := prog_1_method_23_code
def yX3_take : MethodName := ⟨RX3, "take", "(I)I"⟩
abbrev cX3_inCopy : ByteArray := prog_1_method_24_code
def yX3_inCopy : MethodName := ⟨RX3, "inCopy", "(I)I"⟩
abbrev cX3_isTrue : ByteArray := prog_1_method_25_code
def yX3_isTrue : MethodName := ⟨RX3, "isTrue", "()Z"⟩
abbrev cX3_needSet : ByteArray := prog_1_method_26_code
def yX3_needSet : MethodName := ⟨RX3, "needSet", "(I)V"⟩
abbrev cX3_needThing : ByteArray := prog_1_method_27_code
def yX3_needThing : MethodName := ⟨RX3, "needThing", "(I)V"⟩
abbrev cX3_needVersion : ByteArray := prog_1_method_28_code
def yX3_needVersion : MethodName := ⟨RX3, "needVersion", "(II)LMapRevisions$Version;"⟩
abbrev cX3_needPlace : ByteArray := prog_1_method_29_code
def yX3_needPlace : MethodName := ⟨RX3, "needPlace", "(II)V"⟩
abbrev cX3_needMinutes : ByteArray := prog_1_method_30_code
def yX3_needMinutes : MethodName := ⟨RX3, "needMinutes", "(I)V"⟩
abbrev cX3_needOpen : ByteArray := prog_1_method_31_code
def yX3_needOpen : MethodName := ⟨RX3, "needOpen", "(I)V"⟩
abbrev cX3_needRoomForThing : ByteArray := prog_1_method_32_code
def yX3_needRoomForThing : MethodName := ⟨RX3, "needRoomForThing", "()V"⟩
abbrev cX3_contentOfPoint : ByteArray := prog_1_method_33_code
def yX3_contentOfPoint : MethodName := ⟨RX3, "contentOfPoint", "(II)LMapRevisions$Content;"⟩
abbrev cX3_contentOfDraft : ByteArray := prog_1_method_34_code
def yX3_contentOfDraft : MethodName := ⟨RX3, "contentOfDraft", "()LMapRevisions$Content;"⟩
abbrev cX3_addThing : ByteArray := prog_1_method_35_code
def yX3_addThing : MethodName := ⟨RX3, "addThing", "(IILMapRevisions$Content;)I"⟩
abbrev cX3_addVersion : ByteArray := prog_1_method_36_code
def yX3_addVersion : MethodName := ⟨RX3, "addVersion", "(ILMapRevisions$Thing;LMapRevisions$Content;)I"⟩
abbrev cX3_newVersion : ByteArray := prog_1_method_37_code
def yX3_newVersion : MethodName := ⟨RX3, "newVersion", "(LMapRevisions$Version;ILMapRevisions$Content;)LMapRevisions$Version;"⟩
abbrev cX3_edit : ByteArray := prog_1_method_38_code
def yX3_edit : MethodName := ⟨RX3, "edit", "(IIILMapRevisions$Content;)I"⟩
abbrev cX3_refusalOf : ByteArray := prog_1_method_39_code
def yX3_refusalOf : MethodName := ⟨RX3, "refusalOf", "(ILMapRevisions$Content;)I"⟩
abbrev cX3_isRowFor : ByteArray := prog_1_method_40_code
def yX3_isRowFor : MethodName := ⟨RX3, "isRowFor", "(I[I)Z"⟩
abbrev cX3_leadsTo : ByteArray := prog_1_method_41_code
def yX3_leadsTo : MethodName := ⟨RX3, "leadsTo", "([II)Z"⟩
abbrev cX3_hasVersionOf : ByteArray := prog_1_method_42_code
def yX3_hasVersionOf : MethodName := ⟨RX3, "hasVersionOf", "(II)Z"⟩
abbrev cX3_undoThing : ByteArray := prog_1_method_43_code
def yX3_undoThing : MethodName := ⟨RX3, "undoThing", "(III)Z"⟩
abbrev cX3_contentAheadOf : ByteArray := prog_1_method_44_code
def yX3_contentAheadOf : MethodName := ⟨RX3, "contentAheadOf", "(LMapRevisions$Version;I)LMapRevisions$Content;"⟩
abbrev cX3_isKnown : ByteArray := prog_1_method_45_code
def yX3_isKnown : MethodName := ⟨RX3, "isKnown", "(I)Z"⟩
abbrev cX3_isNow : ByteArray := prog_1_method_46_code
def yX3_isNow : MethodName := ⟨RX3, "isNow", "(I)Z"⟩
abbrev cX3_lastMadeBefore : ByteArray := prog_1_method_47_code
def yX3_lastMadeBefore : MethodName := ⟨RX3, "lastMadeBefore", "(II)I"⟩
abbrev cX3_countShown : ByteArray := prog_1_method_48_code
def yX3_countShown : MethodName := ⟨RX3, "countShown", "(I)I"⟩
abbrev cX3_bit : ByteArray := prog_1_method_49_code
def yX3_bit : MethodName := ⟨RX3, "bit", "(I)J"⟩
abbrev cX3_has : ByteArray := prog_1_method_50_code
def yX3_has : MethodName := ⟨RX3, "has", "(JI)Z"⟩
abbrev cX3_bitsOf : ByteArray := prog_1_method_51_code
def yX3_bitsOf : MethodName := ⟨RX3, "bitsOf", "([I)J"⟩
abbrev cX3_thingsOf : ByteArray := prog_1_method_52_code
def yX3_thingsOf : MethodName := ⟨RX3, "thingsOf", "(I)J"⟩
abbrev cX3_usersOf : ByteArray := prog_1_method_53_code
def yX3_usersOf : MethodName := ⟨RX3, "usersOf", "(J)J"⟩
abbrev cX3_membersOf : ByteArray := prog_1_method_54_code
def yX3_membersOf : MethodName := ⟨RX3, "membersOf", "(J)J"⟩
abbrev cX3_pointsWithin : ByteArray := prog_1_method_55_code
def yX3_pointsWithin : MethodName := ⟨RX3, "pointsWithin", "(IIII)J"⟩
def RX4 : String := "MapRevisionsModel"
def TX4 : u_T := fun k => match k with
  | 0 => ("MapRevisionsModel", "minute", "I", false)
  | 1 => ("MapRevisionsModel", "copied", "I", false)
  | 2 => ("MapRevisionsModel", "sets", "I", false)
  | 3 => ("MapRevisionsModel", "closed", "[Z", true)
  | 4 => ("MapRevisionsModel", "drafted", "I", false)
  | 5 => ("MapRevisionsModel", "draft", "[I", true)
  | 6 => ("MapRevisionsModel", "things", "I", false)
  | 7 => ("MapRevisionsModel", "kind", "[I", true)
  | 8 => ("MapRevisionsModel", "last", "[I", true)
  | 9 => ("MapRevisionsModel", "many", "[I", true)
  | 10 => ("MapRevisionsModel", "versions", "I", false)
  | 11 => ("MapRevisionsModel", "of", "[I", true)
  | 12 => ("MapRevisionsModel", "number", "[I", true)
  | 13 => ("MapRevisionsModel", "ahead", "[I", true)
  | 14 => ("MapRevisionsModel", "set", "[I", true)
  | 15 => ("MapRevisionsModel", "made", "[I", true)
  | 16 => ("MapRevisionsModel", "there", "[Z", true)
  | 17 => ("MapRevisionsModel", "hidden", "[Z", true)
  | 18 => ("MapRevisionsModel", "where", "[I", true)
  | 19 => ("MapRevisionsModel", "size", "[I", true)
  | 20 => ("MapRevisionsModel", "member", "[I", true)
  | 21 => ("MapRevisionsModel", "marked", "[Z", true)
  | 22 => ("MapRevisionsModel", "drawn", "[Z", true)
  | 23 => ("MapRevisionsModel", "asked", "I", false)
  | 24 => ("MapRevisionsModel", "asks", "[I", true)
  | _ => ("MapRevisionsModel", "thrown", "I", false)
def tyX4 : Nat → FieldType := fun k => match k with
  | 0 => .int
  | 1 => .int
  | 2 => .int
  | 3 => .array .boolean
  | 4 => .int
  | 5 => .array .int
  | 6 => .int
  | 7 => .array .int
  | 8 => .array .int
  | 9 => .array .int
  | 10 => .int
  | 11 => .array .int
  | 12 => .array .int
  | 13 => .array .int
  | 14 => .array .int
  | 15 => .array .int
  | 16 => .array .boolean
  | 17 => .array .boolean
  | 18 => .array .int
  | 19 => .array .int
  | 20 => .array .int
  | 21 => .array .boolean
  | 22 => .array .boolean
  | 23 => .int
  | 24 => .array .int
  | _ => .int
abbrev wsX40 : List Cond := u_ws RX4 TX4 26
theorem nmX4 : ∀ a, a < 26 → ∀ b, b < 26 → a ≠ b → (TX4 a).2.1 ≠ (TX4 b).2.1 := by decide +kernel
theorem tyX4_ok : ∀ k, k < 26 → parseFieldDescriptor (TX4 k).2.2.1 = some (tyX4 k) := by decide +kernel
abbrev cX4_init : ByteArray := prog_6_method_1_code
def yX4_init : MethodName := ⟨RX4, "<init>", "()V"⟩
abbrev cX4_thrown : ByteArray := prog_6_method_2_code
def yX4_thrown : MethodName := ⟨RX4, "thrown", "()I"⟩
abbrev cX4_in : ByteArray := prog_6_method_3_code
def yX4_in : MethodName := ⟨RX4, "in", "(III)Z"⟩
abbrev cX4_goes : ByteArray := prog_6_method_4_code
def yX4_goes : MethodName := ⟨RX4, "goes", "(ZZZ)Z"⟩
abbrev cX4_told : ByteArray := prog_6_method_5_code
def yX4_told : MethodName := ⟨RX4, "told", "(I)I"⟩
abbrev cX4_isThing : ByteArray := prog_6_method_6_code
def yX4_isThing : MethodName := ⟨RX4, "isThing", "(I)Z"⟩
abbrev cX4_isSet : ByteArray := prog_6_method_7_code
def yX4_isSet : MethodName := ⟨RX4, "isSet", "(I)Z"⟩
abbrev cX4_is : ByteArray := prog_6_method_8_code
def yX4_is : MethodName := ⟨RX4, "is", "(I)Z"⟩
abbrev cX4_open : ByteArray := prog_6_method_9_code
def yX4_open : MethodName := ⟨RX4, "open", "()I"⟩
abbrev cX4_close : ByteArray := prog_6_method_10_code
def yX4_close : MethodName := ⟨RX4, "close", "(I)I"⟩
abbrev cX4_refer : ByteArray := prog_6_method_11_code
def yX4_refer : MethodName := ⟨RX4, "refer", "(I)I"⟩
abbrev cX4_wipe : ByteArray := prog_6_method_12_code
def yX4_wipe : MethodName := ⟨RX4, "wipe", "()I"⟩
abbrev cX4_asksDraft : ByteArray := prog_6_method_13_code
def yX4_asksDraft : MethodName := ⟨RX4, "asksDraft", "()V"⟩
abbrev cX4_asksVersion : ByteArray := prog_6_method_14_code
def yX4_asksVersion : MethodName := ⟨RX4, "asksVersion", "(I)V"⟩
abbrev cX4_isUnlike : ByteArray := prog_6_method_15_code
def yX4_isUnlike : MethodName := ⟨RX4, "isUnlike", "(I)Z"⟩
abbrev cX4_hasMember : ByteArray := prog_6_method_16_code
def yX4_hasMember : MethodName := ⟨RX4, "hasMember", "(II)Z"⟩
abbrev cX4_isRing : ByteArray := prog_6_method_17_code
def yX4_isRing : MethodName := ⟨RX4, "isRing", "(I)Z"⟩
abbrev cX4_users : ByteArray := prog_6_method_18_code
def yX4_users : MethodName := ⟨RX4, "users", "(I)I"⟩
abbrev cX4_makes : ByteArray := prog_6_method_19_code
def yX4_makes : MethodName := ⟨RX4, "makes", "(IIZI)I"⟩
abbrev cX4_isOpen : ByteArray := prog_6_method_20_code
def yX4_isOpen : MethodName := ⟨RX4, "isOpen", "(I)Z"⟩
abbrev cX4_point : ByteArray := prog_6_method_21_code
def yX4_point : MethodName := ⟨RX4, "point", "(III)I"⟩
abbrev cX4_make : ByteArray := prog_6_method_22_code
def yX4_make : MethodName := ⟨RX4, "make", "(II)I"⟩
abbrev cX4_move : ByteArray := prog_6_method_23_code
def yX4_move : MethodName := ⟨RX4, "move", "(IIIII)I"⟩
abbrev cX4_change : ByteArray := prog_6_method_24_code
def yX4_change : MethodName := ⟨RX4, "change", "(III)I"⟩
abbrev cX4_delete : ByteArray := prog_6_method_25_code
def yX4_delete : MethodName := ⟨RX4, "delete", "(III)I"⟩
abbrev cX4_undoes : ByteArray := prog_6_method_26_code
def yX4_undoes : MethodName := ⟨RX4, "undoes", "(III)Z"⟩
abbrev cX4_hasOf : ByteArray := prog_6_method_27_code
def yX4_hasOf : MethodName := ⟨RX4, "hasOf", "(II)Z"⟩
abbrev cX4_undo : ByteArray := prog_6_method_28_code
def yX4_undo : MethodName := ⟨RX4, "undo", "(II)I"⟩
abbrev cX4_things : ByteArray := prog_6_method_29_code
def yX4_things : MethodName := ⟨RX4, "things", "()I"⟩
abbrev cX4_latest : ByteArray := prog_6_method_30_code
def yX4_latest : MethodName := ⟨RX4, "latest", "(I)I"⟩
abbrev cX4_isThere : ByteArray := prog_6_method_31_code
def yX4_isThere : MethodName := ⟨RX4, "isThere", "(I)Z"⟩
abbrev cX4_whereIs : ByteArray := prog_6_method_32_code
def yX4_whereIs : MethodName := ⟨RX4, "whereIs", "(I)I"⟩
abbrev cX4_members : ByteArray := prog_6_method_33_code
def yX4_members : MethodName := ⟨RX4, "members", "(I)I"⟩
abbrev cX4_usedBy : ByteArray := prog_6_method_34_code
def yX4_usedBy : MethodName := ⟨RX4, "usedBy", "(I)I"⟩
abbrev cX4_isVersion : ByteArray := prog_6_method_35_code
def yX4_isVersion : MethodName := ⟨RX4, "isVersion", "(II)Z"⟩
abbrev cX4_placeOf : ByteArray := prog_6_method_36_code
def yX4_placeOf : MethodName := ⟨RX4, "placeOf", "(II)I"⟩
abbrev cX4_hide : ByteArray := prog_6_method_37_code
def yX4_hide : MethodName := ⟨RX4, "hide", "(II)I"⟩
abbrev cX4_setOf : ByteArray := prog_6_method_38_code
def yX4_setOf : MethodName := ⟨RX4, "setOf", "(II)I"⟩
abbrev cX4_before : ByteArray := prog_6_method_39_code
def yX4_before : MethodName := ⟨RX4, "before", "(II)I"⟩
abbrev cX4_versionAt : ByteArray := prog_6_method_40_code
def yX4_versionAt : MethodName := ⟨RX4, "versionAt", "(II)I"⟩
abbrev cX4_usesDrawn : ByteArray := prog_6_method_41_code
def yX4_usesDrawn : MethodName := ⟨RX4, "usesDrawn", "(III)Z"⟩
abbrev cX4_drawnOf : ByteArray := prog_6_method_42_code
def yX4_drawnOf : MethodName := ⟨RX4, "drawnOf", "(I)I"⟩
abbrev cX4_inBox : ByteArray := prog_6_method_43_code
def yX4_inBox : MethodName := ⟨RX4, "inBox", "(IIIII)I"⟩
abbrev cX4_pass : ByteArray := prog_6_method_44_code
def yX4_pass : MethodName := ⟨RX4, "pass", "(I)I"⟩
abbrev cX4_take : ByteArray := prog_6_method_45_code
def yX4_take : MethodName := ⟨RX4, "take", "(I)I"⟩
abbrev cX4_inCopy : ByteArray := prog_6_method_46_code
def yX4_inCopy : MethodName := ⟨RX4, "inCopy", "(I)I"⟩
abbrev cX4_isTrue : ByteArray := prog_6_method_47_code
def yX4_isTrue : MethodName := ⟨RX4, "isTrue", "()Z"⟩
def RJx145de : String := "java/io/Serializable"
def TJx145de : u_T := fun k => match k with
  | _ => ("", "", "", false)
def tyJx145de : Nat → FieldType := fun k => match k with
  | _ => .int
abbrev wsJx145de0 : List Cond := u_ws RJx145de TJx145de 0
theorem nmJx145de : ∀ a, a < 0 → ∀ b, b < 0 → a ≠ b → (TJx145de a).2.1 ≠ (TJx145de b).2.1 := by decide +kernel
theorem tyJx145de_ok : ∀ k, k < 0 → parseFieldDescriptor (TJx145de k).2.2.1 = some (tyJx145de k) := by decide +kernel
def RJx8e188 : String := "java/lang/Cloneable"
def TJx8e188 : u_T := fun k => match k with
  | _ => ("", "", "", false)
def tyJx8e188 : Nat → FieldType := fun k => match k with
  | _ => .int
abbrev wsJx8e1880 : List Cond := u_ws RJx8e188 TJx8e188 0
theorem nmJx8e188 : ∀ a, a < 0 → ∀ b, b < 0 → a ≠ b → (TJx8e188 a).2.1 ≠ (TJx8e188 b).2.1 := by decide +kernel
theorem tyJx8e188_ok : ∀ k, k < 0 → parseFieldDescriptor (TJx8e188 k).2.2.1 = some (tyJx8e188 k) := by decide +kernel
def RJxab1ab : String := "java/lang/Iterable"
def TJxab1ab : u_T := fun k => match k with
  | _ => ("", "", "", false)
def tyJxab1ab : Nat → FieldType := fun k => match k with
  | _ => .int
abbrev wsJxab1ab0 : List Cond := u_ws RJxab1ab TJxab1ab 0
theorem nmJxab1ab : ∀ a, a < 0 → ∀ b, b < 0 → a ≠ b → (TJxab1ab a).2.1 ≠ (TJxab1ab b).2.1 := by decide +kernel
theorem tyJxab1ab_ok : ∀ k, k < 0 → parseFieldDescriptor (TJxab1ab k).2.2.1 = some (tyJxab1ab k) := by decide +kernel
def RJ13 : String := "java/lang/Long"
def TJ13 : u_T := fun k => match k with
  | _ => ("", "", "", false)
def tyJ13 : Nat → FieldType := fun k => match k with
  | _ => .int
abbrev wsJ130 : List Cond := u_ws RJ13 TJ13 0
theorem nmJ13 : ∀ a, a < 0 → ∀ b, b < 0 → a ≠ b → (TJ13 a).2.1 ≠ (TJ13 b).2.1 := by decide +kernel
theorem tyJ13_ok : ∀ k, k < 0 → parseFieldDescriptor (TJ13 k).2.2.1 = some (tyJ13 k) := by decide +kernel
abbrev cJ13_bitCount_95d88 : ByteArray := prog_14_method_50_code
def yJ13_bitCount_95d88 : MethodName := ⟨RJ13, "bitCount", "(J)I"⟩
def RJ9 : String := "java/lang/Math"
def TJ9 : u_T := fun k => match k with
  | _ => ("", "", "", false)
def tyJ9 : Nat → FieldType := fun k => match k with
  | _ => .int
abbrev wsJ90 : List Cond := u_ws RJ9 TJ9 0
theorem nmJ9 : ∀ a, a < 0 → ∀ b, b < 0 → a ≠ b → (TJ9 a).2.1 ≠ (TJ9 b).2.1 := by decide +kernel
theorem tyJ9_ok : ∀ k, k < 0 → parseFieldDescriptor (TJ9 k).2.2.1 = some (tyJ9 k) := by decide +kernel
abbrev cJ9_max_7cf53 : ByteArray := prog_15_method_65_code
def yJ9_max_7cf53 : MethodName := ⟨RJ9, "max", "(II)I"⟩
abbrev cJ9_min_7cf53 : ByteArray := prog_15_method_69_code
def yJ9_min_7cf53 : MethodName := ⟨RJ9, "min", "(II)I"⟩
def RJ0 : String := "java/lang/String"
def TJ0 : u_T := fun k => match k with
  | _ => ("", "", "", false)
def tyJ0 : Nat → FieldType := fun k => match k with
  | _ => .int
abbrev wsJ00 : List Cond := u_ws RJ0 TJ0 0
theorem nmJ0 : ∀ a, a < 0 → ∀ b, b < 0 → a ≠ b → (TJ0 a).2.1 ≠ (TJ0 b).2.1 := by decide +kernel
theorem tyJ0_ok : ∀ k, k < 0 → parseFieldDescriptor (TJ0 k).2.2.1 = some (tyJ0 k) := by decide +kernel
def RJ10 : String := "java/lang/System"
def TJ10 : u_T := fun k => match k with
  | _ => ("", "", "", false)
def tyJ10 : Nat → FieldType := fun k => match k with
  | _ => .int
abbrev wsJ100 : List Cond := u_ws RJ10 TJ10 0
theorem nmJ10 : ∀ a, a < 0 → ∀ b, b < 0 → a ≠ b → (TJ10 a).2.1 ≠ (TJ10 b).2.1 := by decide +kernel
theorem tyJ10_ok : ∀ k, k < 0 → parseFieldDescriptor (TJ10 k).2.2.1 = some (tyJ10 k) := by decide +kernel
def RJxa1e45 : String := "java/util/AbstractCollection"
def TJxa1e45 : u_T := fun k => match k with
  | _ => ("", "", "", false)
def tyJxa1e45 : Nat → FieldType := fun k => match k with
  | _ => .int
abbrev wsJxa1e450 : List Cond := u_ws RJxa1e45 TJxa1e45 0
theorem nmJxa1e45 : ∀ a, a < 0 → ∀ b, b < 0 → a ≠ b → (TJxa1e45 a).2.1 ≠ (TJxa1e45 b).2.1 := by decide +kernel
theorem tyJxa1e45_ok : ∀ k, k < 0 → parseFieldDescriptor (TJxa1e45 k).2.2.1 = some (tyJxa1e45 k) := by decide +kernel
abbrev cJxa1e45_init_da8c8 : ByteArray := prog_20_method_1_code
def yJxa1e45_init_da8c8 : MethodName := ⟨RJxa1e45, "<init>", "()V"⟩
def RJxc12de : String := "java/util/AbstractList"
def TJxc12de : u_T := fun k => match k with
  | _ => ("", "", "", false)
def tyJxc12de : Nat → FieldType := fun k => match k with
  | _ => .int
abbrev wsJxc12de0 : List Cond := u_ws RJxc12de TJxc12de 0
theorem nmJxc12de : ∀ a, a < 0 → ∀ b, b < 0 → a ≠ b → (TJxc12de a).2.1 ≠ (TJxc12de b).2.1 := by decide +kernel
theorem tyJxc12de_ok : ∀ k, k < 0 → parseFieldDescriptor (TJxc12de k).2.2.1 = some (tyJxc12de k) := by decide +kernel
abbrev cJxc12de_init_da8c8 : ByteArray := prog_21_method_1_code
def yJxc12de_init_da8c8 : MethodName := ⟨RJxc12de, "<init>", "()V"⟩
def RJx4a65c : String := "java/util/ArrayList"
def TJx4a65c : u_T := fun k => match k with
  | 0 => ("java/util/AbstractList", "modCount", "I", false)
  | 1 => ("java/util/ArrayList", "elementData", "[Ljava/lang/Object;", false)
  | _ => ("java/util/ArrayList", "size", "I", false)
def tyJx4a65c : Nat → FieldType := fun k => match k with
  | 0 => .int
  | 1 => .array (.object "java/lang/Object")
  | _ => .int
abbrev wsJx4a65c0 : List Cond := u_ws RJx4a65c TJx4a65c 3
theorem nmJx4a65c : ∀ a, a < 3 → ∀ b, b < 3 → a ≠ b → (TJx4a65c a).2.1 ≠ (TJx4a65c b).2.1 := by decide +kernel
theorem tyJx4a65c_ok : ∀ k, k < 3 → parseFieldDescriptor (TJx4a65c k).2.2.1 = some (tyJx4a65c k) := by decide +kernel
abbrev cJx4a65c_init_da8c8 : ByteArray := prog_22_method_2_code
def yJx4a65c_init_da8c8 : MethodName := ⟨RJx4a65c, "<init>", "()V"⟩
abbrev cJx4a65c_grow_92f84 : ByteArray := prog_22_method_6_code
def yJx4a65c_grow_92f84 : MethodName := ⟨RJx4a65c, "grow", "(I)[Ljava/lang/Object;"⟩
abbrev cJx4a65c_grow_d5877 : ByteArray := prog_22_method_7_code
def yJx4a65c_grow_d5877 : MethodName := ⟨RJx4a65c, "grow", "()[Ljava/lang/Object;"⟩
abbrev cJx4a65c_size_8abf5 : ByteArray := prog_22_method_8_code
def yJx4a65c_size_8abf5 : MethodName := ⟨RJx4a65c, "size", "()I"⟩
abbrev cJx4a65c_elementData_915e3 : ByteArray := prog_22_method_18_code
def yJx4a65c_elementData_915e3 : MethodName := ⟨RJx4a65c, "elementData", "(I)Ljava/lang/Object;"⟩
abbrev cJx4a65c_get_915e3 : ByteArray := prog_22_method_20_code
def yJx4a65c_get_915e3 : MethodName := ⟨RJx4a65c, "get", "(I)Ljava/lang/Object;"⟩
abbrev cJx4a65c_add_72be8 : ByteArray := prog_22_method_24_code
def yJx4a65c_add_72be8 : MethodName := ⟨RJx4a65c, "add", "(Ljava/lang/Object;[Ljava/lang/Object;I)V"⟩
abbrev cJx4a65c_add_9ea2d : ByteArray := prog_22_method_25_code
def yJx4a65c_add_9ea2d : MethodName := ⟨RJx4a65c, "add", "(Ljava/lang/Object;)Z"⟩
def RJ7 : String := "java/util/Arrays"
def TJ7 : u_T := fun k => match k with
  | _ => ("", "", "", false)
def tyJ7 : Nat → FieldType := fun k => match k with
  | _ => .int
abbrev wsJ70 : List Cond := u_ws RJ7 TJ7 0
theorem nmJ7 : ∀ a, a < 0 → ∀ b, b < 0 → a ≠ b → (TJ7 a).2.1 ≠ (TJ7 b).2.1 := by decide +kernel
theorem tyJ7_ok : ∀ k, k < 0 → parseFieldDescriptor (TJ7 k).2.2.1 = some (tyJ7 k) := by decide +kernel
abbrev cJ7_copyOf_1904c : ByteArray := prog_23_method_119_code
def yJ7_copyOf_1904c : MethodName := ⟨RJ7, "copyOf", "([Ljava/lang/Object;I)[Ljava/lang/Object;"⟩
abbrev cJ7_copyOf_6403c : ByteArray := prog_23_method_120_code
def yJ7_copyOf_6403c : MethodName := ⟨RJ7, "copyOf", "([Ljava/lang/Object;ILjava/lang/Class;)[Ljava/lang/Object;"⟩
abbrev cJ7_copyOf_59c91 : ByteArray := prog_23_method_123_code
def yJ7_copyOf_59c91 : MethodName := ⟨RJ7, "copyOf", "([II)[I"⟩
def RJx5ef63 : String := "java/util/Collection"
def TJx5ef63 : u_T := fun k => match k with
  | _ => ("", "", "", false)
def tyJx5ef63 : Nat → FieldType := fun k => match k with
  | _ => .int
abbrev wsJx5ef630 : List Cond := u_ws RJx5ef63 TJx5ef63 0
theorem nmJx5ef63 : ∀ a, a < 0 → ∀ b, b < 0 → a ≠ b → (TJx5ef63 a).2.1 ≠ (TJx5ef63 b).2.1 := by decide +kernel
theorem tyJx5ef63_ok : ∀ k, k < 0 → parseFieldDescriptor (TJx5ef63 k).2.2.1 = some (tyJx5ef63 k) := by decide +kernel
def RJxbd725 : String := "java/util/List"
def TJxbd725 : u_T := fun k => match k with
  | _ => ("", "", "", false)
def tyJxbd725 : Nat → FieldType := fun k => match k with
  | _ => .int
abbrev wsJxbd7250 : List Cond := u_ws RJxbd725 TJxbd725 0
theorem nmJxbd725 : ∀ a, a < 0 → ∀ b, b < 0 → a ≠ b → (TJxbd725 a).2.1 ≠ (TJxbd725 b).2.1 := by decide +kernel
theorem tyJxbd725_ok : ∀ k, k < 0 → parseFieldDescriptor (TJxbd725 k).2.2.1 = some (tyJxbd725 k) := by decide +kernel
def RJ15 : String := "java/util/Objects"
def TJ15 : u_T := fun k => match k with
  | _ => ("", "", "", false)
def tyJ15 : Nat → FieldType := fun k => match k with
  | _ => .int
abbrev wsJ150 : List Cond := u_ws RJ15 TJ15 0
theorem nmJ15 : ∀ a, a < 0 → ∀ b, b < 0 → a ≠ b → (TJ15 a).2.1 ≠ (TJ15 b).2.1 := by decide +kernel
theorem tyJ15_ok : ∀ k, k < 0 → parseFieldDescriptor (TJ15 k).2.2.1 = some (tyJ15 k) := by decide +kernel
abbrev cJ15_checkIndex_7cf53 : ByteArray := prog_27_method_17_code
def yJ15_checkIndex_7cf53 : MethodName := ⟨RJ15, "checkIndex", "(II)I"⟩
def RJxf0a74 : String := "java/util/RandomAccess"
def TJxf0a74 : u_T := fun k => match k with
  | _ => ("", "", "", false)
def tyJxf0a74 : Nat → FieldType := fun k => match k with
  | _ => .int
abbrev wsJxf0a740 : List Cond := u_ws RJxf0a74 TJxf0a74 0
theorem nmJxf0a74 : ∀ a, a < 0 → ∀ b, b < 0 → a ≠ b → (TJxf0a74 a).2.1 ≠ (TJxf0a74 b).2.1 := by decide +kernel
theorem tyJxf0a74_ok : ∀ k, k < 0 → parseFieldDescriptor (TJxf0a74 k).2.2.1 = some (tyJxf0a74 k) := by decide +kernel
def RJxa66e6 : String := "java/util/SequencedCollection"
def TJxa66e6 : u_T := fun k => match k with
  | _ => ("", "", "", false)
def tyJxa66e6 : Nat → FieldType := fun k => match k with
  | _ => .int
abbrev wsJxa66e60 : List Cond := u_ws RJxa66e6 TJxa66e6 0
theorem nmJxa66e6 : ∀ a, a < 0 → ∀ b, b < 0 → a ≠ b → (TJxa66e6 a).2.1 ≠ (TJxa66e6 b).2.1 := by decide +kernel
theorem tyJxa66e6_ok : ∀ k, k < 0 → parseFieldDescriptor (TJxa66e6 k).2.2.1 = some (tyJxa66e6 k) := by decide +kernel
def RJ8 : String := "jdk/internal/util/ArraysSupport"
def TJ8 : u_T := fun k => match k with
  | _ => ("", "", "", false)
def tyJ8 : Nat → FieldType := fun k => match k with
  | _ => .int
abbrev wsJ80 : List Cond := u_ws RJ8 TJ8 0
theorem nmJ8 : ∀ a, a < 0 → ∀ b, b < 0 → a ≠ b → (TJ8 a).2.1 ≠ (TJ8 b).2.1 := by decide +kernel
theorem tyJ8_ok : ∀ k, k < 0 → parseFieldDescriptor (TJ8 k).2.2.1 = some (tyJ8 k) := by decide +kernel
abbrev cJ8_newLength_cabcc : ByteArray := prog_30_method_27_code
def yJ8_newLength_cabcc : MethodName := ⟨RJ8, "newLength", "(III)I"⟩
abbrev cJ8_hugeLength_7cf53 : ByteArray := prog_30_method_28_code
def yJ8_hugeLength_7cf53 : MethodName := ⟨RJ8, "hugeLength", "(II)I"⟩
def RJ3 : String := "jdk/internal/util/Preconditions"
def TJ3 : u_T := fun k => match k with
  | _ => ("", "", "", false)
def tyJ3 : Nat → FieldType := fun k => match k with
  | _ => .int
abbrev wsJ30 : List Cond := u_ws RJ3 TJ3 0
theorem nmJ3 : ∀ a, a < 0 → ∀ b, b < 0 → a ≠ b → (TJ3 a).2.1 ≠ (TJ3 b).2.1 := by decide +kernel
theorem tyJ3_ok : ∀ k, k < 0 → parseFieldDescriptor (TJ3 k).2.2.1 = some (tyJ3 k) := by decide +kernel
abbrev cJ3_checkIndex_8e157 : ByteArray := prog_31_method_11_code
def yJ3_checkIndex_8e157 : MethodName := ⟨RJ3, "checkIndex", "(IILjava/util/function/BiFunction;)I"⟩
def RL : String := "MapRevisionsLaw"
abbrev cL_open : ByteArray := method_3_code
def yL_open : MethodName := ⟨RL, "open", "(LMapRevisions;[J)I"⟩
abbrev cL_close : ByteArray := method_4_code
def yL_close : MethodName := ⟨RL, "close", "(LMapRevisions;I[J)I"⟩
abbrev cL_refer : ByteArray := method_5_code
def yL_refer : MethodName := ⟨RL, "refer", "(LMapRevisions;I[J)I"⟩
abbrev cL_point : ByteArray := method_6_code
def yL_point : MethodName := ⟨RL, "point", "(LMapRevisions;III[J)I"⟩
abbrev cL_make : ByteArray := method_7_code
def yL_make : MethodName := ⟨RL, "make", "(LMapRevisions;II[J)I"⟩
abbrev cL_move : ByteArray := method_8_code
def yL_move : MethodName := ⟨RL, "move", "(LMapRevisions;IIIII[J)I"⟩
abbrev cL_change : ByteArray := method_9_code
def yL_change : MethodName := ⟨RL, "change", "(LMapRevisions;III[J)I"⟩
abbrev cL_delete : ByteArray := method_10_code
def yL_delete : MethodName := ⟨RL, "delete", "(LMapRevisions;III[J)I"⟩
abbrev cL_undo : ByteArray := method_11_code
def yL_undo : MethodName := ⟨RL, "undo", "(LMapRevisions;II[J)I"⟩
abbrev cL_latest : ByteArray := method_12_code
def yL_latest : MethodName := ⟨RL, "latest", "(LMapRevisions;I[J)I"⟩
abbrev cL_isThere : ByteArray := method_13_code
def yL_isThere : MethodName := ⟨RL, "isThere", "(LMapRevisions;I[J)I"⟩
abbrev cL_whereIs : ByteArray := method_14_code
def yL_whereIs : MethodName := ⟨RL, "whereIs", "(LMapRevisions;I[J)I"⟩
abbrev cL_members : ByteArray := method_15_code
def yL_members : MethodName := ⟨RL, "members", "(LMapRevisions;I[J)I"⟩
abbrev cL_usedBy : ByteArray := method_16_code
def yL_usedBy : MethodName := ⟨RL, "usedBy", "(LMapRevisions;I[J)I"⟩
abbrev cL_hide : ByteArray := method_17_code
def yL_hide : MethodName := ⟨RL, "hide", "(LMapRevisions;II[J)I"⟩
abbrev cL_setOf : ByteArray := method_18_code
def yL_setOf : MethodName := ⟨RL, "setOf", "(LMapRevisions;II[J)I"⟩
abbrev cL_versionAt : ByteArray := method_19_code
def yL_versionAt : MethodName := ⟨RL, "versionAt", "(LMapRevisions;II[J)I"⟩
abbrev cL_inBox : ByteArray := method_20_code
def yL_inBox : MethodName := ⟨RL, "inBox", "(LMapRevisions;IIIII[J)I"⟩
abbrev cL_pass : ByteArray := method_21_code
def yL_pass : MethodName := ⟨RL, "pass", "(LMapRevisions;I[J)I"⟩
abbrev cL_take : ByteArray := method_22_code
def yL_take : MethodName := ⟨RL, "take", "(LMapRevisions;I[J)I"⟩
abbrev cL_inCopy : ByteArray := method_23_code
def yL_inCopy : MethodName := ⟨RL, "inCopy", "(LMapRevisions;I[J)I"⟩
abbrev cL_law : ByteArray := code
def yL_law : MethodName := ⟨RL, "law", "([I)Z"⟩
end
