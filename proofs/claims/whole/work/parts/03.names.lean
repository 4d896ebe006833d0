/-! ===== BEGIN printed: names, fields, word lists, decode rows ===== -/
def RX0 : String := "BayerGate$EditRow"
def TX0 : u_T := fun k => match k with
  | 0 => ("BayerGate$EditRow", "kinds", "[I", true)
  | 1 => ("BayerGate$EditRow", "numbers", "[I", true)
  | _ => ("BayerGate$EditRow", "length", "I", false)
def tyX0 : Nat → FieldType := fun k => match k with
  | 0 => .array .int
  | 1 => .array .int
  | _ => .int
abbrev wsX00 : List Cond := u_ws RX0 TX0 3
theorem nmX0 : ∀ a, a < 3 → ∀ b, b < 3 → a ≠ b → (TX0 a).2.1 ≠ (TX0 b).2.1 := by decide +kernel
theorem tyX0_ok : ∀ k, k < 3 → parseFieldDescriptor (TX0 k).2.2.1 = some (tyX0 k) := by decide +kernel
abbrev cX0_init : ByteArray := prog_2_method_1_code
def yX0_init : MethodName := ⟨RX0, "<init>", "()V"⟩
abbrev cX0_count : ByteArray := prog_2_method_2_code
def yX0_count : MethodName := ⟨RX0, "count", "()I"⟩
abbrev cX0_append : ByteArray := prog_2_method_3_code
def yX0_append : MethodName := ⟨RX0, "append", "(II)V"⟩
abbrev cX0_takeBack : ByteArray := prog_2_method_4_code
def yX0_takeBack : MethodName := ⟨RX0, "takeBack", "()I"⟩
abbrev cX0_copyFrom : ByteArray := prog_2_method_5_code
def yX0_copyFrom : MethodName := ⟨RX0, "copyFrom", "(LBayerGate$EditRow;)V"⟩
abbrev cX0_hasMend : ByteArray := prog_2_method_6_code
def yX0_hasMend : MethodName := ⟨RX0, "hasMend", "()Z"⟩
def RX1 : String := "BayerGate$Frame"
def TX1 : u_T := fun k => match k with
  | 0 => ("BayerGate$Frame", "rawRow", "[I", true)
  | 1 => ("BayerGate$Frame", "edits", "LBayerGate$EditRow;", true)
  | 2 => ("BayerGate$Frame", "time", "I", false)
  | 3 => ("BayerGate$Frame", "gain", "I", false)
  | _ => ("BayerGate$Frame", "ghosts", "I", false)
def tyX1 : Nat → FieldType := fun k => match k with
  | 0 => .array .int
  | 1 => .object "BayerGate$EditRow"
  | 2 => .int
  | 3 => .int
  | _ => .int
abbrev wsX10 : List Cond := u_ws RX1 TX1 5
theorem nmX1 : ∀ a, a < 5 → ∀ b, b < 5 → a ≠ b → (TX1 a).2.1 ≠ (TX1 b).2.1 := by decide +kernel
theorem tyX1_ok : ∀ k, k < 5 → parseFieldDescriptor (TX1 k).2.2.1 = some (tyX1 k) := by decide +kernel
abbrev cX1_init : ByteArray := prog_3_method_1_code
def yX1_init : MethodName := ⟨RX1, "<init>", "()V"⟩
abbrev cX1_countClipped : ByteArray := prog_3_method_2_code
def yX1_countClipped : MethodName := ⟨RX1, "countClipped", "()I"⟩
abbrev cX1_sharpness : ByteArray := prog_3_method_3_code
def yX1_sharpness : MethodName := ⟨RX1, "sharpness", "()I"⟩
abbrev cX1_whiteOf : ByteArray := prog_3_method_4_code
def yX1_whiteOf : MethodName := ⟨RX1, "whiteOf", "(I)I"⟩
abbrev cX1_sumSeen : ByteArray := prog_3_method_5_code
def yX1_sumSeen : MethodName := ⟨RX1, "sumSeen", "(I)I"⟩
abbrev cX1_meanOfZone : ByteArray := prog_3_method_6_code
def yX1_meanOfZone : MethodName := ⟨RX1, "meanOfZone", "(I)D"⟩
abbrev cX1_meanOfZones : ByteArray := prog_3_method_7_code
def yX1_meanOfZones : MethodName := ⟨RX1, "meanOfZones", "()D"⟩
def RX2 : String := "BayerGate$Picture"
def TX2 : u_T := fun k => match k with
  | 0 => ("BayerGate$Picture", "numbers", "[F", true)
  | _ => ("BayerGate$Picture", "mended", "[I", true)
def tyX2 : Nat → FieldType := fun k => match k with
  | 0 => .array .float
  | _ => .array .int
abbrev wsX20 : List Cond := u_ws RX2 TX2 2
theorem nmX2 : ∀ a, a < 2 → ∀ b, b < 2 → a ≠ b → (TX2 a).2.1 ≠ (TX2 b).2.1 := by decide +kernel
theorem tyX2_ok : ∀ k, k < 2 → parseFieldDescriptor (TX2 k).2.2.1 = some (tyX2 k) := by decide +kernel
abbrev cX2_init : ByteArray := prog_4_method_1_code
def yX2_init : MethodName := ⟨RX2, "<init>", "()V"⟩
abbrev cX2_indexOf : ByteArray := prog_4_method_2_code
def yX2_indexOf : MethodName := ⟨RX2, "indexOf", "(II)I"⟩
abbrev cX2_compose : ByteArray := prog_4_method_3_code
def yX2_compose : MethodName := ⟨RX2, "compose", "([ILBayerGate$EditRow;[Z)V"⟩
abbrev cX2_bound : ByteArray := prog_4_method_4_code
def yX2_bound : MethodName := ⟨RX2, "bound", "()V"⟩
abbrev cX2_sumUp : ByteArray := prog_4_method_5_code
def yX2_sumUp : MethodName := ⟨RX2, "sumUp", "()I"⟩
abbrev cX2_sumTones : ByteArray := prog_4_method_6_code
def yX2_sumTones : MethodName := ⟨RX2, "sumTones", "(IF)I"⟩
abbrev cX2_farthestFrom : ByteArray := prog_4_method_7_code
def yX2_farthestFrom : MethodName := ⟨RX2, "farthestFrom", "(LBayerGate$Picture;)F"⟩
abbrev cX2_bounded : ByteArray := prog_4_method_8_code
def yX2_bounded : MethodName := ⟨RX2, "bounded", "(F)F"⟩
abbrev cX2_mendAll : ByteArray := prog_4_method_9_code
def yX2_mendAll : MethodName := ⟨RX2, "mendAll", "([I[ZZ)V"⟩
abbrev cX2_mendedAt : ByteArray := prog_4_method_10_code
def yX2_mendedAt : MethodName := ⟨RX2, "mendedAt", "([I[ZII)I"⟩
abbrev cX2_makeWhole : ByteArray := prog_4_method_11_code
def yX2_makeWhole : MethodName := ⟨RX2, "makeWhole", "()V"⟩
abbrev cX2_meanAround : ByteArray := prog_4_method_12_code
def yX2_meanAround : MethodName := ⟨RX2, "meanAround", "(III)F"⟩
abbrev cX2_applyEdit : ByteArray := prog_4_method_13_code
def yX2_applyEdit : MethodName := ⟨RX2, "applyEdit", "(II)V"⟩
abbrev cX2_darken : ByteArray := prog_4_method_14_code
def yX2_darken : MethodName := ⟨RX2, "darken", "(I)V"⟩
abbrev cX2_scaleColour : ByteArray := prog_4_method_15_code
def yX2_scaleColour : MethodName := ⟨RX2, "scaleColour", "(IF)V"⟩
abbrev cX2_changeTone : ByteArray := prog_4_method_16_code
def yX2_changeTone : MethodName := ⟨RX2, "changeTone", "(I)V"⟩
abbrev cX2_turnOver : ByteArray := prog_4_method_17_code
def yX2_turnOver : MethodName := ⟨RX2, "turnOver", "()V"⟩
def RX3 : String := "BayerGate$Scene"
def TX3 : u_T := fun k => match k with
  | 0 => ("BayerGate$Scene", "shades", "[I", true)
  | 1 => ("BayerGate$Scene", "factors", "[F", true)
  | _ => ("BayerGate$Scene", "quartersOfGreen", "I", false)
def tyX3 : Nat → FieldType := fun k => match k with
  | 0 => .array .int
  | 1 => .array .float
  | _ => .int
abbrev wsX30 : List Cond := u_ws RX3 TX3 3
theorem nmX3 : ∀ a, a < 3 → ∀ b, b < 3 → a ≠ b → (TX3 a).2.1 ≠ (TX3 b).2.1 := by decide +kernel
theorem tyX3_ok : ∀ k, k < 3 → parseFieldDescriptor (TX3 k).2.2.1 = some (tyX3 k) := by decide +kernel
abbrev cX3_init : ByteArray := prog_5_method_1_code
def yX3_init : MethodName := ⟨RX3, "<init>", "()V"⟩
abbrev cX3_colourPlace : ByteArray := prog_5_method_2_code
def yX3_colourPlace : MethodName := ⟨RX3, "colourPlace", "(II)V"⟩
abbrev cX3_shade : ByteArray := prog_5_method_3_code
def yX3_shade : MethodName := ⟨RX3, "shade", "(II)I"⟩
abbrev cX3_light : ByteArray := prog_5_method_4_code
def yX3_light : MethodName := ⟨RX3, "light", "(III)V"⟩
abbrev cX3_greenQuarters : ByteArray := prog_5_method_5_code
def yX3_greenQuarters : MethodName := ⟨RX3, "greenQuarters", "()I"⟩
abbrev cX3_lightAt : ByteArray := prog_5_method_6_code
def yX3_lightAt : MethodName := ⟨RX3, "lightAt", "(III)F"⟩
def RX4 : String := "BayerGate$Sensor"
def TX4 : u_T := fun k => match k with
  | 0 => ("BayerGate$Sensor", "hows", "[I", true)
  | 1 => ("BayerGate$Sensor", "mapped", "[Z", true)
  | _ => ("BayerGate$Sensor", "draw", "I", false)
def tyX4 : Nat → FieldType := fun k => match k with
  | 0 => .array .int
  | 1 => .array .boolean
  | _ => .int
abbrev wsX40 : List Cond := u_ws RX4 TX4 3
theorem nmX4 : ∀ a, a < 3 → ∀ b, b < 3 → a ≠ b → (TX4 a).2.1 ≠ (TX4 b).2.1 := by decide +kernel
theorem tyX4_ok : ∀ k, k < 3 → parseFieldDescriptor (TX4 k).2.2.1 = some (tyX4 k) := by decide +kernel
abbrev cX4_init : ByteArray := prog_6_method_1_code
def yX4_init : MethodName := ⟨RX4, "<init>", "()V"⟩
abbrev cX4_howIs : ByteArray := prog_6_method_2_code
def yX4_howIs : MethodName := ⟨RX4, "howIs", "(I)I"⟩
abbrev cX4_setHow : ByteArray := prog_6_method_3_code
def yX4_setHow : MethodName := ⟨RX4, "setHow", "(II)V"⟩
abbrev cX4_isMapped : ByteArray := prog_6_method_4_code
def yX4_isMapped : MethodName := ⟨RX4, "isMapped", "(I)Z"⟩
abbrev cX4_setMapped : ByteArray := prog_6_method_5_code
def yX4_setMapped : MethodName := ⟨RX4, "setMapped", "(IZ)V"⟩
abbrev cX4_countMapped : ByteArray := prog_6_method_6_code
def yX4_countMapped : MethodName := ⟨RX4, "countMapped", "()I"⟩
abbrev cX4_countSpoilt : ByteArray := prog_6_method_7_code
def yX4_countSpoilt : MethodName := ⟨RX4, "countSpoilt", "(Z)I"⟩
abbrev cX4_advance : ByteArray := prog_6_method_8_code
def yX4_advance : MethodName := ⟨RX4, "advance", "(I)V"⟩
abbrev cX4_expose : ByteArray := prog_6_method_9_code
def yX4_expose : MethodName := ⟨RX4, "expose", "(LBayerGate$Scene;IILBayerGate$Frame;)I"⟩
abbrev cX4_rawOf : ByteArray := prog_6_method_10_code
def yX4_rawOf : MethodName := ⟨RX4, "rawOf", "(IFII)I"⟩
def RX5 : String := "BayerGate$StoredFile"
def TX5 : u_T := fun k => match k with
  | 0 => ("BayerGate$StoredFile", "edits", "LBayerGate$EditRow;", true)
  | 1 => ("BayerGate$StoredFile", "frame", "I", false)
  | _ => ("BayerGate$StoredFile", "version", "I", false)
def tyX5 : Nat → FieldType := fun k => match k with
  | 0 => .object "BayerGate$EditRow"
  | 1 => .int
  | _ => .int
abbrev wsX50 : List Cond := u_ws RX5 TX5 3
theorem nmX5 : ∀ a, a < 3 → ∀ b, b < 3 → a ≠ b → (TX5 a).2.1 ≠ (TX5 b).2.1 := by decide +kernel
theorem tyX5_ok : ∀ k, k < 3 → parseFieldDescriptor (TX5 k).2.2.1 = some (tyX5 k) := by decide +kernel
abbrev cX5_init : ByteArray := prog_7_method_1_code
def yX5_init : MethodName := ⟨RX5, "<init>", "()V"⟩
abbrev cX5_keep : ByteArray := prog_7_method_2_code
def yX5_keep : MethodName := ⟨RX5, "keep", "(IILBayerGate$EditRow;)V"⟩
def RX6 : String := "BayerGate"
def TX6 : u_T := fun k => match k with
  | 0 => ("BayerGate", "scene", "LBayerGate$Scene;", true)
  | 1 => ("BayerGate", "sensor", "LBayerGate$Sensor;", true)
  | 2 => ("BayerGate", "frameRow", "[LBayerGate$Frame;", true)
  | 3 => ("BayerGate", "fileRow", "[LBayerGate$StoredFile;", true)
  | 4 => ("BayerGate", "frameCount", "I", false)
  | 5 => ("BayerGate", "fileCount", "I", false)
  | 6 => ("BayerGate", "trial", "LBayerGate$Frame;", true)
  | 7 => ("BayerGate", "developed", "LBayerGate$Picture;", true)
  | _ => ("BayerGate", "compared", "LBayerGate$Picture;", true)
def tyX6 : Nat → FieldType := fun k => match k with
  | 0 => .object "BayerGate$Scene"
  | 1 => .object "BayerGate$Sensor"
  | 2 => .array (.object "BayerGate$Frame")
  | 3 => .array (.object "BayerGate$StoredFile")
  | 4 => .int
  | 5 => .int
  | 6 => .object "BayerGate$Frame"
  | 7 => .object "BayerGate$Picture"
  | _ => .object "BayerGate$Picture"
abbrev wsX60 : List Cond := u_ws RX6 TX6 9
theorem nmX6 : ∀ a, a < 9 → ∀ b, b < 9 → a ≠ b → (TX6 a).2.1 ≠ (TX6 b).2.1 := by decide +kernel
theorem tyX6_ok : ∀ k, k < 9 → parseFieldDescriptor (TX6 k).2.2.1 = some (tyX6 k) := by decide +kernel
abbrev cX6_init : ByteArray := prog_1_method_1_code
def yX6_init : MethodName := ⟨RX6, "<init>", "()V"⟩
abbrev cX6_paint : ByteArray := prog_1_method_2_code
def yX6_paint : MethodName := ⟨RX6, "paint", "(IIIII)I"⟩
abbrev cX6_lamp : ByteArray := prog_1_method_3_code
def yX6_lamp : MethodName := ⟨RX6, "lamp", "(III)I"⟩
abbrev cX6_spoil : ByteArray := prog_1_method_4_code
def yX6_spoil : MethodName := ⟨RX6, "spoil", "(III)I"⟩
abbrev cX6_map : ByteArray := prog_1_method_5_code
def yX6_map : MethodName := ⟨RX6, "map", "(IIZ)I"⟩
abbrev cX6_take : ByteArray := prog_1_method_6_code
def yX6_take : MethodName := ⟨RX6, "take", "(II)I"⟩
abbrev cX6_edit : ByteArray := prog_1_method_8_code
def yX6_edit : MethodName := ⟨RX6, "edit", "(III)I"⟩
abbrev cX6_undo : ByteArray := prog_1_method_9_code
def yX6_undo : MethodName := ⟨RX6, "undo", "(I)I"⟩
abbrev cX6_save : ByteArray := prog_1_method_10_code
def yX6_save : MethodName := ⟨RX6, "save", "(I)I"⟩
abbrev cX6_raw : ByteArray := prog_1_method_11_code
def yX6_raw : MethodName := ⟨RX6, "raw", "(III)I"⟩
abbrev cX6_picture : ByteArray := prog_1_method_12_code
def yX6_picture : MethodName := ⟨RX6, "picture", "(IIII)D"⟩
abbrev cX6_word : ByteArray := prog_1_method_13_code
def yX6_word : MethodName := ⟨RX6, "word", "(I)I"⟩
abbrev cX6_ofFrame : ByteArray := prog_1_method_14_code
def yX6_ofFrame : MethodName := ⟨RX6, "ofFrame", "(II)I"⟩
abbrev cX6_ofEdit : ByteArray := prog_1_method_15_code
def yX6_ofEdit : MethodName := ⟨RX6, "ofEdit", "(III)I"⟩
abbrev cX6_zone : ByteArray := prog_1_method_16_code
def yX6_zone : MethodName := ⟨RX6, "zone", "(II)D"⟩
abbrev cX6_meter : ByteArray := prog_1_method_17_code
def yX6_meter : MethodName := ⟨RX6, "meter", "(I)D"⟩
abbrev cX6_ofFile : ByteArray := prog_1_method_18_code
def yX6_ofFile : MethodName := ⟨RX6, "ofFile", "(II)I"⟩
abbrev cX6_ofPlace : ByteArray := prog_1_method_19_code
def yX6_ofPlace : MethodName := ⟨RX6, "ofPlace", "(III)I"⟩
abbrev cX6_many : ByteArray := prog_1_method_20_code
def yX6_many : MethodName := ⟨RX6, "many", "(I)I"⟩
abbrev cX6_apart : ByteArray := prog_1_method_21_code
def yX6_apart : MethodName := ⟨RX6, "apart", "(II)D"⟩
abbrev cX6_wouldClip : ByteArray := prog_1_method_22_code
def yX6_wouldClip : MethodName := ⟨RX6, "wouldClip", "(II)I"⟩
abbrev cX6_bestTake : ByteArray := prog_1_method_23_code
def yX6_bestTake : MethodName := ⟨RX6, "bestTake", "(I)I"⟩
abbrev cX6_bestWhite : ByteArray := prog_1_method_24_code
def yX6_bestWhite : MethodName := ⟨RX6, "bestWhite", "(II)I"⟩
abbrev cX6_digest : ByteArray := prog_1_method_25_code
def yX6_digest : MethodName := ⟨RX6, "digest", "()J"⟩
abbrev cX6_needIndex : ByteArray := prog_1_method_26_code
def yX6_needIndex : MethodName := ⟨RX6, "needIndex", "(II)V"⟩
abbrev cX6_needPlace : ByteArray := prog_1_method_27_code
def yX6_needPlace : MethodName := ⟨RX6, "needPlace", "(II)V"⟩
abbrev cX6_needFrame : ByteArray := prog_1_method_28_code
def yX6_needFrame : MethodName := ⟨RX6, "needFrame", "(I)V"⟩
abbrev cX6_needRange : ByteArray := prog_1_method_29_code
def yX6_needRange : MethodName := ⟨RX6, "needRange", "(III)V"⟩
abbrev cX6_needExposure : ByteArray := prog_1_method_30_code
def yX6_needExposure : MethodName := ⟨RX6, "needExposure", "(II)V"⟩
abbrev cX6_needRoom : ByteArray := prog_1_method_31_code
def yX6_needRoom : MethodName := ⟨RX6, "needRoom", "(II)V"⟩
abbrev cX6_isPlace : ByteArray := prog_1_method_32_code
def yX6_isPlace : MethodName := ⟨RX6, "isPlace", "(II)Z"⟩
abbrev cX6_placeOf : ByteArray := prog_1_method_33_code
def yX6_placeOf : MethodName := ⟨RX6, "placeOf", "(II)I"⟩
abbrev cX6_colourSeen : ByteArray := prog_1_method_34_code
def yX6_colourSeen : MethodName := ⟨RX6, "colourSeen", "(II)I"⟩
abbrev cX6_leastNumber : ByteArray := prog_1_method_35_code
def yX6_leastNumber : MethodName := ⟨RX6, "leastNumber", "(I)I"⟩
abbrev cX6_mostNumber : ByteArray := prog_1_method_36_code
def yX6_mostNumber : MethodName := ⟨RX6, "mostNumber", "(I)I"⟩
abbrev cX6_countFilesOf : ByteArray := prog_1_method_37_code
def yX6_countFilesOf : MethodName := ⟨RX6, "countFilesOf", "(I)I"⟩
abbrev cX6_countEdits : ByteArray := prog_1_method_38_code
def yX6_countEdits : MethodName := ⟨RX6, "countEdits", "()I"⟩
abbrev cX6_developFrame : ByteArray := prog_1_method_39_code
def yX6_developFrame : MethodName := ⟨RX6, "developFrame", "(ILBayerGate$Picture;)V"⟩
abbrev cX6_wordBehind : ByteArray := prog_1_method_40_code
def yX6_wordBehind : MethodName := ⟨RX6, "wordBehind", "(ILBayerGate$EditRow;)I"⟩
abbrev cX6_smallestOf : ByteArray := prog_1_method_41_code
def yX6_smallestOf : MethodName := ⟨RX6, "smallestOf", "(I)I"⟩
abbrev cX6_isIn : ByteArray := prog_1_method_42_code
def yX6_isIn : MethodName := ⟨RX6, "isIn", "(II)Z"⟩
abbrev cX6_putTogether : ByteArray := prog_1_method_43_code
def yX6_putTogether : MethodName := ⟨RX6, "putTogether", "(IILBayerGate$Frame;)V"⟩
def wsX0_init : List Cond := .code yX0_init cX0_init 1 none :: ([.methodLink RX0 3 objectInit, .instanceMethod objectInit, .code objectInit ⟨#[0xb1]⟩ 1 none, .arrayClass .int, .fieldLink RX0 9 "BayerGate$EditRow" "kinds" "[I", .fieldLink RX0 15 "BayerGate$EditRow" "numbers" "[I", .fieldLink RX0 18 "BayerGate$EditRow" "length" "I"] ++ wsX00)
def wsX0_count : List Cond := .code yX0_count cX0_count 1 (some .int) :: ([.fieldLink RX0 18 "BayerGate$EditRow" "length" "I"] ++ wsX00)
def wsX0_append : List Cond := .code yX0_append cX0_append 3 none :: ([.fieldLink RX0 18 "BayerGate$EditRow" "length" "I", .fieldLink RX0 9 "BayerGate$EditRow" "kinds" "[I", .fieldLink RX0 15 "BayerGate$EditRow" "numbers" "[I"] ++ wsX00)
def wsX0_takeBack : List Cond := .code yX0_takeBack cX0_takeBack 1 (some .int) :: ([.fieldLink RX0 18 "BayerGate$EditRow" "length" "I", .fieldLink RX0 9 "BayerGate$EditRow" "kinds" "[I"] ++ wsX00)
def wsX0_copyFrom : List Cond := .code yX0_copyFrom cX0_copyFrom 3 none :: ([.fieldLink RX0 9 "BayerGate$EditRow" "kinds" "[I", .fieldLink RX0 15 "BayerGate$EditRow" "numbers" "[I", .fieldLink RX0 18 "BayerGate$EditRow" "length" "I"] ++ wsX00)
def wsX0_hasMend : List Cond := .code yX0_hasMend cX0_hasMend 2 (some .boolean) :: ([.fieldLink RX0 18 "BayerGate$EditRow" "length" "I", .fieldLink RX0 9 "BayerGate$EditRow" "kinds" "[I"] ++ wsX00)
def wsX1_init : List Cond := .code yX1_init cX1_init 1 none :: ([.methodLink RX1 3 objectInit, .instanceMethod objectInit, .code objectInit ⟨#[0xb1]⟩ 1 none, .arrayClass .int, .fieldLink RX1 9 "BayerGate$Frame" "rawRow" "[I", .classLink RX1 15 RX0, .instantiable RX0 3, .initialized RX0, .fieldLink RX1 18 "BayerGate$Frame" "edits" "LBayerGate$EditRow;", .fieldLink RX1 22 "BayerGate$Frame" "time" "I", .fieldLink RX1 26 "BayerGate$Frame" "gain" "I", .fieldLink RX1 29 "BayerGate$Frame" "ghosts" "I", .instanceMethod yX0_init, .code yX0_init cX0_init 1 none, .methodLink RX0 3 objectInit, .fieldLink RX0 9 "BayerGate$EditRow" "kinds" "[I", .fieldLink RX0 15 "BayerGate$EditRow" "numbers" "[I", .fieldLink RX0 18 "BayerGate$EditRow" "length" "I"] ++ wsX10 ++ wsX00)
def wsX1_countClipped : List Cond := .code yX1_countClipped cX1_countClipped 3 (some .int) :: ([.fieldLink RX1 9 "BayerGate$Frame" "rawRow" "[I"] ++ wsX10)
def wsX6_colourSeen : List Cond := .code yX6_colourSeen cX6_colourSeen 2 (some .int) :: ([])
def wsX6_placeOf : List Cond := .code yX6_placeOf cX6_placeOf 2 (some .int) :: ([])
def wsX1_sharpness : List Cond := .code yX1_sharpness cX1_sharpness 4 (some .int) :: ([.fieldLink RX1 9 "BayerGate$Frame" "rawRow" "[I", .methodLink RX1 39 Lib.Math.abs.name, .static Lib.Math.abs.name, .initialized "java/lang/Math", .code Lib.Math.abs.name Lib.Math.abs.code 1 (some .int), .static yX6_colourSeen, .initialized RX6, .code yX6_colourSeen cX6_colourSeen 2 (some .int), .static yX6_placeOf, .code yX6_placeOf cX6_placeOf 2 (some .int)] ++ wsX10)
def wsX1_sumSeen : List Cond := .code yX1_sumSeen cX1_sumSeen 5 (some .int) :: ([.fieldLink RX1 9 "BayerGate$Frame" "rawRow" "[I", .static yX6_colourSeen, .initialized RX6, .code yX6_colourSeen cX6_colourSeen 2 (some .int), .static yX6_placeOf, .code yX6_placeOf cX6_placeOf 2 (some .int)] ++ wsX10)
def wsX1_whiteOf : List Cond := .code yX1_whiteOf cX1_whiteOf 3 (some .int) :: ([.methodLink RX1 48 Lib.Math.min.name, .static Lib.Math.min.name, .initialized "java/lang/Math", .code Lib.Math.min.name Lib.Math.min.code 2 (some .int), .methodLink RX1 51 Lib.Math.max.name, .static Lib.Math.max.name, .code Lib.Math.max.name Lib.Math.max.code 2 (some .int), .methodLink RX1 45 yX1_sumSeen, .instanceMethod yX1_sumSeen, .selects RX1 yX1_sumSeen yX1_sumSeen, .initialized RX1, .code yX1_sumSeen cX1_sumSeen 5 (some .int), .fieldLink RX1 9 "BayerGate$Frame" "rawRow" "[I", .static yX6_colourSeen, .initialized RX6, .code yX6_colourSeen cX6_colourSeen 2 (some .int), .static yX6_placeOf, .code yX6_placeOf cX6_placeOf 2 (some .int)] ++ wsX10)
def wsX1_meanOfZone : List Cond := .code yX1_meanOfZone cX1_meanOfZone 7 (some .double) :: ([.fieldLink RX1 9 "BayerGate$Frame" "rawRow" "[I", .constantDouble RX1 54 (4620693217682128896), .static yX6_colourSeen, .initialized RX6, .code yX6_colourSeen cX6_colourSeen 2 (some .int), .static yX6_placeOf, .code yX6_placeOf cX6_placeOf 2 (some .int)] ++ wsX10)
def wsX1_meanOfZones : List Cond := .code yX1_meanOfZones cX1_meanOfZones 4 (some .double) :: ([.constantDouble RX1 60 (4616189618054758400), .methodLink RX1 56 yX1_meanOfZone, .instanceMethod yX1_meanOfZone, .selects RX1 yX1_meanOfZone yX1_meanOfZone, .initialized RX1, .code yX1_meanOfZone cX1_meanOfZone 7 (some .double), .fieldLink RX1 9 "BayerGate$Frame" "rawRow" "[I", .constantDouble RX1 54 (4620693217682128896), .static yX6_colourSeen, .initialized RX6, .code yX6_colourSeen cX6_colourSeen 2 (some .int), .static yX6_placeOf, .code yX6_placeOf cX6_placeOf 2 (some .int)] ++ wsX10)
def wsX2_init : List Cond := .code yX2_init cX2_init 1 none :: ([.methodLink RX2 3 objectInit, .instanceMethod objectInit, .code objectInit ⟨#[0xb1]⟩ 1 none, .arrayClass .float, .fieldLink RX2 9 "BayerGate$Picture" "numbers" "[F", .arrayClass .int, .fieldLink RX2 15 "BayerGate$Picture" "mended" "[I"] ++ wsX20)
def wsX2_indexOf : List Cond := .code yX2_indexOf cX2_indexOf 2 (some .int) :: ([])
def wsX6_isPlace : List Cond := .code yX6_isPlace cX6_isPlace 2 (some .boolean) :: ([])
def wsX2_mendedAt : List Cond := .code yX2_mendedAt cX2_mendedAt 10 (some .int) :: ([.static yX6_isPlace, .initialized RX6, .code yX6_isPlace cX6_isPlace 2 (some .boolean), .static yX6_placeOf, .code yX6_placeOf cX6_placeOf 2 (some .int)])
def wsX2_mendAll : List Cond := .code yX2_mendAll cX2_mendAll 8 none :: ([.fieldLink RX2 15 "BayerGate$Picture" "mended" "[I", .static yX6_placeOf, .initialized RX6, .code yX6_placeOf cX6_placeOf 2 (some .int), .methodLink RX2 57 yX2_mendedAt, .static yX2_mendedAt, .initialized RX2, .code yX2_mendedAt cX2_mendedAt 10 (some .int), .static yX6_isPlace, .code yX6_isPlace cX6_isPlace 2 (some .boolean)] ++ wsX20)
def wsX2_meanAround : List Cond := .code yX2_meanAround cX2_meanAround 8 (some .float) :: ([.fieldLink RX2 15 "BayerGate$Picture" "mended" "[I", .static yX6_isPlace, .initialized RX6, .code yX6_isPlace cX6_isPlace 2 (some .boolean), .static yX6_colourSeen, .code yX6_colourSeen cX6_colourSeen 2 (some .int), .static yX6_placeOf, .code yX6_placeOf cX6_placeOf 2 (some .int)] ++ wsX20)
def wsX2_makeWhole : List Cond := .code yX2_makeWhole cX2_makeWhole 7 none :: ([.fieldLink RX2 15 "BayerGate$Picture" "mended" "[I", .fieldLink RX2 9 "BayerGate$Picture" "numbers" "[F", .static yX6_placeOf, .initialized RX6, .code yX6_placeOf cX6_placeOf 2 (some .int), .static yX6_colourSeen, .code yX6_colourSeen cX6_colourSeen 2 (some .int), .methodLink RX2 68 yX2_meanAround, .instanceMethod yX2_meanAround, .selects RX2 yX2_meanAround yX2_meanAround, .initialized RX2, .code yX2_meanAround cX2_meanAround 8 (some .float), .static yX6_isPlace, .code yX6_isPlace cX6_isPlace 2 (some .boolean), .methodLink RX2 49 yX2_indexOf, .static yX2_indexOf, .code yX2_indexOf cX2_indexOf 2 (some .int)] ++ wsX20)
def wsX2_darken : List Cond := .code yX2_darken cX2_darken 4 none :: ([.fieldLink RX2 9 "BayerGate$Picture" "numbers" "[F"] ++ wsX20)
def wsX2_scaleColour : List Cond := .code yX2_scaleColour cX2_scaleColour 4 none :: ([.fieldLink RX2 9 "BayerGate$Picture" "numbers" "[F", .methodLink RX2 49 yX2_indexOf, .static yX2_indexOf, .initialized RX2, .code yX2_indexOf cX2_indexOf 2 (some .int)] ++ wsX20)
def wsX2_changeTone : List Cond := .code yX2_changeTone cX2_changeTone 3 none :: ([.fieldLink RX2 9 "BayerGate$Picture" "numbers" "[F", .constantFloat RX2 87 (1056964608), .constantFloat RX2 53 (1132396544)] ++ wsX20)
def wsX2_turnOver : List Cond := .code yX2_turnOver cX2_turnOver 7 none :: ([.fieldLink RX2 9 "BayerGate$Picture" "numbers" "[F", .static yX6_placeOf, .initialized RX6, .code yX6_placeOf cX6_placeOf 2 (some .int), .methodLink RX2 49 yX2_indexOf, .static yX2_indexOf, .initialized RX2, .code yX2_indexOf cX2_indexOf 2 (some .int)] ++ wsX20)
def wsX2_applyEdit_r1 : List Cond := [Cond.constantFloat RX2 76 (1082130432), Cond.methodLink RX2 72 yX2_darken, Cond.instanceMethod yX2_darken, Cond.selects RX2 yX2_darken yX2_darken, Cond.initialized RX2, Cond.code yX2_darken cX2_darken 4 none, Cond.fieldLink RX2 9 "BayerGate$Picture" "numbers" "[F", Cond.methodLink RX2 77 yX2_scaleColour, Cond.instanceMethod yX2_scaleColour, Cond.selects RX2 yX2_scaleColour yX2_scaleColour, Cond.code yX2_scaleColour cX2_scaleColour 4 none, Cond.methodLink RX2 49 yX2_indexOf, Cond.static yX2_indexOf, Cond.code yX2_indexOf cX2_indexOf 2 (some .int), Cond.methodLink RX2 81 yX2_changeTone, Cond.instanceMethod yX2_changeTone, Cond.selects RX2 yX2_changeTone yX2_changeTone, Cond.code yX2_changeTone cX2_changeTone 3 none, Cond.constantFloat RX2 87 (1056964608), Cond.constantFloat RX2 53 (1132396544), Cond.methodLink RX2 84 yX2_turnOver, Cond.instanceMethod yX2_turnOver, Cond.selects RX2 yX2_turnOver yX2_turnOver, Cond.code yX2_turnOver cX2_turnOver 7 none]
def wsX2_applyEdit_r2 : List Cond := [Cond.static yX6_placeOf, Cond.initialized RX6, Cond.code yX6_placeOf cX6_placeOf 2 (some .int)]
def wsX2_applyEdit : List Cond := .code yX2_applyEdit cX2_applyEdit 3 none :: ((wsX2_applyEdit_r1 ++ wsX2_applyEdit_r2) ++ wsX20)
def wsX2_compose_r1 : List Cond := [Cond.methodLink RX2 19 yX0_hasMend, Cond.instanceMethod yX0_hasMend, Cond.selects RX0 yX0_hasMend yX0_hasMend, Cond.initialized RX0, Cond.code yX0_hasMend cX0_hasMend 2 (some .boolean), Cond.fieldLink RX0 18 "BayerGate$EditRow" "length" "I", Cond.fieldLink RX0 9 "BayerGate$EditRow" "kinds" "[I", Cond.methodLink RX2 25 yX2_mendAll, Cond.instanceMethod yX2_mendAll, Cond.selects RX2 yX2_mendAll yX2_mendAll, Cond.initialized RX2, Cond.code yX2_mendAll cX2_mendAll 8 none, Cond.fieldLink RX2 15 "BayerGate$Picture" "mended" "[I", Cond.static yX6_placeOf, Cond.initialized RX6, Cond.code yX6_placeOf cX6_placeOf 2 (some .int), Cond.methodLink RX2 57 yX2_mendedAt, Cond.static yX2_mendedAt, Cond.code yX2_mendedAt cX2_mendedAt 10 (some .int), Cond.static yX6_isPlace, Cond.code yX6_isPlace cX6_isPlace 2 (some .boolean), Cond.methodLink RX2 29 yX2_makeWhole, Cond.instanceMethod yX2_makeWhole, Cond.selects RX2 yX2_makeWhole yX2_makeWhole]
def wsX2_compose_r2 : List Cond := [Cond.code yX2_makeWhole cX2_makeWhole 7 none, Cond.fieldLink RX2 9 "BayerGate$Picture" "numbers" "[F", Cond.static yX6_colourSeen, Cond.code yX6_colourSeen cX6_colourSeen 2 (some .int), Cond.methodLink RX2 68 yX2_meanAround, Cond.instanceMethod yX2_meanAround, Cond.selects RX2 yX2_meanAround yX2_meanAround, Cond.code yX2_meanAround cX2_meanAround 8 (some .float), Cond.methodLink RX2 49 yX2_indexOf, Cond.static yX2_indexOf, Cond.code yX2_indexOf cX2_indexOf 2 (some .int), Cond.methodLink RX2 32 yX0_count, Cond.instanceMethod yX0_count, Cond.selects RX0 yX0_count yX0_count, Cond.code yX0_count cX0_count 1 (some .int), Cond.methodLink RX2 41 yX2_applyEdit, Cond.instanceMethod yX2_applyEdit, Cond.selects RX2 yX2_applyEdit yX2_applyEdit, Cond.code yX2_applyEdit cX2_applyEdit 3 none, Cond.constantFloat RX2 76 (1082130432), Cond.methodLink RX2 72 yX2_darken, Cond.instanceMethod yX2_darken, Cond.selects RX2 yX2_darken yX2_darken, Cond.code yX2_darken cX2_darken 4 none]
def wsX2_compose_r3 : List Cond := [Cond.methodLink RX2 77 yX2_scaleColour, Cond.instanceMethod yX2_scaleColour, Cond.selects RX2 yX2_scaleColour yX2_scaleColour, Cond.code yX2_scaleColour cX2_scaleColour 4 none, Cond.methodLink RX2 81 yX2_changeTone, Cond.instanceMethod yX2_changeTone, Cond.selects RX2 yX2_changeTone yX2_changeTone, Cond.code yX2_changeTone cX2_changeTone 3 none, Cond.constantFloat RX2 87 (1056964608), Cond.constantFloat RX2 53 (1132396544), Cond.methodLink RX2 84 yX2_turnOver, Cond.instanceMethod yX2_turnOver, Cond.selects RX2 yX2_turnOver yX2_turnOver, Cond.code yX2_turnOver cX2_turnOver 7 none]
def wsX2_compose : List Cond := .code yX2_compose cX2_compose 5 none :: ((wsX2_compose_r1 ++ (wsX2_compose_r2 ++ wsX2_compose_r3)) ++ wsX00 ++ wsX20)
def wsX2_bounded : List Cond := .code yX2_bounded cX2_bounded 1 (some .float) :: ([.constantFloat RX2 53 (1132396544)])
def wsX2_bound : List Cond := .code yX2_bound cX2_bound 2 none :: ([.fieldLink RX2 9 "BayerGate$Picture" "numbers" "[F", .methodLink RX2 45 yX2_bounded, .static yX2_bounded, .initialized RX2, .code yX2_bounded cX2_bounded 1 (some .float), .constantFloat RX2 53 (1132396544)] ++ wsX20)
def wsX2_sumUp : List Cond := .code yX2_sumUp cX2_sumUp 3 (some .int) :: ([.fieldLink RX2 9 "BayerGate$Picture" "numbers" "[F"] ++ wsX20)
def wsX2_sumTones : List Cond := .code yX2_sumTones cX2_sumTones 5 (some .int) :: ([.fieldLink RX2 9 "BayerGate$Picture" "numbers" "[F", .methodLink RX2 49 yX2_indexOf, .static yX2_indexOf, .initialized RX2, .code yX2_indexOf cX2_indexOf 2 (some .int), .methodLink RX2 45 yX2_bounded, .static yX2_bounded, .code yX2_bounded cX2_bounded 1 (some .float), .constantFloat RX2 53 (1132396544)] ++ wsX20)
def wsX2_farthestFrom : List Cond := .code yX2_farthestFrom cX2_farthestFrom 5 (some .float) :: ([.fieldLink RX2 9 "BayerGate$Picture" "numbers" "[F"] ++ wsX20)
def wsX3_init : List Cond := .code yX3_init cX3_init 2 none :: ([.methodLink RX3 3 objectInit, .instanceMethod objectInit, .code objectInit ⟨#[0xb1]⟩ 1 none, .arrayClass .int, .fieldLink RX3 9 "BayerGate$Scene" "shades" "[I", .arrayClass .float, .fieldLink RX3 15 "BayerGate$Scene" "factors" "[F", .fieldLink RX3 19 "BayerGate$Scene" "quartersOfGreen" "I"] ++ wsX30)
def wsX3_colourPlace : List Cond := .code yX3_colourPlace cX3_colourPlace 5 none :: ([.fieldLink RX3 9 "BayerGate$Scene" "shades" "[I"] ++ wsX30)
def wsX3_shade : List Cond := .code yX3_shade cX3_shade 3 (some .int) :: ([.fieldLink RX3 9 "BayerGate$Scene" "shades" "[I"] ++ wsX30)
def wsX3_light : List Cond := .code yX3_light cX3_light 4 none :: ([.fieldLink RX3 15 "BayerGate$Scene" "factors" "[F", .constantFloat RX3 23 (1082130432), .fieldLink RX3 19 "BayerGate$Scene" "quartersOfGreen" "I"] ++ wsX30)
def wsX3_greenQuarters : List Cond := .code yX3_greenQuarters cX3_greenQuarters 1 (some .int) :: ([.fieldLink RX3 19 "BayerGate$Scene" "quartersOfGreen" "I"] ++ wsX30)
def wsX3_lightAt : List Cond := .code yX3_lightAt cX3_lightAt 4 (some .float) :: ([.fieldLink RX3 15 "BayerGate$Scene" "factors" "[F", .constantFloat RX3 28 (1098907648), .methodLink RX3 24 yX3_shade, .instanceMethod yX3_shade, .selects RX3 yX3_shade yX3_shade, .initialized RX3, .code yX3_shade cX3_shade 3 (some .int), .fieldLink RX3 9 "BayerGate$Scene" "shades" "[I"] ++ wsX30)
def wsX4_init : List Cond := .code yX4_init cX4_init 1 none :: ([.methodLink RX4 3 objectInit, .instanceMethod objectInit, .code objectInit ⟨#[0xb1]⟩ 1 none, .arrayClass .int, .fieldLink RX4 9 "BayerGate$Sensor" "hows" "[I", .arrayClass .boolean, .fieldLink RX4 15 "BayerGate$Sensor" "mapped" "[Z", .fieldLink RX4 19 "BayerGate$Sensor" "draw" "I"] ++ wsX40)
def wsX4_howIs : List Cond := .code yX4_howIs cX4_howIs 2 (some .int) :: ([.fieldLink RX4 9 "BayerGate$Sensor" "hows" "[I"] ++ wsX40)
def wsX4_setHow : List Cond := .code yX4_setHow cX4_setHow 3 none :: ([.fieldLink RX4 9 "BayerGate$Sensor" "hows" "[I"] ++ wsX40)
def wsX4_isMapped : List Cond := .code yX4_isMapped cX4_isMapped 2 (some .boolean) :: ([.fieldLink RX4 15 "BayerGate$Sensor" "mapped" "[Z"] ++ wsX40)
def wsX4_setMapped : List Cond := .code yX4_setMapped cX4_setMapped 3 none :: ([.fieldLink RX4 15 "BayerGate$Sensor" "mapped" "[Z"] ++ wsX40)
def wsX4_countMapped : List Cond := .code yX4_countMapped cX4_countMapped 3 (some .int) :: ([.fieldLink RX4 15 "BayerGate$Sensor" "mapped" "[Z"] ++ wsX40)
def wsX4_countSpoilt : List Cond := .code yX4_countSpoilt cX4_countSpoilt 4 (some .int) :: ([.fieldLink RX4 9 "BayerGate$Sensor" "hows" "[I", .fieldLink RX4 15 "BayerGate$Sensor" "mapped" "[Z"] ++ wsX40)
def wsX4_advance : List Cond := .code yX4_advance cX4_advance 2 none :: ([.fieldLink RX4 19 "BayerGate$Sensor" "draw" "I"] ++ wsX40)
def wsX4_rawOf : List Cond := .code yX4_rawOf cX4_rawOf 5 (some .int) :: ([.methodLink RX4 51 Lib.Math.min.name, .static Lib.Math.min.name, .initialized "java/lang/Math", .code Lib.Math.min.name Lib.Math.min.code 2 (some .int), .methodLink RX4 56 Lib.Math.max.name, .static Lib.Math.max.name, .code Lib.Math.max.name Lib.Math.max.code 2 (some .int)])
def wsX4_expose_r1 : List Cond := [Cond.fieldLink RX4 19 "BayerGate$Sensor" "draw" "I", Cond.fieldLink RX4 9 "BayerGate$Sensor" "hows" "[I", Cond.static yX6_placeOf, Cond.initialized RX6, Cond.code yX6_placeOf cX6_placeOf 2 (some .int), Cond.static yX6_colourSeen, Cond.code yX6_colourSeen cX6_colourSeen 2 (some .int), Cond.methodLink RX4 30 yX3_lightAt, Cond.instanceMethod yX3_lightAt, Cond.selects RX3 yX3_lightAt yX3_lightAt, Cond.initialized RX3, Cond.code yX3_lightAt cX3_lightAt 4 (some .float), Cond.fieldLink RX3 15 "BayerGate$Scene" "factors" "[F", Cond.constantFloat RX3 28 (1098907648), Cond.methodLink RX3 24 yX3_shade, Cond.instanceMethod yX3_shade, Cond.selects RX3 yX3_shade yX3_shade, Cond.code yX3_shade cX3_shade 3 (some .int), Cond.fieldLink RX3 9 "BayerGate$Scene" "shades" "[I", Cond.methodLink RX4 41 yX4_rawOf, Cond.static yX4_rawOf, Cond.initialized RX4, Cond.code yX4_rawOf cX4_rawOf 5 (some .int), Cond.methodLink RX4 51 Lib.Math.min.name]
def wsX4_expose_r2 : List Cond := [Cond.static Lib.Math.min.name, Cond.initialized "java/lang/Math", Cond.code Lib.Math.min.name Lib.Math.min.code 2 (some .int), Cond.methodLink RX4 56 Lib.Math.max.name, Cond.static Lib.Math.max.name, Cond.code Lib.Math.max.name Lib.Math.max.code 2 (some .int)]
def wsX4_expose : List Cond := .code yX4_expose cX4_expose 10 (some .int) :: ((wsX4_expose_r1 ++ wsX4_expose_r2) ++ wsX40 ++ wsX10 ++ wsX30)
def wsX5_init : List Cond := .code yX5_init cX5_init 1 none :: ([.methodLink RX5 1 objectInit, .instanceMethod objectInit, .code objectInit ⟨#[0xb1]⟩ 1 none, .classLink RX5 7 RX0, .instantiable RX0 3, .initialized RX0, .fieldLink RX5 10 "BayerGate$StoredFile" "edits" "LBayerGate$EditRow;", .fieldLink RX5 16 "BayerGate$StoredFile" "frame" "I", .fieldLink RX5 20 "BayerGate$StoredFile" "version" "I", .instanceMethod yX0_init, .code yX0_init cX0_init 1 none, .methodLink RX0 3 objectInit, .arrayClass .int, .fieldLink RX0 9 "BayerGate$EditRow" "kinds" "[I", .fieldLink RX0 15 "BayerGate$EditRow" "numbers" "[I", .fieldLink RX0 18 "BayerGate$EditRow" "length" "I"] ++ wsX00 ++ wsX50)
def wsX5_keep : List Cond := .code yX5_keep cX5_keep 4 none :: ([.fieldLink RX5 16 "BayerGate$StoredFile" "frame" "I", .fieldLink RX5 20 "BayerGate$StoredFile" "version" "I", .fieldLink RX5 10 "BayerGate$StoredFile" "edits" "LBayerGate$EditRow;", .methodLink RX5 23 yX0_copyFrom, .instanceMethod yX0_copyFrom, .selects RX0 yX0_copyFrom yX0_copyFrom, .initialized RX0, .code yX0_copyFrom cX0_copyFrom 3 none, .fieldLink RX0 9 "BayerGate$EditRow" "kinds" "[I", .fieldLink RX0 15 "BayerGate$EditRow" "numbers" "[I", .fieldLink RX0 18 "BayerGate$EditRow" "length" "I"] ++ wsX50 ++ wsX00)
def wsX6_init_r1 : List Cond := [Cond.methodLink RX6 3 objectInit, Cond.instanceMethod objectInit, Cond.code objectInit ⟨#[0xb1]⟩ 1 none, Cond.classLink RX6 9 RX3, Cond.instantiable RX3 3, Cond.initialized RX3, Cond.fieldLink RX6 12 "BayerGate" "scene" "LBayerGate$Scene;", Cond.classLink RX6 16 RX4, Cond.instantiable RX4 3, Cond.initialized RX4, Cond.fieldLink RX6 19 "BayerGate" "sensor" "LBayerGate$Sensor;", Cond.classLink RX6 23 RX1, Cond.fieldLink RX6 25 "BayerGate" "frameRow" "[LBayerGate$Frame;", Cond.classLink RX6 29 RX5, Cond.fieldLink RX6 31 "BayerGate" "fileRow" "[LBayerGate$StoredFile;", Cond.fieldLink RX6 35 "BayerGate" "frameCount" "I", Cond.fieldLink RX6 39 "BayerGate" "fileCount" "I", Cond.instantiable RX1 5, Cond.initialized RX1, Cond.fieldLink RX6 43 "BayerGate" "trial" "LBayerGate$Frame;", Cond.classLink RX6 47 RX2, Cond.instantiable RX2 2, Cond.initialized RX2, Cond.fieldLink RX6 50 "BayerGate" "developed" "LBayerGate$Picture;"]
def wsX6_init_r2 : List Cond := [Cond.fieldLink RX6 54 "BayerGate" "compared" "LBayerGate$Picture;", Cond.instantiable RX5 3, Cond.initialized RX5, Cond.methodLink RX6 11 yX3_init, Cond.instanceMethod yX3_init, Cond.code yX3_init cX3_init 2 none, Cond.methodLink RX3 3 objectInit, Cond.arrayClass .int, Cond.fieldLink RX3 9 "BayerGate$Scene" "shades" "[I", Cond.arrayClass .float, Cond.fieldLink RX3 15 "BayerGate$Scene" "factors" "[F", Cond.fieldLink RX3 19 "BayerGate$Scene" "quartersOfGreen" "I", Cond.instanceMethod yX4_init, Cond.code yX4_init cX4_init 1 none, Cond.methodLink RX4 3 objectInit, Cond.fieldLink RX4 9 "BayerGate$Sensor" "hows" "[I", Cond.arrayClass .boolean, Cond.fieldLink RX4 15 "BayerGate$Sensor" "mapped" "[Z", Cond.fieldLink RX4 19 "BayerGate$Sensor" "draw" "I", Cond.instanceMethod yX1_init, Cond.code yX1_init cX1_init 1 none, Cond.methodLink RX1 3 objectInit, Cond.fieldLink RX1 9 "BayerGate$Frame" "rawRow" "[I", Cond.classLink RX1 15 RX0]
def wsX6_init_r3 : List Cond := [Cond.instantiable RX0 3, Cond.initialized RX0, Cond.fieldLink RX1 18 "BayerGate$Frame" "edits" "LBayerGate$EditRow;", Cond.fieldLink RX1 22 "BayerGate$Frame" "time" "I", Cond.fieldLink RX1 26 "BayerGate$Frame" "gain" "I", Cond.fieldLink RX1 29 "BayerGate$Frame" "ghosts" "I", Cond.instanceMethod yX0_init, Cond.code yX0_init cX0_init 1 none, Cond.methodLink RX0 3 objectInit, Cond.fieldLink RX0 9 "BayerGate$EditRow" "kinds" "[I", Cond.fieldLink RX0 15 "BayerGate$EditRow" "numbers" "[I", Cond.fieldLink RX0 18 "BayerGate$EditRow" "length" "I", Cond.instanceMethod yX2_init, Cond.code yX2_init cX2_init 1 none, Cond.methodLink RX2 3 objectInit, Cond.fieldLink RX2 9 "BayerGate$Picture" "numbers" "[F", Cond.fieldLink RX2 15 "BayerGate$Picture" "mended" "[I", Cond.instanceMethod yX5_init, Cond.code yX5_init cX5_init 1 none, Cond.methodLink RX5 1 objectInit, Cond.classLink RX5 7 RX0, Cond.fieldLink RX5 10 "BayerGate$StoredFile" "edits" "LBayerGate$EditRow;", Cond.fieldLink RX5 16 "BayerGate$StoredFile" "frame" "I", Cond.fieldLink RX5 20 "BayerGate$StoredFile" "version" "I"]
def wsX6_init : List Cond := .code yX6_init cX6_init 2 none :: ((wsX6_init_r1 ++ (wsX6_init_r2 ++ wsX6_init_r3)) ++ wsX30 ++ wsX60 ++ wsX40 ++ wsX10 ++ wsX20 ++ wsX50 ++ wsX00)
def wsX6_needPlace : List Cond := .code yX6_needPlace cX6_needPlace 2 none :: ([.classLink RX6 284 "java/lang/IndexOutOfBoundsException", .initialized "java/lang/IndexOutOfBoundsException", .methodLink RX6 289 yX6_isPlace, .static yX6_isPlace, .initialized RX6, .code yX6_isPlace cX6_isPlace 2 (some .boolean)] ++ (vx_atS RX6 288 "java/lang/IndexOutOfBoundsException" ["java/lang/RuntimeException", "java/lang/Exception"]).filter goodWord)
def wsX6_needRange : List Cond := .code yX6_needRange cX6_needRange 3 none :: ([.classLink RX6 62 "java/lang/IllegalArgumentException", .initialized "java/lang/IllegalArgumentException"] ++ (vx_atS RX6 66 "java/lang/IllegalArgumentException" ["java/lang/RuntimeException", "java/lang/Exception"]).filter goodWord)
def wsX6_paint_r1 : List Cond := [Cond.classLink RX6 62 "java/lang/IllegalArgumentException", Cond.initialized "java/lang/IllegalArgumentException", Cond.constant RX6 69 (16777215), Cond.fieldLink RX6 12 "BayerGate" "scene" "LBayerGate$Scene;", Cond.methodLink RX6 58 yX6_needPlace, Cond.static yX6_needPlace, Cond.initialized RX6, Cond.code yX6_needPlace cX6_needPlace 2 none, Cond.classLink RX6 284 "java/lang/IndexOutOfBoundsException", Cond.initialized "java/lang/IndexOutOfBoundsException", Cond.methodLink RX6 289 yX6_isPlace, Cond.static yX6_isPlace, Cond.code yX6_isPlace cX6_isPlace 2 (some .boolean), Cond.methodLink RX6 70 yX6_needRange, Cond.static yX6_needRange, Cond.code yX6_needRange cX6_needRange 3 none, Cond.methodLink RX6 74 yX6_placeOf, Cond.static yX6_placeOf, Cond.code yX6_placeOf cX6_placeOf 2 (some .int), Cond.methodLink RX6 78 yX3_colourPlace, Cond.instanceMethod yX3_colourPlace, Cond.selects RX3 yX3_colourPlace yX3_colourPlace, Cond.initialized RX3, Cond.code yX3_colourPlace cX3_colourPlace 5 none]
def wsX6_paint_r2 : List Cond := [Cond.fieldLink RX3 9 "BayerGate$Scene" "shades" "[I"]
def wsX6_paint : List Cond := .code yX6_paint cX6_paint 8 (some .int) :: ((wsX6_paint_r1 ++ wsX6_paint_r2) ++ wsX60 ++ wsX30 ++ (vx_atS RX6 66 "java/lang/IllegalArgumentException" ["java/lang/RuntimeException", "java/lang/Exception"]).filter goodWord ++ (vx_atS RX6 288 "java/lang/IndexOutOfBoundsException" ["java/lang/RuntimeException", "java/lang/Exception"]).filter goodWord)
def wsX6_lamp : List Cond := .code yX6_lamp cX6_lamp 5 (some .int) :: ([.fieldLink RX6 12 "BayerGate" "scene" "LBayerGate$Scene;", .methodLink RX6 70 yX6_needRange, .static yX6_needRange, .initialized RX6, .code yX6_needRange cX6_needRange 3 none, .classLink RX6 62 "java/lang/IllegalArgumentException", .initialized "java/lang/IllegalArgumentException", .methodLink RX6 81 yX3_greenQuarters, .instanceMethod yX3_greenQuarters, .selects RX3 yX3_greenQuarters yX3_greenQuarters, .initialized RX3, .code yX3_greenQuarters cX3_greenQuarters 1 (some .int), .fieldLink RX3 19 "BayerGate$Scene" "quartersOfGreen" "I", .methodLink RX6 85 yX3_light, .instanceMethod yX3_light, .selects RX3 yX3_light yX3_light, .code yX3_light cX3_light 4 none, .fieldLink RX3 15 "BayerGate$Scene" "factors" "[F", .constantFloat RX3 23 (1082130432)] ++ wsX60 ++ wsX30 ++ (vx_atS RX6 66 "java/lang/IllegalArgumentException" ["java/lang/RuntimeException", "java/lang/Exception"]).filter goodWord)
def wsX6_spoil_r1 : List Cond := [Cond.fieldLink RX6 19 "BayerGate" "sensor" "LBayerGate$Sensor;", Cond.methodLink RX6 58 yX6_needPlace, Cond.static yX6_needPlace, Cond.initialized RX6, Cond.code yX6_needPlace cX6_needPlace 2 none, Cond.classLink RX6 284 "java/lang/IndexOutOfBoundsException", Cond.initialized "java/lang/IndexOutOfBoundsException", Cond.methodLink RX6 289 yX6_isPlace, Cond.static yX6_isPlace, Cond.code yX6_isPlace cX6_isPlace 2 (some .boolean), Cond.methodLink RX6 70 yX6_needRange, Cond.static yX6_needRange, Cond.code yX6_needRange cX6_needRange 3 none, Cond.classLink RX6 62 "java/lang/IllegalArgumentException", Cond.initialized "java/lang/IllegalArgumentException", Cond.methodLink RX6 74 yX6_placeOf, Cond.static yX6_placeOf, Cond.code yX6_placeOf cX6_placeOf 2 (some .int), Cond.methodLink RX6 88 yX4_howIs, Cond.instanceMethod yX4_howIs, Cond.selects RX4 yX4_howIs yX4_howIs, Cond.initialized RX4, Cond.code yX4_howIs cX4_howIs 2 (some .int), Cond.fieldLink RX4 9 "BayerGate$Sensor" "hows" "[I"]
def wsX6_spoil_r2 : List Cond := [Cond.methodLink RX6 92 yX4_setHow, Cond.instanceMethod yX4_setHow, Cond.selects RX4 yX4_setHow yX4_setHow, Cond.code yX4_setHow cX4_setHow 3 none]
def wsX6_spoil : List Cond := .code yX6_spoil cX6_spoil 6 (some .int) :: ((wsX6_spoil_r1 ++ wsX6_spoil_r2) ++ wsX60 ++ wsX40 ++ (vx_atS RX6 288 "java/lang/IndexOutOfBoundsException" ["java/lang/RuntimeException", "java/lang/Exception"]).filter goodWord ++ (vx_atS RX6 66 "java/lang/IllegalArgumentException" ["java/lang/RuntimeException", "java/lang/Exception"]).filter goodWord)
def wsX6_map : List Cond := .code yX6_map cX6_map 4 (some .int) :: ([.fieldLink RX6 19 "BayerGate" "sensor" "LBayerGate$Sensor;", .methodLink RX6 58 yX6_needPlace, .static yX6_needPlace, .initialized RX6, .code yX6_needPlace cX6_needPlace 2 none, .classLink RX6 284 "java/lang/IndexOutOfBoundsException", .initialized "java/lang/IndexOutOfBoundsException", .methodLink RX6 289 yX6_isPlace, .static yX6_isPlace, .code yX6_isPlace cX6_isPlace 2 (some .boolean), .methodLink RX6 74 yX6_placeOf, .static yX6_placeOf, .code yX6_placeOf cX6_placeOf 2 (some .int), .methodLink RX6 95 yX4_setMapped, .instanceMethod yX4_setMapped, .selects RX4 yX4_setMapped yX4_setMapped, .initialized RX4, .code yX4_setMapped cX4_setMapped 3 none, .fieldLink RX4 15 "BayerGate$Sensor" "mapped" "[Z", .methodLink RX6 99 yX4_countMapped, .instanceMethod yX4_countMapped, .selects RX4 yX4_countMapped yX4_countMapped, .code yX4_countMapped cX4_countMapped 3 (some .int)] ++ wsX60 ++ wsX40 ++ (vx_atS RX6 288 "java/lang/IndexOutOfBoundsException" ["java/lang/RuntimeException", "java/lang/Exception"]).filter goodWord)
def wsX6_needExposure : List Cond := .code yX6_needExposure cX6_needExposure 2 none :: ([.methodLink RX6 70 yX6_needRange, .static yX6_needRange, .initialized RX6, .code yX6_needRange cX6_needRange 3 none, .classLink RX6 62 "java/lang/IllegalArgumentException", .initialized "java/lang/IllegalArgumentException"] ++ (vx_atS RX6 66 "java/lang/IllegalArgumentException" ["java/lang/RuntimeException", "java/lang/Exception"]).filter goodWord)
def wsX6_needRoom : List Cond := .code yX6_needRoom cX6_needRoom 2 none :: ([.classLink RX6 299 "java/lang/IllegalStateException", .initialized "java/lang/IllegalStateException"] ++ (vx_atS RX6 303 "java/lang/IllegalStateException" ["java/lang/RuntimeException", "java/lang/Exception"]).filter goodWord)
def wsX6_take_r1 : List Cond := [Cond.fieldLink RX6 35 "BayerGate" "frameCount" "I", Cond.fieldLink RX6 19 "BayerGate" "sensor" "LBayerGate$Sensor;", Cond.fieldLink RX6 12 "BayerGate" "scene" "LBayerGate$Scene;", Cond.fieldLink RX6 25 "BayerGate" "frameRow" "[LBayerGate$Frame;", Cond.methodLink RX6 102 yX6_needExposure, Cond.static yX6_needExposure, Cond.initialized RX6, Cond.code yX6_needExposure cX6_needExposure 2 none, Cond.methodLink RX6 70 yX6_needRange, Cond.static yX6_needRange, Cond.code yX6_needRange cX6_needRange 3 none, Cond.classLink RX6 62 "java/lang/IllegalArgumentException", Cond.initialized "java/lang/IllegalArgumentException", Cond.methodLink RX6 105 yX6_needRoom, Cond.static yX6_needRoom, Cond.code yX6_needRoom cX6_needRoom 2 none, Cond.classLink RX6 299 "java/lang/IllegalStateException", Cond.initialized "java/lang/IllegalStateException", Cond.methodLink RX6 108 yX4_expose, Cond.instanceMethod yX4_expose, Cond.selects RX4 yX4_expose yX4_expose, Cond.initialized RX4, Cond.code yX4_expose cX4_expose 10 (some .int), Cond.fieldLink RX4 19 "BayerGate$Sensor" "draw" "I"]
def wsX6_take_r2 : List Cond := [Cond.fieldLink RX4 9 "BayerGate$Sensor" "hows" "[I", Cond.static yX6_placeOf, Cond.code yX6_placeOf cX6_placeOf 2 (some .int), Cond.static yX6_colourSeen, Cond.code yX6_colourSeen cX6_colourSeen 2 (some .int), Cond.methodLink RX4 30 yX3_lightAt, Cond.instanceMethod yX3_lightAt, Cond.selects RX3 yX3_lightAt yX3_lightAt, Cond.initialized RX3, Cond.code yX3_lightAt cX3_lightAt 4 (some .float), Cond.fieldLink RX3 15 "BayerGate$Scene" "factors" "[F", Cond.constantFloat RX3 28 (1098907648), Cond.methodLink RX3 24 yX3_shade, Cond.instanceMethod yX3_shade, Cond.selects RX3 yX3_shade yX3_shade, Cond.code yX3_shade cX3_shade 3 (some .int), Cond.fieldLink RX3 9 "BayerGate$Scene" "shades" "[I", Cond.methodLink RX4 41 yX4_rawOf, Cond.static yX4_rawOf, Cond.code yX4_rawOf cX4_rawOf 5 (some .int), Cond.methodLink RX4 51 Lib.Math.min.name, Cond.static Lib.Math.min.name, Cond.initialized "java/lang/Math", Cond.code Lib.Math.min.name Lib.Math.min.code 2 (some .int)]
def wsX6_take_r3 : List Cond := [Cond.methodLink RX4 56 Lib.Math.max.name, Cond.static Lib.Math.max.name, Cond.code Lib.Math.max.name Lib.Math.max.code 2 (some .int), Cond.methodLink RX6 112 yX4_advance, Cond.instanceMethod yX4_advance, Cond.selects RX4 yX4_advance yX4_advance, Cond.code yX4_advance cX4_advance 2 none]
def wsX6_take : List Cond := .code yX6_take cX6_take 4 (some .int) :: ((wsX6_take_r1 ++ (wsX6_take_r2 ++ wsX6_take_r3)) ++ wsX60 ++ wsX40 ++ wsX10 ++ wsX30 ++ (vx_atS RX6 66 "java/lang/IllegalArgumentException" ["java/lang/RuntimeException", "java/lang/Exception"]).filter goodWord ++ (vx_atS RX6 303 "java/lang/IllegalStateException" ["java/lang/RuntimeException", "java/lang/Exception"]).filter goodWord)
def wsX6_isIn : List Cond := .code yX6_isIn cX6_isIn 2 (some .boolean) :: ([])
def wsX6_smallestOf : List Cond := .code yX6_smallestOf cX6_smallestOf 3 (some .int) :: ([.methodLink RX6 310 yX6_isIn, .static yX6_isIn, .initialized RX6, .code yX6_isIn cX6_isIn 2 (some .boolean)])
def wsX6_putTogether : List Cond := .code yX6_putTogether cX6_putTogether 12 none :: ([.fieldLink RX6 25 "BayerGate" "frameRow" "[LBayerGate$Frame;", .fieldLink RX6 35 "BayerGate" "frameCount" "I", .methodLink RX6 255 Lib.Math.abs.name, .static Lib.Math.abs.name, .initialized "java/lang/Math", .code Lib.Math.abs.name Lib.Math.abs.code 1 (some .int), .methodLink RX6 313 yX6_smallestOf, .instanceMethod yX6_smallestOf, .selects RX6 yX6_smallestOf yX6_smallestOf, .initialized RX6, .code yX6_smallestOf cX6_smallestOf 3 (some .int), .methodLink RX6 310 yX6_isIn, .static yX6_isIn, .code yX6_isIn cX6_isIn 2 (some .boolean)] ++ wsX60 ++ wsX10)
def wsX6_needFrame : List Cond := .code yX6_needFrame cX6_needFrame 2 none :: ([.classLink RX6 284 "java/lang/IndexOutOfBoundsException", .initialized "java/lang/IndexOutOfBoundsException", .fieldLink RX6 35 "BayerGate" "frameCount" "I"] ++ wsX60 ++ (vx_atS RX6 288 "java/lang/IndexOutOfBoundsException" ["java/lang/RuntimeException", "java/lang/Exception"]).filter goodWord)
def wsX6_leastNumber : List Cond := .code yX6_leastNumber cX6_leastNumber 1 (some .int) :: ([])
def wsX6_mostNumber : List Cond := .code yX6_mostNumber cX6_mostNumber 1 (some .int) :: ([])
def wsX6_edit_r1 : List Cond := [Cond.fieldLink RX6 25 "BayerGate" "frameRow" "[LBayerGate$Frame;", Cond.methodLink RX6 127 yX6_needFrame, Cond.instanceMethod yX6_needFrame, Cond.selects RX6 yX6_needFrame yX6_needFrame, Cond.initialized RX6, Cond.code yX6_needFrame cX6_needFrame 2 none, Cond.classLink RX6 284 "java/lang/IndexOutOfBoundsException", Cond.initialized "java/lang/IndexOutOfBoundsException", Cond.fieldLink RX6 35 "BayerGate" "frameCount" "I", Cond.methodLink RX6 70 yX6_needRange, Cond.static yX6_needRange, Cond.code yX6_needRange cX6_needRange 3 none, Cond.classLink RX6 62 "java/lang/IllegalArgumentException", Cond.initialized "java/lang/IllegalArgumentException", Cond.methodLink RX6 130 yX6_leastNumber, Cond.static yX6_leastNumber, Cond.code yX6_leastNumber cX6_leastNumber 1 (some .int), Cond.methodLink RX6 133 yX6_mostNumber, Cond.static yX6_mostNumber, Cond.code yX6_mostNumber cX6_mostNumber 1 (some .int), Cond.methodLink RX6 140 yX0_count, Cond.instanceMethod yX0_count, Cond.selects RX0 yX0_count yX0_count, Cond.initialized RX0]
def wsX6_edit_r2 : List Cond := [Cond.code yX0_count cX0_count 1 (some .int), Cond.fieldLink RX0 18 "BayerGate$EditRow" "length" "I", Cond.methodLink RX6 105 yX6_needRoom, Cond.static yX6_needRoom, Cond.code yX6_needRoom cX6_needRoom 2 none, Cond.classLink RX6 299 "java/lang/IllegalStateException", Cond.initialized "java/lang/IllegalStateException", Cond.methodLink RX6 145 yX0_append, Cond.instanceMethod yX0_append, Cond.selects RX0 yX0_append yX0_append, Cond.code yX0_append cX0_append 3 none, Cond.fieldLink RX0 9 "BayerGate$EditRow" "kinds" "[I", Cond.fieldLink RX0 15 "BayerGate$EditRow" "numbers" "[I"]
def wsX6_edit : List Cond := .code yX6_edit cX6_edit 5 (some .int) :: ((wsX6_edit_r1 ++ wsX6_edit_r2) ++ wsX60 ++ wsX10 ++ wsX00 ++ (vx_atS RX6 288 "java/lang/IndexOutOfBoundsException" ["java/lang/RuntimeException", "java/lang/Exception"]).filter goodWord ++ (vx_atS RX6 66 "java/lang/IllegalArgumentException" ["java/lang/RuntimeException", "java/lang/Exception"]).filter goodWord ++ (vx_atS RX6 303 "java/lang/IllegalStateException" ["java/lang/RuntimeException", "java/lang/Exception"]).filter goodWord)
def wsX6_undo : List Cond := .code yX6_undo cX6_undo 2 (some .int) :: ([.fieldLink RX6 25 "BayerGate" "frameRow" "[LBayerGate$Frame;", .methodLink RX6 127 yX6_needFrame, .instanceMethod yX6_needFrame, .selects RX6 yX6_needFrame yX6_needFrame, .initialized RX6, .code yX6_needFrame cX6_needFrame 2 none, .classLink RX6 284 "java/lang/IndexOutOfBoundsException", .initialized "java/lang/IndexOutOfBoundsException", .fieldLink RX6 35 "BayerGate" "frameCount" "I", .methodLink RX6 148 yX0_takeBack, .instanceMethod yX0_takeBack, .selects RX0 yX0_takeBack yX0_takeBack, .initialized RX0, .code yX0_takeBack cX0_takeBack 1 (some .int), .fieldLink RX0 18 "BayerGate$EditRow" "length" "I", .fieldLink RX0 9 "BayerGate$EditRow" "kinds" "[I"] ++ wsX60 ++ wsX10 ++ wsX00 ++ (vx_atS RX6 288 "java/lang/IndexOutOfBoundsException" ["java/lang/RuntimeException", "java/lang/Exception"]).filter goodWord)
def wsX6_countFilesOf : List Cond := .code yX6_countFilesOf cX6_countFilesOf 4 (some .int) :: ([.fieldLink RX6 39 "BayerGate" "fileCount" "I", .fieldLink RX6 31 "BayerGate" "fileRow" "[LBayerGate$StoredFile;"] ++ wsX60 ++ wsX50)
def wsX6_save_r1 : List Cond := [Cond.fieldLink RX6 39 "BayerGate" "fileCount" "I", Cond.fieldLink RX6 31 "BayerGate" "fileRow" "[LBayerGate$StoredFile;", Cond.fieldLink RX6 25 "BayerGate" "frameRow" "[LBayerGate$Frame;", Cond.methodLink RX6 127 yX6_needFrame, Cond.instanceMethod yX6_needFrame, Cond.selects RX6 yX6_needFrame yX6_needFrame, Cond.initialized RX6, Cond.code yX6_needFrame cX6_needFrame 2 none, Cond.classLink RX6 284 "java/lang/IndexOutOfBoundsException", Cond.initialized "java/lang/IndexOutOfBoundsException", Cond.fieldLink RX6 35 "BayerGate" "frameCount" "I", Cond.methodLink RX6 105 yX6_needRoom, Cond.static yX6_needRoom, Cond.code yX6_needRoom cX6_needRoom 2 none, Cond.classLink RX6 299 "java/lang/IllegalStateException", Cond.initialized "java/lang/IllegalStateException", Cond.methodLink RX6 151 yX6_countFilesOf, Cond.instanceMethod yX6_countFilesOf, Cond.selects RX6 yX6_countFilesOf yX6_countFilesOf, Cond.code yX6_countFilesOf cX6_countFilesOf 4 (some .int), Cond.methodLink RX6 154 yX5_keep, Cond.instanceMethod yX5_keep, Cond.selects RX5 yX5_keep yX5_keep, Cond.initialized RX5]
def wsX6_save_r2 : List Cond := [Cond.code yX5_keep cX5_keep 4 none, Cond.fieldLink RX5 16 "BayerGate$StoredFile" "frame" "I", Cond.fieldLink RX5 20 "BayerGate$StoredFile" "version" "I", Cond.fieldLink RX5 10 "BayerGate$StoredFile" "edits" "LBayerGate$EditRow;", Cond.methodLink RX5 23 yX0_copyFrom, Cond.instanceMethod yX0_copyFrom, Cond.selects RX0 yX0_copyFrom yX0_copyFrom, Cond.initialized RX0, Cond.code yX0_copyFrom cX0_copyFrom 3 none, Cond.fieldLink RX0 9 "BayerGate$EditRow" "kinds" "[I", Cond.fieldLink RX0 15 "BayerGate$EditRow" "numbers" "[I", Cond.fieldLink RX0 18 "BayerGate$EditRow" "length" "I"]
def wsX6_save : List Cond := .code yX6_save cX6_save 3 (some .int) :: ((wsX6_save_r1 ++ wsX6_save_r2) ++ wsX60 ++ wsX10 ++ wsX50 ++ wsX00 ++ (vx_atS RX6 288 "java/lang/IndexOutOfBoundsException" ["java/lang/RuntimeException", "java/lang/Exception"]).filter goodWord ++ (vx_atS RX6 303 "java/lang/IllegalStateException" ["java/lang/RuntimeException", "java/lang/Exception"]).filter goodWord)
def wsX6_raw : List Cond := .code yX6_raw cX6_raw 4 (some .int) :: ([.fieldLink RX6 25 "BayerGate" "frameRow" "[LBayerGate$Frame;", .methodLink RX6 127 yX6_needFrame, .instanceMethod yX6_needFrame, .selects RX6 yX6_needFrame yX6_needFrame, .initialized RX6, .code yX6_needFrame cX6_needFrame 2 none, .classLink RX6 284 "java/lang/IndexOutOfBoundsException", .initialized "java/lang/IndexOutOfBoundsException", .fieldLink RX6 35 "BayerGate" "frameCount" "I", .methodLink RX6 58 yX6_needPlace, .static yX6_needPlace, .code yX6_needPlace cX6_needPlace 2 none, .methodLink RX6 289 yX6_isPlace, .static yX6_isPlace, .code yX6_isPlace cX6_isPlace 2 (some .boolean), .methodLink RX6 74 yX6_placeOf, .static yX6_placeOf, .code yX6_placeOf cX6_placeOf 2 (some .int)] ++ wsX60 ++ wsX10 ++ (vx_atS RX6 288 "java/lang/IndexOutOfBoundsException" ["java/lang/RuntimeException", "java/lang/Exception"]).filter goodWord)
def wsX6_developFrame_r1 : List Cond := [Cond.fieldLink RX6 25 "BayerGate" "frameRow" "[LBayerGate$Frame;", Cond.fieldLink RX6 19 "BayerGate" "sensor" "LBayerGate$Sensor;", Cond.methodLink RX6 246 yX2_compose, Cond.instanceMethod yX2_compose, Cond.selects RX2 yX2_compose yX2_compose, Cond.initialized RX2, Cond.code yX2_compose cX2_compose 5 none, Cond.methodLink RX2 19 yX0_hasMend, Cond.instanceMethod yX0_hasMend, Cond.selects RX0 yX0_hasMend yX0_hasMend, Cond.initialized RX0, Cond.code yX0_hasMend cX0_hasMend 2 (some .boolean), Cond.fieldLink RX0 18 "BayerGate$EditRow" "length" "I", Cond.fieldLink RX0 9 "BayerGate$EditRow" "kinds" "[I", Cond.methodLink RX2 25 yX2_mendAll, Cond.instanceMethod yX2_mendAll, Cond.selects RX2 yX2_mendAll yX2_mendAll, Cond.code yX2_mendAll cX2_mendAll 8 none, Cond.fieldLink RX2 15 "BayerGate$Picture" "mended" "[I", Cond.static yX6_placeOf, Cond.initialized RX6, Cond.code yX6_placeOf cX6_placeOf 2 (some .int), Cond.methodLink RX2 57 yX2_mendedAt, Cond.static yX2_mendedAt]
def wsX6_developFrame_r2 : List Cond := [Cond.code yX2_mendedAt cX2_mendedAt 10 (some .int), Cond.static yX6_isPlace, Cond.code yX6_isPlace cX6_isPlace 2 (some .boolean), Cond.methodLink RX2 29 yX2_makeWhole, Cond.instanceMethod yX2_makeWhole, Cond.selects RX2 yX2_makeWhole yX2_makeWhole, Cond.code yX2_makeWhole cX2_makeWhole 7 none, Cond.fieldLink RX2 9 "BayerGate$Picture" "numbers" "[F", Cond.static yX6_colourSeen, Cond.code yX6_colourSeen cX6_colourSeen 2 (some .int), Cond.methodLink RX2 68 yX2_meanAround, Cond.instanceMethod yX2_meanAround, Cond.selects RX2 yX2_meanAround yX2_meanAround, Cond.code yX2_meanAround cX2_meanAround 8 (some .float), Cond.methodLink RX2 49 yX2_indexOf, Cond.static yX2_indexOf, Cond.code yX2_indexOf cX2_indexOf 2 (some .int), Cond.methodLink RX2 32 yX0_count, Cond.instanceMethod yX0_count, Cond.selects RX0 yX0_count yX0_count, Cond.code yX0_count cX0_count 1 (some .int), Cond.methodLink RX2 41 yX2_applyEdit, Cond.instanceMethod yX2_applyEdit, Cond.selects RX2 yX2_applyEdit yX2_applyEdit]
def wsX6_developFrame_r3 : List Cond := [Cond.code yX2_applyEdit cX2_applyEdit 3 none, Cond.constantFloat RX2 76 (1082130432), Cond.methodLink RX2 72 yX2_darken, Cond.instanceMethod yX2_darken, Cond.selects RX2 yX2_darken yX2_darken, Cond.code yX2_darken cX2_darken 4 none, Cond.methodLink RX2 77 yX2_scaleColour, Cond.instanceMethod yX2_scaleColour, Cond.selects RX2 yX2_scaleColour yX2_scaleColour, Cond.code yX2_scaleColour cX2_scaleColour 4 none, Cond.methodLink RX2 81 yX2_changeTone, Cond.instanceMethod yX2_changeTone, Cond.selects RX2 yX2_changeTone yX2_changeTone, Cond.code yX2_changeTone cX2_changeTone 3 none, Cond.constantFloat RX2 87 (1056964608), Cond.constantFloat RX2 53 (1132396544), Cond.methodLink RX2 84 yX2_turnOver, Cond.instanceMethod yX2_turnOver, Cond.selects RX2 yX2_turnOver yX2_turnOver, Cond.code yX2_turnOver cX2_turnOver 7 none, Cond.methodLink RX6 304 yX2_bound, Cond.instanceMethod yX2_bound, Cond.selects RX2 yX2_bound yX2_bound, Cond.code yX2_bound cX2_bound 2 none]
def wsX6_developFrame_r4 : List Cond := [Cond.methodLink RX2 45 yX2_bounded, Cond.static yX2_bounded, Cond.code yX2_bounded cX2_bounded 1 (some .float)]
def wsX6_developFrame : List Cond := .code yX6_developFrame cX6_developFrame 4 none :: ((wsX6_developFrame_r1 ++ (wsX6_developFrame_r2 ++ (wsX6_developFrame_r3 ++ wsX6_developFrame_r4))) ++ wsX60 ++ wsX10 ++ wsX40 ++ wsX00 ++ wsX20)
def wsX6_picture_r1 : List Cond := [Cond.fieldLink RX6 50 "BayerGate" "developed" "LBayerGate$Picture;", Cond.methodLink RX6 127 yX6_needFrame, Cond.instanceMethod yX6_needFrame, Cond.selects RX6 yX6_needFrame yX6_needFrame, Cond.initialized RX6, Cond.code yX6_needFrame cX6_needFrame 2 none, Cond.classLink RX6 284 "java/lang/IndexOutOfBoundsException", Cond.initialized "java/lang/IndexOutOfBoundsException", Cond.fieldLink RX6 35 "BayerGate" "frameCount" "I", Cond.methodLink RX6 58 yX6_needPlace, Cond.static yX6_needPlace, Cond.code yX6_needPlace cX6_needPlace 2 none, Cond.methodLink RX6 289 yX6_isPlace, Cond.static yX6_isPlace, Cond.code yX6_isPlace cX6_isPlace 2 (some .boolean), Cond.methodLink RX6 70 yX6_needRange, Cond.static yX6_needRange, Cond.code yX6_needRange cX6_needRange 3 none, Cond.classLink RX6 62 "java/lang/IllegalArgumentException", Cond.initialized "java/lang/IllegalArgumentException", Cond.methodLink RX6 162 yX6_developFrame, Cond.instanceMethod yX6_developFrame, Cond.selects RX6 yX6_developFrame yX6_developFrame, Cond.code yX6_developFrame cX6_developFrame 4 none]
def wsX6_picture_r2 : List Cond := [Cond.fieldLink RX6 25 "BayerGate" "frameRow" "[LBayerGate$Frame;", Cond.fieldLink RX6 19 "BayerGate" "sensor" "LBayerGate$Sensor;", Cond.methodLink RX6 246 yX2_compose, Cond.instanceMethod yX2_compose, Cond.selects RX2 yX2_compose yX2_compose, Cond.initialized RX2, Cond.code yX2_compose cX2_compose 5 none, Cond.methodLink RX2 19 yX0_hasMend, Cond.instanceMethod yX0_hasMend, Cond.selects RX0 yX0_hasMend yX0_hasMend, Cond.initialized RX0, Cond.code yX0_hasMend cX0_hasMend 2 (some .boolean), Cond.fieldLink RX0 18 "BayerGate$EditRow" "length" "I", Cond.fieldLink RX0 9 "BayerGate$EditRow" "kinds" "[I", Cond.methodLink RX2 25 yX2_mendAll, Cond.instanceMethod yX2_mendAll, Cond.selects RX2 yX2_mendAll yX2_mendAll, Cond.code yX2_mendAll cX2_mendAll 8 none, Cond.fieldLink RX2 15 "BayerGate$Picture" "mended" "[I", Cond.static yX6_placeOf, Cond.code yX6_placeOf cX6_placeOf 2 (some .int), Cond.methodLink RX2 57 yX2_mendedAt, Cond.static yX2_mendedAt, Cond.code yX2_mendedAt cX2_mendedAt 10 (some .int)]
def wsX6_picture_r3 : List Cond := [Cond.methodLink RX2 29 yX2_makeWhole, Cond.instanceMethod yX2_makeWhole, Cond.selects RX2 yX2_makeWhole yX2_makeWhole, Cond.code yX2_makeWhole cX2_makeWhole 7 none, Cond.fieldLink RX2 9 "BayerGate$Picture" "numbers" "[F", Cond.static yX6_colourSeen, Cond.code yX6_colourSeen cX6_colourSeen 2 (some .int), Cond.methodLink RX2 68 yX2_meanAround, Cond.instanceMethod yX2_meanAround, Cond.selects RX2 yX2_meanAround yX2_meanAround, Cond.code yX2_meanAround cX2_meanAround 8 (some .float), Cond.methodLink RX2 49 yX2_indexOf, Cond.static yX2_indexOf, Cond.code yX2_indexOf cX2_indexOf 2 (some .int), Cond.methodLink RX2 32 yX0_count, Cond.instanceMethod yX0_count, Cond.selects RX0 yX0_count yX0_count, Cond.code yX0_count cX0_count 1 (some .int), Cond.methodLink RX2 41 yX2_applyEdit, Cond.instanceMethod yX2_applyEdit, Cond.selects RX2 yX2_applyEdit yX2_applyEdit, Cond.code yX2_applyEdit cX2_applyEdit 3 none, Cond.constantFloat RX2 76 (1082130432), Cond.methodLink RX2 72 yX2_darken]
def wsX6_picture_r4 : List Cond := [Cond.instanceMethod yX2_darken, Cond.selects RX2 yX2_darken yX2_darken, Cond.code yX2_darken cX2_darken 4 none, Cond.methodLink RX2 77 yX2_scaleColour, Cond.instanceMethod yX2_scaleColour, Cond.selects RX2 yX2_scaleColour yX2_scaleColour, Cond.code yX2_scaleColour cX2_scaleColour 4 none, Cond.methodLink RX2 81 yX2_changeTone, Cond.instanceMethod yX2_changeTone, Cond.selects RX2 yX2_changeTone yX2_changeTone, Cond.code yX2_changeTone cX2_changeTone 3 none, Cond.constantFloat RX2 87 (1056964608), Cond.constantFloat RX2 53 (1132396544), Cond.methodLink RX2 84 yX2_turnOver, Cond.instanceMethod yX2_turnOver, Cond.selects RX2 yX2_turnOver yX2_turnOver, Cond.code yX2_turnOver cX2_turnOver 7 none, Cond.methodLink RX6 304 yX2_bound, Cond.instanceMethod yX2_bound, Cond.selects RX2 yX2_bound yX2_bound, Cond.code yX2_bound cX2_bound 2 none, Cond.methodLink RX2 45 yX2_bounded, Cond.static yX2_bounded, Cond.code yX2_bounded cX2_bounded 1 (some .float)]
def wsX6_picture_r5 : List Cond := [Cond.methodLink RX6 74 yX6_placeOf, Cond.methodLink RX6 170 yX2_indexOf]
def wsX6_picture : List Cond := .code yX6_picture cX6_picture 5 (some .double) :: ((wsX6_picture_r1 ++ (wsX6_picture_r2 ++ (wsX6_picture_r3 ++ (wsX6_picture_r4 ++ wsX6_picture_r5)))) ++ wsX60 ++ wsX20 ++ wsX10 ++ wsX40 ++ wsX00 ++ (vx_atS RX6 288 "java/lang/IndexOutOfBoundsException" ["java/lang/RuntimeException", "java/lang/Exception"]).filter goodWord ++ (vx_atS RX6 66 "java/lang/IllegalArgumentException" ["java/lang/RuntimeException", "java/lang/Exception"]).filter goodWord)
def wsX6_wordBehind_r1 : List Cond := [Cond.fieldLink RX6 50 "BayerGate" "developed" "LBayerGate$Picture;", Cond.fieldLink RX6 25 "BayerGate" "frameRow" "[LBayerGate$Frame;", Cond.fieldLink RX6 19 "BayerGate" "sensor" "LBayerGate$Sensor;", Cond.methodLink RX6 246 yX2_compose, Cond.instanceMethod yX2_compose, Cond.selects RX2 yX2_compose yX2_compose, Cond.initialized RX2, Cond.code yX2_compose cX2_compose 5 none, Cond.methodLink RX2 19 yX0_hasMend, Cond.instanceMethod yX0_hasMend, Cond.selects RX0 yX0_hasMend yX0_hasMend, Cond.initialized RX0, Cond.code yX0_hasMend cX0_hasMend 2 (some .boolean), Cond.fieldLink RX0 18 "BayerGate$EditRow" "length" "I", Cond.fieldLink RX0 9 "BayerGate$EditRow" "kinds" "[I", Cond.methodLink RX2 25 yX2_mendAll, Cond.instanceMethod yX2_mendAll, Cond.selects RX2 yX2_mendAll yX2_mendAll, Cond.code yX2_mendAll cX2_mendAll 8 none, Cond.fieldLink RX2 15 "BayerGate$Picture" "mended" "[I", Cond.static yX6_placeOf, Cond.initialized RX6, Cond.code yX6_placeOf cX6_placeOf 2 (some .int), Cond.methodLink RX2 57 yX2_mendedAt]
def wsX6_wordBehind_r2 : List Cond := [Cond.static yX2_mendedAt, Cond.code yX2_mendedAt cX2_mendedAt 10 (some .int), Cond.static yX6_isPlace, Cond.code yX6_isPlace cX6_isPlace 2 (some .boolean), Cond.methodLink RX2 29 yX2_makeWhole, Cond.instanceMethod yX2_makeWhole, Cond.selects RX2 yX2_makeWhole yX2_makeWhole, Cond.code yX2_makeWhole cX2_makeWhole 7 none, Cond.fieldLink RX2 9 "BayerGate$Picture" "numbers" "[F", Cond.static yX6_colourSeen, Cond.code yX6_colourSeen cX6_colourSeen 2 (some .int), Cond.methodLink RX2 68 yX2_meanAround, Cond.instanceMethod yX2_meanAround, Cond.selects RX2 yX2_meanAround yX2_meanAround, Cond.code yX2_meanAround cX2_meanAround 8 (some .float), Cond.methodLink RX2 49 yX2_indexOf, Cond.static yX2_indexOf, Cond.code yX2_indexOf cX2_indexOf 2 (some .int), Cond.methodLink RX2 32 yX0_count, Cond.instanceMethod yX0_count, Cond.selects RX0 yX0_count yX0_count, Cond.code yX0_count cX0_count 1 (some .int), Cond.methodLink RX2 41 yX2_applyEdit, Cond.instanceMethod yX2_applyEdit]
def wsX6_wordBehind_r3 : List Cond := [Cond.selects RX2 yX2_applyEdit yX2_applyEdit, Cond.code yX2_applyEdit cX2_applyEdit 3 none, Cond.constantFloat RX2 76 (1082130432), Cond.methodLink RX2 72 yX2_darken, Cond.instanceMethod yX2_darken, Cond.selects RX2 yX2_darken yX2_darken, Cond.code yX2_darken cX2_darken 4 none, Cond.methodLink RX2 77 yX2_scaleColour, Cond.instanceMethod yX2_scaleColour, Cond.selects RX2 yX2_scaleColour yX2_scaleColour, Cond.code yX2_scaleColour cX2_scaleColour 4 none, Cond.methodLink RX2 81 yX2_changeTone, Cond.instanceMethod yX2_changeTone, Cond.selects RX2 yX2_changeTone yX2_changeTone, Cond.code yX2_changeTone cX2_changeTone 3 none, Cond.constantFloat RX2 87 (1056964608), Cond.constantFloat RX2 53 (1132396544), Cond.methodLink RX2 84 yX2_turnOver, Cond.instanceMethod yX2_turnOver, Cond.selects RX2 yX2_turnOver yX2_turnOver, Cond.code yX2_turnOver cX2_turnOver 7 none, Cond.methodLink RX6 304 yX2_bound, Cond.instanceMethod yX2_bound, Cond.selects RX2 yX2_bound yX2_bound]
def wsX6_wordBehind_r4 : List Cond := [Cond.code yX2_bound cX2_bound 2 none, Cond.methodLink RX2 45 yX2_bounded, Cond.static yX2_bounded, Cond.code yX2_bounded cX2_bounded 1 (some .float), Cond.methodLink RX6 307 yX2_sumUp, Cond.instanceMethod yX2_sumUp, Cond.selects RX2 yX2_sumUp yX2_sumUp, Cond.code yX2_sumUp cX2_sumUp 3 (some .int)]
def wsX6_wordBehind : List Cond := .code yX6_wordBehind cX6_wordBehind 3 (some .int) :: ((wsX6_wordBehind_r1 ++ (wsX6_wordBehind_r2 ++ (wsX6_wordBehind_r3 ++ wsX6_wordBehind_r4))) ++ wsX60 ++ wsX10 ++ wsX40 ++ wsX00 ++ wsX20)
def wsX6_word_r1 : List Cond := [Cond.fieldLink RX6 25 "BayerGate" "frameRow" "[LBayerGate$Frame;", Cond.methodLink RX6 127 yX6_needFrame, Cond.instanceMethod yX6_needFrame, Cond.selects RX6 yX6_needFrame yX6_needFrame, Cond.initialized RX6, Cond.code yX6_needFrame cX6_needFrame 2 none, Cond.classLink RX6 284 "java/lang/IndexOutOfBoundsException", Cond.initialized "java/lang/IndexOutOfBoundsException", Cond.fieldLink RX6 35 "BayerGate" "frameCount" "I", Cond.methodLink RX6 173 yX6_wordBehind, Cond.instanceMethod yX6_wordBehind, Cond.selects RX6 yX6_wordBehind yX6_wordBehind, Cond.code yX6_wordBehind cX6_wordBehind 3 (some .int), Cond.fieldLink RX6 50 "BayerGate" "developed" "LBayerGate$Picture;", Cond.fieldLink RX6 19 "BayerGate" "sensor" "LBayerGate$Sensor;", Cond.methodLink RX6 246 yX2_compose, Cond.instanceMethod yX2_compose, Cond.selects RX2 yX2_compose yX2_compose, Cond.initialized RX2, Cond.code yX2_compose cX2_compose 5 none, Cond.methodLink RX2 19 yX0_hasMend, Cond.instanceMethod yX0_hasMend, Cond.selects RX0 yX0_hasMend yX0_hasMend, Cond.initialized RX0]
def wsX6_word_r2 : List Cond := [Cond.code yX0_hasMend cX0_hasMend 2 (some .boolean), Cond.fieldLink RX0 18 "BayerGate$EditRow" "length" "I", Cond.fieldLink RX0 9 "BayerGate$EditRow" "kinds" "[I", Cond.methodLink RX2 25 yX2_mendAll, Cond.instanceMethod yX2_mendAll, Cond.selects RX2 yX2_mendAll yX2_mendAll, Cond.code yX2_mendAll cX2_mendAll 8 none, Cond.fieldLink RX2 15 "BayerGate$Picture" "mended" "[I", Cond.static yX6_placeOf, Cond.code yX6_placeOf cX6_placeOf 2 (some .int), Cond.methodLink RX2 57 yX2_mendedAt, Cond.static yX2_mendedAt, Cond.code yX2_mendedAt cX2_mendedAt 10 (some .int), Cond.static yX6_isPlace, Cond.code yX6_isPlace cX6_isPlace 2 (some .boolean), Cond.methodLink RX2 29 yX2_makeWhole, Cond.instanceMethod yX2_makeWhole, Cond.selects RX2 yX2_makeWhole yX2_makeWhole, Cond.code yX2_makeWhole cX2_makeWhole 7 none, Cond.fieldLink RX2 9 "BayerGate$Picture" "numbers" "[F", Cond.static yX6_colourSeen, Cond.code yX6_colourSeen cX6_colourSeen 2 (some .int), Cond.methodLink RX2 68 yX2_meanAround, Cond.instanceMethod yX2_meanAround]
def wsX6_word_r3 : List Cond := [Cond.selects RX2 yX2_meanAround yX2_meanAround, Cond.code yX2_meanAround cX2_meanAround 8 (some .float), Cond.methodLink RX2 49 yX2_indexOf, Cond.static yX2_indexOf, Cond.code yX2_indexOf cX2_indexOf 2 (some .int), Cond.methodLink RX2 32 yX0_count, Cond.instanceMethod yX0_count, Cond.selects RX0 yX0_count yX0_count, Cond.code yX0_count cX0_count 1 (some .int), Cond.methodLink RX2 41 yX2_applyEdit, Cond.instanceMethod yX2_applyEdit, Cond.selects RX2 yX2_applyEdit yX2_applyEdit, Cond.code yX2_applyEdit cX2_applyEdit 3 none, Cond.constantFloat RX2 76 (1082130432), Cond.methodLink RX2 72 yX2_darken, Cond.instanceMethod yX2_darken, Cond.selects RX2 yX2_darken yX2_darken, Cond.code yX2_darken cX2_darken 4 none, Cond.methodLink RX2 77 yX2_scaleColour, Cond.instanceMethod yX2_scaleColour, Cond.selects RX2 yX2_scaleColour yX2_scaleColour, Cond.code yX2_scaleColour cX2_scaleColour 4 none, Cond.methodLink RX2 81 yX2_changeTone, Cond.instanceMethod yX2_changeTone]
def wsX6_word_r4 : List Cond := [Cond.selects RX2 yX2_changeTone yX2_changeTone, Cond.code yX2_changeTone cX2_changeTone 3 none, Cond.constantFloat RX2 87 (1056964608), Cond.constantFloat RX2 53 (1132396544), Cond.methodLink RX2 84 yX2_turnOver, Cond.instanceMethod yX2_turnOver, Cond.selects RX2 yX2_turnOver yX2_turnOver, Cond.code yX2_turnOver cX2_turnOver 7 none, Cond.methodLink RX6 304 yX2_bound, Cond.instanceMethod yX2_bound, Cond.selects RX2 yX2_bound yX2_bound, Cond.code yX2_bound cX2_bound 2 none, Cond.methodLink RX2 45 yX2_bounded, Cond.static yX2_bounded, Cond.code yX2_bounded cX2_bounded 1 (some .float), Cond.methodLink RX6 307 yX2_sumUp, Cond.instanceMethod yX2_sumUp, Cond.selects RX2 yX2_sumUp yX2_sumUp, Cond.code yX2_sumUp cX2_sumUp 3 (some .int)]
def wsX6_word : List Cond := .code yX6_word cX6_word 2 (some .int) :: ((wsX6_word_r1 ++ (wsX6_word_r2 ++ (wsX6_word_r3 ++ wsX6_word_r4))) ++ wsX60 ++ wsX10 ++ wsX40 ++ wsX00 ++ wsX20 ++ (vx_atS RX6 288 "java/lang/IndexOutOfBoundsException" ["java/lang/RuntimeException", "java/lang/Exception"]).filter goodWord)
def wsX6_ofFrame_r1 : List Cond := [Cond.fieldLink RX6 25 "BayerGate" "frameRow" "[LBayerGate$Frame;", Cond.methodLink RX6 127 yX6_needFrame, Cond.instanceMethod yX6_needFrame, Cond.selects RX6 yX6_needFrame yX6_needFrame, Cond.initialized RX6, Cond.code yX6_needFrame cX6_needFrame 2 none, Cond.classLink RX6 284 "java/lang/IndexOutOfBoundsException", Cond.initialized "java/lang/IndexOutOfBoundsException", Cond.fieldLink RX6 35 "BayerGate" "frameCount" "I", Cond.methodLink RX6 70 yX6_needRange, Cond.static yX6_needRange, Cond.code yX6_needRange cX6_needRange 3 none, Cond.classLink RX6 62 "java/lang/IllegalArgumentException", Cond.initialized "java/lang/IllegalArgumentException", Cond.methodLink RX6 140 yX0_count, Cond.instanceMethod yX0_count, Cond.selects RX0 yX0_count yX0_count, Cond.initialized RX0, Cond.code yX0_count cX0_count 1 (some .int), Cond.fieldLink RX0 18 "BayerGate$EditRow" "length" "I", Cond.methodLink RX6 183 yX1_countClipped, Cond.instanceMethod yX1_countClipped, Cond.selects RX1 yX1_countClipped yX1_countClipped, Cond.initialized RX1]
def wsX6_ofFrame_r2 : List Cond := [Cond.code yX1_countClipped cX1_countClipped 3 (some .int), Cond.fieldLink RX1 9 "BayerGate$Frame" "rawRow" "[I", Cond.methodLink RX6 189 yX1_sharpness, Cond.instanceMethod yX1_sharpness, Cond.selects RX1 yX1_sharpness yX1_sharpness, Cond.code yX1_sharpness cX1_sharpness 4 (some .int), Cond.methodLink RX1 39 Lib.Math.abs.name, Cond.static Lib.Math.abs.name, Cond.initialized "java/lang/Math", Cond.code Lib.Math.abs.name Lib.Math.abs.code 1 (some .int), Cond.static yX6_colourSeen, Cond.code yX6_colourSeen cX6_colourSeen 2 (some .int), Cond.static yX6_placeOf, Cond.code yX6_placeOf cX6_placeOf 2 (some .int), Cond.methodLink RX6 192 yX1_whiteOf, Cond.instanceMethod yX1_whiteOf, Cond.selects RX1 yX1_whiteOf yX1_whiteOf, Cond.code yX1_whiteOf cX1_whiteOf 3 (some .int), Cond.methodLink RX1 48 Lib.Math.min.name, Cond.static Lib.Math.min.name, Cond.code Lib.Math.min.name Lib.Math.min.code 2 (some .int), Cond.methodLink RX1 51 Lib.Math.max.name, Cond.static Lib.Math.max.name, Cond.code Lib.Math.max.name Lib.Math.max.code 2 (some .int)]
def wsX6_ofFrame_r3 : List Cond := [Cond.methodLink RX1 45 yX1_sumSeen, Cond.instanceMethod yX1_sumSeen, Cond.selects RX1 yX1_sumSeen yX1_sumSeen, Cond.code yX1_sumSeen cX1_sumSeen 5 (some .int), Cond.methodLink RX6 151 yX6_countFilesOf, Cond.instanceMethod yX6_countFilesOf, Cond.selects RX6 yX6_countFilesOf yX6_countFilesOf, Cond.code yX6_countFilesOf cX6_countFilesOf 4 (some .int), Cond.fieldLink RX6 39 "BayerGate" "fileCount" "I", Cond.fieldLink RX6 31 "BayerGate" "fileRow" "[LBayerGate$StoredFile;"]
def wsX6_ofFrame : List Cond := .code yX6_ofFrame cX6_ofFrame 4 (some .int) :: ((wsX6_ofFrame_r1 ++ (wsX6_ofFrame_r2 ++ wsX6_ofFrame_r3)) ++ wsX60 ++ wsX10 ++ wsX00 ++ wsX50 ++ (vx_atS RX6 288 "java/lang/IndexOutOfBoundsException" ["java/lang/RuntimeException", "java/lang/Exception"]).filter goodWord ++ (vx_atS RX6 66 "java/lang/IllegalArgumentException" ["java/lang/RuntimeException", "java/lang/Exception"]).filter goodWord)
def wsX6_needIndex : List Cond := .code yX6_needIndex cX6_needIndex 2 none :: ([.classLink RX6 284 "java/lang/IndexOutOfBoundsException", .initialized "java/lang/IndexOutOfBoundsException"] ++ (vx_atS RX6 288 "java/lang/IndexOutOfBoundsException" ["java/lang/RuntimeException", "java/lang/Exception"]).filter goodWord)
def wsX6_ofEdit : List Cond := .code yX6_ofEdit cX6_ofEdit 5 (some .int) :: ([.fieldLink RX6 25 "BayerGate" "frameRow" "[LBayerGate$Frame;", .methodLink RX6 127 yX6_needFrame, .instanceMethod yX6_needFrame, .selects RX6 yX6_needFrame yX6_needFrame, .initialized RX6, .code yX6_needFrame cX6_needFrame 2 none, .classLink RX6 284 "java/lang/IndexOutOfBoundsException", .initialized "java/lang/IndexOutOfBoundsException", .fieldLink RX6 35 "BayerGate" "frameCount" "I", .methodLink RX6 140 yX0_count, .instanceMethod yX0_count, .selects RX0 yX0_count yX0_count, .initialized RX0, .code yX0_count cX0_count 1 (some .int), .fieldLink RX0 18 "BayerGate$EditRow" "length" "I", .methodLink RX6 195 yX6_needIndex, .static yX6_needIndex, .code yX6_needIndex cX6_needIndex 2 none, .methodLink RX6 70 yX6_needRange, .static yX6_needRange, .code yX6_needRange cX6_needRange 3 none, .classLink RX6 62 "java/lang/IllegalArgumentException", .initialized "java/lang/IllegalArgumentException"] ++ wsX60 ++ wsX10 ++ wsX00 ++ (vx_atS RX6 288 "java/lang/IndexOutOfBoundsException" ["java/lang/RuntimeException", "java/lang/Exception"]).filter goodWord ++ (vx_atS RX6 66 "java/lang/IllegalArgumentException" ["java/lang/RuntimeException", "java/lang/Exception"]).filter goodWord)
def wsX6_zone : List Cond := .code yX6_zone cX6_zone 3 (some .double) :: ([.fieldLink RX6 25 "BayerGate" "frameRow" "[LBayerGate$Frame;", .methodLink RX6 127 yX6_needFrame, .instanceMethod yX6_needFrame, .selects RX6 yX6_needFrame yX6_needFrame, .initialized RX6, .code yX6_needFrame cX6_needFrame 2 none, .classLink RX6 284 "java/lang/IndexOutOfBoundsException", .initialized "java/lang/IndexOutOfBoundsException", .fieldLink RX6 35 "BayerGate" "frameCount" "I", .methodLink RX6 195 yX6_needIndex, .static yX6_needIndex, .code yX6_needIndex cX6_needIndex 2 none, .methodLink RX6 203 yX1_meanOfZone, .instanceMethod yX1_meanOfZone, .selects RX1 yX1_meanOfZone yX1_meanOfZone, .initialized RX1, .code yX1_meanOfZone cX1_meanOfZone 7 (some .double), .fieldLink RX1 9 "BayerGate$Frame" "rawRow" "[I", .constantDouble RX1 54 (4620693217682128896), .static yX6_colourSeen, .code yX6_colourSeen cX6_colourSeen 2 (some .int), .static yX6_placeOf, .code yX6_placeOf cX6_placeOf 2 (some .int)] ++ wsX60 ++ wsX10 ++ (vx_atS RX6 288 "java/lang/IndexOutOfBoundsException" ["java/lang/RuntimeException", "java/lang/Exception"]).filter goodWord)
def wsX6_meter_r1 : List Cond := [Cond.fieldLink RX6 25 "BayerGate" "frameRow" "[LBayerGate$Frame;", Cond.methodLink RX6 127 yX6_needFrame, Cond.instanceMethod yX6_needFrame, Cond.selects RX6 yX6_needFrame yX6_needFrame, Cond.initialized RX6, Cond.code yX6_needFrame cX6_needFrame 2 none, Cond.classLink RX6 284 "java/lang/IndexOutOfBoundsException", Cond.initialized "java/lang/IndexOutOfBoundsException", Cond.fieldLink RX6 35 "BayerGate" "frameCount" "I", Cond.methodLink RX6 207 yX1_meanOfZones, Cond.instanceMethod yX1_meanOfZones, Cond.selects RX1 yX1_meanOfZones yX1_meanOfZones, Cond.initialized RX1, Cond.code yX1_meanOfZones cX1_meanOfZones 4 (some .double), Cond.constantDouble RX1 60 (4616189618054758400), Cond.methodLink RX1 56 yX1_meanOfZone, Cond.instanceMethod yX1_meanOfZone, Cond.selects RX1 yX1_meanOfZone yX1_meanOfZone, Cond.code yX1_meanOfZone cX1_meanOfZone 7 (some .double), Cond.fieldLink RX1 9 "BayerGate$Frame" "rawRow" "[I", Cond.constantDouble RX1 54 (4620693217682128896), Cond.static yX6_colourSeen, Cond.code yX6_colourSeen cX6_colourSeen 2 (some .int), Cond.static yX6_placeOf]
def wsX6_meter_r2 : List Cond := [Cond.code yX6_placeOf cX6_placeOf 2 (some .int)]
def wsX6_meter : List Cond := .code yX6_meter cX6_meter 2 (some .double) :: ((wsX6_meter_r1 ++ wsX6_meter_r2) ++ wsX60 ++ wsX10 ++ (vx_atS RX6 288 "java/lang/IndexOutOfBoundsException" ["java/lang/RuntimeException", "java/lang/Exception"]).filter goodWord)
def wsX6_ofFile_r1 : List Cond := [Cond.fieldLink RX6 39 "BayerGate" "fileCount" "I", Cond.fieldLink RX6 31 "BayerGate" "fileRow" "[LBayerGate$StoredFile;", Cond.methodLink RX6 195 yX6_needIndex, Cond.static yX6_needIndex, Cond.initialized RX6, Cond.code yX6_needIndex cX6_needIndex 2 none, Cond.classLink RX6 284 "java/lang/IndexOutOfBoundsException", Cond.initialized "java/lang/IndexOutOfBoundsException", Cond.methodLink RX6 70 yX6_needRange, Cond.static yX6_needRange, Cond.code yX6_needRange cX6_needRange 3 none, Cond.classLink RX6 62 "java/lang/IllegalArgumentException", Cond.initialized "java/lang/IllegalArgumentException", Cond.methodLink RX6 140 yX0_count, Cond.instanceMethod yX0_count, Cond.selects RX0 yX0_count yX0_count, Cond.initialized RX0, Cond.code yX0_count cX0_count 1 (some .int), Cond.fieldLink RX0 18 "BayerGate$EditRow" "length" "I", Cond.methodLink RX6 173 yX6_wordBehind, Cond.instanceMethod yX6_wordBehind, Cond.selects RX6 yX6_wordBehind yX6_wordBehind, Cond.code yX6_wordBehind cX6_wordBehind 3 (some .int), Cond.fieldLink RX6 50 "BayerGate" "developed" "LBayerGate$Picture;"]
def wsX6_ofFile_r2 : List Cond := [Cond.fieldLink RX6 25 "BayerGate" "frameRow" "[LBayerGate$Frame;", Cond.fieldLink RX6 19 "BayerGate" "sensor" "LBayerGate$Sensor;", Cond.methodLink RX6 246 yX2_compose, Cond.instanceMethod yX2_compose, Cond.selects RX2 yX2_compose yX2_compose, Cond.initialized RX2, Cond.code yX2_compose cX2_compose 5 none, Cond.methodLink RX2 19 yX0_hasMend, Cond.instanceMethod yX0_hasMend, Cond.selects RX0 yX0_hasMend yX0_hasMend, Cond.code yX0_hasMend cX0_hasMend 2 (some .boolean), Cond.fieldLink RX0 9 "BayerGate$EditRow" "kinds" "[I", Cond.methodLink RX2 25 yX2_mendAll, Cond.instanceMethod yX2_mendAll, Cond.selects RX2 yX2_mendAll yX2_mendAll, Cond.code yX2_mendAll cX2_mendAll 8 none, Cond.fieldLink RX2 15 "BayerGate$Picture" "mended" "[I", Cond.static yX6_placeOf, Cond.code yX6_placeOf cX6_placeOf 2 (some .int), Cond.methodLink RX2 57 yX2_mendedAt, Cond.static yX2_mendedAt, Cond.code yX2_mendedAt cX2_mendedAt 10 (some .int), Cond.static yX6_isPlace, Cond.code yX6_isPlace cX6_isPlace 2 (some .boolean)]
def wsX6_ofFile_r3 : List Cond := [Cond.methodLink RX2 29 yX2_makeWhole, Cond.instanceMethod yX2_makeWhole, Cond.selects RX2 yX2_makeWhole yX2_makeWhole, Cond.code yX2_makeWhole cX2_makeWhole 7 none, Cond.fieldLink RX2 9 "BayerGate$Picture" "numbers" "[F", Cond.static yX6_colourSeen, Cond.code yX6_colourSeen cX6_colourSeen 2 (some .int), Cond.methodLink RX2 68 yX2_meanAround, Cond.instanceMethod yX2_meanAround, Cond.selects RX2 yX2_meanAround yX2_meanAround, Cond.code yX2_meanAround cX2_meanAround 8 (some .float), Cond.methodLink RX2 49 yX2_indexOf, Cond.static yX2_indexOf, Cond.code yX2_indexOf cX2_indexOf 2 (some .int), Cond.methodLink RX2 32 yX0_count, Cond.methodLink RX2 41 yX2_applyEdit, Cond.instanceMethod yX2_applyEdit, Cond.selects RX2 yX2_applyEdit yX2_applyEdit, Cond.code yX2_applyEdit cX2_applyEdit 3 none, Cond.constantFloat RX2 76 (1082130432), Cond.methodLink RX2 72 yX2_darken, Cond.instanceMethod yX2_darken, Cond.selects RX2 yX2_darken yX2_darken, Cond.code yX2_darken cX2_darken 4 none]
def wsX6_ofFile_r4 : List Cond := [Cond.methodLink RX2 77 yX2_scaleColour, Cond.instanceMethod yX2_scaleColour, Cond.selects RX2 yX2_scaleColour yX2_scaleColour, Cond.code yX2_scaleColour cX2_scaleColour 4 none, Cond.methodLink RX2 81 yX2_changeTone, Cond.instanceMethod yX2_changeTone, Cond.selects RX2 yX2_changeTone yX2_changeTone, Cond.code yX2_changeTone cX2_changeTone 3 none, Cond.constantFloat RX2 87 (1056964608), Cond.constantFloat RX2 53 (1132396544), Cond.methodLink RX2 84 yX2_turnOver, Cond.instanceMethod yX2_turnOver, Cond.selects RX2 yX2_turnOver yX2_turnOver, Cond.code yX2_turnOver cX2_turnOver 7 none, Cond.methodLink RX6 304 yX2_bound, Cond.instanceMethod yX2_bound, Cond.selects RX2 yX2_bound yX2_bound, Cond.code yX2_bound cX2_bound 2 none, Cond.methodLink RX2 45 yX2_bounded, Cond.static yX2_bounded, Cond.code yX2_bounded cX2_bounded 1 (some .float), Cond.methodLink RX6 307 yX2_sumUp, Cond.instanceMethod yX2_sumUp, Cond.selects RX2 yX2_sumUp yX2_sumUp]
def wsX6_ofFile_r5 : List Cond := [Cond.code yX2_sumUp cX2_sumUp 3 (some .int)]
def wsX6_ofFile : List Cond := .code yX6_ofFile cX6_ofFile 4 (some .int) :: ((wsX6_ofFile_r1 ++ (wsX6_ofFile_r2 ++ (wsX6_ofFile_r3 ++ (wsX6_ofFile_r4 ++ wsX6_ofFile_r5)))) ++ wsX60 ++ wsX50 ++ wsX00 ++ wsX10 ++ wsX40 ++ wsX20 ++ (vx_atS RX6 288 "java/lang/IndexOutOfBoundsException" ["java/lang/RuntimeException", "java/lang/Exception"]).filter goodWord ++ (vx_atS RX6 66 "java/lang/IllegalArgumentException" ["java/lang/RuntimeException", "java/lang/Exception"]).filter goodWord)
def wsX6_ofPlace_r1 : List Cond := [Cond.fieldLink RX6 12 "BayerGate" "scene" "LBayerGate$Scene;", Cond.fieldLink RX6 19 "BayerGate" "sensor" "LBayerGate$Sensor;", Cond.methodLink RX6 58 yX6_needPlace, Cond.static yX6_needPlace, Cond.initialized RX6, Cond.code yX6_needPlace cX6_needPlace 2 none, Cond.classLink RX6 284 "java/lang/IndexOutOfBoundsException", Cond.initialized "java/lang/IndexOutOfBoundsException", Cond.methodLink RX6 289 yX6_isPlace, Cond.static yX6_isPlace, Cond.code yX6_isPlace cX6_isPlace 2 (some .boolean), Cond.methodLink RX6 70 yX6_needRange, Cond.static yX6_needRange, Cond.code yX6_needRange cX6_needRange 3 none, Cond.classLink RX6 62 "java/lang/IllegalArgumentException", Cond.initialized "java/lang/IllegalArgumentException", Cond.methodLink RX6 74 yX6_placeOf, Cond.static yX6_placeOf, Cond.code yX6_placeOf cX6_placeOf 2 (some .int), Cond.methodLink RX6 218 yX3_shade, Cond.instanceMethod yX3_shade, Cond.selects RX3 yX3_shade yX3_shade, Cond.initialized RX3, Cond.code yX3_shade cX3_shade 3 (some .int)]
def wsX6_ofPlace_r2 : List Cond := [Cond.fieldLink RX3 9 "BayerGate$Scene" "shades" "[I", Cond.methodLink RX6 221 yX6_colourSeen, Cond.static yX6_colourSeen, Cond.code yX6_colourSeen cX6_colourSeen 2 (some .int), Cond.methodLink RX6 88 yX4_howIs, Cond.instanceMethod yX4_howIs, Cond.selects RX4 yX4_howIs yX4_howIs, Cond.initialized RX4, Cond.code yX4_howIs cX4_howIs 2 (some .int), Cond.fieldLink RX4 9 "BayerGate$Sensor" "hows" "[I", Cond.methodLink RX6 224 yX4_isMapped, Cond.instanceMethod yX4_isMapped, Cond.selects RX4 yX4_isMapped yX4_isMapped, Cond.code yX4_isMapped cX4_isMapped 2 (some .boolean), Cond.fieldLink RX4 15 "BayerGate$Sensor" "mapped" "[Z"]
def wsX6_ofPlace : List Cond := .code yX6_ofPlace cX6_ofPlace 5 (some .int) :: ((wsX6_ofPlace_r1 ++ wsX6_ofPlace_r2) ++ wsX60 ++ wsX30 ++ wsX40 ++ (vx_atS RX6 288 "java/lang/IndexOutOfBoundsException" ["java/lang/RuntimeException", "java/lang/Exception"]).filter goodWord ++ (vx_atS RX6 66 "java/lang/IllegalArgumentException" ["java/lang/RuntimeException", "java/lang/Exception"]).filter goodWord)
def wsX6_countEdits : List Cond := .code yX6_countEdits cX6_countEdits 3 (some .int) :: ([.fieldLink RX6 35 "BayerGate" "frameCount" "I", .fieldLink RX6 25 "BayerGate" "frameRow" "[LBayerGate$Frame;", .methodLink RX6 140 yX0_count, .instanceMethod yX0_count, .selects RX0 yX0_count yX0_count, .initialized RX0, .code yX0_count cX0_count 1 (some .int), .fieldLink RX0 18 "BayerGate$EditRow" "length" "I"] ++ wsX60 ++ wsX10 ++ wsX00)
def wsX6_many_r1 : List Cond := [Cond.fieldLink RX6 35 "BayerGate" "frameCount" "I", Cond.fieldLink RX6 39 "BayerGate" "fileCount" "I", Cond.fieldLink RX6 19 "BayerGate" "sensor" "LBayerGate$Sensor;", Cond.methodLink RX6 70 yX6_needRange, Cond.static yX6_needRange, Cond.initialized RX6, Cond.code yX6_needRange cX6_needRange 3 none, Cond.classLink RX6 62 "java/lang/IllegalArgumentException", Cond.initialized "java/lang/IllegalArgumentException", Cond.methodLink RX6 99 yX4_countMapped, Cond.instanceMethod yX4_countMapped, Cond.selects RX4 yX4_countMapped yX4_countMapped, Cond.initialized RX4, Cond.code yX4_countMapped cX4_countMapped 3 (some .int), Cond.fieldLink RX4 15 "BayerGate$Sensor" "mapped" "[Z", Cond.methodLink RX6 231 yX6_countEdits, Cond.instanceMethod yX6_countEdits, Cond.selects RX6 yX6_countEdits yX6_countEdits, Cond.code yX6_countEdits cX6_countEdits 3 (some .int), Cond.fieldLink RX6 25 "BayerGate" "frameRow" "[LBayerGate$Frame;", Cond.methodLink RX6 140 yX0_count, Cond.instanceMethod yX0_count, Cond.selects RX0 yX0_count yX0_count, Cond.initialized RX0]
def wsX6_many_r2 : List Cond := [Cond.code yX0_count cX0_count 1 (some .int), Cond.fieldLink RX0 18 "BayerGate$EditRow" "length" "I", Cond.methodLink RX6 234 yX4_countSpoilt, Cond.instanceMethod yX4_countSpoilt, Cond.selects RX4 yX4_countSpoilt yX4_countSpoilt, Cond.code yX4_countSpoilt cX4_countSpoilt 4 (some .int), Cond.fieldLink RX4 9 "BayerGate$Sensor" "hows" "[I"]
def wsX6_many : List Cond := .code yX6_many cX6_many 2 (some .int) :: ((wsX6_many_r1 ++ wsX6_many_r2) ++ wsX60 ++ wsX40 ++ wsX10 ++ wsX00 ++ (vx_atS RX6 66 "java/lang/IllegalArgumentException" ["java/lang/RuntimeException", "java/lang/Exception"]).filter goodWord)
def wsX6_apart_r1 : List Cond := [Cond.fieldLink RX6 50 "BayerGate" "developed" "LBayerGate$Picture;", Cond.fieldLink RX6 54 "BayerGate" "compared" "LBayerGate$Picture;", Cond.methodLink RX6 127 yX6_needFrame, Cond.instanceMethod yX6_needFrame, Cond.selects RX6 yX6_needFrame yX6_needFrame, Cond.initialized RX6, Cond.code yX6_needFrame cX6_needFrame 2 none, Cond.classLink RX6 284 "java/lang/IndexOutOfBoundsException", Cond.initialized "java/lang/IndexOutOfBoundsException", Cond.fieldLink RX6 35 "BayerGate" "frameCount" "I", Cond.methodLink RX6 162 yX6_developFrame, Cond.instanceMethod yX6_developFrame, Cond.selects RX6 yX6_developFrame yX6_developFrame, Cond.code yX6_developFrame cX6_developFrame 4 none, Cond.fieldLink RX6 25 "BayerGate" "frameRow" "[LBayerGate$Frame;", Cond.fieldLink RX6 19 "BayerGate" "sensor" "LBayerGate$Sensor;", Cond.methodLink RX6 246 yX2_compose, Cond.instanceMethod yX2_compose, Cond.selects RX2 yX2_compose yX2_compose, Cond.initialized RX2, Cond.code yX2_compose cX2_compose 5 none, Cond.methodLink RX2 19 yX0_hasMend, Cond.instanceMethod yX0_hasMend, Cond.selects RX0 yX0_hasMend yX0_hasMend]
def wsX6_apart_r2 : List Cond := [Cond.initialized RX0, Cond.code yX0_hasMend cX0_hasMend 2 (some .boolean), Cond.fieldLink RX0 18 "BayerGate$EditRow" "length" "I", Cond.fieldLink RX0 9 "BayerGate$EditRow" "kinds" "[I", Cond.methodLink RX2 25 yX2_mendAll, Cond.instanceMethod yX2_mendAll, Cond.selects RX2 yX2_mendAll yX2_mendAll, Cond.code yX2_mendAll cX2_mendAll 8 none, Cond.fieldLink RX2 15 "BayerGate$Picture" "mended" "[I", Cond.static yX6_placeOf, Cond.code yX6_placeOf cX6_placeOf 2 (some .int), Cond.methodLink RX2 57 yX2_mendedAt, Cond.static yX2_mendedAt, Cond.code yX2_mendedAt cX2_mendedAt 10 (some .int), Cond.static yX6_isPlace, Cond.code yX6_isPlace cX6_isPlace 2 (some .boolean), Cond.methodLink RX2 29 yX2_makeWhole, Cond.instanceMethod yX2_makeWhole, Cond.selects RX2 yX2_makeWhole yX2_makeWhole, Cond.code yX2_makeWhole cX2_makeWhole 7 none, Cond.fieldLink RX2 9 "BayerGate$Picture" "numbers" "[F", Cond.static yX6_colourSeen, Cond.code yX6_colourSeen cX6_colourSeen 2 (some .int), Cond.methodLink RX2 68 yX2_meanAround]
def wsX6_apart_r3 : List Cond := [Cond.instanceMethod yX2_meanAround, Cond.selects RX2 yX2_meanAround yX2_meanAround, Cond.code yX2_meanAround cX2_meanAround 8 (some .float), Cond.methodLink RX2 49 yX2_indexOf, Cond.static yX2_indexOf, Cond.code yX2_indexOf cX2_indexOf 2 (some .int), Cond.methodLink RX2 32 yX0_count, Cond.instanceMethod yX0_count, Cond.selects RX0 yX0_count yX0_count, Cond.code yX0_count cX0_count 1 (some .int), Cond.methodLink RX2 41 yX2_applyEdit, Cond.instanceMethod yX2_applyEdit, Cond.selects RX2 yX2_applyEdit yX2_applyEdit, Cond.code yX2_applyEdit cX2_applyEdit 3 none, Cond.constantFloat RX2 76 (1082130432), Cond.methodLink RX2 72 yX2_darken, Cond.instanceMethod yX2_darken, Cond.selects RX2 yX2_darken yX2_darken, Cond.code yX2_darken cX2_darken 4 none, Cond.methodLink RX2 77 yX2_scaleColour, Cond.instanceMethod yX2_scaleColour, Cond.selects RX2 yX2_scaleColour yX2_scaleColour, Cond.code yX2_scaleColour cX2_scaleColour 4 none, Cond.methodLink RX2 81 yX2_changeTone]
def wsX6_apart_r4 : List Cond := [Cond.instanceMethod yX2_changeTone, Cond.selects RX2 yX2_changeTone yX2_changeTone, Cond.code yX2_changeTone cX2_changeTone 3 none, Cond.constantFloat RX2 87 (1056964608), Cond.constantFloat RX2 53 (1132396544), Cond.methodLink RX2 84 yX2_turnOver, Cond.instanceMethod yX2_turnOver, Cond.selects RX2 yX2_turnOver yX2_turnOver, Cond.code yX2_turnOver cX2_turnOver 7 none, Cond.methodLink RX6 304 yX2_bound, Cond.instanceMethod yX2_bound, Cond.selects RX2 yX2_bound yX2_bound, Cond.code yX2_bound cX2_bound 2 none, Cond.methodLink RX2 45 yX2_bounded, Cond.static yX2_bounded, Cond.code yX2_bounded cX2_bounded 1 (some .float), Cond.methodLink RX6 238 yX2_farthestFrom, Cond.instanceMethod yX2_farthestFrom, Cond.selects RX2 yX2_farthestFrom yX2_farthestFrom, Cond.code yX2_farthestFrom cX2_farthestFrom 5 (some .float)]
def wsX6_apart : List Cond := .code yX6_apart cX6_apart 3 (some .double) :: ((wsX6_apart_r1 ++ (wsX6_apart_r2 ++ (wsX6_apart_r3 ++ wsX6_apart_r4))) ++ wsX60 ++ wsX10 ++ wsX40 ++ wsX00 ++ wsX20 ++ (vx_atS RX6 288 "java/lang/IndexOutOfBoundsException" ["java/lang/RuntimeException", "java/lang/Exception"]).filter goodWord)
def wsX6_wouldClip_r1 : List Cond := [Cond.fieldLink RX6 19 "BayerGate" "sensor" "LBayerGate$Sensor;", Cond.fieldLink RX6 12 "BayerGate" "scene" "LBayerGate$Scene;", Cond.fieldLink RX6 43 "BayerGate" "trial" "LBayerGate$Frame;", Cond.methodLink RX6 102 yX6_needExposure, Cond.static yX6_needExposure, Cond.initialized RX6, Cond.code yX6_needExposure cX6_needExposure 2 none, Cond.methodLink RX6 70 yX6_needRange, Cond.static yX6_needRange, Cond.code yX6_needRange cX6_needRange 3 none, Cond.classLink RX6 62 "java/lang/IllegalArgumentException", Cond.initialized "java/lang/IllegalArgumentException", Cond.methodLink RX6 108 yX4_expose, Cond.instanceMethod yX4_expose, Cond.selects RX4 yX4_expose yX4_expose, Cond.initialized RX4, Cond.code yX4_expose cX4_expose 10 (some .int), Cond.fieldLink RX4 19 "BayerGate$Sensor" "draw" "I", Cond.fieldLink RX4 9 "BayerGate$Sensor" "hows" "[I", Cond.static yX6_placeOf, Cond.code yX6_placeOf cX6_placeOf 2 (some .int), Cond.static yX6_colourSeen, Cond.code yX6_colourSeen cX6_colourSeen 2 (some .int), Cond.methodLink RX4 30 yX3_lightAt]
def wsX6_wouldClip_r2 : List Cond := [Cond.instanceMethod yX3_lightAt, Cond.selects RX3 yX3_lightAt yX3_lightAt, Cond.initialized RX3, Cond.code yX3_lightAt cX3_lightAt 4 (some .float), Cond.fieldLink RX3 15 "BayerGate$Scene" "factors" "[F", Cond.constantFloat RX3 28 (1098907648), Cond.methodLink RX3 24 yX3_shade, Cond.instanceMethod yX3_shade, Cond.selects RX3 yX3_shade yX3_shade, Cond.code yX3_shade cX3_shade 3 (some .int), Cond.fieldLink RX3 9 "BayerGate$Scene" "shades" "[I", Cond.methodLink RX4 41 yX4_rawOf, Cond.static yX4_rawOf, Cond.code yX4_rawOf cX4_rawOf 5 (some .int), Cond.methodLink RX4 51 Lib.Math.min.name, Cond.static Lib.Math.min.name, Cond.initialized "java/lang/Math", Cond.code Lib.Math.min.name Lib.Math.min.code 2 (some .int), Cond.methodLink RX4 56 Lib.Math.max.name, Cond.static Lib.Math.max.name, Cond.code Lib.Math.max.name Lib.Math.max.code 2 (some .int), Cond.methodLink RX6 183 yX1_countClipped, Cond.instanceMethod yX1_countClipped, Cond.selects RX1 yX1_countClipped yX1_countClipped]
def wsX6_wouldClip_r3 : List Cond := [Cond.initialized RX1, Cond.code yX1_countClipped cX1_countClipped 3 (some .int), Cond.fieldLink RX1 9 "BayerGate$Frame" "rawRow" "[I"]
def wsX6_wouldClip : List Cond := .code yX6_wouldClip cX6_wouldClip 3 (some .int) :: ((wsX6_wouldClip_r1 ++ (wsX6_wouldClip_r2 ++ wsX6_wouldClip_r3)) ++ wsX60 ++ wsX40 ++ wsX10 ++ wsX30 ++ (vx_atS RX6 66 "java/lang/IllegalArgumentException" ["java/lang/RuntimeException", "java/lang/Exception"]).filter goodWord)
def wsX6_bestTake_r1 : List Cond := [Cond.fieldLink RX6 19 "BayerGate" "sensor" "LBayerGate$Sensor;", Cond.fieldLink RX6 12 "BayerGate" "scene" "LBayerGate$Scene;", Cond.fieldLink RX6 43 "BayerGate" "trial" "LBayerGate$Frame;", Cond.methodLink RX6 70 yX6_needRange, Cond.static yX6_needRange, Cond.initialized RX6, Cond.code yX6_needRange cX6_needRange 3 none, Cond.classLink RX6 62 "java/lang/IllegalArgumentException", Cond.initialized "java/lang/IllegalArgumentException", Cond.methodLink RX6 108 yX4_expose, Cond.instanceMethod yX4_expose, Cond.selects RX4 yX4_expose yX4_expose, Cond.initialized RX4, Cond.code yX4_expose cX4_expose 10 (some .int), Cond.fieldLink RX4 19 "BayerGate$Sensor" "draw" "I", Cond.fieldLink RX4 9 "BayerGate$Sensor" "hows" "[I", Cond.static yX6_placeOf, Cond.code yX6_placeOf cX6_placeOf 2 (some .int), Cond.static yX6_colourSeen, Cond.code yX6_colourSeen cX6_colourSeen 2 (some .int), Cond.methodLink RX4 30 yX3_lightAt, Cond.instanceMethod yX3_lightAt, Cond.selects RX3 yX3_lightAt yX3_lightAt, Cond.initialized RX3]
def wsX6_bestTake_r2 : List Cond := [Cond.code yX3_lightAt cX3_lightAt 4 (some .float), Cond.fieldLink RX3 15 "BayerGate$Scene" "factors" "[F", Cond.constantFloat RX3 28 (1098907648), Cond.methodLink RX3 24 yX3_shade, Cond.instanceMethod yX3_shade, Cond.selects RX3 yX3_shade yX3_shade, Cond.code yX3_shade cX3_shade 3 (some .int), Cond.fieldLink RX3 9 "BayerGate$Scene" "shades" "[I", Cond.methodLink RX4 41 yX4_rawOf, Cond.static yX4_rawOf, Cond.code yX4_rawOf cX4_rawOf 5 (some .int), Cond.methodLink RX4 51 Lib.Math.min.name, Cond.static Lib.Math.min.name, Cond.initialized "java/lang/Math", Cond.code Lib.Math.min.name Lib.Math.min.code 2 (some .int), Cond.methodLink RX4 56 Lib.Math.max.name, Cond.static Lib.Math.max.name, Cond.code Lib.Math.max.name Lib.Math.max.code 2 (some .int), Cond.methodLink RX6 207 yX1_meanOfZones, Cond.instanceMethod yX1_meanOfZones, Cond.selects RX1 yX1_meanOfZones yX1_meanOfZones, Cond.initialized RX1, Cond.code yX1_meanOfZones cX1_meanOfZones 4 (some .double), Cond.constantDouble RX1 60 (4616189618054758400)]
def wsX6_bestTake_r3 : List Cond := [Cond.methodLink RX1 56 yX1_meanOfZone, Cond.instanceMethod yX1_meanOfZone, Cond.selects RX1 yX1_meanOfZone yX1_meanOfZone, Cond.code yX1_meanOfZone cX1_meanOfZone 7 (some .double), Cond.fieldLink RX1 9 "BayerGate$Frame" "rawRow" "[I", Cond.constantDouble RX1 54 (4620693217682128896)]
def wsX6_bestTake : List Cond := .code yX6_bestTake cX6_bestTake 9 (some .int) :: ((wsX6_bestTake_r1 ++ (wsX6_bestTake_r2 ++ wsX6_bestTake_r3)) ++ wsX60 ++ wsX40 ++ wsX10 ++ wsX30 ++ (vx_atS RX6 66 "java/lang/IllegalArgumentException" ["java/lang/RuntimeException", "java/lang/Exception"]).filter goodWord)
def wsX6_bestWhite_r1 : List Cond := [Cond.fieldLink RX6 25 "BayerGate" "frameRow" "[LBayerGate$Frame;", Cond.fieldLink RX6 50 "BayerGate" "developed" "LBayerGate$Picture;", Cond.fieldLink RX6 19 "BayerGate" "sensor" "LBayerGate$Sensor;", Cond.constantFloat RX6 254 (1082130432), Cond.methodLink RX6 255 Lib.Math.abs.name, Cond.static Lib.Math.abs.name, Cond.initialized "java/lang/Math", Cond.code Lib.Math.abs.name Lib.Math.abs.code 1 (some .int), Cond.methodLink RX6 127 yX6_needFrame, Cond.instanceMethod yX6_needFrame, Cond.selects RX6 yX6_needFrame yX6_needFrame, Cond.initialized RX6, Cond.code yX6_needFrame cX6_needFrame 2 none, Cond.classLink RX6 284 "java/lang/IndexOutOfBoundsException", Cond.initialized "java/lang/IndexOutOfBoundsException", Cond.fieldLink RX6 35 "BayerGate" "frameCount" "I", Cond.methodLink RX6 70 yX6_needRange, Cond.static yX6_needRange, Cond.code yX6_needRange cX6_needRange 3 none, Cond.classLink RX6 62 "java/lang/IllegalArgumentException", Cond.initialized "java/lang/IllegalArgumentException", Cond.methodLink RX6 246 yX2_compose, Cond.instanceMethod yX2_compose, Cond.selects RX2 yX2_compose yX2_compose]
def wsX6_bestWhite_r2 : List Cond := [Cond.initialized RX2, Cond.code yX2_compose cX2_compose 5 none, Cond.methodLink RX2 19 yX0_hasMend, Cond.instanceMethod yX0_hasMend, Cond.selects RX0 yX0_hasMend yX0_hasMend, Cond.initialized RX0, Cond.code yX0_hasMend cX0_hasMend 2 (some .boolean), Cond.fieldLink RX0 18 "BayerGate$EditRow" "length" "I", Cond.fieldLink RX0 9 "BayerGate$EditRow" "kinds" "[I", Cond.methodLink RX2 25 yX2_mendAll, Cond.instanceMethod yX2_mendAll, Cond.selects RX2 yX2_mendAll yX2_mendAll, Cond.code yX2_mendAll cX2_mendAll 8 none, Cond.fieldLink RX2 15 "BayerGate$Picture" "mended" "[I", Cond.static yX6_placeOf, Cond.code yX6_placeOf cX6_placeOf 2 (some .int), Cond.methodLink RX2 57 yX2_mendedAt, Cond.static yX2_mendedAt, Cond.code yX2_mendedAt cX2_mendedAt 10 (some .int), Cond.static yX6_isPlace, Cond.code yX6_isPlace cX6_isPlace 2 (some .boolean), Cond.methodLink RX2 29 yX2_makeWhole, Cond.instanceMethod yX2_makeWhole, Cond.selects RX2 yX2_makeWhole yX2_makeWhole]
def wsX6_bestWhite_r3 : List Cond := [Cond.code yX2_makeWhole cX2_makeWhole 7 none, Cond.fieldLink RX2 9 "BayerGate$Picture" "numbers" "[F", Cond.static yX6_colourSeen, Cond.code yX6_colourSeen cX6_colourSeen 2 (some .int), Cond.methodLink RX2 68 yX2_meanAround, Cond.instanceMethod yX2_meanAround, Cond.selects RX2 yX2_meanAround yX2_meanAround, Cond.code yX2_meanAround cX2_meanAround 8 (some .float), Cond.methodLink RX2 49 yX2_indexOf, Cond.static yX2_indexOf, Cond.code yX2_indexOf cX2_indexOf 2 (some .int), Cond.methodLink RX2 32 yX0_count, Cond.instanceMethod yX0_count, Cond.selects RX0 yX0_count yX0_count, Cond.code yX0_count cX0_count 1 (some .int), Cond.methodLink RX2 41 yX2_applyEdit, Cond.instanceMethod yX2_applyEdit, Cond.selects RX2 yX2_applyEdit yX2_applyEdit, Cond.code yX2_applyEdit cX2_applyEdit 3 none, Cond.constantFloat RX2 76 (1082130432), Cond.methodLink RX2 72 yX2_darken, Cond.instanceMethod yX2_darken, Cond.selects RX2 yX2_darken yX2_darken, Cond.code yX2_darken cX2_darken 4 none]
def wsX6_bestWhite_r4 : List Cond := [Cond.methodLink RX2 77 yX2_scaleColour, Cond.instanceMethod yX2_scaleColour, Cond.selects RX2 yX2_scaleColour yX2_scaleColour, Cond.code yX2_scaleColour cX2_scaleColour 4 none, Cond.methodLink RX2 81 yX2_changeTone, Cond.instanceMethod yX2_changeTone, Cond.selects RX2 yX2_changeTone yX2_changeTone, Cond.code yX2_changeTone cX2_changeTone 3 none, Cond.constantFloat RX2 87 (1056964608), Cond.constantFloat RX2 53 (1132396544), Cond.methodLink RX2 84 yX2_turnOver, Cond.instanceMethod yX2_turnOver, Cond.selects RX2 yX2_turnOver yX2_turnOver, Cond.code yX2_turnOver cX2_turnOver 7 none, Cond.methodLink RX6 250 yX2_sumTones, Cond.instanceMethod yX2_sumTones, Cond.selects RX2 yX2_sumTones yX2_sumTones, Cond.code yX2_sumTones cX2_sumTones 5 (some .int), Cond.methodLink RX2 45 yX2_bounded, Cond.static yX2_bounded, Cond.code yX2_bounded cX2_bounded 1 (some .float), Cond.methodLink RX6 130 yX6_leastNumber, Cond.static yX6_leastNumber, Cond.code yX6_leastNumber cX6_leastNumber 1 (some .int)]
def wsX6_bestWhite_r5 : List Cond := [Cond.methodLink RX6 133 yX6_mostNumber, Cond.static yX6_mostNumber, Cond.code yX6_mostNumber cX6_mostNumber 1 (some .int)]
def wsX6_bestWhite : List Cond := .code yX6_bestWhite cX6_bestWhite 10 (some .int) :: ((wsX6_bestWhite_r1 ++ (wsX6_bestWhite_r2 ++ (wsX6_bestWhite_r3 ++ (wsX6_bestWhite_r4 ++ wsX6_bestWhite_r5)))) ++ wsX60 ++ wsX10 ++ wsX40 ++ wsX00 ++ wsX20 ++ (vx_atS RX6 288 "java/lang/IndexOutOfBoundsException" ["java/lang/RuntimeException", "java/lang/Exception"]).filter goodWord ++ (vx_atS RX6 66 "java/lang/IllegalArgumentException" ["java/lang/RuntimeException", "java/lang/Exception"]).filter goodWord)
def wsX6_digest_r1 : List Cond := [Cond.constantLong RX6 260 (9602), Cond.constantLong RX6 262 (31), Cond.fieldLink RX6 35 "BayerGate" "frameCount" "I", Cond.constantDouble RX6 276 (4629700416936869888), Cond.fieldLink RX6 25 "BayerGate" "frameRow" "[LBayerGate$Frame;", Cond.fieldLink RX6 39 "BayerGate" "fileCount" "I", Cond.methodLink RX6 264 yX6_many, Cond.instanceMethod yX6_many, Cond.selects RX6 yX6_many yX6_many, Cond.initialized RX6, Cond.code yX6_many cX6_many 2 (some .int), Cond.fieldLink RX6 19 "BayerGate" "sensor" "LBayerGate$Sensor;", Cond.methodLink RX6 70 yX6_needRange, Cond.static yX6_needRange, Cond.code yX6_needRange cX6_needRange 3 none, Cond.classLink RX6 62 "java/lang/IllegalArgumentException", Cond.initialized "java/lang/IllegalArgumentException", Cond.methodLink RX6 99 yX4_countMapped, Cond.instanceMethod yX4_countMapped, Cond.selects RX4 yX4_countMapped yX4_countMapped, Cond.initialized RX4, Cond.code yX4_countMapped cX4_countMapped 3 (some .int), Cond.fieldLink RX4 15 "BayerGate$Sensor" "mapped" "[Z", Cond.methodLink RX6 231 yX6_countEdits]
def wsX6_digest_r2 : List Cond := [Cond.instanceMethod yX6_countEdits, Cond.selects RX6 yX6_countEdits yX6_countEdits, Cond.code yX6_countEdits cX6_countEdits 3 (some .int), Cond.methodLink RX6 140 yX0_count, Cond.instanceMethod yX0_count, Cond.selects RX0 yX0_count yX0_count, Cond.initialized RX0, Cond.code yX0_count cX0_count 1 (some .int), Cond.fieldLink RX0 18 "BayerGate$EditRow" "length" "I", Cond.methodLink RX6 234 yX4_countSpoilt, Cond.instanceMethod yX4_countSpoilt, Cond.selects RX4 yX4_countSpoilt yX4_countSpoilt, Cond.code yX4_countSpoilt cX4_countSpoilt 4 (some .int), Cond.fieldLink RX4 9 "BayerGate$Sensor" "hows" "[I", Cond.methodLink RX6 267 yX6_ofFrame, Cond.instanceMethod yX6_ofFrame, Cond.selects RX6 yX6_ofFrame yX6_ofFrame, Cond.code yX6_ofFrame cX6_ofFrame 4 (some .int), Cond.methodLink RX6 127 yX6_needFrame, Cond.instanceMethod yX6_needFrame, Cond.selects RX6 yX6_needFrame yX6_needFrame, Cond.code yX6_needFrame cX6_needFrame 2 none, Cond.classLink RX6 284 "java/lang/IndexOutOfBoundsException", Cond.initialized "java/lang/IndexOutOfBoundsException"]
def wsX6_digest_r3 : List Cond := [Cond.methodLink RX6 183 yX1_countClipped, Cond.instanceMethod yX1_countClipped, Cond.selects RX1 yX1_countClipped yX1_countClipped, Cond.initialized RX1, Cond.code yX1_countClipped cX1_countClipped 3 (some .int), Cond.fieldLink RX1 9 "BayerGate$Frame" "rawRow" "[I", Cond.methodLink RX6 189 yX1_sharpness, Cond.instanceMethod yX1_sharpness, Cond.selects RX1 yX1_sharpness yX1_sharpness, Cond.code yX1_sharpness cX1_sharpness 4 (some .int), Cond.methodLink RX1 39 Lib.Math.abs.name, Cond.static Lib.Math.abs.name, Cond.initialized "java/lang/Math", Cond.code Lib.Math.abs.name Lib.Math.abs.code 1 (some .int), Cond.static yX6_colourSeen, Cond.code yX6_colourSeen cX6_colourSeen 2 (some .int), Cond.static yX6_placeOf, Cond.code yX6_placeOf cX6_placeOf 2 (some .int), Cond.methodLink RX6 192 yX1_whiteOf, Cond.instanceMethod yX1_whiteOf, Cond.selects RX1 yX1_whiteOf yX1_whiteOf, Cond.code yX1_whiteOf cX1_whiteOf 3 (some .int), Cond.methodLink RX1 48 Lib.Math.min.name, Cond.static Lib.Math.min.name]
def wsX6_digest_r4 : List Cond := [Cond.code Lib.Math.min.name Lib.Math.min.code 2 (some .int), Cond.methodLink RX1 51 Lib.Math.max.name, Cond.static Lib.Math.max.name, Cond.code Lib.Math.max.name Lib.Math.max.code 2 (some .int), Cond.methodLink RX1 45 yX1_sumSeen, Cond.instanceMethod yX1_sumSeen, Cond.selects RX1 yX1_sumSeen yX1_sumSeen, Cond.code yX1_sumSeen cX1_sumSeen 5 (some .int), Cond.methodLink RX6 151 yX6_countFilesOf, Cond.instanceMethod yX6_countFilesOf, Cond.selects RX6 yX6_countFilesOf yX6_countFilesOf, Cond.code yX6_countFilesOf cX6_countFilesOf 4 (some .int), Cond.fieldLink RX6 31 "BayerGate" "fileRow" "[LBayerGate$StoredFile;", Cond.methodLink RX6 270 yX6_word, Cond.instanceMethod yX6_word, Cond.selects RX6 yX6_word yX6_word, Cond.code yX6_word cX6_word 2 (some .int), Cond.methodLink RX6 173 yX6_wordBehind, Cond.instanceMethod yX6_wordBehind, Cond.selects RX6 yX6_wordBehind yX6_wordBehind, Cond.code yX6_wordBehind cX6_wordBehind 3 (some .int), Cond.fieldLink RX6 50 "BayerGate" "developed" "LBayerGate$Picture;", Cond.methodLink RX6 246 yX2_compose, Cond.instanceMethod yX2_compose]
def wsX6_digest_r5 : List Cond := [Cond.selects RX2 yX2_compose yX2_compose, Cond.initialized RX2, Cond.code yX2_compose cX2_compose 5 none, Cond.methodLink RX2 19 yX0_hasMend, Cond.instanceMethod yX0_hasMend, Cond.selects RX0 yX0_hasMend yX0_hasMend, Cond.code yX0_hasMend cX0_hasMend 2 (some .boolean), Cond.fieldLink RX0 9 "BayerGate$EditRow" "kinds" "[I", Cond.methodLink RX2 25 yX2_mendAll, Cond.instanceMethod yX2_mendAll, Cond.selects RX2 yX2_mendAll yX2_mendAll, Cond.code yX2_mendAll cX2_mendAll 8 none, Cond.fieldLink RX2 15 "BayerGate$Picture" "mended" "[I", Cond.methodLink RX2 57 yX2_mendedAt, Cond.static yX2_mendedAt, Cond.code yX2_mendedAt cX2_mendedAt 10 (some .int), Cond.static yX6_isPlace, Cond.code yX6_isPlace cX6_isPlace 2 (some .boolean), Cond.methodLink RX2 29 yX2_makeWhole, Cond.instanceMethod yX2_makeWhole, Cond.selects RX2 yX2_makeWhole yX2_makeWhole, Cond.code yX2_makeWhole cX2_makeWhole 7 none, Cond.fieldLink RX2 9 "BayerGate$Picture" "numbers" "[F", Cond.methodLink RX2 68 yX2_meanAround]
def wsX6_digest_r6 : List Cond := [Cond.instanceMethod yX2_meanAround, Cond.selects RX2 yX2_meanAround yX2_meanAround, Cond.code yX2_meanAround cX2_meanAround 8 (some .float), Cond.methodLink RX2 49 yX2_indexOf, Cond.static yX2_indexOf, Cond.code yX2_indexOf cX2_indexOf 2 (some .int), Cond.methodLink RX2 32 yX0_count, Cond.methodLink RX2 41 yX2_applyEdit, Cond.instanceMethod yX2_applyEdit, Cond.selects RX2 yX2_applyEdit yX2_applyEdit, Cond.code yX2_applyEdit cX2_applyEdit 3 none, Cond.constantFloat RX2 76 (1082130432), Cond.methodLink RX2 72 yX2_darken, Cond.instanceMethod yX2_darken, Cond.selects RX2 yX2_darken yX2_darken, Cond.code yX2_darken cX2_darken 4 none, Cond.methodLink RX2 77 yX2_scaleColour, Cond.instanceMethod yX2_scaleColour, Cond.selects RX2 yX2_scaleColour yX2_scaleColour, Cond.code yX2_scaleColour cX2_scaleColour 4 none, Cond.methodLink RX2 81 yX2_changeTone, Cond.instanceMethod yX2_changeTone, Cond.selects RX2 yX2_changeTone yX2_changeTone, Cond.code yX2_changeTone cX2_changeTone 3 none]
def wsX6_digest_r7 : List Cond := [Cond.constantFloat RX2 87 (1056964608), Cond.constantFloat RX2 53 (1132396544), Cond.methodLink RX2 84 yX2_turnOver, Cond.instanceMethod yX2_turnOver, Cond.selects RX2 yX2_turnOver yX2_turnOver, Cond.code yX2_turnOver cX2_turnOver 7 none, Cond.methodLink RX6 304 yX2_bound, Cond.instanceMethod yX2_bound, Cond.selects RX2 yX2_bound yX2_bound, Cond.code yX2_bound cX2_bound 2 none, Cond.methodLink RX2 45 yX2_bounded, Cond.static yX2_bounded, Cond.code yX2_bounded cX2_bounded 1 (some .float), Cond.methodLink RX6 307 yX2_sumUp, Cond.instanceMethod yX2_sumUp, Cond.selects RX2 yX2_sumUp yX2_sumUp, Cond.code yX2_sumUp cX2_sumUp 3 (some .int), Cond.methodLink RX6 273 yX6_meter, Cond.instanceMethod yX6_meter, Cond.selects RX6 yX6_meter yX6_meter, Cond.code yX6_meter cX6_meter 2 (some .double), Cond.methodLink RX6 207 yX1_meanOfZones, Cond.instanceMethod yX1_meanOfZones, Cond.selects RX1 yX1_meanOfZones yX1_meanOfZones]
def wsX6_digest_r8 : List Cond := [Cond.code yX1_meanOfZones cX1_meanOfZones 4 (some .double), Cond.constantDouble RX1 60 (4616189618054758400), Cond.methodLink RX1 56 yX1_meanOfZone, Cond.instanceMethod yX1_meanOfZone, Cond.selects RX1 yX1_meanOfZone yX1_meanOfZone, Cond.code yX1_meanOfZone cX1_meanOfZone 7 (some .double), Cond.constantDouble RX1 54 (4620693217682128896), Cond.methodLink RX6 278 yX6_ofFile, Cond.instanceMethod yX6_ofFile, Cond.selects RX6 yX6_ofFile yX6_ofFile, Cond.code yX6_ofFile cX6_ofFile 4 (some .int), Cond.methodLink RX6 195 yX6_needIndex, Cond.static yX6_needIndex, Cond.code yX6_needIndex cX6_needIndex 2 none, Cond.methodLink RX6 281 yX6_wouldClip, Cond.instanceMethod yX6_wouldClip, Cond.selects RX6 yX6_wouldClip yX6_wouldClip, Cond.code yX6_wouldClip cX6_wouldClip 3 (some .int), Cond.fieldLink RX6 12 "BayerGate" "scene" "LBayerGate$Scene;", Cond.fieldLink RX6 43 "BayerGate" "trial" "LBayerGate$Frame;", Cond.methodLink RX6 102 yX6_needExposure, Cond.static yX6_needExposure, Cond.code yX6_needExposure cX6_needExposure 2 none, Cond.methodLink RX6 108 yX4_expose]
def wsX6_digest_r9 : List Cond := [Cond.instanceMethod yX4_expose, Cond.selects RX4 yX4_expose yX4_expose, Cond.code yX4_expose cX4_expose 10 (some .int), Cond.fieldLink RX4 19 "BayerGate$Sensor" "draw" "I", Cond.methodLink RX4 30 yX3_lightAt, Cond.instanceMethod yX3_lightAt, Cond.selects RX3 yX3_lightAt yX3_lightAt, Cond.initialized RX3, Cond.code yX3_lightAt cX3_lightAt 4 (some .float), Cond.fieldLink RX3 15 "BayerGate$Scene" "factors" "[F", Cond.constantFloat RX3 28 (1098907648), Cond.methodLink RX3 24 yX3_shade, Cond.instanceMethod yX3_shade, Cond.selects RX3 yX3_shade yX3_shade, Cond.code yX3_shade cX3_shade 3 (some .int), Cond.fieldLink RX3 9 "BayerGate$Scene" "shades" "[I", Cond.methodLink RX4 41 yX4_rawOf, Cond.static yX4_rawOf, Cond.code yX4_rawOf cX4_rawOf 5 (some .int), Cond.methodLink RX4 51 Lib.Math.min.name, Cond.methodLink RX4 56 Lib.Math.max.name]
def wsX6_digest : List Cond := .code yX6_digest cX6_digest 6 (some .long) :: ((wsX6_digest_r1 ++ (wsX6_digest_r2 ++ (wsX6_digest_r3 ++ (wsX6_digest_r4 ++ (wsX6_digest_r5 ++ (wsX6_digest_r6 ++ (wsX6_digest_r7 ++ (wsX6_digest_r8 ++ wsX6_digest_r9)))))))) ++ wsX60 ++ wsX10 ++ wsX40 ++ wsX00 ++ wsX50 ++ wsX20 ++ wsX30 ++ (vx_atS RX6 66 "java/lang/IllegalArgumentException" ["java/lang/RuntimeException", "java/lang/Exception"]).filter goodWord ++ (vx_atS RX6 288 "java/lang/IndexOutOfBoundsException" ["java/lang/RuntimeException", "java/lang/Exception"]).filter goodWord)
set_option maxRecDepth 20000 in
theorem ggX1_init_X0_init : GoodIn wsX1_init wsX0_init := goodIn_r _ [14, 15, 2, 3, 4, 16, 17, 18, 24, 25, 26] (by decide +kernel) (by decide +kernel)
set_option maxRecDepth 20000 in
theorem gX1_init_X0_init_n17 : GoodIn wsX1_init (wsX0_init) := ggX1_init_X0_init
set_option maxRecDepth 20000 in
theorem ggX1_sharpness_X6_colourSeen : GoodIn wsX1_sharpness wsX6_colourSeen := goodIn_r _ [8] (by decide +kernel) (by decide +kernel)
set_option maxRecDepth 20000 in
theorem gX1_sharpness_X6_colourSeen_n32 : GoodIn wsX1_sharpness (wsX6_colourSeen) := ggX1_sharpness_X6_colourSeen
set_option maxRecDepth 20000 in
theorem ggX1_sharpness_X6_placeOf : GoodIn wsX1_sharpness wsX6_placeOf := goodIn_r _ [10] (by decide +kernel) (by decide +kernel)
set_option maxRecDepth 20000 in
theorem gX1_sharpness_X6_placeOf_n36 : GoodIn wsX1_sharpness (wsX6_placeOf) := ggX1_sharpness_X6_placeOf
set_option maxRecDepth 20000 in
theorem ggX1_whiteOf_X1_sumSeen : GoodIn wsX1_whiteOf wsX1_sumSeen := goodIn_r _ [12, 13, 14, 15, 16, 17, 18, 19, 20, 21, 22, 23] (by decide +kernel) (by decide +kernel)
set_option maxRecDepth 20000 in
theorem gX1_whiteOf_X1_sumSeen : GoodIn wsX1_whiteOf (wsV RX1 45 RX1 yX1_sumSeen wsX1_sumSeen) := goodIn_app (goodIn_of _ (by decide +kernel)) ggX1_whiteOf_X1_sumSeen
set_option maxRecDepth 20000 in
theorem ggX1_sumSeen_X6_colourSeen : GoodIn wsX1_sumSeen wsX6_colourSeen := goodIn_r _ [4] (by decide +kernel) (by decide +kernel)
set_option maxRecDepth 20000 in
theorem gX1_sumSeen_X6_colourSeen_n32 : GoodIn wsX1_sumSeen (wsX6_colourSeen) := ggX1_sumSeen_X6_colourSeen
set_option maxRecDepth 20000 in
theorem ggX1_sumSeen_X6_placeOf : GoodIn wsX1_sumSeen wsX6_placeOf := goodIn_r _ [6] (by decide +kernel) (by decide +kernel)
set_option maxRecDepth 20000 in
theorem gX1_sumSeen_X6_placeOf_n36 : GoodIn wsX1_sumSeen (wsX6_placeOf) := ggX1_sumSeen_X6_placeOf
set_option maxRecDepth 20000 in
theorem ggX1_meanOfZone_X6_colourSeen : GoodIn wsX1_meanOfZone wsX6_colourSeen := goodIn_r _ [5] (by decide +kernel) (by decide +kernel)
set_option maxRecDepth 20000 in
theorem gX1_meanOfZone_X6_colourSeen_n32 : GoodIn wsX1_meanOfZone (wsX6_colourSeen) := ggX1_meanOfZone_X6_colourSeen
set_option maxRecDepth 20000 in
theorem ggX1_meanOfZone_X6_placeOf : GoodIn wsX1_meanOfZone wsX6_placeOf := goodIn_r _ [7] (by decide +kernel) (by decide +kernel)
set_option maxRecDepth 20000 in
theorem gX1_meanOfZone_X6_placeOf_n36 : GoodIn wsX1_meanOfZone (wsX6_placeOf) := ggX1_meanOfZone_X6_placeOf
set_option maxRecDepth 20000 in
theorem ggX1_meanOfZones_X1_meanOfZone : GoodIn wsX1_meanOfZones wsX1_meanOfZone := goodIn_r _ [6, 7, 8, 9, 10, 11, 12, 13, 14, 15, 16, 17, 18] (by decide +kernel) (by decide +kernel)
set_option maxRecDepth 20000 in
theorem gX1_meanOfZones_X1_meanOfZone : GoodIn wsX1_meanOfZones (wsV RX1 56 RX1 yX1_meanOfZone wsX1_meanOfZone) := goodIn_app (goodIn_of _ (by decide +kernel)) ggX1_meanOfZones_X1_meanOfZone
set_option maxRecDepth 20000 in
theorem ggX2_compose_X0_hasMend : GoodIn wsX2_compose wsX0_hasMend := goodIn_r _ [5, 6, 7, 63, 64, 65] (by decide +kernel) (by decide +kernel)
set_option maxRecDepth 20000 in
theorem gX2_compose_X0_hasMend : GoodIn wsX2_compose (wsV RX2 19 RX0 yX0_hasMend wsX0_hasMend) := goodIn_app (goodIn_of _ (by decide +kernel)) ggX2_compose_X0_hasMend
set_option maxRecDepth 20000 in
theorem ggX2_compose_X2_mendAll : GoodIn wsX2_compose wsX2_mendAll := goodIn_r _ [12, 13, 14, 15, 16, 17, 18, 11, 19, 20, 21, 66, 67] (by decide +kernel) (by decide +kernel)
set_option maxRecDepth 20000 in
theorem gX2_compose_X2_mendAll : GoodIn wsX2_compose (wsV RX2 25 RX2 yX2_mendAll wsX2_mendAll) := goodIn_app (goodIn_of _ (by decide +kernel)) ggX2_compose_X2_mendAll
set_option maxRecDepth 20000 in
theorem ggX2_compose_X2_makeWhole : GoodIn wsX2_compose wsX2_makeWhole := goodIn_r _ [25, 13, 26, 14, 15, 16, 27, 28, 29, 30, 31, 11, 32, 20, 21, 33, 34, 35, 66, 67] (by decide +kernel) (by decide +kernel)
set_option maxRecDepth 20000 in
theorem gX2_compose_X2_makeWhole : GoodIn wsX2_compose (wsV RX2 29 RX2 yX2_makeWhole wsX2_makeWhole) := goodIn_app (goodIn_of _ (by decide +kernel)) ggX2_compose_X2_makeWhole
set_option maxRecDepth 20000 in
theorem ggX2_compose_X0_count : GoodIn wsX2_compose wsX0_count := goodIn_r _ [39, 6, 63, 64, 65] (by decide +kernel) (by decide +kernel)
set_option maxRecDepth 20000 in
theorem gX2_compose_X0_count : GoodIn wsX2_compose (wsV RX2 32 RX0 yX0_count wsX0_count) := goodIn_app (goodIn_of _ (by decide +kernel)) ggX2_compose_X0_count
set_option maxRecDepth 20000 in
theorem ggX2_compose_X2_applyEdit : GoodIn wsX2_compose wsX2_applyEdit := goodIn_r _ [43, 44, 45, 46, 47, 11, 48, 26, 49, 50, 51, 52, 33, 34, 35, 53, 54, 55, 56, 57, 58, 59, 60, 61, 62, 14, 15, 16, 66, 67] (by decide +kernel) (by decide +kernel)
set_option maxRecDepth 20000 in
theorem gX2_compose_X2_applyEdit : GoodIn wsX2_compose (wsV RX2 41 RX2 yX2_applyEdit wsX2_applyEdit) := goodIn_app (goodIn_of _ (by decide +kernel)) ggX2_compose_X2_applyEdit
set_option maxRecDepth 20000 in
theorem ggX2_bound_X2_bounded : GoodIn wsX2_bound wsX2_bounded := goodIn_r _ [5, 6] (by decide +kernel) (by decide +kernel)
set_option maxRecDepth 20000 in
theorem gX2_bound_X2_bounded : GoodIn wsX2_bound (va_wsS RX2 45 yX2_bounded wsX2_bounded) := goodIn_app (goodIn_of _ (by decide +kernel)) ggX2_bound_X2_bounded
set_option maxRecDepth 20000 in
theorem ggX2_sumTones_X2_indexOf : GoodIn wsX2_sumTones wsX2_indexOf := goodIn_r _ [5] (by decide +kernel) (by decide +kernel)
set_option maxRecDepth 20000 in
theorem gX2_sumTones_X2_indexOf : GoodIn wsX2_sumTones (va_wsS RX2 49 yX2_indexOf wsX2_indexOf) := goodIn_app (goodIn_of _ (by decide +kernel)) ggX2_sumTones_X2_indexOf
set_option maxRecDepth 20000 in
theorem ggX2_sumTones_X2_bounded : GoodIn wsX2_sumTones wsX2_bounded := goodIn_r _ [8, 9] (by decide +kernel) (by decide +kernel)
set_option maxRecDepth 20000 in
theorem gX2_sumTones_X2_bounded : GoodIn wsX2_sumTones (va_wsS RX2 45 yX2_bounded wsX2_bounded) := goodIn_app (goodIn_of _ (by decide +kernel)) ggX2_sumTones_X2_bounded
set_option maxRecDepth 20000 in
theorem ggX2_mendAll_X6_placeOf : GoodIn wsX2_mendAll wsX6_placeOf := goodIn_r _ [4] (by decide +kernel) (by decide +kernel)
set_option maxRecDepth 20000 in
theorem gX2_mendAll_X6_placeOf_n54 : GoodIn wsX2_mendAll (wsX6_placeOf) := ggX2_mendAll_X6_placeOf
set_option maxRecDepth 20000 in
theorem ggX2_mendAll_X2_mendedAt : GoodIn wsX2_mendAll wsX2_mendedAt := goodIn_r _ [8, 9, 3, 10, 2, 4] (by decide +kernel) (by decide +kernel)
set_option maxRecDepth 20000 in
theorem gX2_mendAll_X2_mendedAt : GoodIn wsX2_mendAll (va_wsS RX2 57 yX2_mendedAt wsX2_mendedAt) := goodIn_app (goodIn_of _ (by decide +kernel)) ggX2_mendAll_X2_mendedAt
set_option maxRecDepth 20000 in
theorem ggX2_mendedAt_X6_isPlace : GoodIn wsX2_mendedAt wsX6_isPlace := goodIn_r _ [3] (by decide +kernel) (by decide +kernel)
set_option maxRecDepth 20000 in
theorem gX2_mendedAt_X6_isPlace_n61 : GoodIn wsX2_mendedAt (wsX6_isPlace) := ggX2_mendedAt_X6_isPlace
set_option maxRecDepth 20000 in
theorem ggX2_mendedAt_X6_placeOf : GoodIn wsX2_mendedAt wsX6_placeOf := goodIn_r _ [5] (by decide +kernel) (by decide +kernel)
set_option maxRecDepth 20000 in
theorem gX2_mendedAt_X6_placeOf_n54 : GoodIn wsX2_mendedAt (wsX6_placeOf) := ggX2_mendedAt_X6_placeOf
set_option maxRecDepth 20000 in
theorem ggX2_makeWhole_X6_placeOf : GoodIn wsX2_makeWhole wsX6_placeOf := goodIn_r _ [5] (by decide +kernel) (by decide +kernel)
set_option maxRecDepth 20000 in
theorem gX2_makeWhole_X6_placeOf_n54 : GoodIn wsX2_makeWhole (wsX6_placeOf) := ggX2_makeWhole_X6_placeOf
set_option maxRecDepth 20000 in
theorem ggX2_makeWhole_X6_colourSeen : GoodIn wsX2_makeWhole wsX6_colourSeen := goodIn_r _ [7] (by decide +kernel) (by decide +kernel)
set_option maxRecDepth 20000 in
theorem gX2_makeWhole_X6_colourSeen_n65 : GoodIn wsX2_makeWhole (wsX6_colourSeen) := ggX2_makeWhole_X6_colourSeen
set_option maxRecDepth 20000 in
theorem ggX2_makeWhole_X2_meanAround : GoodIn wsX2_makeWhole wsX2_meanAround := goodIn_r _ [12, 1, 13, 4, 14, 6, 7, 3, 5, 18, 19] (by decide +kernel) (by decide +kernel)
set_option maxRecDepth 20000 in
theorem gX2_makeWhole_X2_meanAround : GoodIn wsX2_makeWhole (wsV RX2 68 RX2 yX2_meanAround wsX2_meanAround) := goodIn_app (goodIn_of _ (by decide +kernel)) ggX2_makeWhole_X2_meanAround
set_option maxRecDepth 20000 in
theorem ggX2_makeWhole_X2_indexOf : GoodIn wsX2_makeWhole wsX2_indexOf := goodIn_r _ [17] (by decide +kernel) (by decide +kernel)
set_option maxRecDepth 20000 in
theorem gX2_makeWhole_X2_indexOf : GoodIn wsX2_makeWhole (va_wsS RX2 49 yX2_indexOf wsX2_indexOf) := goodIn_app (goodIn_of _ (by decide +kernel)) ggX2_makeWhole_X2_indexOf
set_option maxRecDepth 20000 in
theorem ggX2_meanAround_X6_isPlace : GoodIn wsX2_meanAround wsX6_isPlace := goodIn_r _ [4] (by decide +kernel) (by decide +kernel)
set_option maxRecDepth 20000 in
theorem gX2_meanAround_X6_isPlace_n61 : GoodIn wsX2_meanAround (wsX6_isPlace) := ggX2_meanAround_X6_isPlace
set_option maxRecDepth 20000 in
theorem ggX2_meanAround_X6_colourSeen : GoodIn wsX2_meanAround wsX6_colourSeen := goodIn_r _ [6] (by decide +kernel) (by decide +kernel)
set_option maxRecDepth 20000 in
theorem gX2_meanAround_X6_colourSeen_n65 : GoodIn wsX2_meanAround (wsX6_colourSeen) := ggX2_meanAround_X6_colourSeen
set_option maxRecDepth 20000 in
theorem ggX2_meanAround_X6_placeOf : GoodIn wsX2_meanAround wsX6_placeOf := goodIn_r _ [8] (by decide +kernel) (by decide +kernel)
set_option maxRecDepth 20000 in
theorem gX2_meanAround_X6_placeOf_n54 : GoodIn wsX2_meanAround (wsX6_placeOf) := ggX2_meanAround_X6_placeOf
set_option maxRecDepth 20000 in
theorem ggX2_applyEdit_X2_darken : GoodIn wsX2_applyEdit wsX2_darken := goodIn_r _ [6, 7, 28, 29] (by decide +kernel) (by decide +kernel)
set_option maxRecDepth 20000 in
theorem gX2_applyEdit_X2_darken : GoodIn wsX2_applyEdit (wsV RX2 72 RX2 yX2_darken wsX2_darken) := goodIn_app (goodIn_of _ (by decide +kernel)) ggX2_applyEdit_X2_darken
set_option maxRecDepth 20000 in
theorem ggX2_applyEdit_X2_scaleColour : GoodIn wsX2_applyEdit wsX2_scaleColour := goodIn_r _ [11, 7, 12, 13, 5, 14, 28, 29] (by decide +kernel) (by decide +kernel)
set_option maxRecDepth 20000 in
theorem gX2_applyEdit_X2_scaleColour : GoodIn wsX2_applyEdit (wsV RX2 77 RX2 yX2_scaleColour wsX2_scaleColour) := goodIn_app (goodIn_of _ (by decide +kernel)) ggX2_applyEdit_X2_scaleColour
set_option maxRecDepth 20000 in
theorem ggX2_applyEdit_X2_changeTone : GoodIn wsX2_applyEdit wsX2_changeTone := goodIn_r _ [18, 7, 19, 20, 28, 29] (by decide +kernel) (by decide +kernel)
set_option maxRecDepth 20000 in
theorem gX2_applyEdit_X2_changeTone : GoodIn wsX2_applyEdit (wsV RX2 81 RX2 yX2_changeTone wsX2_changeTone) := goodIn_app (goodIn_of _ (by decide +kernel)) ggX2_applyEdit_X2_changeTone
set_option maxRecDepth 20000 in
theorem ggX2_applyEdit_X2_turnOver : GoodIn wsX2_applyEdit wsX2_turnOver := goodIn_r _ [24, 7, 25, 26, 27, 12, 13, 5, 14, 28, 29] (by decide +kernel) (by decide +kernel)
set_option maxRecDepth 20000 in
theorem gX2_applyEdit_X2_turnOver : GoodIn wsX2_applyEdit (wsV RX2 84 RX2 yX2_turnOver wsX2_turnOver) := goodIn_app (goodIn_of _ (by decide +kernel)) ggX2_applyEdit_X2_turnOver
set_option maxRecDepth 20000 in
theorem ggX2_scaleColour_X2_indexOf : GoodIn wsX2_scaleColour wsX2_indexOf := goodIn_r _ [5] (by decide +kernel) (by decide +kernel)
set_option maxRecDepth 20000 in
theorem gX2_scaleColour_X2_indexOf : GoodIn wsX2_scaleColour (va_wsS RX2 49 yX2_indexOf wsX2_indexOf) := goodIn_app (goodIn_of _ (by decide +kernel)) ggX2_scaleColour_X2_indexOf
set_option maxRecDepth 20000 in
theorem ggX2_turnOver_X6_placeOf : GoodIn wsX2_turnOver wsX6_placeOf := goodIn_r _ [4] (by decide +kernel) (by decide +kernel)
set_option maxRecDepth 20000 in
theorem gX2_turnOver_X6_placeOf_n54 : GoodIn wsX2_turnOver (wsX6_placeOf) := ggX2_turnOver_X6_placeOf
set_option maxRecDepth 20000 in
theorem ggX2_turnOver_X2_indexOf : GoodIn wsX2_turnOver wsX2_indexOf := goodIn_r _ [8] (by decide +kernel) (by decide +kernel)
set_option maxRecDepth 20000 in
theorem gX2_turnOver_X2_indexOf : GoodIn wsX2_turnOver (va_wsS RX2 49 yX2_indexOf wsX2_indexOf) := goodIn_app (goodIn_of _ (by decide +kernel)) ggX2_turnOver_X2_indexOf
set_option maxRecDepth 20000 in
theorem ggX3_lightAt_X3_shade : GoodIn wsX3_lightAt wsX3_shade := goodIn_r _ [7, 8, 9, 10, 11] (by decide +kernel) (by decide +kernel)
set_option maxRecDepth 20000 in
theorem gX3_lightAt_X3_shade : GoodIn wsX3_lightAt (wsV RX3 24 RX3 yX3_shade wsX3_shade) := goodIn_app (goodIn_of _ (by decide +kernel)) ggX3_lightAt_X3_shade
set_option maxRecDepth 20000 in
theorem ggX4_expose_X6_placeOf : GoodIn wsX4_expose wsX6_placeOf := goodIn_r _ [5] (by decide +kernel) (by decide +kernel)
set_option maxRecDepth 20000 in
theorem gX4_expose_X6_placeOf_n23 : GoodIn wsX4_expose (wsX6_placeOf) := ggX4_expose_X6_placeOf
set_option maxRecDepth 20000 in
theorem ggX4_expose_X6_colourSeen : GoodIn wsX4_expose wsX6_colourSeen := goodIn_r _ [7] (by decide +kernel) (by decide +kernel)
set_option maxRecDepth 20000 in
theorem gX4_expose_X6_colourSeen_n27 : GoodIn wsX4_expose (wsX6_colourSeen) := ggX4_expose_X6_colourSeen
set_option maxRecDepth 20000 in
theorem ggX4_expose_X3_lightAt : GoodIn wsX4_expose wsX3_lightAt := goodIn_r _ [12, 13, 14, 15, 16, 17, 11, 18, 19, 39, 40, 41] (by decide +kernel) (by decide +kernel)
set_option maxRecDepth 20000 in
theorem gX4_expose_X3_lightAt : GoodIn wsX4_expose (wsV RX4 30 RX3 yX3_lightAt wsX3_lightAt) := goodIn_app (goodIn_of _ (by decide +kernel)) ggX4_expose_X3_lightAt
set_option maxRecDepth 20000 in
theorem ggX4_expose_X4_rawOf : GoodIn wsX4_expose wsX4_rawOf := goodIn_r _ [23, 24, 25, 26, 27, 28, 29, 30] (by decide +kernel) (by decide +kernel)
set_option maxRecDepth 20000 in
theorem gX4_expose_X4_rawOf : GoodIn wsX4_expose (va_wsS RX4 41 yX4_rawOf wsX4_rawOf) := goodIn_app (goodIn_of _ (by decide +kernel)) ggX4_expose_X4_rawOf
set_option maxRecDepth 20000 in
theorem ggX5_init_X0_init : GoodIn wsX5_init wsX0_init := goodIn_r _ [11, 12, 2, 3, 13, 14, 15, 16, 17, 18, 19] (by decide +kernel) (by decide +kernel)
set_option maxRecDepth 20000 in
theorem gX5_init_X0_init_n9 : GoodIn wsX5_init (wsX0_init) := ggX5_init_X0_init
set_option maxRecDepth 20000 in
theorem ggX5_keep_X0_copyFrom : GoodIn wsX5_keep wsX0_copyFrom := goodIn_r _ [8, 9, 10, 11, 15, 16, 17] (by decide +kernel) (by decide +kernel)
set_option maxRecDepth 20000 in
theorem gX5_keep_X0_copyFrom : GoodIn wsX5_keep (wsV RX5 23 RX0 yX0_copyFrom wsX0_copyFrom) := goodIn_app (goodIn_of _ (by decide +kernel)) ggX5_keep_X0_copyFrom
set_option maxRecDepth 20000 in
theorem ggX6_init_X3_init : GoodIn wsX6_init wsX3_init := goodIn_r _ [30, 31, 2, 3, 32, 33, 34, 35, 36, 73, 74, 75] (by decide +kernel) (by decide +kernel)
set_option maxRecDepth 20000 in
theorem gX6_init_X3_init : GoodIn wsX6_init (wsX3_init) := ggX6_init_X3_init
set_option maxRecDepth 20000 in
theorem ggX6_init_X4_init : GoodIn wsX6_init wsX4_init := goodIn_r _ [38, 39, 2, 3, 32, 40, 41, 42, 43, 85, 86, 87] (by decide +kernel) (by decide +kernel)
set_option maxRecDepth 20000 in
theorem gX6_init_X4_init_n18 : GoodIn wsX6_init (wsX4_init) := ggX6_init_X4_init
set_option maxRecDepth 20000 in
theorem ggX6_init_X1_init : GoodIn wsX6_init wsX1_init := goodIn_r _ [45, 46, 2, 3, 32, 47, 48, 49, 50, 51, 52, 53, 54, 55, 56, 57, 58, 59, 60, 88, 89, 90, 91, 92, 98, 99, 100] (by decide +kernel) (by decide +kernel)
set_option maxRecDepth 20000 in
theorem gX6_init_X1_init_n42 : GoodIn wsX6_init (wsX1_init) := ggX6_init_X1_init
set_option maxRecDepth 20000 in
theorem ggX6_init_X2_init : GoodIn wsX6_init wsX2_init := goodIn_r _ [62, 63, 2, 3, 34, 64, 32, 65, 93, 94] (by decide +kernel) (by decide +kernel)
set_option maxRecDepth 20000 in
theorem gX6_init_X2_init_n49 : GoodIn wsX6_init (wsX2_init) := ggX6_init_X2_init
set_option maxRecDepth 20000 in
theorem ggX6_init_X5_init : GoodIn wsX6_init wsX5_init := goodIn_r _ [67, 68, 2, 3, 69, 49, 50, 70, 71, 72, 55, 56, 57, 32, 58, 59, 60, 98, 99, 100, 95, 96, 97] (by decide +kernel) (by decide +kernel)
set_option maxRecDepth 20000 in
theorem gX6_init_X5_init_n57 : GoodIn wsX6_init (wsX5_init) := ggX6_init_X5_init
set_option maxRecDepth 20000 in
theorem ggX6_paint_X6_needPlace : GoodIn wsX6_paint wsX6_needPlace := goodIn_ca (goodIn_r _ [8, 9, 10, 11, 12, 7, 13] (by decide +kernel) (by decide +kernel)) (goodIn_sub (fun _ h => List.mem_cons_of_mem _ (List.mem_append_right _ h)) (by decide +kernel))
set_option maxRecDepth 20000 in
theorem gX6_paint_X6_needPlace : GoodIn wsX6_paint (va_wsS RX6 58 yX6_needPlace wsX6_needPlace) := goodIn_app (goodIn_of _ (by decide +kernel)) ggX6_paint_X6_needPlace
set_option maxRecDepth 20000 in
theorem ggX6_paint_X6_needRange : GoodIn wsX6_paint wsX6_needRange := goodIn_ca (goodIn_r _ [16, 1, 2] (by decide +kernel) (by decide +kernel)) (goodIn_sub (fun _ h => List.mem_cons_of_mem _ (List.mem_append_left _ (List.mem_append_right _ h))) (by decide +kernel))
set_option maxRecDepth 20000 in
theorem gX6_paint_X6_needRange : GoodIn wsX6_paint (va_wsS RX6 70 yX6_needRange wsX6_needRange) := goodIn_app (goodIn_of _ (by decide +kernel)) ggX6_paint_X6_needRange
set_option maxRecDepth 20000 in
theorem ggX6_paint_X6_placeOf : GoodIn wsX6_paint wsX6_placeOf := goodIn_r _ [19] (by decide +kernel) (by decide +kernel)
set_option maxRecDepth 20000 in
theorem gX6_paint_X6_placeOf : GoodIn wsX6_paint (va_wsS RX6 74 yX6_placeOf wsX6_placeOf) := goodIn_app (goodIn_of _ (by decide +kernel)) ggX6_paint_X6_placeOf
set_option maxRecDepth 20000 in
theorem ggX6_paint_X3_colourPlace : GoodIn wsX6_paint wsX3_colourPlace := goodIn_r _ [24, 25, 35, 36, 37] (by decide +kernel) (by decide +kernel)
set_option maxRecDepth 20000 in
theorem gX6_paint_X3_colourPlace : GoodIn wsX6_paint (wsV RX6 78 RX3 yX3_colourPlace wsX3_colourPlace) := goodIn_app (goodIn_of _ (by decide +kernel)) ggX6_paint_X3_colourPlace
set_option maxRecDepth 20000 in
theorem ggX6_lamp_X6_needRange : GoodIn wsX6_lamp wsX6_needRange := goodIn_ca (goodIn_r _ [5, 6, 7] (by decide +kernel) (by decide +kernel)) (goodIn_sub (fun _ h => List.mem_cons_of_mem _ (List.mem_append_right _ h)) (by decide +kernel))
set_option maxRecDepth 20000 in
theorem gX6_lamp_X6_needRange : GoodIn wsX6_lamp (va_wsS RX6 70 yX6_needRange wsX6_needRange) := goodIn_app (goodIn_of _ (by decide +kernel)) ggX6_lamp_X6_needRange
set_option maxRecDepth 20000 in
theorem ggX6_lamp_X3_greenQuarters : GoodIn wsX6_lamp wsX3_greenQuarters := goodIn_r _ [12, 13, 29, 30, 31] (by decide +kernel) (by decide +kernel)
set_option maxRecDepth 20000 in
theorem gX6_lamp_X3_greenQuarters : GoodIn wsX6_lamp (wsV RX6 81 RX3 yX3_greenQuarters wsX3_greenQuarters) := goodIn_app (goodIn_of _ (by decide +kernel)) ggX6_lamp_X3_greenQuarters
set_option maxRecDepth 20000 in
theorem ggX6_lamp_X3_light : GoodIn wsX6_lamp wsX3_light := goodIn_r _ [17, 18, 19, 13, 29, 30, 31] (by decide +kernel) (by decide +kernel)
set_option maxRecDepth 20000 in
theorem gX6_lamp_X3_light : GoodIn wsX6_lamp (wsV RX6 85 RX3 yX3_light wsX3_light) := goodIn_app (goodIn_of _ (by decide +kernel)) ggX6_lamp_X3_light
set_option maxRecDepth 20000 in
theorem ggX6_spoil_X6_needPlace : GoodIn wsX6_spoil wsX6_needPlace := goodIn_ca (goodIn_r _ [5, 6, 7, 8, 9, 4, 10] (by decide +kernel) (by decide +kernel)) (goodIn_sub (fun _ h => List.mem_cons_of_mem _ (List.mem_append_left _ (List.mem_append_right _ h))) (by decide +kernel))
set_option maxRecDepth 20000 in
theorem gX6_spoil_X6_needPlace : GoodIn wsX6_spoil (va_wsS RX6 58 yX6_needPlace wsX6_needPlace) := goodIn_app (goodIn_of _ (by decide +kernel)) ggX6_spoil_X6_needPlace
set_option maxRecDepth 20000 in
theorem ggX6_spoil_X6_needRange : GoodIn wsX6_spoil wsX6_needRange := goodIn_ca (goodIn_r _ [13, 14, 15] (by decide +kernel) (by decide +kernel)) (goodIn_sub (fun _ h => List.mem_cons_of_mem _ (List.mem_append_right _ h)) (by decide +kernel))
set_option maxRecDepth 20000 in
theorem gX6_spoil_X6_needRange : GoodIn wsX6_spoil (va_wsS RX6 70 yX6_needRange wsX6_needRange) := goodIn_app (goodIn_of _ (by decide +kernel)) ggX6_spoil_X6_needRange
set_option maxRecDepth 20000 in
theorem ggX6_spoil_X6_placeOf : GoodIn wsX6_spoil wsX6_placeOf := goodIn_r _ [18] (by decide +kernel) (by decide +kernel)
set_option maxRecDepth 20000 in
theorem gX6_spoil_X6_placeOf : GoodIn wsX6_spoil (va_wsS RX6 74 yX6_placeOf wsX6_placeOf) := goodIn_app (goodIn_of _ (by decide +kernel)) ggX6_spoil_X6_placeOf
set_option maxRecDepth 20000 in
theorem ggX6_spoil_X4_howIs : GoodIn wsX6_spoil wsX4_howIs := goodIn_r _ [23, 24, 38, 39, 40] (by decide +kernel) (by decide +kernel)
set_option maxRecDepth 20000 in
theorem gX6_spoil_X4_howIs : GoodIn wsX6_spoil (wsV RX6 88 RX4 yX4_howIs wsX4_howIs) := goodIn_app (goodIn_of _ (by decide +kernel)) ggX6_spoil_X4_howIs
set_option maxRecDepth 20000 in
theorem ggX6_spoil_X4_setHow : GoodIn wsX6_spoil wsX4_setHow := goodIn_r _ [28, 24, 38, 39, 40] (by decide +kernel) (by decide +kernel)
set_option maxRecDepth 20000 in
theorem gX6_spoil_X4_setHow : GoodIn wsX6_spoil (wsV RX6 92 RX4 yX4_setHow wsX4_setHow) := goodIn_app (goodIn_of _ (by decide +kernel)) ggX6_spoil_X4_setHow
set_option maxRecDepth 20000 in
theorem ggX6_map_X6_needPlace : GoodIn wsX6_map wsX6_needPlace := goodIn_ca (goodIn_r _ [5, 6, 7, 8, 9, 4, 10] (by decide +kernel) (by decide +kernel)) (goodIn_sub (fun _ h => List.mem_cons_of_mem _ (List.mem_append_right _ h)) (by decide +kernel))
set_option maxRecDepth 20000 in
theorem gX6_map_X6_needPlace : GoodIn wsX6_map (va_wsS RX6 58 yX6_needPlace wsX6_needPlace) := goodIn_app (goodIn_of _ (by decide +kernel)) ggX6_map_X6_needPlace
set_option maxRecDepth 20000 in
theorem ggX6_map_X6_placeOf : GoodIn wsX6_map wsX6_placeOf := goodIn_r _ [13] (by decide +kernel) (by decide +kernel)
set_option maxRecDepth 20000 in
theorem gX6_map_X6_placeOf : GoodIn wsX6_map (va_wsS RX6 74 yX6_placeOf wsX6_placeOf) := goodIn_app (goodIn_of _ (by decide +kernel)) ggX6_map_X6_placeOf
set_option maxRecDepth 20000 in
theorem ggX6_map_X4_setMapped : GoodIn wsX6_map wsX4_setMapped := goodIn_r _ [18, 19, 33, 34, 35] (by decide +kernel) (by decide +kernel)
set_option maxRecDepth 20000 in
theorem gX6_map_X4_setMapped : GoodIn wsX6_map (wsV RX6 95 RX4 yX4_setMapped wsX4_setMapped) := goodIn_app (goodIn_of _ (by decide +kernel)) ggX6_map_X4_setMapped
set_option maxRecDepth 20000 in
theorem ggX6_map_X4_countMapped : GoodIn wsX6_map wsX4_countMapped := goodIn_r _ [23, 19, 33, 34, 35] (by decide +kernel) (by decide +kernel)
set_option maxRecDepth 20000 in
theorem gX6_map_X4_countMapped : GoodIn wsX6_map (wsV RX6 99 RX4 yX4_countMapped wsX4_countMapped) := goodIn_app (goodIn_of _ (by decide +kernel)) ggX6_map_X4_countMapped
set_option maxRecDepth 20000 in
theorem ggX6_take_X6_needExposure : GoodIn wsX6_take wsX6_needExposure := goodIn_ca (goodIn_r _ [8, 9, 10, 7, 11, 12, 13] (by decide +kernel) (by decide +kernel)) (goodIn_sub (fun _ h => List.mem_cons_of_mem _ (List.mem_append_left _ (List.mem_append_right _ h))) (by decide +kernel))
set_option maxRecDepth 20000 in
theorem gX6_take_X6_needExposure : GoodIn wsX6_take (va_wsS RX6 102 yX6_needExposure wsX6_needExposure) := goodIn_app (goodIn_of _ (by decide +kernel)) ggX6_take_X6_needExposure
set_option maxRecDepth 20000 in
theorem ggX6_take_X6_needRoom : GoodIn wsX6_take wsX6_needRoom := goodIn_ca (goodIn_r _ [16, 17, 18] (by decide +kernel) (by decide +kernel)) (goodIn_sub (fun _ h => List.mem_cons_of_mem _ (List.mem_append_right _ h)) (by decide +kernel))
set_option maxRecDepth 20000 in
theorem gX6_take_X6_needRoom : GoodIn wsX6_take (va_wsS RX6 105 yX6_needRoom wsX6_needRoom) := goodIn_app (goodIn_of _ (by decide +kernel)) ggX6_take_X6_needRoom
set_option maxRecDepth 20000 in
theorem ggX6_take_X4_expose : GoodIn wsX6_take wsX4_expose := goodIn_r _ [23, 24, 25, 26, 7, 27, 28, 29, 30, 31, 32, 33, 34, 35, 36, 37, 38, 39, 40, 41, 42, 43, 22, 44, 45, 46, 47, 48, 49, 50, 51, 65, 66, 67, 68, 69, 70, 71, 72, 73, 74, 75] (by decide +kernel) (by decide +kernel)
set_option maxRecDepth 20000 in
theorem gX6_take_X4_expose : GoodIn wsX6_take (wsV RX6 108 RX4 yX4_expose wsX4_expose) := goodIn_app (goodIn_of _ (by decide +kernel)) ggX6_take_X4_expose
set_option maxRecDepth 20000 in
theorem ggX6_take_X4_advance : GoodIn wsX6_take wsX4_advance := goodIn_r _ [55, 24, 65, 66, 67] (by decide +kernel) (by decide +kernel)
set_option maxRecDepth 20000 in
theorem gX6_take_X4_advance : GoodIn wsX6_take (wsV RX6 112 RX4 yX4_advance wsX4_advance) := goodIn_app (goodIn_of _ (by decide +kernel)) ggX6_take_X4_advance
set_option maxRecDepth 20000 in
theorem ggX6_edit_X6_needFrame : GoodIn wsX6_edit wsX6_needFrame := goodIn_ca (goodIn_r _ [6, 7, 8, 9, 38, 39, 40, 41, 42, 43, 44, 45, 46] (by decide +kernel) (by decide +kernel)) (goodIn_sub (fun _ h => List.mem_cons_of_mem _ (List.mem_append_left _ (List.mem_append_left _ (List.mem_append_right _ h)))) (by decide +kernel))
set_option maxRecDepth 20000 in
theorem gX6_edit_X6_needFrame : GoodIn wsX6_edit (wsV RX6 127 RX6 yX6_needFrame wsX6_needFrame) := goodIn_app (goodIn_of _ (by decide +kernel)) ggX6_edit_X6_needFrame
set_option maxRecDepth 20000 in
theorem ggX6_edit_X6_needRange : GoodIn wsX6_edit wsX6_needRange := goodIn_ca (goodIn_r _ [12, 13, 14] (by decide +kernel) (by decide +kernel)) (goodIn_sub (fun _ h => List.mem_cons_of_mem _ (List.mem_append_left _ (List.mem_append_right _ h))) (by decide +kernel))
set_option maxRecDepth 20000 in
theorem gX6_edit_X6_needRange : GoodIn wsX6_edit (va_wsS RX6 70 yX6_needRange wsX6_needRange) := goodIn_app (goodIn_of _ (by decide +kernel)) ggX6_edit_X6_needRange
set_option maxRecDepth 20000 in
theorem ggX6_edit_X6_leastNumber : GoodIn wsX6_edit wsX6_leastNumber := goodIn_r _ [17] (by decide +kernel) (by decide +kernel)
set_option maxRecDepth 20000 in
theorem gX6_edit_X6_leastNumber : GoodIn wsX6_edit (va_wsS RX6 130 yX6_leastNumber wsX6_leastNumber) := goodIn_app (goodIn_of _ (by decide +kernel)) ggX6_edit_X6_leastNumber
set_option maxRecDepth 20000 in
theorem ggX6_edit_X6_mostNumber : GoodIn wsX6_edit wsX6_mostNumber := goodIn_r _ [20] (by decide +kernel) (by decide +kernel)
set_option maxRecDepth 20000 in
theorem gX6_edit_X6_mostNumber : GoodIn wsX6_edit (va_wsS RX6 133 yX6_mostNumber wsX6_mostNumber) := goodIn_app (goodIn_of _ (by decide +kernel)) ggX6_edit_X6_mostNumber
set_option maxRecDepth 20000 in
theorem ggX6_edit_X0_count : GoodIn wsX6_edit wsX0_count := goodIn_r _ [25, 26, 52, 53, 54] (by decide +kernel) (by decide +kernel)
set_option maxRecDepth 20000 in
theorem gX6_edit_X0_count : GoodIn wsX6_edit (wsV RX6 140 RX0 yX0_count wsX0_count) := goodIn_app (goodIn_of _ (by decide +kernel)) ggX6_edit_X0_count
set_option maxRecDepth 20000 in
theorem ggX6_edit_X6_needRoom : GoodIn wsX6_edit wsX6_needRoom := goodIn_ca (goodIn_r _ [29, 30, 31] (by decide +kernel) (by decide +kernel)) (goodIn_sub (fun _ h => List.mem_cons_of_mem _ (List.mem_append_right _ h)) (by decide +kernel))
set_option maxRecDepth 20000 in
theorem gX6_edit_X6_needRoom : GoodIn wsX6_edit (va_wsS RX6 105 yX6_needRoom wsX6_needRoom) := goodIn_app (goodIn_of _ (by decide +kernel)) ggX6_edit_X6_needRoom
set_option maxRecDepth 20000 in
theorem ggX6_edit_X0_append : GoodIn wsX6_edit wsX0_append := goodIn_r _ [35, 26, 36, 37, 52, 53, 54] (by decide +kernel) (by decide +kernel)
set_option maxRecDepth 20000 in
theorem gX6_edit_X0_append : GoodIn wsX6_edit (wsV RX6 145 RX0 yX0_append wsX0_append) := goodIn_app (goodIn_of _ (by decide +kernel)) ggX6_edit_X0_append
set_option maxRecDepth 20000 in
theorem ggX6_undo_X6_needFrame : GoodIn wsX6_undo wsX6_needFrame := goodIn_ca (goodIn_r _ [6, 7, 8, 9, 17, 18, 19, 20, 21, 22, 23, 24, 25] (by decide +kernel) (by decide +kernel)) (goodIn_sub (fun _ h => List.mem_cons_of_mem _ (List.mem_append_right _ h)) (by decide +kernel))
set_option maxRecDepth 20000 in
theorem gX6_undo_X6_needFrame : GoodIn wsX6_undo (wsV RX6 127 RX6 yX6_needFrame wsX6_needFrame) := goodIn_app (goodIn_of _ (by decide +kernel)) ggX6_undo_X6_needFrame
set_option maxRecDepth 20000 in
theorem ggX6_undo_X0_takeBack : GoodIn wsX6_undo wsX0_takeBack := goodIn_r _ [14, 15, 16, 31, 32, 33] (by decide +kernel) (by decide +kernel)
set_option maxRecDepth 20000 in
theorem gX6_undo_X0_takeBack : GoodIn wsX6_undo (wsV RX6 148 RX0 yX0_takeBack wsX0_takeBack) := goodIn_app (goodIn_of _ (by decide +kernel)) ggX6_undo_X0_takeBack
set_option maxRecDepth 20000 in
theorem ggX6_save_X6_needFrame : GoodIn wsX6_save wsX6_needFrame := goodIn_ca (goodIn_r _ [8, 9, 10, 11, 37, 38, 39, 40, 41, 42, 43, 44, 45] (by decide +kernel) (by decide +kernel)) (goodIn_sub (fun _ h => List.mem_cons_of_mem _ (List.mem_append_left _ (List.mem_append_right _ h))) (by decide +kernel))
set_option maxRecDepth 20000 in
theorem gX6_save_X6_needFrame : GoodIn wsX6_save (wsV RX6 127 RX6 yX6_needFrame wsX6_needFrame) := goodIn_app (goodIn_of _ (by decide +kernel)) ggX6_save_X6_needFrame
set_option maxRecDepth 20000 in
theorem ggX6_save_X6_needRoom : GoodIn wsX6_save wsX6_needRoom := goodIn_ca (goodIn_r _ [14, 15, 16] (by decide +kernel) (by decide +kernel)) (goodIn_sub (fun _ h => List.mem_cons_of_mem _ (List.mem_append_right _ h)) (by decide +kernel))
set_option maxRecDepth 20000 in
theorem gX6_save_X6_needRoom : GoodIn wsX6_save (va_wsS RX6 105 yX6_needRoom wsX6_needRoom) := goodIn_app (goodIn_of _ (by decide +kernel)) ggX6_save_X6_needRoom
set_option maxRecDepth 20000 in
theorem ggX6_save_X6_countFilesOf : GoodIn wsX6_save wsX6_countFilesOf := goodIn_r _ [20, 1, 2, 37, 38, 39, 40, 41, 42, 43, 44, 45, 51, 52, 53] (by decide +kernel) (by decide +kernel)
set_option maxRecDepth 20000 in
theorem gX6_save_X6_countFilesOf : GoodIn wsX6_save (wsV RX6 151 RX6 yX6_countFilesOf wsX6_countFilesOf) := goodIn_app (goodIn_of _ (by decide +kernel)) ggX6_save_X6_countFilesOf
set_option maxRecDepth 20000 in
theorem ggX6_save_X5_keep : GoodIn wsX6_save wsX5_keep := goodIn_r _ [25, 26, 27, 28, 29, 30, 31, 32, 33, 34, 35, 36, 51, 52, 53, 54, 55, 56] (by decide +kernel) (by decide +kernel)
set_option maxRecDepth 20000 in
theorem gX6_save_X5_keep : GoodIn wsX6_save (wsV RX6 154 RX5 yX5_keep wsX5_keep) := goodIn_app (goodIn_of _ (by decide +kernel)) ggX6_save_X5_keep
set_option maxRecDepth 20000 in
theorem ggX6_raw_X6_needFrame : GoodIn wsX6_raw wsX6_needFrame := goodIn_ca (goodIn_r _ [6, 7, 8, 9, 19, 20, 21, 22, 23, 24, 25, 26, 27] (by decide +kernel) (by decide +kernel)) (goodIn_sub (fun _ h => List.mem_cons_of_mem _ (List.mem_append_right _ h)) (by decide +kernel))
set_option maxRecDepth 20000 in
theorem gX6_raw_X6_needFrame : GoodIn wsX6_raw (wsV RX6 127 RX6 yX6_needFrame wsX6_needFrame) := goodIn_app (goodIn_of _ (by decide +kernel)) ggX6_raw_X6_needFrame
set_option maxRecDepth 20000 in
theorem ggX6_raw_X6_needPlace : GoodIn wsX6_raw wsX6_needPlace := goodIn_ca (goodIn_r _ [12, 7, 8, 13, 14, 5, 15] (by decide +kernel) (by decide +kernel)) (goodIn_sub (fun _ h => List.mem_cons_of_mem _ (List.mem_append_right _ h)) (by decide +kernel))
set_option maxRecDepth 20000 in
theorem gX6_raw_X6_needPlace : GoodIn wsX6_raw (va_wsS RX6 58 yX6_needPlace wsX6_needPlace) := goodIn_app (goodIn_of _ (by decide +kernel)) ggX6_raw_X6_needPlace
set_option maxRecDepth 20000 in
theorem ggX6_raw_X6_placeOf : GoodIn wsX6_raw wsX6_placeOf := goodIn_r _ [18] (by decide +kernel) (by decide +kernel)
set_option maxRecDepth 20000 in
theorem gX6_raw_X6_placeOf : GoodIn wsX6_raw (va_wsS RX6 74 yX6_placeOf wsX6_placeOf) := goodIn_app (goodIn_of _ (by decide +kernel)) ggX6_raw_X6_placeOf
set_option maxRecDepth 20000 in
theorem ggX6_picture_X6_needFrame : GoodIn wsX6_picture wsX6_needFrame := goodIn_ca (goodIn_r _ [6, 7, 8, 9, 99, 100, 101, 102, 103, 104, 105, 106, 107] (by decide +kernel) (by decide +kernel)) (goodIn_sub (fun _ h => List.mem_cons_of_mem _ (List.mem_append_left _ (List.mem_append_right _ h))) (by decide +kernel))
set_option maxRecDepth 20000 in
theorem gX6_picture_X6_needFrame : GoodIn wsX6_picture (wsV RX6 127 RX6 yX6_needFrame wsX6_needFrame) := goodIn_app (goodIn_of _ (by decide +kernel)) ggX6_picture_X6_needFrame
set_option maxRecDepth 20000 in
theorem ggX6_picture_X6_needPlace : GoodIn wsX6_picture wsX6_needPlace := goodIn_ca (goodIn_r _ [12, 7, 8, 13, 14, 5, 15] (by decide +kernel) (by decide +kernel)) (goodIn_sub (fun _ h => List.mem_cons_of_mem _ (List.mem_append_left _ (List.mem_append_right _ h))) (by decide +kernel))
set_option maxRecDepth 20000 in
theorem gX6_picture_X6_needPlace : GoodIn wsX6_picture (va_wsS RX6 58 yX6_needPlace wsX6_needPlace) := goodIn_app (goodIn_of _ (by decide +kernel)) ggX6_picture_X6_needPlace
set_option maxRecDepth 20000 in
theorem ggX6_picture_X6_needRange : GoodIn wsX6_picture wsX6_needRange := goodIn_ca (goodIn_r _ [18, 19, 20] (by decide +kernel) (by decide +kernel)) (goodIn_sub (fun _ h => List.mem_cons_of_mem _ (List.mem_append_right _ h)) (by decide +kernel))
set_option maxRecDepth 20000 in
theorem gX6_picture_X6_needRange : GoodIn wsX6_picture (va_wsS RX6 70 yX6_needRange wsX6_needRange) := goodIn_app (goodIn_of _ (by decide +kernel)) ggX6_picture_X6_needRange
set_option maxRecDepth 20000 in
theorem ggX6_picture_X6_developFrame : GoodIn wsX6_picture wsX6_developFrame := goodIn_r _ [24, 25, 26, 27, 28, 29, 30, 31, 32, 33, 34, 35, 36, 37, 38, 39, 40, 41, 42, 43, 44, 5, 45, 46, 47, 48, 14, 15, 49, 50, 51, 52, 53, 54, 55, 56, 57, 58, 59, 60, 61, 62, 63, 64, 65, 66, 67, 68, 69, 70, 71, 72, 73, 74, 75, 76, 77, 78, 79, 80, 81, 82, 83, 84, 85, 86, 87, 88, 89, 90, 91, 92, 93, 94, 95, 96, 99, 100, 101, 102, 103, 104, 105, 106, 107, 110, 111, 112, 113, 114, 115, 116, 117, 118, 119, 120, 108, 109] (by decide +kernel) (by decide +kernel)
set_option maxRecDepth 20000 in
theorem gX6_picture_X6_developFrame : GoodIn wsX6_picture (wsV RX6 162 RX6 yX6_developFrame wsX6_developFrame) := goodIn_app (goodIn_of _ (by decide +kernel)) ggX6_picture_X6_developFrame
set_option maxRecDepth 20000 in
theorem ggX6_picture_X6_placeOf : GoodIn wsX6_picture wsX6_placeOf := goodIn_r _ [45] (by decide +kernel) (by decide +kernel)
set_option maxRecDepth 20000 in
theorem gX6_picture_X6_placeOf : GoodIn wsX6_picture (va_wsS RX6 74 yX6_placeOf wsX6_placeOf) := goodIn_app (goodIn_of _ (by decide +kernel)) ggX6_picture_X6_placeOf
set_option maxRecDepth 20000 in
theorem ggX6_picture_X2_indexOf : GoodIn wsX6_picture wsX2_indexOf := goodIn_r _ [62] (by decide +kernel) (by decide +kernel)
set_option maxRecDepth 20000 in
theorem gX6_picture_X2_indexOf : GoodIn wsX6_picture (va_wsS RX6 170 yX2_indexOf wsX2_indexOf) := goodIn_app (goodIn_of _ (by decide +kernel)) ggX6_picture_X2_indexOf
set_option maxRecDepth 20000 in
theorem ggX6_word_X6_needFrame : GoodIn wsX6_word wsX6_needFrame := goodIn_ca (goodIn_r _ [6, 7, 8, 9, 92, 93, 94, 95, 96, 97, 98, 99, 100] (by decide +kernel) (by decide +kernel)) (goodIn_sub (fun _ h => List.mem_cons_of_mem _ (List.mem_append_right _ h)) (by decide +kernel))
set_option maxRecDepth 20000 in
theorem gX6_word_X6_needFrame : GoodIn wsX6_word (wsV RX6 127 RX6 yX6_needFrame wsX6_needFrame) := goodIn_app (goodIn_of _ (by decide +kernel)) ggX6_word_X6_needFrame
set_option maxRecDepth 20000 in
theorem ggX6_word_X6_wordBehind : GoodIn wsX6_word wsX6_wordBehind := goodIn_r _ [13, 14, 1, 15, 16, 17, 18, 19, 20, 21, 22, 23, 24, 25, 26, 27, 28, 29, 30, 31, 32, 33, 5, 34, 35, 36, 37, 38, 39, 40, 41, 42, 43, 44, 45, 46, 47, 48, 49, 50, 51, 52, 53, 54, 55, 56, 57, 58, 59, 60, 61, 62, 63, 64, 65, 66, 67, 68, 69, 70, 71, 72, 73, 74, 75, 76, 77, 78, 79, 80, 81, 82, 83, 84, 85, 86, 87, 88, 89, 90, 91, 92, 93, 94, 95, 96, 97, 98, 99, 100, 101, 102, 103, 104, 105, 106, 107, 108, 109, 110, 111, 112, 113] (by decide +kernel) (by decide +kernel)
set_option maxRecDepth 20000 in
theorem gX6_word_X6_wordBehind : GoodIn wsX6_word (wsV RX6 173 RX6 yX6_wordBehind wsX6_wordBehind) := goodIn_app (goodIn_of _ (by decide +kernel)) ggX6_word_X6_wordBehind
set_option maxRecDepth 20000 in
theorem ggX6_ofFrame_X6_needFrame : GoodIn wsX6_ofFrame wsX6_needFrame := goodIn_ca (goodIn_r _ [6, 7, 8, 9, 59, 60, 61, 62, 63, 64, 65, 66, 67] (by decide +kernel) (by decide +kernel)) (goodIn_sub (fun _ h => List.mem_cons_of_mem _ (List.mem_append_left _ (List.mem_append_right _ h))) (by decide +kernel))
set_option maxRecDepth 20000 in
theorem gX6_ofFrame_X6_needFrame : GoodIn wsX6_ofFrame (wsV RX6 127 RX6 yX6_needFrame wsX6_needFrame) := goodIn_app (goodIn_of _ (by decide +kernel)) ggX6_ofFrame_X6_needFrame
set_option maxRecDepth 20000 in
theorem ggX6_ofFrame_X6_needRange : GoodIn wsX6_ofFrame wsX6_needRange := goodIn_ca (goodIn_r _ [12, 13, 14] (by decide +kernel) (by decide +kernel)) (goodIn_sub (fun _ h => List.mem_cons_of_mem _ (List.mem_append_right _ h)) (by decide +kernel))
set_option maxRecDepth 20000 in
theorem gX6_ofFrame_X6_needRange : GoodIn wsX6_ofFrame (va_wsS RX6 70 yX6_needRange wsX6_needRange) := goodIn_app (goodIn_of _ (by decide +kernel)) ggX6_ofFrame_X6_needRange
set_option maxRecDepth 20000 in
theorem ggX6_ofFrame_X0_count : GoodIn wsX6_ofFrame wsX0_count := goodIn_r _ [19, 20, 73, 74, 75] (by decide +kernel) (by decide +kernel)
set_option maxRecDepth 20000 in
theorem gX6_ofFrame_X0_count : GoodIn wsX6_ofFrame (wsV RX6 140 RX0 yX0_count wsX0_count) := goodIn_app (goodIn_of _ (by decide +kernel)) ggX6_ofFrame_X0_count
set_option maxRecDepth 20000 in
theorem ggX6_ofFrame_X1_countClipped : GoodIn wsX6_ofFrame wsX1_countClipped := goodIn_r _ [25, 26, 68, 69, 70, 71, 72] (by decide +kernel) (by decide +kernel)
set_option maxRecDepth 20000 in
theorem gX6_ofFrame_X1_countClipped : GoodIn wsX6_ofFrame (wsV RX6 183 RX1 yX1_countClipped wsX1_countClipped) := goodIn_app (goodIn_of _ (by decide +kernel)) ggX6_ofFrame_X1_countClipped
set_option maxRecDepth 20000 in
theorem ggX6_ofFrame_X1_sharpness : GoodIn wsX6_ofFrame wsX1_sharpness := goodIn_r _ [30, 26, 31, 32, 33, 34, 35, 5, 36, 37, 38, 68, 69, 70, 71, 72] (by decide +kernel) (by decide +kernel)
set_option maxRecDepth 20000 in
theorem gX6_ofFrame_X1_sharpness : GoodIn wsX6_ofFrame (wsV RX6 189 RX1 yX1_sharpness wsX1_sharpness) := goodIn_app (goodIn_of _ (by decide +kernel)) ggX6_ofFrame_X1_sharpness
set_option maxRecDepth 20000 in
theorem ggX6_ofFrame_X1_whiteOf : GoodIn wsX6_ofFrame wsX1_whiteOf := goodIn_r _ [42, 43, 44, 33, 45, 46, 47, 48, 49, 50, 51, 24, 52, 26, 35, 5, 36, 37, 38, 68, 69, 70, 71, 72] (by decide +kernel) (by decide +kernel)
set_option maxRecDepth 20000 in
theorem gX6_ofFrame_X1_whiteOf : GoodIn wsX6_ofFrame (wsV RX6 192 RX1 yX1_whiteOf wsX1_whiteOf) := goodIn_app (goodIn_of _ (by decide +kernel)) ggX6_ofFrame_X1_whiteOf
set_option maxRecDepth 20000 in
theorem ggX6_ofFrame_X6_countFilesOf : GoodIn wsX6_ofFrame wsX6_countFilesOf := goodIn_r _ [56, 57, 58, 59, 60, 61, 62, 63, 64, 65, 66, 67, 76, 77, 78] (by decide +kernel) (by decide +kernel)
set_option maxRecDepth 20000 in
theorem gX6_ofFrame_X6_countFilesOf : GoodIn wsX6_ofFrame (wsV RX6 151 RX6 yX6_countFilesOf wsX6_countFilesOf) := goodIn_app (goodIn_of _ (by decide +kernel)) ggX6_ofFrame_X6_countFilesOf
set_option maxRecDepth 20000 in
theorem ggX6_ofEdit_X6_needFrame : GoodIn wsX6_ofEdit wsX6_needFrame := goodIn_ca (goodIn_r _ [6, 7, 8, 9, 24, 25, 26, 27, 28, 29, 30, 31, 32] (by decide +kernel) (by decide +kernel)) (goodIn_sub (fun _ h => List.mem_cons_of_mem _ (List.mem_append_left _ (List.mem_append_right _ h))) (by decide +kernel))
set_option maxRecDepth 20000 in
theorem gX6_ofEdit_X6_needFrame : GoodIn wsX6_ofEdit (wsV RX6 127 RX6 yX6_needFrame wsX6_needFrame) := goodIn_app (goodIn_of _ (by decide +kernel)) ggX6_ofEdit_X6_needFrame
set_option maxRecDepth 20000 in
theorem ggX6_ofEdit_X0_count : GoodIn wsX6_ofEdit wsX0_count := goodIn_r _ [14, 15, 38, 39, 40] (by decide +kernel) (by decide +kernel)
set_option maxRecDepth 20000 in
theorem gX6_ofEdit_X0_count : GoodIn wsX6_ofEdit (wsV RX6 140 RX0 yX0_count wsX0_count) := goodIn_app (goodIn_of _ (by decide +kernel)) ggX6_ofEdit_X0_count
set_option maxRecDepth 20000 in
theorem ggX6_ofEdit_X6_needIndex : GoodIn wsX6_ofEdit wsX6_needIndex := goodIn_ca (goodIn_r _ [18, 7, 8] (by decide +kernel) (by decide +kernel)) (goodIn_sub (fun _ h => List.mem_cons_of_mem _ (List.mem_append_left _ (List.mem_append_right _ h))) (by decide +kernel))
set_option maxRecDepth 20000 in
theorem gX6_ofEdit_X6_needIndex : GoodIn wsX6_ofEdit (va_wsS RX6 195 yX6_needIndex wsX6_needIndex) := goodIn_app (goodIn_of _ (by decide +kernel)) ggX6_ofEdit_X6_needIndex
set_option maxRecDepth 20000 in
theorem ggX6_ofEdit_X6_needRange : GoodIn wsX6_ofEdit wsX6_needRange := goodIn_ca (goodIn_r _ [21, 22, 23] (by decide +kernel) (by decide +kernel)) (goodIn_sub (fun _ h => List.mem_cons_of_mem _ (List.mem_append_right _ h)) (by decide +kernel))
set_option maxRecDepth 20000 in
theorem gX6_ofEdit_X6_needRange : GoodIn wsX6_ofEdit (va_wsS RX6 70 yX6_needRange wsX6_needRange) := goodIn_app (goodIn_of _ (by decide +kernel)) ggX6_ofEdit_X6_needRange
set_option maxRecDepth 20000 in
theorem ggX6_zone_X6_needFrame : GoodIn wsX6_zone wsX6_needFrame := goodIn_ca (goodIn_r _ [6, 7, 8, 9, 24, 25, 26, 27, 28, 29, 30, 31, 32] (by decide +kernel) (by decide +kernel)) (goodIn_sub (fun _ h => List.mem_cons_of_mem _ (List.mem_append_right _ h)) (by decide +kernel))
set_option maxRecDepth 20000 in
theorem gX6_zone_X6_needFrame : GoodIn wsX6_zone (wsV RX6 127 RX6 yX6_needFrame wsX6_needFrame) := goodIn_app (goodIn_of _ (by decide +kernel)) ggX6_zone_X6_needFrame
set_option maxRecDepth 20000 in
theorem ggX6_zone_X6_needIndex : GoodIn wsX6_zone wsX6_needIndex := goodIn_ca (goodIn_r _ [12, 7, 8] (by decide +kernel) (by decide +kernel)) (goodIn_sub (fun _ h => List.mem_cons_of_mem _ (List.mem_append_right _ h)) (by decide +kernel))
set_option maxRecDepth 20000 in
theorem gX6_zone_X6_needIndex : GoodIn wsX6_zone (va_wsS RX6 195 yX6_needIndex wsX6_needIndex) := goodIn_app (goodIn_of _ (by decide +kernel)) ggX6_zone_X6_needIndex
set_option maxRecDepth 20000 in
theorem ggX6_zone_X1_meanOfZone : GoodIn wsX6_zone wsX1_meanOfZone := goodIn_r _ [17, 18, 19, 20, 5, 21, 22, 23, 33, 34, 35, 36, 37] (by decide +kernel) (by decide +kernel)
set_option maxRecDepth 20000 in
theorem gX6_zone_X1_meanOfZone : GoodIn wsX6_zone (wsV RX6 203 RX1 yX1_meanOfZone wsX1_meanOfZone) := goodIn_app (goodIn_of _ (by decide +kernel)) ggX6_zone_X1_meanOfZone
set_option maxRecDepth 20000 in
theorem ggX6_meter_X6_needFrame : GoodIn wsX6_meter wsX6_needFrame := goodIn_ca (goodIn_r _ [6, 7, 8, 9, 26, 27, 28, 29, 30, 31, 32, 33, 34] (by decide +kernel) (by decide +kernel)) (goodIn_sub (fun _ h => List.mem_cons_of_mem _ (List.mem_append_right _ h)) (by decide +kernel))
set_option maxRecDepth 20000 in
theorem gX6_meter_X6_needFrame : GoodIn wsX6_meter (wsV RX6 127 RX6 yX6_needFrame wsX6_needFrame) := goodIn_app (goodIn_of _ (by decide +kernel)) ggX6_meter_X6_needFrame
set_option maxRecDepth 20000 in
theorem ggX6_meter_X1_meanOfZones : GoodIn wsX6_meter wsX1_meanOfZones := goodIn_r _ [14, 15, 16, 17, 18, 13, 19, 20, 21, 22, 5, 23, 24, 25, 35, 36, 37, 38, 39] (by decide +kernel) (by decide +kernel)
set_option maxRecDepth 20000 in
theorem gX6_meter_X1_meanOfZones : GoodIn wsX6_meter (wsV RX6 207 RX1 yX1_meanOfZones wsX1_meanOfZones) := goodIn_app (goodIn_of _ (by decide +kernel)) ggX6_meter_X1_meanOfZones
set_option maxRecDepth 20000 in
theorem ggX6_ofFile_X6_needIndex : GoodIn wsX6_ofFile wsX6_needIndex := goodIn_ca (goodIn_r _ [6, 7, 8] (by decide +kernel) (by decide +kernel)) (goodIn_sub (fun _ h => List.mem_cons_of_mem _ (List.mem_append_left _ (List.mem_append_right _ h))) (by decide +kernel))
set_option maxRecDepth 20000 in
theorem gX6_ofFile_X6_needIndex : GoodIn wsX6_ofFile (va_wsS RX6 195 yX6_needIndex wsX6_needIndex) := goodIn_app (goodIn_of _ (by decide +kernel)) ggX6_ofFile_X6_needIndex
set_option maxRecDepth 20000 in
theorem ggX6_ofFile_X6_needRange : GoodIn wsX6_ofFile wsX6_needRange := goodIn_ca (goodIn_r _ [11, 12, 13] (by decide +kernel) (by decide +kernel)) (goodIn_sub (fun _ h => List.mem_cons_of_mem _ (List.mem_append_right _ h)) (by decide +kernel))
set_option maxRecDepth 20000 in
theorem gX6_ofFile_X6_needRange : GoodIn wsX6_ofFile (va_wsS RX6 70 yX6_needRange wsX6_needRange) := goodIn_app (goodIn_of _ (by decide +kernel)) ggX6_ofFile_X6_needRange
set_option maxRecDepth 20000 in
theorem ggX6_ofFile_X0_count : GoodIn wsX6_ofFile wsX0_count := goodIn_r _ [18, 19, 110, 111, 112] (by decide +kernel) (by decide +kernel)
set_option maxRecDepth 20000 in
theorem gX6_ofFile_X0_count : GoodIn wsX6_ofFile (wsV RX6 140 RX0 yX0_count wsX0_count) := goodIn_app (goodIn_of _ (by decide +kernel)) ggX6_ofFile_X0_count
set_option maxRecDepth 20000 in
theorem ggX6_ofFile_X6_wordBehind : GoodIn wsX6_ofFile wsX6_wordBehind := goodIn_r _ [23, 24, 25, 26, 27, 28, 29, 30, 31, 32, 33, 34, 17, 35, 19, 36, 37, 38, 39, 40, 41, 42, 5, 43, 44, 45, 46, 47, 48, 49, 50, 51, 52, 53, 54, 55, 56, 57, 58, 59, 60, 61, 62, 63, 15, 16, 18, 64, 65, 66, 67, 68, 69, 70, 71, 72, 73, 74, 75, 76, 77, 78, 79, 80, 81, 82, 83, 84, 85, 86, 87, 88, 89, 90, 91, 92, 93, 94, 95, 96, 97, 98, 99, 100, 101, 102, 103, 104, 105, 106, 113, 114, 115, 116, 117, 118, 119, 120, 110, 111, 112, 121, 122] (by decide +kernel) (by decide +kernel)
set_option maxRecDepth 20000 in
theorem gX6_ofFile_X6_wordBehind : GoodIn wsX6_ofFile (wsV RX6 173 RX6 yX6_wordBehind wsX6_wordBehind) := goodIn_app (goodIn_of _ (by decide +kernel)) ggX6_ofFile_X6_wordBehind
set_option maxRecDepth 20000 in
theorem ggX6_ofPlace_X6_needPlace : GoodIn wsX6_ofPlace wsX6_needPlace := goodIn_ca (goodIn_r _ [6, 7, 8, 9, 10, 5, 11] (by decide +kernel) (by decide +kernel)) (goodIn_sub (fun _ h => List.mem_cons_of_mem _ (List.mem_append_left _ (List.mem_append_right _ h))) (by decide +kernel))
set_option maxRecDepth 20000 in
theorem gX6_ofPlace_X6_needPlace : GoodIn wsX6_ofPlace (va_wsS RX6 58 yX6_needPlace wsX6_needPlace) := goodIn_app (goodIn_of _ (by decide +kernel)) ggX6_ofPlace_X6_needPlace
set_option maxRecDepth 20000 in
theorem ggX6_ofPlace_X6_needRange : GoodIn wsX6_ofPlace wsX6_needRange := goodIn_ca (goodIn_r _ [14, 15, 16] (by decide +kernel) (by decide +kernel)) (goodIn_sub (fun _ h => List.mem_cons_of_mem _ (List.mem_append_right _ h)) (by decide +kernel))
set_option maxRecDepth 20000 in
theorem gX6_ofPlace_X6_needRange : GoodIn wsX6_ofPlace (va_wsS RX6 70 yX6_needRange wsX6_needRange) := goodIn_app (goodIn_of _ (by decide +kernel)) ggX6_ofPlace_X6_needRange
set_option maxRecDepth 20000 in
theorem ggX6_ofPlace_X6_placeOf : GoodIn wsX6_ofPlace wsX6_placeOf := goodIn_r _ [19] (by decide +kernel) (by decide +kernel)
set_option maxRecDepth 20000 in
theorem gX6_ofPlace_X6_placeOf : GoodIn wsX6_ofPlace (va_wsS RX6 74 yX6_placeOf wsX6_placeOf) := goodIn_app (goodIn_of _ (by decide +kernel)) ggX6_ofPlace_X6_placeOf
set_option maxRecDepth 20000 in
theorem ggX6_ofPlace_X3_shade : GoodIn wsX6_ofPlace wsX3_shade := goodIn_r _ [24, 25, 49, 50, 51] (by decide +kernel) (by decide +kernel)
set_option maxRecDepth 20000 in
theorem gX6_ofPlace_X3_shade : GoodIn wsX6_ofPlace (wsV RX6 218 RX3 yX3_shade wsX3_shade) := goodIn_app (goodIn_of _ (by decide +kernel)) ggX6_ofPlace_X3_shade
set_option maxRecDepth 20000 in
theorem ggX6_ofPlace_X6_colourSeen : GoodIn wsX6_ofPlace wsX6_colourSeen := goodIn_r _ [28] (by decide +kernel) (by decide +kernel)
set_option maxRecDepth 20000 in
theorem gX6_ofPlace_X6_colourSeen : GoodIn wsX6_ofPlace (va_wsS RX6 221 yX6_colourSeen wsX6_colourSeen) := goodIn_app (goodIn_of _ (by decide +kernel)) ggX6_ofPlace_X6_colourSeen
set_option maxRecDepth 20000 in
theorem ggX6_ofPlace_X4_howIs : GoodIn wsX6_ofPlace wsX4_howIs := goodIn_r _ [33, 34, 52, 53, 54] (by decide +kernel) (by decide +kernel)
set_option maxRecDepth 20000 in
theorem gX6_ofPlace_X4_howIs : GoodIn wsX6_ofPlace (wsV RX6 88 RX4 yX4_howIs wsX4_howIs) := goodIn_app (goodIn_of _ (by decide +kernel)) ggX6_ofPlace_X4_howIs
set_option maxRecDepth 20000 in
theorem ggX6_ofPlace_X4_isMapped : GoodIn wsX6_ofPlace wsX4_isMapped := goodIn_r _ [38, 39, 52, 53, 54] (by decide +kernel) (by decide +kernel)
set_option maxRecDepth 20000 in
theorem gX6_ofPlace_X4_isMapped : GoodIn wsX6_ofPlace (wsV RX6 224 RX4 yX4_isMapped wsX4_isMapped) := goodIn_app (goodIn_of _ (by decide +kernel)) ggX6_ofPlace_X4_isMapped
set_option maxRecDepth 20000 in
theorem ggX6_many_X6_needRange : GoodIn wsX6_many wsX6_needRange := goodIn_ca (goodIn_r _ [7, 8, 9] (by decide +kernel) (by decide +kernel)) (goodIn_sub (fun _ h => List.mem_cons_of_mem _ (List.mem_append_right _ h)) (by decide +kernel))
set_option maxRecDepth 20000 in
theorem gX6_many_X6_needRange : GoodIn wsX6_many (va_wsS RX6 70 yX6_needRange wsX6_needRange) := goodIn_app (goodIn_of _ (by decide +kernel)) ggX6_many_X6_needRange
set_option maxRecDepth 20000 in
theorem ggX6_many_X4_countMapped : GoodIn wsX6_many wsX4_countMapped := goodIn_r _ [14, 15, 41, 42, 43] (by decide +kernel) (by decide +kernel)
set_option maxRecDepth 20000 in
theorem gX6_many_X4_countMapped : GoodIn wsX6_many (wsV RX6 99 RX4 yX4_countMapped wsX4_countMapped) := goodIn_app (goodIn_of _ (by decide +kernel)) ggX6_many_X4_countMapped
set_option maxRecDepth 20000 in
theorem ggX6_many_X6_countEdits : GoodIn wsX6_many wsX6_countEdits := goodIn_r _ [19, 1, 20, 21, 22, 23, 24, 25, 26, 32, 33, 34, 35, 36, 37, 38, 39, 40, 44, 45, 46, 47, 48, 49, 50, 51] (by decide +kernel) (by decide +kernel)
set_option maxRecDepth 20000 in
theorem gX6_many_X6_countEdits : GoodIn wsX6_many (wsV RX6 231 RX6 yX6_countEdits wsX6_countEdits) := goodIn_app (goodIn_of _ (by decide +kernel)) ggX6_many_X6_countEdits
set_option maxRecDepth 20000 in
theorem ggX6_many_X4_countSpoilt : GoodIn wsX6_many wsX4_countSpoilt := goodIn_r _ [30, 31, 15, 41, 42, 43] (by decide +kernel) (by decide +kernel)
set_option maxRecDepth 20000 in
theorem gX6_many_X4_countSpoilt : GoodIn wsX6_many (wsV RX6 234 RX4 yX4_countSpoilt wsX4_countSpoilt) := goodIn_app (goodIn_of _ (by decide +kernel)) ggX6_many_X4_countSpoilt
set_option maxRecDepth 20000 in
theorem ggX6_apart_X6_needFrame : GoodIn wsX6_apart wsX6_needFrame := goodIn_ca (goodIn_r _ [7, 8, 9, 10, 93, 94, 95, 96, 97, 98, 99, 100, 101] (by decide +kernel) (by decide +kernel)) (goodIn_sub (fun _ h => List.mem_cons_of_mem _ (List.mem_append_right _ h)) (by decide +kernel))
set_option maxRecDepth 20000 in
theorem gX6_apart_X6_needFrame : GoodIn wsX6_apart (wsV RX6 127 RX6 yX6_needFrame wsX6_needFrame) := goodIn_app (goodIn_of _ (by decide +kernel)) ggX6_apart_X6_needFrame
set_option maxRecDepth 20000 in
theorem ggX6_apart_X6_developFrame : GoodIn wsX6_apart wsX6_developFrame := goodIn_r _ [14, 15, 16, 17, 18, 19, 20, 21, 22, 23, 24, 25, 26, 27, 28, 29, 30, 31, 32, 33, 34, 6, 35, 36, 37, 38, 39, 40, 41, 42, 43, 44, 45, 46, 47, 48, 49, 50, 51, 52, 53, 54, 55, 56, 57, 58, 59, 60, 61, 62, 63, 64, 65, 66, 67, 68, 69, 70, 71, 72, 73, 74, 75, 76, 77, 78, 79, 80, 81, 82, 83, 84, 85, 86, 87, 88, 93, 94, 95, 96, 97, 98, 99, 100, 101, 102, 103, 104, 105, 106, 107, 108, 109, 110, 111, 112, 113, 114] (by decide +kernel) (by decide +kernel)
set_option maxRecDepth 20000 in
theorem gX6_apart_X6_developFrame : GoodIn wsX6_apart (wsV RX6 162 RX6 yX6_developFrame wsX6_developFrame) := goodIn_app (goodIn_of _ (by decide +kernel)) ggX6_apart_X6_developFrame
set_option maxRecDepth 20000 in
theorem ggX6_apart_X2_farthestFrom : GoodIn wsX6_apart wsX2_farthestFrom := goodIn_r _ [92, 45, 113, 114] (by decide +kernel) (by decide +kernel)
set_option maxRecDepth 20000 in
theorem gX6_apart_X2_farthestFrom : GoodIn wsX6_apart (wsV RX6 238 RX2 yX2_farthestFrom wsX2_farthestFrom) := goodIn_app (goodIn_of _ (by decide +kernel)) ggX6_apart_X2_farthestFrom
set_option maxRecDepth 20000 in
theorem ggX6_wouldClip_X6_needExposure : GoodIn wsX6_wouldClip wsX6_needExposure := goodIn_ca (goodIn_r _ [7, 8, 9, 6, 10, 11, 12] (by decide +kernel) (by decide +kernel)) (goodIn_sub (fun _ h => List.mem_cons_of_mem _ (List.mem_append_right _ h)) (by decide +kernel))
set_option maxRecDepth 20000 in
theorem gX6_wouldClip_X6_needExposure : GoodIn wsX6_wouldClip (va_wsS RX6 102 yX6_needExposure wsX6_needExposure) := goodIn_app (goodIn_of _ (by decide +kernel)) ggX6_wouldClip_X6_needExposure
set_option maxRecDepth 20000 in
theorem ggX6_wouldClip_X4_expose : GoodIn wsX6_wouldClip wsX4_expose := goodIn_r _ [17, 18, 19, 20, 6, 21, 22, 23, 24, 25, 26, 27, 28, 29, 30, 31, 32, 33, 34, 35, 36, 37, 16, 38, 39, 40, 41, 42, 43, 44, 45, 61, 62, 63, 64, 65, 66, 67, 68, 69, 70, 71] (by decide +kernel) (by decide +kernel)
set_option maxRecDepth 20000 in
theorem gX6_wouldClip_X4_expose : GoodIn wsX6_wouldClip (wsV RX6 108 RX4 yX4_expose wsX4_expose) := goodIn_app (goodIn_of _ (by decide +kernel)) ggX6_wouldClip_X4_expose
set_option maxRecDepth 20000 in
theorem ggX6_wouldClip_X1_countClipped : GoodIn wsX6_wouldClip wsX1_countClipped := goodIn_r _ [50, 51, 64, 65, 66, 67, 68] (by decide +kernel) (by decide +kernel)
set_option maxRecDepth 20000 in
theorem gX6_wouldClip_X1_countClipped : GoodIn wsX6_wouldClip (wsV RX6 183 RX1 yX1_countClipped wsX1_countClipped) := goodIn_app (goodIn_of _ (by decide +kernel)) ggX6_wouldClip_X1_countClipped
set_option maxRecDepth 20000 in
theorem ggX6_bestTake_X6_needRange : GoodIn wsX6_bestTake wsX6_needRange := goodIn_ca (goodIn_r _ [7, 8, 9] (by decide +kernel) (by decide +kernel)) (goodIn_sub (fun _ h => List.mem_cons_of_mem _ (List.mem_append_right _ h)) (by decide +kernel))
set_option maxRecDepth 20000 in
theorem gX6_bestTake_X6_needRange : GoodIn wsX6_bestTake (va_wsS RX6 70 yX6_needRange wsX6_needRange) := goodIn_app (goodIn_of _ (by decide +kernel)) ggX6_bestTake_X6_needRange
set_option maxRecDepth 20000 in
theorem ggX6_bestTake_X4_expose : GoodIn wsX6_bestTake wsX4_expose := goodIn_r _ [14, 15, 16, 17, 6, 18, 19, 20, 21, 22, 23, 24, 25, 26, 27, 28, 29, 30, 31, 32, 33, 34, 13, 35, 36, 37, 38, 39, 40, 41, 42, 64, 65, 66, 67, 68, 69, 70, 71, 72, 73, 74] (by decide +kernel) (by decide +kernel)
set_option maxRecDepth 20000 in
theorem gX6_bestTake_X4_expose : GoodIn wsX6_bestTake (wsV RX6 108 RX4 yX4_expose wsX4_expose) := goodIn_app (goodIn_of _ (by decide +kernel)) ggX6_bestTake_X4_expose
set_option maxRecDepth 20000 in
theorem ggX6_bestTake_X1_meanOfZones : GoodIn wsX6_bestTake wsX1_meanOfZones := goodIn_r _ [47, 48, 49, 50, 51, 46, 52, 53, 54, 19, 6, 20, 17, 18, 67, 68, 69, 70, 71] (by decide +kernel) (by decide +kernel)
set_option maxRecDepth 20000 in
theorem gX6_bestTake_X1_meanOfZones : GoodIn wsX6_bestTake (wsV RX6 207 RX1 yX1_meanOfZones wsX1_meanOfZones) := goodIn_app (goodIn_of _ (by decide +kernel)) ggX6_bestTake_X1_meanOfZones
set_option maxRecDepth 20000 in
theorem ggX6_bestWhite_X6_needFrame : GoodIn wsX6_bestWhite wsX6_needFrame := goodIn_ca (goodIn_r _ [13, 14, 15, 16, 100, 101, 102, 103, 104, 105, 106, 107, 108] (by decide +kernel) (by decide +kernel)) (goodIn_sub (fun _ h => List.mem_cons_of_mem _ (List.mem_append_left _ (List.mem_append_right _ h))) (by decide +kernel))
set_option maxRecDepth 20000 in
theorem gX6_bestWhite_X6_needFrame : GoodIn wsX6_bestWhite (wsV RX6 127 RX6 yX6_needFrame wsX6_needFrame) := goodIn_app (goodIn_of _ (by decide +kernel)) ggX6_bestWhite_X6_needFrame
set_option maxRecDepth 20000 in
theorem ggX6_bestWhite_X6_needRange : GoodIn wsX6_bestWhite wsX6_needRange := goodIn_ca (goodIn_r _ [19, 20, 21] (by decide +kernel) (by decide +kernel)) (goodIn_sub (fun _ h => List.mem_cons_of_mem _ (List.mem_append_right _ h)) (by decide +kernel))
set_option maxRecDepth 20000 in
theorem gX6_bestWhite_X6_needRange : GoodIn wsX6_bestWhite (va_wsS RX6 70 yX6_needRange wsX6_needRange) := goodIn_app (goodIn_of _ (by decide +kernel)) ggX6_bestWhite_X6_needRange
set_option maxRecDepth 20000 in
theorem ggX6_bestWhite_X2_compose : GoodIn wsX6_bestWhite wsX2_compose := goodIn_r _ [26, 27, 28, 29, 30, 31, 32, 33, 34, 35, 36, 25, 37, 38, 39, 12, 40, 41, 42, 43, 44, 45, 46, 47, 48, 49, 50, 51, 52, 53, 54, 55, 56, 57, 58, 59, 60, 61, 62, 63, 64, 65, 66, 67, 68, 69, 70, 71, 72, 73, 74, 75, 76, 77, 78, 79, 80, 81, 82, 83, 84, 85, 86, 117, 118, 119, 120, 121] (by decide +kernel) (by decide +kernel)
set_option maxRecDepth 20000 in
theorem gX6_bestWhite_X2_compose : GoodIn wsX6_bestWhite (wsV RX6 246 RX2 yX2_compose wsX2_compose) := goodIn_app (goodIn_of _ (by decide +kernel)) ggX6_bestWhite_X2_compose
set_option maxRecDepth 20000 in
theorem ggX6_bestWhite_X2_sumTones : GoodIn wsX6_bestWhite wsX2_sumTones := goodIn_r _ [90, 50, 57, 58, 25, 59, 91, 92, 93, 82, 120, 121] (by decide +kernel) (by decide +kernel)
set_option maxRecDepth 20000 in
theorem gX6_bestWhite_X2_sumTones : GoodIn wsX6_bestWhite (wsV RX6 250 RX2 yX2_sumTones wsX2_sumTones) := goodIn_app (goodIn_of _ (by decide +kernel)) ggX6_bestWhite_X2_sumTones
set_option maxRecDepth 20000 in
theorem ggX6_bestWhite_X6_leastNumber : GoodIn wsX6_bestWhite wsX6_leastNumber := goodIn_r _ [96] (by decide +kernel) (by decide +kernel)
set_option maxRecDepth 20000 in
theorem gX6_bestWhite_X6_leastNumber : GoodIn wsX6_bestWhite (va_wsS RX6 130 yX6_leastNumber wsX6_leastNumber) := goodIn_app (goodIn_of _ (by decide +kernel)) ggX6_bestWhite_X6_leastNumber
set_option maxRecDepth 20000 in
theorem ggX6_bestWhite_X6_mostNumber : GoodIn wsX6_bestWhite wsX6_mostNumber := goodIn_r _ [99] (by decide +kernel) (by decide +kernel)
set_option maxRecDepth 20000 in
theorem gX6_bestWhite_X6_mostNumber : GoodIn wsX6_bestWhite (va_wsS RX6 133 yX6_mostNumber wsX6_mostNumber) := goodIn_app (goodIn_of _ (by decide +kernel)) ggX6_bestWhite_X6_mostNumber
set_option maxRecDepth 20000 in
theorem ggX6_digest_X6_many : GoodIn wsX6_digest wsX6_many := goodIn_ca (goodIn_r _ [11, 3, 6, 12, 13, 14, 10, 15, 16, 17, 18, 19, 20, 21, 22, 23, 24, 25, 26, 27, 5, 28, 29, 30, 31, 32, 33, 34, 35, 36, 37, 38, 214, 215, 216, 217, 218, 219, 220, 221, 222, 228, 229, 230, 223, 224, 225, 226, 227, 231, 232, 233] (by decide +kernel) (by decide +kernel)) (goodIn_sub (fun _ h => List.mem_cons_of_mem _ (List.mem_append_left _ (List.mem_append_right _ h))) (by decide +kernel))
set_option maxRecDepth 20000 in
theorem gX6_digest_X6_many : GoodIn wsX6_digest (wsV RX6 264 RX6 yX6_many wsX6_many) := goodIn_app (goodIn_of _ (by decide +kernel)) ggX6_digest_X6_many
set_option maxRecDepth 20000 in
theorem ggX6_digest_X6_ofFrame : GoodIn wsX6_digest wsX6_ofFrame := goodIn_ca (goodIn_ca (goodIn_r _ [42, 5, 43, 44, 45, 10, 46, 47, 48, 3, 13, 14, 15, 16, 17, 28, 29, 30, 31, 32, 33, 49, 50, 51, 52, 53, 54, 55, 56, 57, 58, 59, 60, 61, 62, 63, 64, 65, 66, 67, 68, 69, 70, 71, 72, 73, 74, 75, 76, 77, 78, 79, 80, 81, 82, 83, 84, 6, 85, 214, 215, 216, 217, 218, 219, 220, 221, 222, 223, 224, 225, 226, 227, 231, 232, 233, 234, 235, 236] (by decide +kernel) (by decide +kernel)) (goodIn_sub (fun _ h => List.mem_cons_of_mem _ (List.mem_append_right _ h)) (by decide +kernel))) (goodIn_sub (fun _ h => List.mem_cons_of_mem _ (List.mem_append_left _ (List.mem_append_right _ h))) (by decide +kernel))
set_option maxRecDepth 20000 in
theorem gX6_digest_X6_ofFrame : GoodIn wsX6_digest (wsV RX6 267 RX6 yX6_ofFrame wsX6_ofFrame) := goodIn_app (goodIn_of _ (by decide +kernel)) ggX6_digest_X6_ofFrame
set_option maxRecDepth 20000 in
theorem ggX6_digest_X6_word : GoodIn wsX6_digest wsX6_word := goodIn_ca (goodIn_r _ [89, 5, 43, 44, 45, 10, 46, 47, 48, 3, 90, 91, 92, 93, 94, 12, 95, 96, 97, 98, 99, 100, 101, 102, 31, 103, 33, 104, 105, 106, 107, 108, 109, 65, 66, 110, 111, 112, 113, 114, 115, 116, 117, 118, 119, 63, 64, 120, 121, 122, 123, 124, 125, 126, 127, 29, 30, 32, 128, 129, 130, 131, 132, 133, 134, 135, 136, 137, 138, 139, 140, 141, 142, 143, 144, 145, 146, 147, 148, 149, 150, 151, 152, 153, 154, 155, 156, 157, 158, 159, 160, 161, 214, 215, 216, 217, 218, 219, 220, 221, 222, 223, 224, 225, 226, 227, 228, 229, 230, 231, 232, 233, 237, 238] (by decide +kernel) (by decide +kernel)) (goodIn_sub (fun _ h => List.mem_cons_of_mem _ (List.mem_append_right _ h)) (by decide +kernel))
set_option maxRecDepth 20000 in
theorem gX6_digest_X6_word : GoodIn wsX6_digest (wsV RX6 270 RX6 yX6_word wsX6_word) := goodIn_app (goodIn_of _ (by decide +kernel)) ggX6_digest_X6_word
set_option maxRecDepth 20000 in
theorem ggX6_digest_X6_meter : GoodIn wsX6_digest wsX6_meter := goodIn_ca (goodIn_r _ [165, 5, 43, 44, 45, 10, 46, 47, 48, 3, 166, 167, 168, 52, 169, 170, 171, 172, 173, 174, 54, 175, 63, 64, 65, 66, 214, 215, 216, 217, 218, 219, 220, 221, 222, 223, 224, 225, 226, 227] (by decide +kernel) (by decide +kernel)) (goodIn_sub (fun _ h => List.mem_cons_of_mem _ (List.mem_append_right _ h)) (by decide +kernel))
set_option maxRecDepth 20000 in
theorem gX6_digest_X6_meter : GoodIn wsX6_digest (wsV RX6 273 RX6 yX6_meter wsX6_meter) := goodIn_app (goodIn_of _ (by decide +kernel)) ggX6_digest_X6_meter
set_option maxRecDepth 20000 in
theorem ggX6_digest_X6_ofFile : GoodIn wsX6_digest wsX6_ofFile := goodIn_ca (goodIn_ca (goodIn_r _ [179, 6, 85, 180, 181, 10, 182, 47, 48, 13, 14, 15, 16, 17, 28, 29, 30, 31, 32, 33, 90, 91, 92, 93, 94, 5, 12, 95, 96, 97, 98, 99, 100, 101, 102, 103, 104, 105, 106, 107, 108, 109, 65, 66, 110, 111, 112, 113, 114, 115, 116, 117, 118, 119, 63, 64, 120, 121, 122, 123, 124, 125, 126, 127, 128, 129, 130, 131, 132, 133, 134, 135, 136, 137, 138, 139, 140, 141, 142, 143, 144, 145, 146, 147, 148, 149, 150, 151, 152, 153, 154, 155, 156, 157, 158, 159, 160, 161, 214, 215, 216, 217, 218, 219, 220, 221, 222, 234, 235, 236, 231, 232, 233, 223, 224, 225, 226, 227, 228, 229, 230, 237, 238] (by decide +kernel) (by decide +kernel)) (goodIn_sub (fun _ h => List.mem_cons_of_mem _ (List.mem_append_right _ h)) (by decide +kernel))) (goodIn_sub (fun _ h => List.mem_cons_of_mem _ (List.mem_append_left _ (List.mem_append_right _ h))) (by decide +kernel))
set_option maxRecDepth 20000 in
theorem gX6_digest_X6_ofFile : GoodIn wsX6_digest (wsV RX6 278 RX6 yX6_ofFile wsX6_ofFile) := goodIn_app (goodIn_of _ (by decide +kernel)) ggX6_digest_X6_ofFile
set_option maxRecDepth 20000 in
theorem ggX6_digest_X6_wouldClip : GoodIn wsX6_digest wsX6_wouldClip := goodIn_ca (goodIn_r _ [186, 12, 187, 188, 189, 190, 10, 191, 13, 14, 15, 16, 17, 192, 193, 194, 21, 195, 196, 38, 65, 66, 63, 64, 197, 198, 199, 200, 201, 202, 203, 204, 205, 206, 207, 208, 209, 210, 211, 212, 72, 61, 73, 213, 75, 76, 49, 50, 51, 52, 53, 54, 214, 215, 216, 217, 218, 219, 220, 221, 222, 228, 229, 230, 223, 224, 225, 226, 227, 239, 240, 241] (by decide +kernel) (by decide +kernel)) (goodIn_sub (fun _ h => List.mem_cons_of_mem _ (List.mem_append_left _ (List.mem_append_right _ h))) (by decide +kernel))
set_option maxRecDepth 20000 in
theorem gX6_digest_X6_wouldClip : GoodIn wsX6_digest (wsV RX6 281 RX6 yX6_wouldClip wsX6_wouldClip) := goodIn_app (goodIn_of _ (by decide +kernel)) ggX6_digest_X6_wouldClip
set_option maxRecDepth 20000 in
theorem ggX6_needPlace_X6_isPlace : GoodIn wsX6_needPlace wsX6_isPlace := goodIn_r _ [6] (by decide +kernel) (by decide +kernel)
set_option maxRecDepth 20000 in
theorem gX6_needPlace_X6_isPlace : GoodIn wsX6_needPlace (va_wsS RX6 289 yX6_isPlace wsX6_isPlace) := goodIn_app (goodIn_of _ (by decide +kernel)) ggX6_needPlace_X6_isPlace
set_option maxRecDepth 20000 in
theorem ggX6_needExposure_X6_needRange : GoodIn wsX6_needExposure wsX6_needRange := goodIn_ca (goodIn_r _ [4, 5, 6] (by decide +kernel) (by decide +kernel)) (goodIn_sub (fun _ h => List.mem_cons_of_mem _ (List.mem_append_right _ h)) (by decide +kernel))
set_option maxRecDepth 20000 in
theorem gX6_needExposure_X6_needRange : GoodIn wsX6_needExposure (va_wsS RX6 70 yX6_needRange wsX6_needRange) := goodIn_app (goodIn_of _ (by decide +kernel)) ggX6_needExposure_X6_needRange
set_option maxRecDepth 20000 in
theorem ggX6_countEdits_X0_count : GoodIn wsX6_countEdits wsX0_count := goodIn_r _ [7, 8, 23, 24, 25] (by decide +kernel) (by decide +kernel)
set_option maxRecDepth 20000 in
theorem gX6_countEdits_X0_count : GoodIn wsX6_countEdits (wsV RX6 140 RX0 yX0_count wsX0_count) := goodIn_app (goodIn_of _ (by decide +kernel)) ggX6_countEdits_X0_count
set_option maxRecDepth 20000 in
theorem ggX6_developFrame_X2_compose : GoodIn wsX6_developFrame wsX2_compose := goodIn_r _ [7, 8, 9, 10, 11, 12, 13, 14, 15, 16, 17, 6, 18, 19, 20, 21, 22, 23, 24, 25, 26, 27, 28, 29, 30, 31, 32, 33, 34, 35, 36, 37, 38, 39, 40, 41, 42, 43, 44, 45, 46, 47, 48, 49, 50, 51, 52, 53, 54, 55, 56, 57, 58, 59, 60, 61, 62, 63, 64, 65, 66, 67, 68, 93, 94, 95, 96, 97] (by decide +kernel) (by decide +kernel)
set_option maxRecDepth 20000 in
theorem gX6_developFrame_X2_compose : GoodIn wsX6_developFrame (wsV RX6 246 RX2 yX2_compose wsX2_compose) := goodIn_app (goodIn_of _ (by decide +kernel)) ggX6_developFrame_X2_compose
set_option maxRecDepth 20000 in
theorem ggX6_developFrame_X2_bound : GoodIn wsX6_developFrame wsX2_bound := goodIn_r _ [72, 32, 73, 74, 6, 75, 64, 96, 97] (by decide +kernel) (by decide +kernel)
set_option maxRecDepth 20000 in
theorem gX6_developFrame_X2_bound : GoodIn wsX6_developFrame (wsV RX6 304 RX2 yX2_bound wsX2_bound) := goodIn_app (goodIn_of _ (by decide +kernel)) ggX6_developFrame_X2_bound
set_option maxRecDepth 20000 in
theorem ggX6_wordBehind_X2_compose : GoodIn wsX6_wordBehind wsX2_compose := goodIn_r _ [8, 9, 10, 11, 12, 13, 14, 15, 16, 17, 18, 7, 19, 20, 21, 22, 23, 24, 25, 26, 27, 28, 29, 30, 31, 32, 33, 34, 35, 36, 37, 38, 39, 40, 41, 42, 43, 44, 45, 46, 47, 48, 49, 50, 51, 52, 53, 54, 55, 56, 57, 58, 59, 60, 61, 62, 63, 64, 65, 66, 67, 68, 69, 98, 99, 100, 101, 102] (by decide +kernel) (by decide +kernel)
set_option maxRecDepth 20000 in
theorem gX6_wordBehind_X2_compose : GoodIn wsX6_wordBehind (wsV RX6 246 RX2 yX2_compose wsX2_compose) := goodIn_app (goodIn_of _ (by decide +kernel)) ggX6_wordBehind_X2_compose
set_option maxRecDepth 20000 in
theorem ggX6_wordBehind_X2_bound : GoodIn wsX6_wordBehind wsX2_bound := goodIn_r _ [73, 33, 74, 75, 7, 76, 65, 101, 102] (by decide +kernel) (by decide +kernel)
set_option maxRecDepth 20000 in
theorem gX6_wordBehind_X2_bound : GoodIn wsX6_wordBehind (wsV RX6 304 RX2 yX2_bound wsX2_bound) := goodIn_app (goodIn_of _ (by decide +kernel)) ggX6_wordBehind_X2_bound
set_option maxRecDepth 20000 in
theorem ggX6_wordBehind_X2_sumUp : GoodIn wsX6_wordBehind wsX2_sumUp := goodIn_r _ [80, 33, 101, 102] (by decide +kernel) (by decide +kernel)
set_option maxRecDepth 20000 in
theorem gX6_wordBehind_X2_sumUp : GoodIn wsX6_wordBehind (wsV RX6 307 RX2 yX2_sumUp wsX2_sumUp) := goodIn_app (goodIn_of _ (by decide +kernel)) ggX6_wordBehind_X2_sumUp
set_option maxRecDepth 20000 in
theorem ggX6_smallestOf_X6_isIn : GoodIn wsX6_smallestOf wsX6_isIn := goodIn_r _ [4] (by decide +kernel) (by decide +kernel)
set_option maxRecDepth 20000 in
theorem gX6_smallestOf_X6_isIn : GoodIn wsX6_smallestOf (va_wsS RX6 310 yX6_isIn wsX6_isIn) := goodIn_app (goodIn_of _ (by decide +kernel)) ggX6_smallestOf_X6_isIn
set_option maxRecDepth 20000 in
theorem ggX6_putTogether_X6_smallestOf : GoodIn wsX6_putTogether wsX6_smallestOf := goodIn_r _ [11, 12, 13, 10, 14] (by decide +kernel) (by decide +kernel)
set_option maxRecDepth 20000 in
theorem gX6_putTogether_X6_smallestOf : GoodIn wsX6_putTogether (wsV RX6 313 RX6 yX6_smallestOf wsX6_smallestOf) := goodIn_app (goodIn_of _ (by decide +kernel)) ggX6_putTogether_X6_smallestOf
set_option maxRecDepth 20000 in
theorem ggX6_putTogether_X6_isIn : GoodIn wsX6_putTogether wsX6_isIn := goodIn_r _ [14] (by decide +kernel) (by decide +kernel)
set_option maxRecDepth 20000 in
theorem gX6_putTogether_X6_isIn : GoodIn wsX6_putTogether (va_wsS RX6 310 yX6_isIn wsX6_isIn) := goodIn_app (goodIn_of _ (by decide +kernel)) ggX6_putTogether_X6_isIn

