/-! ===== BEGIN printed: names, fields, word lists, decode rows ===== -/
def RX0 : String := "BayerGate$EditRow"
def TX0 : u_T := fun k => match k with
  | 0 => ("BayerGate$EditRow", "kinds", "[I", true)
  | 1 => ("BayerGate$EditRow", "numbers", "[I", true)
  | _ => ("BayerGate$EditRow", "length", "I", false)
def tyX0 : Nat → FieldType := fun k => match k with
  | 0 => .array .int
  | 1 => .array .int
  | _ => .int
abbrev wsX00 : List Cond := u_ws RX0 TX0 3
theorem nmX0 : ∀ a, a < 3 → ∀ b, b < 3 → a ≠ b → (TX0 a).2.1 ≠ (TX0 b).2.1 := by decide +kernel
theorem tyX0_ok : ∀ k, k < 3 → parseFieldDescriptor (TX0 k).2.2.1 = some (tyX0 k) := by decide +kernel
abbrev cX0_init : ByteArray := prog_2_method_1_code
def yX0_init : MethodName := ⟨RX0, "<init>", "()V"⟩
abbrev cX0_count : ByteArray := prog_2_method_2_code
def yX0_count : MethodName := ⟨RX0, "count", "()I"⟩
abbrev cX0_append : ByteArray := prog_2_method_3_code
def yX0_append : MethodName := ⟨RX0, "append", "(II)V"⟩
abbrev cX0_takeBack : ByteArray := prog_2_method_4_code
def yX0_takeBack : MethodName := ⟨RX0, "takeBack", "()I"⟩
abbrev cX0_copyFrom : ByteArray := prog_2_method_5_code
def yX0_copyFrom : MethodName := ⟨RX0, "copyFrom", "(LBayerGate$EditRow;)V"⟩
abbrev cX0_hasMend : ByteArray := prog_2_method_6_code
def yX0_hasMend : MethodName := ⟨RX0, "hasMend", "()Z"⟩
def RX1 : String := "BayerGate$Frame"
def TX1 : u_T := fun k => match k with
  | 0 => ("BayerGate$Frame", "rawRow", "[I", true)
  | 1 => ("BayerGate$Frame", "edits", "LBayerGate$EditRow;", true)
  | 2 => ("BayerGate$Frame", "time", "I", false)
  | 3 => ("BayerGate$Frame", "gain", "I", false)
  | _ => ("BayerGate$Frame", "ghosts", "I", false)
def tyX1 : Nat → FieldType := fun k => match k with
  | 0 => .array .int
  | 1 => .object "BayerGate$EditRow"
  | 2 => .int
  | 3 => .int
  | _ => .int
abbrev wsX10 : List Cond := u_ws RX1 TX1 5
theorem nmX1 : ∀ a, a < 5 → ∀ b, b < 5 → a ≠ b → (TX1 a).2.1 ≠ (TX1 b).2.1 := by decide +kernel
theorem tyX1_ok : ∀ k, k < 5 → parseFieldDescriptor (TX1 k).2.2.1 = some (tyX1 k) := by decide +kernel
abbrev cX1_init : ByteArray := prog_3_method_1_code
def yX1_init : MethodName := ⟨RX1, "<init>", "()V"⟩
abbrev cX1_countClipped : ByteArray := prog_3_method_2_code
def yX1_countClipped : MethodName := ⟨RX1, "countClipped", "()I"⟩
abbrev cX1_sharpness : ByteArray := prog_3_method_3_code
def yX1_sharpness : MethodName := ⟨RX1, "sharpness", "()I"⟩
abbrev cX1_whiteOf : ByteArray := prog_3_method_4_code
def yX1_whiteOf : MethodName := ⟨RX1, "whiteOf", "(I)I"⟩
abbrev cX1_sumSeen : ByteArray := prog_3_method_5_code
def yX1_sumSeen : MethodName := ⟨RX1, "sumSeen", "(I)I"⟩
abbrev cX1_meanOfZone : ByteArray := prog_3_method_6_code
def yX1_meanOfZone : MethodName := ⟨RX1, "meanOfZone", "(I)D"⟩
abbrev cX1_meanOfZones : ByteArray := prog_3_method_7_code
def yX1_meanOfZones : MethodName := ⟨RX1, "meanOfZones", "()D"⟩
def RX2 : String := "BayerGate$Picture"
def TX2 : u_T := fun k => match k with
  | 0 => ("BayerGate$Picture", "numbers", "[F", true)
  | _ => ("BayerGate$Picture", "mended", "[I", true)
def tyX2 : Nat → FieldType := fun k => match k with
  | 0 => .array .float
  | _ => .array .int
abbrev wsX20 : List Cond := u_ws RX2 TX2 2
theorem nmX2 : ∀ a, a < 2 → ∀ b, b < 2 → a ≠ b → (TX2 a).2.1 ≠ (TX2 b).2.1 := by decide +kernel
theorem tyX2_ok : ∀ k, k < 2 → parseFieldDescriptor (TX2 k).2.2.1 = some (tyX2 k) := by decide +kernel
abbrev cX2_init : ByteArray := prog_4_method_1_code
def yX2_init : MethodName := ⟨RX2, "<init>", "()V"⟩
abbrev cX2_indexOf : ByteArray := prog_4_method_2_code
def yX2_indexOf : MethodName := ⟨RX2, "indexOf", "(II)I"⟩
abbrev cX2_compose : ByteArray := prog_4_method_3_code
def yX2_compose : MethodName := ⟨RX2, "compose", "([ILBayerGate$EditRow;[Z)V"⟩
abbrev cX2_bound : ByteArray := prog_4_method_4_code
def yX2_bound : MethodName := ⟨RX2, "bound", "()V"⟩
abbrev cX2_sumUp : ByteArray := prog_4_method_5_code
def yX2_sumUp : MethodName := ⟨RX2, "sumUp", "()I"⟩
abbrev cX2_sumTones : ByteArray := prog_4_method_6_code
def yX2_sumTones : MethodName := ⟨RX2, "sumTones", "(IF)I"⟩
abbrev cX2_farthestFrom : ByteArray := prog_4_method_7_code
def yX2_farthestFrom : MethodName := ⟨RX2, "farthestFrom", "(LBayerGate$Picture;)F"⟩
abbrev cX2_bounded : ByteArray := prog_4_method_8_code
def yX2_bounded : MethodName := ⟨RX2, "bounded", "(F)F"⟩
abbrev cX2_mendAll : ByteArray := prog_4_method_9_code
def yX2_mendAll : MethodName := ⟨RX2, "mendAll", "([I[ZZ)V"⟩
abbrev cX2_mendedAt : ByteArray := prog_4_method_10_code
def yX2_mendedAt : MethodName := ⟨RX2, "mendedAt", "([I[ZII)I"⟩
abbrev cX2_makeWhole : ByteArray := prog_4_method_11_code
def yX2_makeWhole : MethodName := ⟨RX2, "makeWhole", "()V"⟩
abbrev cX2_meanAround : ByteArray := prog_4_method_12_code
def yX2_meanAround : MethodName := ⟨RX2, "meanAround", "(III)F"⟩
abbrev cX2_applyEdit : ByteArray := prog_4_method_13_code
def yX2_applyEdit : MethodName := ⟨RX2, "applyEdit", "(II)V"⟩
abbrev cX2_darken : ByteArray := prog_4_method_14_code
def yX2_darken : MethodName := ⟨RX2, "darken", "(I)V"⟩
abbrev cX2_scaleColour : ByteArray := prog_4_method_15_code
def yX2_scaleColour : MethodName := ⟨RX2, "scaleColour", "(IF)V"⟩
abbrev cX2_changeTone : ByteArray := prog_4_method_16_code
def yX2_changeTone : MethodName := ⟨RX2, "changeTone", "(I)V"⟩
abbrev cX2_turnOver : ByteArray := prog_4_method_17_code
def yX2_turnOver : MethodName := ⟨RX2, "turnOver", "()V"⟩
def RX3 : String := "BayerGate$Scene"
def TX3 : u_T := fun k => match k with
  | 0 => ("BayerGate$Scene", "shades", "[I", true)
  | 1 => ("BayerGate$Scene", "factors", "[F", true)
  | _ => ("BayerGate$Scene", "quartersOfGreen", "I", false)
def tyX3 : Nat → FieldType := fun k => match k with
  | 0 => .array .int
  | 1 => .array .float
  | _ => .int
abbrev wsX30 : List Cond := u_ws RX3 TX3 3
theorem nmX3 : ∀ a, a < 3 → ∀ b, b < 3 → a ≠ b → (TX3 a).2.1 ≠ (TX3 b).2.1 := by decide +kernel
theorem tyX3_ok : ∀ k, k < 3 → parseFieldDescriptor (TX3 k).2.2.1 = some (tyX3 k) := by decide +kernel
abbrev cX3_init : ByteArray := prog_5_method_1_code
def yX3_init : MethodName := ⟨RX3, "<init>", "()V"⟩
abbrev cX3_colourPlace : ByteArray := prog_5_method_2_code
def yX3_colourPlace : MethodName := ⟨RX3, "colourPlace", "(II)V"⟩
abbrev cX3_shade : ByteArray := prog_5_method_3_code
def yX3_shade : MethodName := ⟨RX3, "shade", "(II)I"⟩
abbrev cX3_light : ByteArray := prog_5_method_4_code
def yX3_light : MethodName := ⟨RX3, "light", "(III)V"⟩
abbrev cX3_greenQuarters : ByteArray := prog_5_method_5_code
def yX3_greenQuarters : MethodName := ⟨RX3, "greenQuarters", "()I"⟩
abbrev cX3_lightAt : ByteArray := prog_5_method_6_code
def yX3_lightAt : MethodName := ⟨RX3, "lightAt", "(III)F"⟩
def RX4 : String := "BayerGate$Sensor"
def TX4 : u_T := fun k => match k with
  | 0 => ("BayerGate$Sensor", "hows", "[I", true)
  | 1 => ("BayerGate$Sensor", "mapped", "[Z", true)
  | _ => ("BayerGate$Sensor", "draw", "I", false)
def tyX4 : Nat → FieldType := fun k => match k with
  | 0 => .array .int
  | 1 => .array .boolean
  | _ => .int
abbrev wsX40 : List Cond := u_ws RX4 TX4 3
theorem nmX4 : ∀ a, a < 3 → ∀ b, b < 3 → a ≠ b → (TX4 a).2.1 ≠ (TX4 b).2.1 := by decide +kernel
theorem tyX4_ok : ∀ k, k < 3 → parseFieldDescriptor (TX4 k).2.2.1 = some (tyX4 k) := by decide +kernel
abbrev cX4_init : ByteArray := prog_6_method_1_code
def yX4_init : MethodName := ⟨RX4, "<init>", "()V"⟩
abbrev cX4_howIs : ByteArray := prog_6_method_2_code
def yX4_howIs : MethodName := ⟨RX4, "howIs", "(I)I"⟩
abbrev cX4_setHow : ByteArray := prog_6_method_3_code
def yX4_setHow : MethodName := ⟨RX4, "setHow", "(II)V"⟩
abbrev cX4_isMapped : ByteArray := prog_6_method_4_code
def yX4_isMapped : MethodName := ⟨RX4, "isMapped", "(I)Z"⟩
abbrev cX4_setMapped : ByteArray := prog_6_method_5_code
def yX4_setMapped : MethodName := ⟨RX4, "setMapped", "(IZ)V"⟩
abbrev cX4_countMapped : ByteArray := prog_6_method_6_code
def yX4_countMapped : MethodName := ⟨RX4, "countMapped", "()I"⟩
abbrev cX4_countSpoilt : ByteArray := prog_6_method_7_code
def yX4_countSpoilt : MethodName := ⟨RX4, "countSpoilt", "(Z)I"⟩
abbrev cX4_advance : ByteArray := prog_6_method_8_code
def yX4_advance : MethodName := ⟨RX4, "advance", "(I)V"⟩
abbrev cX4_expose : ByteArray := prog_6_method_9_code
def yX4_expose : MethodName := ⟨RX4, "expose", "(LBayerGate$Scene;IILBayerGate$Frame;)I"⟩
abbrev cX4_rawOf : ByteArray := prog_6_method_10_code
def yX4_rawOf : MethodName := ⟨RX4, "rawOf", "(IFII)I"⟩
def RX5 : String := "BayerGate$StoredFile"
def TX5 : u_T := fun k => match k with
  | 0 => ("BayerGate$StoredFile", "edits", "LBayerGate$EditRow;", true)
  | 1 => ("BayerGate$StoredFile", "frame", "I", false)
  | _ => ("BayerGate$StoredFile", "version", "I", false)
def tyX5 : Nat → FieldType := fun k => match k with
  | 0 => .object "BayerGate$EditRow"
  | 1 => .int
  | _ => .int
abbrev wsX50 : List Cond := u_ws RX5 TX5 3
theorem nmX5 : ∀ a, a < 3 → ∀ b, b < 3 → a ≠ b → (TX5 a).2.1 ≠ (TX5 b).2.1 := by decide +kernel
theorem tyX5_ok : ∀ k, k < 3 → parseFieldDescriptor (TX5 k).2.2.1 = some (tyX5 k) := by decide +kernel
abbrev cX5_init : ByteArray := prog_7_method_1_code
def yX5_init : MethodName := ⟨RX5, "<init>", "()V"⟩
abbrev cX5_keep : ByteArray := prog_7_method_2_code
def yX5_keep : MethodName := ⟨RX5, "keep", "(IILBayerGate$EditRow;)V"⟩
def RX6 : String := "BayerGate"
def TX6 : u_T := fun k => match k with
  | 0 => ("BayerGate", "scene", "LBayerGate$Scene;", true)
  | 1 => ("BayerGate", "sensor", "LBayerGate$Sensor;", true)
  | 2 => ("BayerGate", "frameRow", "[LBayerGate$Frame;", true)
  | 3 => ("BayerGate", "fileRow", "[LBayerGate$StoredFile;", true)
  | 4 => ("BayerGate", "frameCount", "I", false)
  | 5 => ("BayerGate", "fileCount", "I", false)
  | 6 => ("BayerGate", "trial", "LBayerGate$Frame;", true)
  | 7 => ("BayerGate", "developed", "LBayerGate$Picture;", true)
  | _ => ("BayerGate", "compared", "LBayerGate$Picture;", true)
def tyX6 : Nat → FieldType := fun k => match k with
  | 0 => .object "BayerGate$Scene"
  | 1 => .object "BayerGate$Sensor"
  | 2 => .array (.object "BayerGate$Frame")
  | 3 => .array (.object "BayerGate$StoredFile")
  | 4 => .int
  | 5 => .int
  | 6 => .object "BayerGate$Frame"
  | 7 => .object "BayerGate$Picture"
  | _ => .object "BayerGate$Picture"
abbrev wsX60 : List Cond := u_ws RX6 TX6 9
theorem nmX6 : ∀ a, a < 9 → ∀ b, b < 9 → a ≠ b → (TX6 a).2.1 ≠ (TX6 b).2.1 := by decide +kernel
theorem tyX6_ok : ∀ k, k < 9 → parseFieldDescriptor (TX6 k).2.2.1 = some (tyX6 k) := by decide +kernel
abbrev cX6_init : ByteArray := prog_1_method_1_code
def yX6_init : MethodName := ⟨RX6, "<init>", "()V"⟩
abbrev cX6_paint : ByteArray := prog_1_method_2_code
def yX6_paint : MethodName := ⟨RX6, "paint", "(IIIII)I"⟩
abbrev cX6_lamp : ByteArray := prog_1_method_3_code
def yX6_lamp : MethodName := ⟨RX6, "lamp", "(III)I"⟩
abbrev cX6_spoil : ByteArray := prog_1_method_4_code
def yX6_spoil : MethodName := ⟨RX6, "spoil", "(III)I"⟩
abbrev cX6_map : ByteArray := prog_1_method_5_code
def yX6_map : MethodName := ⟨RX6, "map", "(IIZ)I"⟩
abbrev cX6_take : ByteArray := prog_1_method_6_code
def yX6_take : MethodName := ⟨RX6, "take", "(II)I"⟩
abbrev cX6_merge : ByteArray := prog_1_method_7_code
def yX6_merge : MethodName := ⟨RX6, "merge", "(II)I"⟩
abbrev cX6_edit : ByteArray := prog_1_method_8_code
def yX6_edit : MethodName := ⟨RX6, "edit", "(III)I"⟩
abbrev cX6_undo : ByteArray := prog_1_method_9_code
def yX6_undo : MethodName := ⟨RX6, "undo", "(I)I"⟩
abbrev cX6_save : ByteArray := prog_1_method_10_code
def yX6_save : MethodName := ⟨RX6, "save", "(I)I"⟩
abbrev cX6_raw : ByteArray := prog_1_method_11_code
def yX6_raw : MethodName := ⟨RX6, "raw", "(III)I"⟩
abbrev cX6_picture : ByteArray := prog_1_method_12_code
def yX6_picture : MethodName := ⟨RX6, "picture", "(IIII)D"⟩
abbrev cX6_word : ByteArray := prog_1_method_13_code
def yX6_word : MethodName := ⟨RX6, "word", "(I)I"⟩
abbrev cX6_ofFrame : ByteArray := prog_1_method_14_code
def yX6_ofFrame : MethodName := ⟨RX6, "ofFrame", "(II)I"⟩
abbrev cX6_ofEdit : ByteArray := prog_1_method_15_code
def yX6_ofEdit : MethodName := ⟨RX6, "ofEdit", "(III)I"⟩
abbrev cX6_zone : ByteArray := prog_1_method_16_code
def yX6_zone : MethodName := ⟨RX6, "zone", "(II)D"⟩
abbrev cX6_meter : ByteArray := prog_1_method_17_code
def yX6_meter : MethodName := ⟨RX6, "meter", "(I)D"⟩
abbrev cX6_ofFile : ByteArray := prog_1_method_18_code
def yX6_ofFile : MethodName := ⟨RX6, "ofFile", "(II)I"⟩
abbrev cX6_ofPlace : ByteArray := prog_1_method_19_code
def yX6_ofPlace : MethodName := ⟨RX6, "ofPlace", "(III)I"⟩
abbrev cX6_many : ByteArray := prog_1_method_20_code
def yX6_many : MethodName := ⟨RX6, "many", "(I)I"⟩
abbrev cX6_apart : ByteArray := prog_1_method_21_code
def yX6_apart : MethodName := ⟨RX6, "apart", "(II)D"⟩
abbrev cX6_wouldClip : ByteArray := prog_1_method_22_code
def yX6_wouldClip : MethodName := ⟨RX6, "wouldClip", "(II)I"⟩
abbrev cX6_bestTake : ByteArray := prog_1_method_23_code
def yX6_bestTake : MethodName := ⟨RX6, "bestTake", "(I)I"⟩
abbrev cX6_bestWhite : ByteArray := prog_1_method_24_code
def yX6_bestWhite : MethodName := ⟨RX6, "bestWhite", "(II)I"⟩
abbrev cX6_digest : ByteArray := prog_1_method_25_code
def yX6_digest : MethodName := ⟨RX6, "digest", "()J"⟩
abbrev cX6_needIndex : ByteArray := prog_1_method_26_code
def yX6_needIndex : MethodName := ⟨RX6, "needIndex", "(II)V"⟩
abbrev cX6_needPlace : ByteArray := prog_1_method_27_code
def yX6_needPlace : MethodName := ⟨RX6, "needPlace", "(II)V"⟩
abbrev cX6_needFrame : ByteArray := prog_1_method_28_code
def yX6_needFrame : MethodName := ⟨RX6, "needFrame", "(I)V"⟩
abbrev cX6_needRange : ByteArray := prog_1_method_29_code
def yX6_needRange : MethodName := ⟨RX6, "needRange", "(III)V"⟩
abbrev cX6_needExposure : ByteArray := prog_1_method_30_code
def yX6_needExposure : MethodName := ⟨RX6, "needExposure", "(II)V"⟩
abbrev cX6_needRoom : ByteArray := prog_1_method_31_code
def yX6_needRoom : MethodName := ⟨RX6, "needRoom", "(II)V"⟩
abbrev cX6_isPlace : ByteArray := prog_1_method_32_code
def yX6_isPlace : MethodName := ⟨RX6, "isPlace", "(II)Z"⟩
abbrev cX6_placeOf : ByteArray := prog_1_method_33_code
def yX6_placeOf : MethodName := ⟨RX6, "placeOf", "(II)I"⟩
abbrev cX6_colourSeen : ByteArray := prog_1_method_34_code
def yX6_colourSeen : MethodName := ⟨RX6, "colourSeen", "(II)I"⟩
abbrev cX6_leastNumber : ByteArray := prog_1_method_35_code
def yX6_leastNumber : MethodName := ⟨RX6, "leastNumber", "(I)I"⟩
abbrev cX6_mostNumber : ByteArray := prog_1_method_36_code
def yX6_mostNumber : MethodName := ⟨RX6, "mostNumber", "(I)I"⟩
abbrev cX6_countFilesOf : ByteArray := prog_1_method_37_code
def yX6_countFilesOf : MethodName := ⟨RX6, "countFilesOf", "(I)I"⟩
abbrev cX6_countEdits : ByteArray := prog_1_method_38_code
def yX6_countEdits : MethodName := ⟨RX6, "countEdits", "()I"⟩
abbrev cX6_developFrame : ByteArray := prog_1_method_39_code
def yX6_developFrame : MethodName := ⟨RX6, "developFrame", "(ILBayerGate$Picture;)V"⟩
abbrev cX6_wordBehind : ByteArray := prog_1_method_40_code
def yX6_wordBehind : MethodName := ⟨RX6, "wordBehind", "(ILBayerGate$EditRow;)I"⟩
abbrev cX6_smallestOf : ByteArray := prog_1_method_41_code
def yX6_smallestOf : MethodName := ⟨RX6, "smallestOf", "(I)I"⟩
abbrev cX6_isIn : ByteArray := prog_1_method_42_code
def yX6_isIn : MethodName := ⟨RX6, "isIn", "(II)Z"⟩
abbrev cX6_putTogether : ByteArray := prog_1_method_43_code
def yX6_putTogether : MethodName := ⟨RX6, "putTogether", "(IILBayerGate$Frame;)V"⟩
def RX7 : String := "BayerGateModel$Frame"
def TX7 : u_T := fun k => match k with
  | 0 => ("BayerGateModel$Frame", "time", "I", true)
  | 1 => ("BayerGateModel$Frame", "gain", "I", true)
  | 2 => ("BayerGateModel$Frame", "raw", "[I", true)
  | 3 => ("BayerGateModel$Frame", "ghosts", "I", false)
  | _ => ("BayerGateModel$Frame", "edits", "Ljava/util/List;", true)
def tyX7 : Nat → FieldType := fun k => match k with
  | 0 => .int
  | 1 => .int
  | 2 => .array .int
  | 3 => .int
  | _ => .object "java/util/List"
abbrev wsX70 : List Cond := u_ws RX7 TX7 5
theorem nmX7 : ∀ a, a < 5 → ∀ b, b < 5 → a ≠ b → (TX7 a).2.1 ≠ (TX7 b).2.1 := by decide +kernel
theorem tyX7_ok : ∀ k, k < 5 → parseFieldDescriptor (TX7 k).2.2.1 = some (tyX7 k) := by decide +kernel
abbrev cX7_init : ByteArray := prog_10_method_1_code
def yX7_init : MethodName := ⟨RX7, "<init>", "(II[I)V"⟩
abbrev cX7_sum : ByteArray := prog_10_method_2_code
def yX7_sum : MethodName := ⟨RX7, "sum", "(I)I"⟩
abbrev cX7_white : ByteArray := prog_10_method_3_code
def yX7_white : MethodName := ⟨RX7, "white", "(I)I"⟩
abbrev cX7_clipped : ByteArray := prog_10_method_4_code
def yX7_clipped : MethodName := ⟨RX7, "clipped", "()I"⟩
abbrev cX7_sharp : ByteArray := prog_10_method_5_code
def yX7_sharp : MethodName := ⟨RX7, "sharp", "()I"⟩
abbrev cX7_zone : ByteArray := prog_10_method_6_code
def yX7_zone : MethodName := ⟨RX7, "zone", "(I)D"⟩
abbrev cX7_meter : ByteArray := prog_10_method_7_code
def yX7_meter : MethodName := ⟨RX7, "meter", "()D"⟩
def RX8 : String := "BayerGateModel$Saved"
def TX8 : u_T := fun k => match k with
  | 0 => ("BayerGateModel$Saved", "frame", "I", true)
  | 1 => ("BayerGateModel$Saved", "version", "I", true)
  | _ => ("BayerGateModel$Saved", "edits", "Ljava/util/List;", true)
def tyX8 : Nat → FieldType := fun k => match k with
  | 0 => .int
  | 1 => .int
  | _ => .object "java/util/List"
abbrev wsX80 : List Cond := u_ws RX8 TX8 3
theorem nmX8 : ∀ a, a < 3 → ∀ b, b < 3 → a ≠ b → (TX8 a).2.1 ≠ (TX8 b).2.1 := by decide +kernel
theorem tyX8_ok : ∀ k, k < 3 → parseFieldDescriptor (TX8 k).2.2.1 = some (tyX8 k) := by decide +kernel
abbrev cX8_init : ByteArray := prog_11_method_1_code
def yX8_init : MethodName := ⟨RX8, "<init>", "(II)V"⟩
def RX9 : String := "BayerGateModel"
def TX9 : u_T := fun k => match k with
  | 0 => ("BayerGateModel", "thrown", "I", false)
  | 1 => ("BayerGateModel", "scene", "[I", true)
  | 2 => ("BayerGateModel", "quarters", "[I", true)
  | 3 => ("BayerGateModel", "how", "[I", true)
  | 4 => ("BayerGateModel", "isMapped", "[Z", true)
  | 5 => ("BayerGateModel", "draw", "I", false)
  | 6 => ("BayerGateModel", "frames", "Ljava/util/List;", true)
  | _ => ("BayerGateModel", "files", "Ljava/util/List;", true)
def tyX9 : Nat → FieldType := fun k => match k with
  | 0 => .int
  | 1 => .array .int
  | 2 => .array .int
  | 3 => .array .int
  | 4 => .array .boolean
  | 5 => .int
  | 6 => .object "java/util/List"
  | _ => .object "java/util/List"
abbrev wsX90 : List Cond := u_ws RX9 TX9 8
theorem nmX9 : ∀ a, a < 8 → ∀ b, b < 8 → a ≠ b → (TX9 a).2.1 ≠ (TX9 b).2.1 := by decide +kernel
theorem tyX9_ok : ∀ k, k < 8 → parseFieldDescriptor (TX9 k).2.2.1 = some (tyX9 k) := by decide +kernel
abbrev cX9_init : ByteArray := prog_9_method_1_code
def yX9_init : MethodName := ⟨RX9, "<init>", "()V"⟩
abbrev cX9_thrown : ByteArray := prog_9_method_2_code
def yX9_thrown : MethodName := ⟨RX9, "thrown", "()I"⟩
abbrev cX9_no : ByteArray := prog_9_method_3_code
def yX9_no : MethodName := ⟨RX9, "no", "(I)I"⟩
abbrev cX9_in : ByteArray := prog_9_method_4_code
def yX9_in : MethodName := ⟨RX9, "in", "(III)Z"⟩
abbrev cX9_isPlace : ByteArray := prog_9_method_5_code
def yX9_isPlace : MethodName := ⟨RX9, "isPlace", "(II)Z"⟩
abbrev cX9_at : ByteArray := prog_9_method_6_code
def yX9_at : MethodName := ⟨RX9, "at", "(II)I"⟩
abbrev cX9_colour : ByteArray := prog_9_method_7_code
def yX9_colour : MethodName := ⟨RX9, "colour", "(I)I"⟩
abbrev cX9_isFrame : ByteArray := prog_9_method_8_code
def yX9_isFrame : MethodName := ⟨RX9, "isFrame", "(I)Z"⟩
abbrev cX9_paint : ByteArray := prog_9_method_9_code
def yX9_paint : MethodName := ⟨RX9, "paint", "(IIIII)I"⟩
abbrev cX9_lamp : ByteArray := prog_9_method_10_code
def yX9_lamp : MethodName := ⟨RX9, "lamp", "(III)I"⟩
abbrev cX9_spoil : ByteArray := prog_9_method_11_code
def yX9_spoil : MethodName := ⟨RX9, "spoil", "(III)I"⟩
abbrev cX9_mapped : ByteArray := prog_9_method_12_code
def yX9_mapped : MethodName := ⟨RX9, "mapped", "()I"⟩
abbrev cX9_map : ByteArray := prog_9_method_13_code
def yX9_map : MethodName := ⟨RX9, "map", "(IIZ)I"⟩
abbrev cX9_taken : ByteArray := prog_9_method_14_code
def yX9_taken : MethodName := ⟨RX9, "taken", "(IIZ)LBayerGateModel$Frame;"⟩
abbrev cX9_take : ByteArray := prog_9_method_15_code
def yX9_take : MethodName := ⟨RX9, "take", "(II)I"⟩
abbrev cX9_merge : ByteArray := prog_9_method_16_code
def yX9_merge : MethodName := ⟨RX9, "merge", "(II)I"⟩
abbrev cX9_canBe : ByteArray := prog_9_method_17_code
def yX9_canBe : MethodName := ⟨RX9, "canBe", "(II)Z"⟩
abbrev cX9_edit : ByteArray := prog_9_method_18_code
def yX9_edit : MethodName := ⟨RX9, "edit", "(III)I"⟩
abbrev cX9_undo : ByteArray := prog_9_method_19_code
def yX9_undo : MethodName := ⟨RX9, "undo", "(I)I"⟩
abbrev cX9_filesOf : ByteArray := prog_9_method_20_code
def yX9_filesOf : MethodName := ⟨RX9, "filesOf", "(I)I"⟩
abbrev cX9_save : ByteArray := prog_9_method_21_code
def yX9_save : MethodName := ⟨RX9, "save", "(I)I"⟩
abbrev cX9_mended : ByteArray := prog_9_method_22_code
def yX9_mended : MethodName := ⟨RX9, "mended", "([I)[I"⟩
abbrev cX9_has : ByteArray := prog_9_method_23_code
def yX9_has : MethodName := ⟨RX9, "has", "(Ljava/util/List;I)Z"⟩
abbrev cX9_whole : ByteArray := prog_9_method_24_code
def yX9_whole : MethodName := ⟨RX9, "whole", "([I)[F"⟩
abbrev cX9_edited : ByteArray := prog_9_method_25_code
def yX9_edited : MethodName := ⟨RX9, "edited", "(FIII)F"⟩
abbrev cX9_picture : ByteArray := prog_9_method_26_code
def yX9_picture : MethodName := ⟨RX9, "picture", "(LBayerGateModel$Frame;Ljava/util/List;)[F"⟩
abbrev cX9_picture_ : ByteArray := prog_9_method_27_code
def yX9_picture_ : MethodName := ⟨RX9, "picture", "(I)[F"⟩
abbrev cX9_word : ByteArray := prog_9_method_28_code
def yX9_word : MethodName := ⟨RX9, "word", "([F)I"⟩
abbrev cX9_raw : ByteArray := prog_9_method_29_code
def yX9_raw : MethodName := ⟨RX9, "raw", "(III)I"⟩
abbrev cX9_picture__ : ByteArray := prog_9_method_30_code
def yX9_picture__ : MethodName := ⟨RX9, "picture", "(IIII)D"⟩
abbrev cX9_word_ : ByteArray := prog_9_method_31_code
def yX9_word_ : MethodName := ⟨RX9, "word", "(I)I"⟩
abbrev cX9_frameNow : ByteArray := prog_9_method_32_code
def yX9_frameNow : MethodName := ⟨RX9, "frameNow", "(II)I"⟩
abbrev cX9_ofFrame : ByteArray := prog_9_method_33_code
def yX9_ofFrame : MethodName := ⟨RX9, "ofFrame", "(II)I"⟩
abbrev cX9_ofEdit : ByteArray := prog_9_method_34_code
def yX9_ofEdit : MethodName := ⟨RX9, "ofEdit", "(III)I"⟩
abbrev cX9_zone : ByteArray := prog_9_method_35_code
def yX9_zone : MethodName := ⟨RX9, "zone", "(II)D"⟩
abbrev cX9_meter : ByteArray := prog_9_method_36_code
def yX9_meter : MethodName := ⟨RX9, "meter", "(I)D"⟩
abbrev cX9_fileNow : ByteArray := prog_9_method_37_code
def yX9_fileNow : MethodName := ⟨RX9, "fileNow", "(II)I"⟩
abbrev cX9_ofFile : ByteArray := prog_9_method_38_code
def yX9_ofFile : MethodName := ⟨RX9, "ofFile", "(II)I"⟩
abbrev cX9_ofPlace : ByteArray := prog_9_method_39_code
def yX9_ofPlace : MethodName := ⟨RX9, "ofPlace", "(III)I"⟩
abbrev cX9_manyNow : ByteArray := prog_9_method_40_code
def yX9_manyNow : MethodName := ⟨RX9, "manyNow", "(I)I"⟩
abbrev cX9_many : ByteArray := prog_9_method_41_code
def yX9_many : MethodName := ⟨RX9, "many", "(I)I"⟩
abbrev cX9_apart : ByteArray := prog_9_method_42_code
def yX9_apart : MethodName := ⟨RX9, "apart", "(II)D"⟩
abbrev cX9_wouldClip : ByteArray := prog_9_method_43_code
def yX9_wouldClip : MethodName := ⟨RX9, "wouldClip", "(II)I"⟩
abbrev cX9_bestTake : ByteArray := prog_9_method_44_code
def yX9_bestTake : MethodName := ⟨RX9, "bestTake", "(I)I"⟩
abbrev cX9_bestWhite : ByteArray := prog_9_method_45_code
def yX9_bestWhite : MethodName := ⟨RX9, "bestWhite", "(II)I"⟩
abbrev cX9_digest : ByteArray := prog_9_method_46_code
def yX9_digest : MethodName := ⟨RX9, "digest", "()J"⟩
def RJx145de : String := "java/io/Serializable"
def TJx145de : u_T := fun k => match k with
  | _ => ("", "", "", false)
def tyJx145de : Nat → FieldType := fun k => match k with
  | _ => .int
abbrev wsJx145de0 : List Cond := u_ws RJx145de TJx145de 0
theorem nmJx145de : ∀ a, a < 0 → ∀ b, b < 0 → a ≠ b → (TJx145de a).2.1 ≠ (TJx145de b).2.1 := by decide +kernel
theorem tyJx145de_ok : ∀ k, k < 0 → parseFieldDescriptor (TJx145de k).2.2.1 = some (tyJx145de k) := by decide +kernel
def RJx8e188 : String := "java/lang/Cloneable"
def TJx8e188 : u_T := fun k => match k with
  | _ => ("", "", "", false)
def tyJx8e188 : Nat → FieldType := fun k => match k with
  | _ => .int
abbrev wsJx8e1880 : List Cond := u_ws RJx8e188 TJx8e188 0
theorem nmJx8e188 : ∀ a, a < 0 → ∀ b, b < 0 → a ≠ b → (TJx8e188 a).2.1 ≠ (TJx8e188 b).2.1 := by decide +kernel
theorem tyJx8e188_ok : ∀ k, k < 0 → parseFieldDescriptor (TJx8e188 k).2.2.1 = some (tyJx8e188 k) := by decide +kernel
def RJxb160c : String := "java/lang/Comparable"
def TJxb160c : u_T := fun k => match k with
  | _ => ("", "", "", false)
def tyJxb160c : Nat → FieldType := fun k => match k with
  | _ => .int
abbrev wsJxb160c0 : List Cond := u_ws RJxb160c TJxb160c 0
theorem nmJxb160c : ∀ a, a < 0 → ∀ b, b < 0 → a ≠ b → (TJxb160c a).2.1 ≠ (TJxb160c b).2.1 := by decide +kernel
theorem tyJxb160c_ok : ∀ k, k < 0 → parseFieldDescriptor (TJxb160c k).2.2.1 = some (tyJxb160c k) := by decide +kernel
def RJxe99ae : String := "java/lang/Double"
def TJxe99ae : u_T := fun k => match k with
  | _ => ("", "", "", false)
def tyJxe99ae : Nat → FieldType := fun k => match k with
  | _ => .int
abbrev wsJxe99ae0 : List Cond := u_ws RJxe99ae TJxe99ae 0
theorem nmJxe99ae : ∀ a, a < 0 → ∀ b, b < 0 → a ≠ b → (TJxe99ae a).2.1 ≠ (TJxe99ae b).2.1 := by decide +kernel
theorem tyJxe99ae_ok : ∀ k, k < 0 → parseFieldDescriptor (TJxe99ae k).2.2.1 = some (tyJxe99ae k) := by decide +kernel
def RJxf58ca : String := "java/lang/Float"
def TJxf58ca : u_T := fun k => match k with
  | _ => ("", "", "", false)
def tyJxf58ca : Nat → FieldType := fun k => match k with
  | _ => .int
abbrev wsJxf58ca0 : List Cond := u_ws RJxf58ca TJxf58ca 0
theorem nmJxf58ca : ∀ a, a < 0 → ∀ b, b < 0 → a ≠ b → (TJxf58ca a).2.1 ≠ (TJxf58ca b).2.1 := by decide +kernel
theorem tyJxf58ca_ok : ∀ k, k < 0 → parseFieldDescriptor (TJxf58ca k).2.2.1 = some (tyJxf58ca k) := by decide +kernel
def RJ6 : String := "java/lang/Integer"
def TJ6 : u_T := fun k => match k with
  | _ => ("", "", "", false)
def tyJ6 : Nat → FieldType := fun k => match k with
  | _ => .int
abbrev wsJ60 : List Cond := u_ws RJ6 TJ6 0
theorem nmJ6 : ∀ a, a < 0 → ∀ b, b < 0 → a ≠ b → (TJ6 a).2.1 ≠ (TJ6 b).2.1 := by decide +kernel
theorem tyJ6_ok : ∀ k, k < 0 → parseFieldDescriptor (TJ6 k).2.2.1 = some (tyJ6 k) := by decide +kernel
abbrev cJ6_bitCount_0f7a4 : ByteArray := prog_21_method_49_code
def yJ6_bitCount_0f7a4 : MethodName := ⟨RJ6, "bitCount", "(I)I"⟩
def RJxab1ab : String := "java/lang/Iterable"
def TJxab1ab : u_T := fun k => match k with
  | _ => ("", "", "", false)
def tyJxab1ab : Nat → FieldType := fun k => match k with
  | _ => .int
abbrev wsJxab1ab0 : List Cond := u_ws RJxab1ab TJxab1ab 0
theorem nmJxab1ab : ∀ a, a < 0 → ∀ b, b < 0 → a ≠ b → (TJxab1ab a).2.1 ≠ (TJxab1ab b).2.1 := by decide +kernel
theorem tyJxab1ab_ok : ∀ k, k < 0 → parseFieldDescriptor (TJxab1ab k).2.2.1 = some (tyJxab1ab k) := by decide +kernel
def RJ9 : String := "java/lang/Math"
def TJ9 : u_T := fun k => match k with
  | _ => ("", "", "", false)
def tyJ9 : Nat → FieldType := fun k => match k with
  | _ => .int
abbrev wsJ90 : List Cond := u_ws RJ9 TJ9 0
theorem nmJ9 : ∀ a, a < 0 → ∀ b, b < 0 → a ≠ b → (TJ9 a).2.1 ≠ (TJ9 b).2.1 := by decide +kernel
theorem tyJ9_ok : ∀ k, k < 0 → parseFieldDescriptor (TJ9 k).2.2.1 = some (tyJ9 k) := by decide +kernel
abbrev cJ9_abs_0f7a4 : ByteArray := prog_23_method_59_code
def yJ9_abs_0f7a4 : MethodName := ⟨RJ9, "abs", "(I)I"⟩
abbrev cJ9_abs_f6c48 : ByteArray := prog_23_method_63_code
def yJ9_abs_f6c48 : MethodName := ⟨RJ9, "abs", "(F)F"⟩
abbrev cJ9_abs_294c1 : ByteArray := prog_23_method_64_code
def yJ9_abs_294c1 : MethodName := ⟨RJ9, "abs", "(D)D"⟩
abbrev cJ9_max_7cf53 : ByteArray := prog_23_method_65_code
def yJ9_max_7cf53 : MethodName := ⟨RJ9, "max", "(II)I"⟩
abbrev cJ9_max_e70c8 : ByteArray := prog_23_method_67_code
def yJ9_max_e70c8 : MethodName := ⟨RJ9, "max", "(FF)F"⟩
abbrev cJ9_min_7cf53 : ByteArray := prog_23_method_69_code
def yJ9_min_7cf53 : MethodName := ⟨RJ9, "min", "(II)I"⟩
abbrev cJ9_min_e70c8 : ByteArray := prog_23_method_71_code
def yJ9_min_e70c8 : MethodName := ⟨RJ9, "min", "(FF)F"⟩
def RJxd2413 : String := "java/lang/Number"
def TJxd2413 : u_T := fun k => match k with
  | _ => ("", "", "", false)
def tyJxd2413 : Nat → FieldType := fun k => match k with
  | _ => .int
abbrev wsJxd24130 : List Cond := u_ws RJxd2413 TJxd2413 0
theorem nmJxd2413 : ∀ a, a < 0 → ∀ b, b < 0 → a ≠ b → (TJxd2413 a).2.1 ≠ (TJxd2413 b).2.1 := by decide +kernel
theorem tyJxd2413_ok : ∀ k, k < 0 → parseFieldDescriptor (TJxd2413 k).2.2.1 = some (tyJxd2413 k) := by decide +kernel
def RJ0 : String := "java/lang/String"
def TJ0 : u_T := fun k => match k with
  | _ => ("", "", "", false)
def tyJ0 : Nat → FieldType := fun k => match k with
  | _ => .int
abbrev wsJ00 : List Cond := u_ws RJ0 TJ0 0
theorem nmJ0 : ∀ a, a < 0 → ∀ b, b < 0 → a ≠ b → (TJ0 a).2.1 ≠ (TJ0 b).2.1 := by decide +kernel
theorem tyJ0_ok : ∀ k, k < 0 → parseFieldDescriptor (TJ0 k).2.2.1 = some (tyJ0 k) := by decide +kernel
def RJ10 : String := "java/lang/System"
def TJ10 : u_T := fun k => match k with
  | _ => ("", "", "", false)
def tyJ10 : Nat → FieldType := fun k => match k with
  | _ => .int
abbrev wsJ100 : List Cond := u_ws RJ10 TJ10 0
theorem nmJ10 : ∀ a, a < 0 → ∀ b, b < 0 → a ≠ b → (TJ10 a).2.1 ≠ (TJ10 b).2.1 := by decide +kernel
theorem tyJ10_ok : ∀ k, k < 0 → parseFieldDescriptor (TJ10 k).2.2.1 = some (tyJ10 k) := by decide +kernel
def RJxfd54e : String := "java/lang/constant/Constable"
def TJxfd54e : u_T := fun k => match k with
  | _ => ("", "", "", false)
def tyJxfd54e : Nat → FieldType := fun k => match k with
  | _ => .int
abbrev wsJxfd54e0 : List Cond := u_ws RJxfd54e TJxfd54e 0
theorem nmJxfd54e : ∀ a, a < 0 → ∀ b, b < 0 → a ≠ b → (TJxfd54e a).2.1 ≠ (TJxfd54e b).2.1 := by decide +kernel
theorem tyJxfd54e_ok : ∀ k, k < 0 → parseFieldDescriptor (TJxfd54e k).2.2.1 = some (tyJxfd54e k) := by decide +kernel
def RJx3cf43 : String := "java/lang/constant/ConstantDesc"
def TJx3cf43 : u_T := fun k => match k with
  | _ => ("", "", "", false)
def tyJx3cf43 : Nat → FieldType := fun k => match k with
  | _ => .int
abbrev wsJx3cf430 : List Cond := u_ws RJx3cf43 TJx3cf43 0
theorem nmJx3cf43 : ∀ a, a < 0 → ∀ b, b < 0 → a ≠ b → (TJx3cf43 a).2.1 ≠ (TJx3cf43 b).2.1 := by decide +kernel
theorem tyJx3cf43_ok : ∀ k, k < 0 → parseFieldDescriptor (TJx3cf43 k).2.2.1 = some (tyJx3cf43 k) := by decide +kernel
def RJxa1e45 : String := "java/util/AbstractCollection"
def TJxa1e45 : u_T := fun k => match k with
  | _ => ("", "", "", false)
def tyJxa1e45 : Nat → FieldType := fun k => match k with
  | _ => .int
abbrev wsJxa1e450 : List Cond := u_ws RJxa1e45 TJxa1e45 0
theorem nmJxa1e45 : ∀ a, a < 0 → ∀ b, b < 0 → a ≠ b → (TJxa1e45 a).2.1 ≠ (TJxa1e45 b).2.1 := by decide +kernel
theorem tyJxa1e45_ok : ∀ k, k < 0 → parseFieldDescriptor (TJxa1e45 k).2.2.1 = some (tyJxa1e45 k) := by decide +kernel
abbrev cJxa1e45_init_da8c8 : ByteArray := prog_31_method_1_code
def yJxa1e45_init_da8c8 : MethodName := ⟨RJxa1e45, "<init>", "()V"⟩
def RJxc12de : String := "java/util/AbstractList"
def TJxc12de : u_T := fun k => match k with
  | _ => ("", "", "", false)
def tyJxc12de : Nat → FieldType := fun k => match k with
  | _ => .int
abbrev wsJxc12de0 : List Cond := u_ws RJxc12de TJxc12de 0
theorem nmJxc12de : ∀ a, a < 0 → ∀ b, b < 0 → a ≠ b → (TJxc12de a).2.1 ≠ (TJxc12de b).2.1 := by decide +kernel
theorem tyJxc12de_ok : ∀ k, k < 0 → parseFieldDescriptor (TJxc12de k).2.2.1 = some (tyJxc12de k) := by decide +kernel
abbrev cJxc12de_init_da8c8 : ByteArray := prog_32_method_1_code
def yJxc12de_init_da8c8 : MethodName := ⟨RJxc12de, "<init>", "()V"⟩
def RJx4a65c : String := "java/util/ArrayList"
def TJx4a65c : u_T := fun k => match k with
  | 0 => ("java/util/AbstractList", "modCount", "I", false)
  | 1 => ("java/util/ArrayList", "elementData", "[Ljava/lang/Object;", false)
  | _ => ("java/util/ArrayList", "size", "I", false)
def tyJx4a65c : Nat → FieldType := fun k => match k with
  | 0 => .int
  | 1 => .array (.object "java/lang/Object")
  | _ => .int
abbrev wsJx4a65c0 : List Cond := u_ws RJx4a65c TJx4a65c 3
theorem nmJx4a65c : ∀ a, a < 3 → ∀ b, b < 3 → a ≠ b → (TJx4a65c a).2.1 ≠ (TJx4a65c b).2.1 := by decide +kernel
theorem tyJx4a65c_ok : ∀ k, k < 3 → parseFieldDescriptor (TJx4a65c k).2.2.1 = some (tyJx4a65c k) := by decide +kernel
abbrev cJx4a65c_init_da8c8 : ByteArray := prog_33_method_2_code
def yJx4a65c_init_da8c8 : MethodName := ⟨RJx4a65c, "<init>", "()V"⟩
abbrev cJx4a65c_grow_92f84 : ByteArray := prog_33_method_6_code
def yJx4a65c_grow_92f84 : MethodName := ⟨RJx4a65c, "grow", "(I)[Ljava/lang/Object;"⟩
abbrev cJx4a65c_grow_d5877 : ByteArray := prog_33_method_7_code
def yJx4a65c_grow_d5877 : MethodName := ⟨RJx4a65c, "grow", "()[Ljava/lang/Object;"⟩
abbrev cJx4a65c_size_8abf5 : ByteArray := prog_33_method_8_code
def yJx4a65c_size_8abf5 : MethodName := ⟨RJx4a65c, "size", "()I"⟩
abbrev cJx4a65c_elementData_915e3 : ByteArray := prog_33_method_18_code
def yJx4a65c_elementData_915e3 : MethodName := ⟨RJx4a65c, "elementData", "(I)Ljava/lang/Object;"⟩
abbrev cJx4a65c_get_915e3 : ByteArray := prog_33_method_20_code
def yJx4a65c_get_915e3 : MethodName := ⟨RJx4a65c, "get", "(I)Ljava/lang/Object;"⟩
abbrev cJx4a65c_add_72be8 : ByteArray := prog_33_method_24_code
def yJx4a65c_add_72be8 : MethodName := ⟨RJx4a65c, "add", "(Ljava/lang/Object;[Ljava/lang/Object;I)V"⟩
abbrev cJx4a65c_add_9ea2d : ByteArray := prog_33_method_25_code
def yJx4a65c_add_9ea2d : MethodName := ⟨RJx4a65c, "add", "(Ljava/lang/Object;)Z"⟩
abbrev cJx4a65c_remove_915e3 : ByteArray := prog_33_method_29_code
def yJx4a65c_remove_915e3 : MethodName := ⟨RJx4a65c, "remove", "(I)Ljava/lang/Object;"⟩
abbrev cJx4a65c_fastRemove_b59b0 : ByteArray := prog_33_method_39_code
def yJx4a65c_fastRemove_b59b0 : MethodName := ⟨RJx4a65c, "fastRemove", "([Ljava/lang/Object;I)V"⟩
def RJ7 : String := "java/util/Arrays"
def TJ7 : u_T := fun k => match k with
  | _ => ("", "", "", false)
def tyJ7 : Nat → FieldType := fun k => match k with
  | _ => .int
abbrev wsJ70 : List Cond := u_ws RJ7 TJ7 0
theorem nmJ7 : ∀ a, a < 0 → ∀ b, b < 0 → a ≠ b → (TJ7 a).2.1 ≠ (TJ7 b).2.1 := by decide +kernel
theorem tyJ7_ok : ∀ k, k < 0 → parseFieldDescriptor (TJ7 k).2.2.1 = some (tyJ7 k) := by decide +kernel
abbrev cJ7_copyOf_1904c : ByteArray := prog_34_method_119_code
def yJ7_copyOf_1904c : MethodName := ⟨RJ7, "copyOf", "([Ljava/lang/Object;I)[Ljava/lang/Object;"⟩
abbrev cJ7_copyOf_6403c : ByteArray := prog_34_method_120_code
def yJ7_copyOf_6403c : MethodName := ⟨RJ7, "copyOf", "([Ljava/lang/Object;ILjava/lang/Class;)[Ljava/lang/Object;"⟩
def RJx5ef63 : String := "java/util/Collection"
def TJx5ef63 : u_T := fun k => match k with
  | _ => ("", "", "", false)
def tyJx5ef63 : Nat → FieldType := fun k => match k with
  | _ => .int
abbrev wsJx5ef630 : List Cond := u_ws RJx5ef63 TJx5ef63 0
theorem nmJx5ef63 : ∀ a, a < 0 → ∀ b, b < 0 → a ≠ b → (TJx5ef63 a).2.1 ≠ (TJx5ef63 b).2.1 := by decide +kernel
theorem tyJx5ef63_ok : ∀ k, k < 0 → parseFieldDescriptor (TJx5ef63 k).2.2.1 = some (tyJx5ef63 k) := by decide +kernel
def RJxbd725 : String := "java/util/List"
def TJxbd725 : u_T := fun k => match k with
  | _ => ("", "", "", false)
def tyJxbd725 : Nat → FieldType := fun k => match k with
  | _ => .int
abbrev wsJxbd7250 : List Cond := u_ws RJxbd725 TJxbd725 0
theorem nmJxbd725 : ∀ a, a < 0 → ∀ b, b < 0 → a ≠ b → (TJxbd725 a).2.1 ≠ (TJxbd725 b).2.1 := by decide +kernel
theorem tyJxbd725_ok : ∀ k, k < 0 → parseFieldDescriptor (TJxbd725 k).2.2.1 = some (tyJxbd725 k) := by decide +kernel
def RJ15 : String := "java/util/Objects"
def TJ15 : u_T := fun k => match k with
  | _ => ("", "", "", false)
def tyJ15 : Nat → FieldType := fun k => match k with
  | _ => .int
abbrev wsJ150 : List Cond := u_ws RJ15 TJ15 0
theorem nmJ15 : ∀ a, a < 0 → ∀ b, b < 0 → a ≠ b → (TJ15 a).2.1 ≠ (TJ15 b).2.1 := by decide +kernel
theorem tyJ15_ok : ∀ k, k < 0 → parseFieldDescriptor (TJ15 k).2.2.1 = some (tyJ15 k) := by decide +kernel
abbrev cJ15_checkIndex_7cf53 : ByteArray := prog_37_method_17_code
def yJ15_checkIndex_7cf53 : MethodName := ⟨RJ15, "checkIndex", "(II)I"⟩
def RJxf0a74 : String := "java/util/RandomAccess"
def TJxf0a74 : u_T := fun k => match k with
  | _ => ("", "", "", false)
def tyJxf0a74 : Nat → FieldType := fun k => match k with
  | _ => .int
abbrev wsJxf0a740 : List Cond := u_ws RJxf0a74 TJxf0a74 0
theorem nmJxf0a74 : ∀ a, a < 0 → ∀ b, b < 0 → a ≠ b → (TJxf0a74 a).2.1 ≠ (TJxf0a74 b).2.1 := by decide +kernel
theorem tyJxf0a74_ok : ∀ k, k < 0 → parseFieldDescriptor (TJxf0a74 k).2.2.1 = some (tyJxf0a74 k) := by decide +kernel
def RJxa66e6 : String := "java/util/SequencedCollection"
def TJxa66e6 : u_T := fun k => match k with
  | _ => ("", "", "", false)
def tyJxa66e6 : Nat → FieldType := fun k => match k with
  | _ => .int
abbrev wsJxa66e60 : List Cond := u_ws RJxa66e6 TJxa66e6 0
theorem nmJxa66e6 : ∀ a, a < 0 → ∀ b, b < 0 → a ≠ b → (TJxa66e6 a).2.1 ≠ (TJxa66e6 b).2.1 := by decide +kernel
theorem tyJxa66e6_ok : ∀ k, k < 0 → parseFieldDescriptor (TJxa66e6 k).2.2.1 = some (tyJxa66e6 k) := by decide +kernel
def RJ8 : String := "jdk/internal/util/ArraysSupport"
def TJ8 : u_T := fun k => match k with
  | _ => ("", "", "", false)
def tyJ8 : Nat → FieldType := fun k => match k with
  | _ => .int
abbrev wsJ80 : List Cond := u_ws RJ8 TJ8 0
theorem nmJ8 : ∀ a, a < 0 → ∀ b, b < 0 → a ≠ b → (TJ8 a).2.1 ≠ (TJ8 b).2.1 := by decide +kernel
theorem tyJ8_ok : ∀ k, k < 0 → parseFieldDescriptor (TJ8 k).2.2.1 = some (tyJ8 k) := by decide +kernel
abbrev cJ8_newLength_cabcc : ByteArray := prog_40_method_27_code
def yJ8_newLength_cabcc : MethodName := ⟨RJ8, "newLength", "(III)I"⟩
abbrev cJ8_hugeLength_7cf53 : ByteArray := prog_40_method_28_code
def yJ8_hugeLength_7cf53 : MethodName := ⟨RJ8, "hugeLength", "(II)I"⟩
def RJ3 : String := "jdk/internal/util/Preconditions"
def TJ3 : u_T := fun k => match k with
  | _ => ("", "", "", false)
def tyJ3 : Nat → FieldType := fun k => match k with
  | _ => .int
abbrev wsJ30 : List Cond := u_ws RJ3 TJ3 0
theorem nmJ3 : ∀ a, a < 0 → ∀ b, b < 0 → a ≠ b → (TJ3 a).2.1 ≠ (TJ3 b).2.1 := by decide +kernel
theorem tyJ3_ok : ∀ k, k < 0 → parseFieldDescriptor (TJ3 k).2.2.1 = some (tyJ3 k) := by decide +kernel
abbrev cJ3_checkIndex_8e157 : ByteArray := prog_41_method_11_code
def yJ3_checkIndex_8e157 : MethodName := ⟨RJ3, "checkIndex", "(IILjava/util/function/BiFunction;)I"⟩
def RL : String := "BayerGateLaw"
abbrev cL_paint : ByteArray := method_3_code
def yL_paint : MethodName := ⟨RL, "paint", "(LBayerGate;IIIII[J)I"⟩
abbrev cL_lamp : ByteArray := method_4_code
def yL_lamp : MethodName := ⟨RL, "lamp", "(LBayerGate;III[J)I"⟩
abbrev cL_spoil : ByteArray := method_5_code
def yL_spoil : MethodName := ⟨RL, "spoil", "(LBayerGate;III[J)I"⟩
abbrev cL_map : ByteArray := method_6_code
def yL_map : MethodName := ⟨RL, "map", "(LBayerGate;IIZ[J)I"⟩
abbrev cL_take : ByteArray := method_7_code
def yL_take : MethodName := ⟨RL, "take", "(LBayerGate;II[J)I"⟩
abbrev cL_merge : ByteArray := method_8_code
def yL_merge : MethodName := ⟨RL, "merge", "(LBayerGate;II[J)I"⟩
abbrev cL_edit : ByteArray := method_9_code
def yL_edit : MethodName := ⟨RL, "edit", "(LBayerGate;III[J)I"⟩
abbrev cL_undo : ByteArray := method_10_code
def yL_undo : MethodName := ⟨RL, "undo", "(LBayerGate;I[J)I"⟩
abbrev cL_save : ByteArray := method_11_code
def yL_save : MethodName := ⟨RL, "save", "(LBayerGate;I[J)I"⟩
abbrev cL_raw : ByteArray := method_12_code
def yL_raw : MethodName := ⟨RL, "raw", "(LBayerGate;III[J)I"⟩
abbrev cL_picture : ByteArray := method_13_code
def yL_picture : MethodName := ⟨RL, "picture", "(LBayerGate;IIII[D)I"⟩
abbrev cL_word : ByteArray := method_14_code
def yL_word : MethodName := ⟨RL, "word", "(LBayerGate;I[J)I"⟩
abbrev cL_ofFrame : ByteArray := method_15_code
def yL_ofFrame : MethodName := ⟨RL, "ofFrame", "(LBayerGate;II[J)I"⟩
abbrev cL_ofEdit : ByteArray := method_16_code
def yL_ofEdit : MethodName := ⟨RL, "ofEdit", "(LBayerGate;III[J)I"⟩
abbrev cL_zone : ByteArray := method_17_code
def yL_zone : MethodName := ⟨RL, "zone", "(LBayerGate;II[D)I"⟩
abbrev cL_meter : ByteArray := method_18_code
def yL_meter : MethodName := ⟨RL, "meter", "(LBayerGate;I[D)I"⟩
abbrev cL_ofFile : ByteArray := method_19_code
def yL_ofFile : MethodName := ⟨RL, "ofFile", "(LBayerGate;II[J)I"⟩
abbrev cL_ofPlace : ByteArray := method_20_code
def yL_ofPlace : MethodName := ⟨RL, "ofPlace", "(LBayerGate;III[J)I"⟩
abbrev cL_many : ByteArray := method_21_code
def yL_many : MethodName := ⟨RL, "many", "(LBayerGate;I[J)I"⟩
abbrev cL_apart : ByteArray := method_22_code
def yL_apart : MethodName := ⟨RL, "apart", "(LBayerGate;II[D)I"⟩
abbrev cL_wouldClip : ByteArray := method_23_code
def yL_wouldClip : MethodName := ⟨RL, "wouldClip", "(LBayerGate;II[J)I"⟩
abbrev cL_bestTake : ByteArray := method_24_code
def yL_bestTake : MethodName := ⟨RL, "bestTake", "(LBayerGate;I[J)I"⟩
abbrev cL_bestWhite : ByteArray := method_25_code
def yL_bestWhite : MethodName := ⟨RL, "bestWhite", "(LBayerGate;II[J)I"⟩
abbrev cL_law : ByteArray := code
def yL_law : MethodName := ⟨RL, "law", "([I)Z"⟩
def wsX0_init : List Cond := .code yX0_init cX0_init 1 none :: ([.methodLink RX0 3 objectInit, .instanceMethod objectInit, .code objectInit ⟨#[0xb1]⟩ 1 none, .arrayClass .int, .fieldLink RX0 9 "BayerGate$EditRow" "kinds" "[I", .fieldLink RX0 15 "BayerGate$EditRow" "numbers" "[I", .fieldLink RX0 18 "BayerGate$EditRow" "length" "I"] ++ wsX00)
def wsX0_count : List Cond := .code yX0_count cX0_count 1 (some .int) :: ([.fieldLink RX0 18 "BayerGate$EditRow" "length" "I"] ++ wsX00)
def wsX0_append : List Cond := .code yX0_append cX0_append 3 none :: ([.fieldLink RX0 18 "BayerGate$EditRow" "length" "I", .fieldLink RX0 9 "BayerGate$EditRow" "kinds" "[I", .fieldLink RX0 15 "BayerGate$EditRow" "numbers" "[I"] ++ wsX00)
def wsX0_takeBack : List Cond := .code yX0_takeBack cX0_takeBack 1 (some .int) :: ([.fieldLink RX0 18 "BayerGate$EditRow" "length" "I", .fieldLink RX0 9 "BayerGate$EditRow" "kinds" "[I"] ++ wsX00)
def wsX0_copyFrom : List Cond := .code yX0_copyFrom cX0_copyFrom 3 none :: ([.fieldLink RX0 9 "BayerGate$EditRow" "kinds" "[I", .fieldLink RX0 15 "BayerGate$EditRow" "numbers" "[I", .fieldLink RX0 18 "BayerGate$EditRow" "length" "I"] ++ wsX00)
def wsX0_hasMend : List Cond := .code yX0_hasMend cX0_hasMend 2 (some .boolean) :: ([.fieldLink RX0 18 "BayerGate$EditRow" "length" "I", .fieldLink RX0 9 "BayerGate$EditRow" "kinds" "[I"] ++ wsX00)
def wsX1_init : List Cond := .code yX1_init cX1_init 1 none :: ([.methodLink RX1 3 objectInit, .instanceMethod objectInit, .code objectInit ⟨#[0xb1]⟩ 1 none, .arrayClass .int, .fieldLink RX1 9 "BayerGate$Frame" "rawRow" "[I", .classLink RX1 15 RX0, .instantiable RX0 3, .initialized RX0, .fieldLink RX1 18 "BayerGate$Frame" "edits" "LBayerGate$EditRow;", .fieldLink RX1 22 "BayerGate$Frame" "time" "I", .fieldLink RX1 26 "BayerGate$Frame" "gain" "I", .fieldLink RX1 29 "BayerGate$Frame" "ghosts" "I", .instanceMethod yX0_init, .code yX0_init cX0_init 1 none, .methodLink RX0 3 objectInit, .fieldLink RX0 9 "BayerGate$EditRow" "kinds" "[I", .fieldLink RX0 15 "BayerGate$EditRow" "numbers" "[I", .fieldLink RX0 18 "BayerGate$EditRow" "length" "I"] ++ wsX10 ++ wsX00)
def wsX1_countClipped : List Cond := .code yX1_countClipped cX1_countClipped 3 (some .int) :: ([.fieldLink RX1 9 "BayerGate$Frame" "rawRow" "[I"] ++ wsX10)
def wsX6_colourSeen : List Cond := .code yX6_colourSeen cX6_colourSeen 2 (some .int) :: ([])
def wsX6_placeOf : List Cond := .code yX6_placeOf cX6_placeOf 2 (some .int) :: ([])
def wsX1_sharpness : List Cond := .code yX1_sharpness cX1_sharpness 4 (some .int) :: ([.fieldLink RX1 9 "BayerGate$Frame" "rawRow" "[I", .methodLink RX1 39 Lib.Math.abs.name, .static Lib.Math.abs.name, .initialized "java/lang/Math", .code Lib.Math.abs.name Lib.Math.abs.code 1 (some .int), .static yX6_colourSeen, .initialized RX6, .code yX6_colourSeen cX6_colourSeen 2 (some .int), .static yX6_placeOf, .code yX6_placeOf cX6_placeOf 2 (some .int)] ++ wsX10)
def wsX1_sumSeen : List Cond := .code yX1_sumSeen cX1_sumSeen 5 (some .int) :: ([.fieldLink RX1 9 "BayerGate$Frame" "rawRow" "[I", .static yX6_colourSeen, .initialized RX6, .code yX6_colourSeen cX6_colourSeen 2 (some .int), .static yX6_placeOf, .code yX6_placeOf cX6_placeOf 2 (some .int)] ++ wsX10)
def wsX1_whiteOf : List Cond := .code yX1_whiteOf cX1_whiteOf 3 (some .int) :: ([.methodLink RX1 48 Lib.Math.min.name, .static Lib.Math.min.name, .initialized "java/lang/Math", .code Lib.Math.min.name Lib.Math.min.code 2 (some .int), .methodLink RX1 51 Lib.Math.max.name, .static Lib.Math.max.name, .code Lib.Math.max.name Lib.Math.max.code 2 (some .int), .methodLink RX1 45 yX1_sumSeen, .instanceMethod yX1_sumSeen, .selects RX1 yX1_sumSeen yX1_sumSeen, .initialized RX1, .code yX1_sumSeen cX1_sumSeen 5 (some .int), .fieldLink RX1 9 "BayerGate$Frame" "rawRow" "[I", .static yX6_colourSeen, .initialized RX6, .code yX6_colourSeen cX6_colourSeen 2 (some .int), .static yX6_placeOf, .code yX6_placeOf cX6_placeOf 2 (some .int)] ++ wsX10)
def wsX1_meanOfZone : List Cond := .code yX1_meanOfZone cX1_meanOfZone 7 (some .double) :: ([.fieldLink RX1 9 "BayerGate$Frame" "rawRow" "[I", .constantDouble RX1 54 (4620693217682128896), .static yX6_colourSeen, .initialized RX6, .code yX6_colourSeen cX6_colourSeen 2 (some .int), .static yX6_placeOf, .code yX6_placeOf cX6_placeOf 2 (some .int)] ++ wsX10)
def wsX1_meanOfZones : List Cond := .code yX1_meanOfZones cX1_meanOfZones 4 (some .double) :: ([.constantDouble RX1 60 (4616189618054758400), .methodLink RX1 56 yX1_meanOfZone, .instanceMethod yX1_meanOfZone, .selects RX1 yX1_meanOfZone yX1_meanOfZone, .initialized RX1, .code yX1_meanOfZone cX1_meanOfZone 7 (some .double), .fieldLink RX1 9 "BayerGate$Frame" "rawRow" "[I", .constantDouble RX1 54 (4620693217682128896), .static yX6_colourSeen, .initialized RX6, .code yX6_colourSeen cX6_colourSeen 2 (some .int), .static yX6_placeOf, .code yX6_placeOf cX6_placeOf 2 (some .int)] ++ wsX10)
def wsX2_init : List Cond := .code yX2_init cX2_init 1 none :: ([.methodLink RX2 3 objectInit, .instanceMethod objectInit, .code objectInit ⟨#[0xb1]⟩ 1 none, .arrayClass .float, .fieldLink RX2 9 "BayerGate$Picture" "numbers" "[F", .arrayClass .int, .fieldLink RX2 15 "BayerGate$Picture" "mended" "[I"] ++ wsX20)
def wsX2_indexOf : List Cond := .code yX2_indexOf cX2_indexOf 2 (some .int) :: ([])
def wsX6_isPlace : List Cond := .code yX6_isPlace cX6_isPlace 2 (some .boolean) :: ([])
def wsX2_mendedAt : List Cond := .code yX2_mendedAt cX2_mendedAt 10 (some .int) :: ([.static yX6_isPlace, .initialized RX6, .code yX6_isPlace cX6_isPlace 2 (some .boolean), .static yX6_placeOf, .code yX6_placeOf cX6_placeOf 2 (some .int)])
def wsX2_mendAll : List Cond := .code yX2_mendAll cX2_mendAll 8 none :: ([.fieldLink RX2 15 "BayerGate$Picture" "mended" "[I", .static yX6_placeOf, .initialized RX6, .code yX6_placeOf cX6_placeOf 2 (some .int), .methodLink RX2 57 yX2_mendedAt, .static yX2_mendedAt, .initialized RX2, .code yX2_mendedAt cX2_mendedAt 10 (some .int), .static yX6_isPlace, .code yX6_isPlace cX6_isPlace 2 (some .boolean)] ++ wsX20)
def wsX2_meanAround : List Cond := .code yX2_meanAround cX2_meanAround 8 (some .float) :: ([.fieldLink RX2 15 "BayerGate$Picture" "mended" "[I", .static yX6_isPlace, .initialized RX6, .code yX6_isPlace cX6_isPlace 2 (some .boolean), .static yX6_colourSeen, .code yX6_colourSeen cX6_colourSeen 2 (some .int), .static yX6_placeOf, .code yX6_placeOf cX6_placeOf 2 (some .int)] ++ wsX20)
def wsX2_makeWhole : List Cond := .code yX2_makeWhole cX2_makeWhole 7 none :: ([.fieldLink RX2 15 "BayerGate$Picture" "mended" "[I", .fieldLink RX2 9 "BayerGate$Picture" "numbers" "[F", .static yX6_placeOf, .initialized RX6, .code yX6_placeOf cX6_placeOf 2 (some .int), .static yX6_colourSeen, .code yX6_colourSeen cX6_colourSeen 2 (some .int), .methodLink RX2 68 yX2_meanAround, .instanceMethod yX2_meanAround, .selects RX2 yX2_meanAround yX2_meanAround, .initialized RX2, .code yX2_meanAround cX2_meanAround 8 (some .float), .static yX6_isPlace, .code yX6_isPlace cX6_isPlace 2 (some .boolean), .methodLink RX2 49 yX2_indexOf, .static yX2_indexOf, .code yX2_indexOf cX2_indexOf 2 (some .int)] ++ wsX20)
def wsX2_darken : List Cond := .code yX2_darken cX2_darken 4 none :: ([.fieldLink RX2 9 "BayerGate$Picture" "numbers" "[F"] ++ wsX20)
def wsX2_scaleColour : List Cond := .code yX2_scaleColour cX2_scaleColour 4 none :: ([.fieldLink RX2 9 "BayerGate$Picture" "numbers" "[F", .methodLink RX2 49 yX2_indexOf, .static yX2_indexOf, .initialized RX2, .code yX2_indexOf cX2_indexOf 2 (some .int)] ++ wsX20)
def wsX2_changeTone : List Cond := .code yX2_changeTone cX2_changeTone 3 none :: ([.fieldLink RX2 9 "BayerGate$Picture" "numbers" "[F", .constantFloat RX2 87 (1056964608), .constantFloat RX2 53 (1132396544)] ++ wsX20)
def wsX2_turnOver : List Cond := .code yX2_turnOver cX2_turnOver 7 none :: ([.fieldLink RX2 9 "BayerGate$Picture" "numbers" "[F", .static yX6_placeOf, .initialized RX6, .code yX6_placeOf cX6_placeOf 2 (some .int), .methodLink RX2 49 yX2_indexOf, .static yX2_indexOf, .initialized RX2, .code yX2_indexOf cX2_indexOf 2 (some .int)] ++ wsX20)
def wsX2_applyEdit_r1 : List Cond := [Cond.constantFloat RX2 76 (1082130432), Cond.methodLink RX2 72 yX2_darken, Cond.instanceMethod yX2_darken, Cond.selects RX2 yX2_darken yX2_darken, Cond.initialized RX2, Cond.code yX2_darken cX2_darken 4 none, Cond.fieldLink RX2 9 "BayerGate$Picture" "numbers" "[F", Cond.methodLink RX2 77 yX2_scaleColour, Cond.instanceMethod yX2_scaleColour, Cond.selects RX2 yX2_scaleColour yX2_scaleColour, Cond.code yX2_scaleColour cX2_scaleColour 4 none, Cond.methodLink RX2 49 yX2_indexOf, Cond.static yX2_indexOf, Cond.code yX2_indexOf cX2_indexOf 2 (some .int), Cond.methodLink RX2 81 yX2_changeTone, Cond.instanceMethod yX2_changeTone, Cond.selects RX2 yX2_changeTone yX2_changeTone, Cond.code yX2_changeTone cX2_changeTone 3 none, Cond.constantFloat RX2 87 (1056964608), Cond.constantFloat RX2 53 (1132396544), Cond.methodLink RX2 84 yX2_turnOver, Cond.instanceMethod yX2_turnOver, Cond.selects RX2 yX2_turnOver yX2_turnOver, Cond.code yX2_turnOver cX2_turnOver 7 none]
def wsX2_applyEdit_r2 : List Cond := [Cond.static yX6_placeOf, Cond.initialized RX6, Cond.code yX6_placeOf cX6_placeOf 2 (some .int)]
def wsX2_applyEdit : List Cond := .code yX2_applyEdit cX2_applyEdit 3 none :: ((wsX2_applyEdit_r1 ++ wsX2_applyEdit_r2) ++ wsX20)
def wsX2_compose_r1 : List Cond := [Cond.methodLink RX2 19 yX0_hasMend, Cond.instanceMethod yX0_hasMend, Cond.selects RX0 yX0_hasMend yX0_hasMend, Cond.initialized RX0, Cond.code yX0_hasMend cX0_hasMend 2 (some .boolean), Cond.fieldLink RX0 18 "BayerGate$EditRow" "length" "I", Cond.fieldLink RX0 9 "BayerGate$EditRow" "kinds" "[I", Cond.methodLink RX2 25 yX2_mendAll, Cond.instanceMethod yX2_mendAll, Cond.selects RX2 yX2_mendAll yX2_mendAll, Cond.initialized RX2, Cond.code yX2_mendAll cX2_mendAll 8 none, Cond.fieldLink RX2 15 "BayerGate$Picture" "mended" "[I", Cond.static yX6_placeOf, Cond.initialized RX6, Cond.code yX6_placeOf cX6_placeOf 2 (some .int), Cond.methodLink RX2 57 yX2_mendedAt, Cond.static yX2_mendedAt, Cond.code yX2_mendedAt cX2_mendedAt 10 (some .int), Cond.static yX6_isPlace, Cond.code yX6_isPlace cX6_isPlace 2 (some .boolean), Cond.methodLink RX2 29 yX2_makeWhole, Cond.instanceMethod yX2_makeWhole, Cond.selects RX2 yX2_makeWhole yX2_makeWhole]
def wsX2_compose_r2 : List Cond := [Cond.code yX2_makeWhole cX2_makeWhole 7 none, Cond.fieldLink RX2 9 "BayerGate$Picture" "numbers" "[F", Cond.static yX6_colourSeen, Cond.code yX6_colourSeen cX6_colourSeen 2 (some .int), Cond.methodLink RX2 68 yX2_meanAround, Cond.instanceMethod yX2_meanAround, Cond.selects RX2 yX2_meanAround yX2_meanAround, Cond.code yX2_meanAround cX2_meanAround 8 (some .float), Cond.methodLink RX2 49 yX2_indexOf, Cond.static yX2_indexOf, Cond.code yX2_indexOf cX2_indexOf 2 (some .int), Cond.methodLink RX2 32 yX0_count, Cond.instanceMethod yX0_count, Cond.selects RX0 yX0_count yX0_count, Cond.code yX0_count cX0_count 1 (some .int), Cond.methodLink RX2 41 yX2_applyEdit, Cond.instanceMethod yX2_applyEdit, Cond.selects RX2 yX2_applyEdit yX2_applyEdit, Cond.code yX2_applyEdit cX2_applyEdit 3 none, Cond.constantFloat RX2 76 (1082130432), Cond.methodLink RX2 72 yX2_darken, Cond.instanceMethod yX2_darken, Cond.selects RX2 yX2_darken yX2_darken, Cond.code yX2_darken cX2_darken 4 none]
def wsX2_compose_r3 : List Cond := [Cond.methodLink RX2 77 yX2_scaleColour, Cond.instanceMethod yX2_scaleColour, Cond.selects RX2 yX2_scaleColour yX2_scaleColour, Cond.code yX2_scaleColour cX2_scaleColour 4 none, Cond.methodLink RX2 81 yX2_changeTone, Cond.instanceMethod yX2_changeTone, Cond.selects RX2 yX2_changeTone yX2_changeTone, Cond.code yX2_changeTone cX2_changeTone 3 none, Cond.constantFloat RX2 87 (1056964608), Cond.constantFloat RX2 53 (1132396544), Cond.methodLink RX2 84 yX2_turnOver, Cond.instanceMethod yX2_turnOver, Cond.selects RX2 yX2_turnOver yX2_turnOver, Cond.code yX2_turnOver cX2_turnOver 7 none]
def wsX2_compose : List Cond := .code yX2_compose cX2_compose 5 none :: ((wsX2_compose_r1 ++ (wsX2_compose_r2 ++ wsX2_compose_r3)) ++ wsX00 ++ wsX20)
def wsX2_bounded : List Cond := .code yX2_bounded cX2_bounded 1 (some .float) :: ([.constantFloat RX2 53 (1132396544)])
def wsX2_bound : List Cond := .code yX2_bound cX2_bound 2 none :: ([.fieldLink RX2 9 "BayerGate$Picture" "numbers" "[F", .methodLink RX2 45 yX2_bounded, .static yX2_bounded, .initialized RX2, .code yX2_bounded cX2_bounded 1 (some .float), .constantFloat RX2 53 (1132396544)] ++ wsX20)
def wsX2_sumUp : List Cond := .code yX2_sumUp cX2_sumUp 3 (some .int) :: ([.fieldLink RX2 9 "BayerGate$Picture" "numbers" "[F"] ++ wsX20)
def wsX2_sumTones : List Cond := .code yX2_sumTones cX2_sumTones 5 (some .int) :: ([.fieldLink RX2 9 "BayerGate$Picture" "numbers" "[F", .methodLink RX2 49 yX2_indexOf, .static yX2_indexOf, .initialized RX2, .code yX2_indexOf cX2_indexOf 2 (some .int), .methodLink RX2 45 yX2_bounded, .static yX2_bounded, .code yX2_bounded cX2_bounded 1 (some .float), .constantFloat RX2 53 (1132396544)] ++ wsX20)
def wsX2_farthestFrom : List Cond := .code yX2_farthestFrom cX2_farthestFrom 5 (some .float) :: ([.fieldLink RX2 9 "BayerGate$Picture" "numbers" "[F"] ++ wsX20)
def wsX3_init : List Cond := .code yX3_init cX3_init 2 none :: ([.methodLink RX3 3 objectInit, .instanceMethod objectInit, .code objectInit ⟨#[0xb1]⟩ 1 none, .arrayClass .int, .fieldLink RX3 9 "BayerGate$Scene" "shades" "[I", .arrayClass .float, .fieldLink RX3 15 "BayerGate$Scene" "factors" "[F", .fieldLink RX3 19 "BayerGate$Scene" "quartersOfGreen" "I"] ++ wsX30)
def wsX3_colourPlace : List Cond := .code yX3_colourPlace cX3_colourPlace 5 none :: ([.fieldLink RX3 9 "BayerGate$Scene" "shades" "[I"] ++ wsX30)
def wsX3_shade : List Cond := .code yX3_shade cX3_shade 3 (some .int) :: ([.fieldLink RX3 9 "BayerGate$Scene" "shades" "[I"] ++ wsX30)
def wsX3_light : List Cond := .code yX3_light cX3_light 4 none :: ([.fieldLink RX3 15 "BayerGate$Scene" "factors" "[F", .constantFloat RX3 23 (1082130432), .fieldLink RX3 19 "BayerGate$Scene" "quartersOfGreen" "I"] ++ wsX30)
def wsX3_greenQuarters : List Cond := .code yX3_greenQuarters cX3_greenQuarters 1 (some .int) :: ([.fieldLink RX3 19 "BayerGate$Scene" "quartersOfGreen" "I"] ++ wsX30)
def wsX3_lightAt : List Cond := .code yX3_lightAt cX3_lightAt 4 (some .float) :: ([.fieldLink RX3 15 "BayerGate$Scene" "factors" "[F", .constantFloat RX3 28 (1098907648), .methodLink RX3 24 yX3_shade, .instanceMethod yX3_shade, .selects RX3 yX3_shade yX3_shade, .initialized RX3, .code yX3_shade cX3_shade 3 (some .int), .fieldLink RX3 9 "BayerGate$Scene" "shades" "[I"] ++ wsX30)
def wsX4_init : List Cond := .code yX4_init cX4_init 1 none :: ([.methodLink RX4 3 objectInit, .instanceMethod objectInit, .code objectInit ⟨#[0xb1]⟩ 1 none, .arrayClass .int, .fieldLink RX4 9 "BayerGate$Sensor" "hows" "[I", .arrayClass .boolean, .fieldLink RX4 15 "BayerGate$Sensor" "mapped" "[Z", .fieldLink RX4 19 "BayerGate$Sensor" "draw" "I"] ++ wsX40)
def wsX4_howIs : List Cond := .code yX4_howIs cX4_howIs 2 (some .int) :: ([.fieldLink RX4 9 "BayerGate$Sensor" "hows" "[I"] ++ wsX40)
def wsX4_setHow : List Cond := .code yX4_setHow cX4_setHow 3 none :: ([.fieldLink RX4 9 "BayerGate$Sensor" "hows" "[I"] ++ wsX40)
def wsX4_isMapped : List Cond := .code yX4_isMapped cX4_isMapped 2 (some .boolean) :: ([.fieldLink RX4 15 "BayerGate$Sensor" "mapped" "[Z"] ++ wsX40)
def wsX4_setMapped : List Cond := .code yX4_setMapped cX4_setMapped 3 none :: ([.fieldLink RX4 15 "BayerGate$Sensor" "mapped" "[Z"] ++ wsX40)
def wsX4_countMapped : List Cond := .code yX4_countMapped cX4_countMapped 3 (some .int) :: ([.fieldLink RX4 15 "BayerGate$Sensor" "mapped" "[Z"] ++ wsX40)
def wsX4_countSpoilt : List Cond := .code yX4_countSpoilt cX4_countSpoilt 4 (some .int) :: ([.fieldLink RX4 9 "BayerGate$Sensor" "hows" "[I", .fieldLink RX4 15 "BayerGate$Sensor" "mapped" "[Z"] ++ wsX40)
def wsX4_advance : List Cond := .code yX4_advance cX4_advance 2 none :: ([.fieldLink RX4 19 "BayerGate$Sensor" "draw" "I"] ++ wsX40)
def wsX4_rawOf : List Cond := .code yX4_rawOf cX4_rawOf 5 (some .int) :: ([.methodLink RX4 51 Lib.Math.min.name, .static Lib.Math.min.name, .initialized "java/lang/Math", .code Lib.Math.min.name Lib.Math.min.code 2 (some .int), .methodLink RX4 56 Lib.Math.max.name, .static Lib.Math.max.name, .code Lib.Math.max.name Lib.Math.max.code 2 (some .int)])
def wsX4_expose_r1 : List Cond := [Cond.fieldLink RX4 19 "BayerGate$Sensor" "draw" "I", Cond.fieldLink RX4 9 "BayerGate$Sensor" "hows" "[I", Cond.static yX6_placeOf, Cond.initialized RX6, Cond.code yX6_placeOf cX6_placeOf 2 (some .int), Cond.static yX6_colourSeen, Cond.code yX6_colourSeen cX6_colourSeen 2 (some .int), Cond.methodLink RX4 30 yX3_lightAt, Cond.instanceMethod yX3_lightAt, Cond.selects RX3 yX3_lightAt yX3_lightAt, Cond.initialized RX3, Cond.code yX3_lightAt cX3_lightAt 4 (some .float), Cond.fieldLink RX3 15 "BayerGate$Scene" "factors" "[F", Cond.constantFloat RX3 28 (1098907648), Cond.methodLink RX3 24 yX3_shade, Cond.instanceMethod yX3_shade, Cond.selects RX3 yX3_shade yX3_shade, Cond.code yX3_shade cX3_shade 3 (some .int), Cond.fieldLink RX3 9 "BayerGate$Scene" "shades" "[I", Cond.methodLink RX4 41 yX4_rawOf, Cond.static yX4_rawOf, Cond.initialized RX4, Cond.code yX4_rawOf cX4_rawOf 5 (some .int), Cond.methodLink RX4 51 Lib.Math.min.name]
def wsX4_expose_r2 : List Cond := [Cond.static Lib.Math.min.name, Cond.initialized "java/lang/Math", Cond.code Lib.Math.min.name Lib.Math.min.code 2 (some .int), Cond.methodLink RX4 56 Lib.Math.max.name, Cond.static Lib.Math.max.name, Cond.code Lib.Math.max.name Lib.Math.max.code 2 (some .int)]
def wsX4_expose : List Cond := .code yX4_expose cX4_expose 10 (some .int) :: ((wsX4_expose_r1 ++ wsX4_expose_r2) ++ wsX40 ++ wsX10 ++ wsX30)
def wsX5_init : List Cond := .code yX5_init cX5_init 1 none :: ([.methodLink RX5 1 objectInit, .instanceMethod objectInit, .code objectInit ⟨#[0xb1]⟩ 1 none, .classLink RX5 7 RX0, .instantiable RX0 3, .initialized RX0, .fieldLink RX5 10 "BayerGate$StoredFile" "edits" "LBayerGate$EditRow;", .fieldLink RX5 16 "BayerGate$StoredFile" "frame" "I", .fieldLink RX5 20 "BayerGate$StoredFile" "version" "I", .instanceMethod yX0_init, .code yX0_init cX0_init 1 none, .methodLink RX0 3 objectInit, .arrayClass .int, .fieldLink RX0 9 "BayerGate$EditRow" "kinds" "[I", .fieldLink RX0 15 "BayerGate$EditRow" "numbers" "[I", .fieldLink RX0 18 "BayerGate$EditRow" "length" "I"] ++ wsX00 ++ wsX50)
def wsX5_keep : List Cond := .code yX5_keep cX5_keep 4 none :: ([.fieldLink RX5 16 "BayerGate$StoredFile" "frame" "I", .fieldLink RX5 20 "BayerGate$StoredFile" "version" "I", .fieldLink RX5 10 "BayerGate$StoredFile" "edits" "LBayerGate$EditRow;", .methodLink RX5 23 yX0_copyFrom, .instanceMethod yX0_copyFrom, .selects RX0 yX0_copyFrom yX0_copyFrom, .initialized RX0, .code yX0_copyFrom cX0_copyFrom 3 none, .fieldLink RX0 9 "BayerGate$EditRow" "kinds" "[I", .fieldLink RX0 15 "BayerGate$EditRow" "numbers" "[I", .fieldLink RX0 18 "BayerGate$EditRow" "length" "I"] ++ wsX50 ++ wsX00)
def wsX6_init_r1 : List Cond := [Cond.methodLink RX6 3 objectInit, Cond.instanceMethod objectInit, Cond.code objectInit ⟨#[0xb1]⟩ 1 none, Cond.classLink RX6 9 RX3, Cond.instantiable RX3 3, Cond.initialized RX3, Cond.fieldLink RX6 12 "BayerGate" "scene" "LBayerGate$Scene;", Cond.classLink RX6 16 RX4, Cond.instantiable RX4 3, Cond.initialized RX4, Cond.fieldLink RX6 19 "BayerGate" "sensor" "LBayerGate$Sensor;", Cond.classLink RX6 23 RX1, Cond.fieldLink RX6 25 "BayerGate" "frameRow" "[LBayerGate$Frame;", Cond.classLink RX6 29 RX5, Cond.fieldLink RX6 31 "BayerGate" "fileRow" "[LBayerGate$StoredFile;", Cond.fieldLink RX6 35 "BayerGate" "frameCount" "I", Cond.fieldLink RX6 39 "BayerGate" "fileCount" "I", Cond.instantiable RX1 5, Cond.initialized RX1, Cond.fieldLink RX6 43 "BayerGate" "trial" "LBayerGate$Frame;", Cond.classLink RX6 47 RX2, Cond.instantiable RX2 2, Cond.initialized RX2, Cond.fieldLink RX6 50 "BayerGate" "developed" "LBayerGate$Picture;"]
def wsX6_init_r2 : List Cond := [Cond.fieldLink RX6 54 "BayerGate" "compared" "LBayerGate$Picture;", Cond.instantiable RX5 3, Cond.initialized RX5, Cond.methodLink RX6 11 yX3_init, Cond.instanceMethod yX3_init, Cond.code yX3_init cX3_init 2 none, Cond.methodLink RX3 3 objectInit, Cond.arrayClass .int, Cond.fieldLink RX3 9 "BayerGate$Scene" "shades" "[I", Cond.arrayClass .float, Cond.fieldLink RX3 15 "BayerGate$Scene" "factors" "[F", Cond.fieldLink RX3 19 "BayerGate$Scene" "quartersOfGreen" "I", Cond.instanceMethod yX4_init, Cond.code yX4_init cX4_init 1 none, Cond.methodLink RX4 3 objectInit, Cond.fieldLink RX4 9 "BayerGate$Sensor" "hows" "[I", Cond.arrayClass .boolean, Cond.fieldLink RX4 15 "BayerGate$Sensor" "mapped" "[Z", Cond.fieldLink RX4 19 "BayerGate$Sensor" "draw" "I", Cond.instanceMethod yX1_init, Cond.code yX1_init cX1_init 1 none, Cond.methodLink RX1 3 objectInit, Cond.fieldLink RX1 9 "BayerGate$Frame" "rawRow" "[I", Cond.classLink RX1 15 RX0]
def wsX6_init_r3 : List Cond := [Cond.instantiable RX0 3, Cond.initialized RX0, Cond.fieldLink RX1 18 "BayerGate$Frame" "edits" "LBayerGate$EditRow;", Cond.fieldLink RX1 22 "BayerGate$Frame" "time" "I", Cond.fieldLink RX1 26 "BayerGate$Frame" "gain" "I", Cond.fieldLink RX1 29 "BayerGate$Frame" "ghosts" "I", Cond.instanceMethod yX0_init, Cond.code yX0_init cX0_init 1 none, Cond.methodLink RX0 3 objectInit, Cond.fieldLink RX0 9 "BayerGate$EditRow" "kinds" "[I", Cond.fieldLink RX0 15 "BayerGate$EditRow" "numbers" "[I", Cond.fieldLink RX0 18 "BayerGate$EditRow" "length" "I", Cond.instanceMethod yX2_init, Cond.code yX2_init cX2_init 1 none, Cond.methodLink RX2 3 objectInit, Cond.fieldLink RX2 9 "BayerGate$Picture" "numbers" "[F", Cond.fieldLink RX2 15 "BayerGate$Picture" "mended" "[I", Cond.instanceMethod yX5_init, Cond.code yX5_init cX5_init 1 none, Cond.methodLink RX5 1 objectInit, Cond.classLink RX5 7 RX0, Cond.fieldLink RX5 10 "BayerGate$StoredFile" "edits" "LBayerGate$EditRow;", Cond.fieldLink RX5 16 "BayerGate$StoredFile" "frame" "I", Cond.fieldLink RX5 20 "BayerGate$StoredFile" "version" "I"]
def wsX6_init : List Cond := .code yX6_init cX6_init 2 none :: ((wsX6_init_r1 ++ (wsX6_init_r2 ++ wsX6_init_r3)) ++ wsX30 ++ wsX60 ++ wsX40 ++ wsX10 ++ wsX20 ++ wsX50 ++ wsX00)
def wsX6_needPlace : List Cond := .code yX6_needPlace cX6_needPlace 2 none :: ([.classLink RX6 284 "java/lang/IndexOutOfBoundsException", .initialized "java/lang/IndexOutOfBoundsException", .methodLink RX6 289 yX6_isPlace, .static yX6_isPlace, .initialized RX6, .code yX6_isPlace cX6_isPlace 2 (some .boolean)] ++ (vx_atS RX6 288 "java/lang/IndexOutOfBoundsException" ["java/lang/RuntimeException", "java/lang/Exception"]).filter goodWord)
def wsX6_needRange : List Cond := .code yX6_needRange cX6_needRange 3 none :: ([.classLink RX6 62 "java/lang/IllegalArgumentException", .initialized "java/lang/IllegalArgumentException"] ++ (vx_atS RX6 66 "java/lang/IllegalArgumentException" ["java/lang/RuntimeException", "java/lang/Exception"]).filter goodWord)
def wsX6_paint_r1 : List Cond := [Cond.classLink RX6 62 "java/lang/IllegalArgumentException", Cond.initialized "java/lang/IllegalArgumentException", Cond.constant RX6 69 (16777215), Cond.fieldLink RX6 12 "BayerGate" "scene" "LBayerGate$Scene;", Cond.methodLink RX6 58 yX6_needPlace, Cond.static yX6_needPlace, Cond.initialized RX6, Cond.code yX6_needPlace cX6_needPlace 2 none, Cond.classLink RX6 284 "java/lang/IndexOutOfBoundsException", Cond.initialized "java/lang/IndexOutOfBoundsException", Cond.methodLink RX6 289 yX6_isPlace, Cond.static yX6_isPlace, Cond.code yX6_isPlace cX6_isPlace 2 (some .boolean), Cond.methodLink RX6 70 yX6_needRange, Cond.static yX6_needRange, Cond.code yX6_needRange cX6_needRange 3 none, Cond.methodLink RX6 74 yX6_placeOf, Cond.static yX6_placeOf, Cond.code yX6_placeOf cX6_placeOf 2 (some .int), Cond.methodLink RX6 78 yX3_colourPlace, Cond.instanceMethod yX3_colourPlace, Cond.selects RX3 yX3_colourPlace yX3_colourPlace, Cond.initialized RX3, Cond.code yX3_colourPlace cX3_colourPlace 5 none]
def wsX6_paint_r2 : List Cond := [Cond.fieldLink RX3 9 "BayerGate$Scene" "shades" "[I"]
def wsX6_paint : List Cond := .code yX6_paint cX6_paint 8 (some .int) :: ((wsX6_paint_r1 ++ wsX6_paint_r2) ++ wsX60 ++ wsX30 ++ (vx_atS RX6 66 "java/lang/IllegalArgumentException" ["java/lang/RuntimeException", "java/lang/Exception"]).filter goodWord ++ (vx_atS RX6 288 "java/lang/IndexOutOfBoundsException" ["java/lang/RuntimeException", "java/lang/Exception"]).filter goodWord)
def wsX6_lamp : List Cond := .code yX6_lamp cX6_lamp 5 (some .int) :: ([.fieldLink RX6 12 "BayerGate" "scene" "LBayerGate$Scene;", .methodLink RX6 70 yX6_needRange, .static yX6_needRange, .initialized RX6, .code yX6_needRange cX6_needRange 3 none, .classLink RX6 62 "java/lang/IllegalArgumentException", .initialized "java/lang/IllegalArgumentException", .methodLink RX6 81 yX3_greenQuarters, .instanceMethod yX3_greenQuarters, .selects RX3 yX3_greenQuarters yX3_greenQuarters, .initialized RX3, .code yX3_greenQuarters cX3_greenQuarters 1 (some .int), .fieldLink RX3 19 "BayerGate$Scene" "quartersOfGreen" "I", .methodLink RX6 85 yX3_light, .instanceMethod yX3_light, .selects RX3 yX3_light yX3_light, .code yX3_light cX3_light 4 none, .fieldLink RX3 15 "BayerGate$Scene" "factors" "[F", .constantFloat RX3 23 (1082130432)] ++ wsX60 ++ wsX30 ++ (vx_atS RX6 66 "java/lang/IllegalArgumentException" ["java/lang/RuntimeException", "java/lang/Exception"]).filter goodWord)
def wsX6_spoil_r1 : List Cond := [Cond.fieldLink RX6 19 "BayerGate" "sensor" "LBayerGate$Sensor;", Cond.methodLink RX6 58 yX6_needPlace, Cond.static yX6_needPlace, Cond.initialized RX6, Cond.code yX6_needPlace cX6_needPlace 2 none, Cond.classLink RX6 284 "java/lang/IndexOutOfBoundsException", Cond.initialized "java/lang/IndexOutOfBoundsException", Cond.methodLink RX6 289 yX6_isPlace, Cond.static yX6_isPlace, Cond.code yX6_isPlace cX6_isPlace 2 (some .boolean), Cond.methodLink RX6 70 yX6_needRange, Cond.static yX6_needRange, Cond.code yX6_needRange cX6_needRange 3 none, Cond.classLink RX6 62 "java/lang/IllegalArgumentException", Cond.initialized "java/lang/IllegalArgumentException", Cond.methodLink RX6 74 yX6_placeOf, Cond.static yX6_placeOf, Cond.code yX6_placeOf cX6_placeOf 2 (some .int), Cond.methodLink RX6 88 yX4_howIs, Cond.instanceMethod yX4_howIs, Cond.selects RX4 yX4_howIs yX4_howIs, Cond.initialized RX4, Cond.code yX4_howIs cX4_howIs 2 (some .int), Cond.fieldLink RX4 9 "BayerGate$Sensor" "hows" "[I"]
def wsX6_spoil_r2 : List Cond := [Cond.methodLink RX6 92 yX4_setHow, Cond.instanceMethod yX4_setHow, Cond.selects RX4 yX4_setHow yX4_setHow, Cond.code yX4_setHow cX4_setHow 3 none]
def wsX6_spoil : List Cond := .code yX6_spoil cX6_spoil 6 (some .int) :: ((wsX6_spoil_r1 ++ wsX6_spoil_r2) ++ wsX60 ++ wsX40 ++ (vx_atS RX6 288 "java/lang/IndexOutOfBoundsException" ["java/lang/RuntimeException", "java/lang/Exception"]).filter goodWord ++ (vx_atS RX6 66 "java/lang/IllegalArgumentException" ["java/lang/RuntimeException", "java/lang/Exception"]).filter goodWord)
def wsX6_map : List Cond := .code yX6_map cX6_map 4 (some .int) :: ([.fieldLink RX6 19 "BayerGate" "sensor" "LBayerGate$Sensor;", .methodLink RX6 58 yX6_needPlace, .static yX6_needPlace, .initialized RX6, .code yX6_needPlace cX6_needPlace 2 none, .classLink RX6 284 "java/lang/IndexOutOfBoundsException", .initialized "java/lang/IndexOutOfBoundsException", .methodLink RX6 289 yX6_isPlace, .static yX6_isPlace, .code yX6_isPlace cX6_isPlace 2 (some .boolean), .methodLink RX6 74 yX6_placeOf, .static yX6_placeOf, .code yX6_placeOf cX6_placeOf 2 (some .int), .methodLink RX6 95 yX4_setMapped, .instanceMethod yX4_setMapped, .selects RX4 yX4_setMapped yX4_setMapped, .initialized RX4, .code yX4_setMapped cX4_setMapped 3 none, .fieldLink RX4 15 "BayerGate$Sensor" "mapped" "[Z", .methodLink RX6 99 yX4_countMapped, .instanceMethod yX4_countMapped, .selects RX4 yX4_countMapped yX4_countMapped, .code yX4_countMapped cX4_countMapped 3 (some .int)] ++ wsX60 ++ wsX40 ++ (vx_atS RX6 288 "java/lang/IndexOutOfBoundsException" ["java/lang/RuntimeException", "java/lang/Exception"]).filter goodWord)
def wsX6_needExposure : List Cond := .code yX6_needExposure cX6_needExposure 2 none :: ([.methodLink RX6 70 yX6_needRange, .static yX6_needRange, .initialized RX6, .code yX6_needRange cX6_needRange 3 none, .classLink RX6 62 "java/lang/IllegalArgumentException", .initialized "java/lang/IllegalArgumentException"] ++ (vx_atS RX6 66 "java/lang/IllegalArgumentException" ["java/lang/RuntimeException", "java/lang/Exception"]).filter goodWord)
