/-! ===== BEGIN printed: names, fields, word lists, decode rows ===== -/
def RX0 : String := "BayerGate$EditRow"
def TX0 : u_T := fun k => match k with
  | 0 => ("BayerGate$EditRow", "kinds", "[I", true)
  | 1 => ("BayerGate$EditRow", "numbers", "[I", true)
  | _ => ("BayerGate$EditRow", "length", "I", false)
def tyX0 : Nat → FieldType := fun k => match k with
  | 0 => .array .int
  | 1 => .array .int
  | _ => .int
abbrev wsX00 : List Cond := u_ws RX0 TX0 3
theorem nmX0 : ∀ a, a < 3 → ∀ b, b < 3 → a ≠ b → (TX0 a).2.1 ≠ (TX0 b).2.1 := by decide +kernel
theorem tyX0_ok : ∀ k, k < 3 → parseFieldDescriptor (TX0 k).2.2.1 = some (tyX0 k) := by decide +kernel
abbrev cX0_init : ByteArray := prog_2_method_1_code
def yX0_init : MethodName := ⟨RX0, "<init>", "()V"⟩
abbrev cX0_count : ByteArray := prog_2_method_2_code
def yX0_count : MethodName := ⟨RX0, "count", "()I"⟩
abbrev cX0_append : ByteArray := prog_2_method_3_code
def yX0_append : MethodName := ⟨RX0, "append", "(II)V"⟩
abbrev cX0_takeBack : ByteArray := prog_2_method_4_code
def yX0_takeBack : MethodName := ⟨RX0, "takeBack", "()I"⟩
abbrev cX0_copyFrom : ByteArray := prog_2_method_5_code
def yX0_copyFrom : MethodName := ⟨RX0, "copyFrom", "(LBayerGate$EditRow;)V"⟩
abbrev cX0_hasMend : ByteArray := prog_2_method_6_code
def yX0_hasMend : MethodName := ⟨RX0, "hasMend", "()Z"⟩
def RX1 : String := "BayerGate$Frame"
def TX1 : u_T := fun k => match k with
  | 0 => ("BayerGate$Frame", "rawRow", "[I", true)
  | 1 => ("BayerGate$Frame", "edits", "LBayerGate$EditRow;", true)
  | 2 => ("BayerGate$Frame", "time", "I", false)
  | 3 => ("BayerGate$Frame", "gain", "I", false)
  | _ => ("BayerGate$Frame", "ghosts", "I", false)
def tyX1 : Nat → FieldType := fun k => match k with
  | 0 => .array .int
  | 1 => .object "BayerGate$EditRow"
  | 2 => .int
  | 3 => .int
  | _ => .int
abbrev wsX10 : List Cond := u_ws RX1 TX1 5
theorem nmX1 : ∀ a, a < 5 → ∀ b, b < 5 → a ≠ b → (TX1 a).2.1 ≠ (TX1 b).2.1 := by decide +kernel
theorem tyX1_ok : ∀ k, k < 5 → parseFieldDescriptor (TX1 k).2.2.1 = some (tyX1 k) := by decide +kernel
abbrev cX1_init : ByteArray := prog_3_method_1_code
def yX1_init : MethodName := ⟨RX1, "<init>", "()V"⟩
abbrev cX1_countClipped : ByteArray := prog_3_method_2_code
def yX1_countClipped : MethodName := ⟨RX1, "countClipped", "()I"⟩
abbrev cX1_sharpness : ByteArray := prog_3_method_3_code
def yX1_sharpness : MethodName := ⟨RX1, "sharpness", "()I"⟩
abbrev cX1_whiteOf : ByteArray := prog_3_method_4_code
def yX1_whiteOf : MethodName := ⟨RX1, "whiteOf", "(I)I"⟩
abbrev cX1_sumSeen : ByteArray := prog_3_method_5_code
def yX1_sumSeen : MethodName := ⟨RX1, "sumSeen", "(I)I"⟩
abbrev cX1_meanOfZone : ByteArray := prog_3_method_6_code
def yX1_meanOfZone : MethodName := ⟨RX1, "meanOfZone", "(I)D"⟩
abbrev cX1_meanOfZones : ByteArray := prog_3_method_7_code
def yX1_meanOfZones : MethodName := ⟨RX1, "meanOfZones", "()D"⟩
def RX2 : String := "BayerGate$Picture"
def TX2 : u_T := fun k => match k with
  | 0 => ("BayerGate$Picture", "numbers", "[F", true)
  | _ => ("BayerGate$Picture", "mended", "[I", true)
def tyX2 : Nat → FieldType := fun k => match k with
  | 0 => .array .float
  | _ => .array .int
abbrev wsX20 : List Cond := u_ws RX2 TX2 2
theorem nmX2 : ∀ a, a < 2 → ∀ b, b < 2 → a ≠ b → (TX2 a).2.1 ≠ (TX2 b).2.1 := by decide +kernel
theorem tyX2_ok : ∀ k, k < 2 → parseFieldDescriptor (TX2 k).2.2.1 = some (tyX2 k) := by decide +kernel
abbrev cX2_init : ByteArray := prog_4_method_1_code
def yX2_init : MethodName := ⟨RX2, "<init>", "()V"⟩
abbrev cX2_indexOf : ByteArray := prog_4_method_2_code
def yX2_indexOf : MethodName := ⟨RX2, "indexOf", "(II)I"⟩
abbrev cX2_compose : ByteArray := prog_4_method_3_code
def yX2_compose : MethodName := ⟨RX2, "compose", "([ILBayerGate$EditRow;[Z)V"⟩
abbrev cX2_bound : ByteArray := prog_4_method_4_code
def yX2_bound : MethodName := ⟨RX2, "bound", "()V"⟩
abbrev cX2_sumUp : ByteArray := prog_4_method_5_code
def yX2_sumUp : MethodName := ⟨RX2, "sumUp", "()I"⟩
abbrev cX2_sumTones : ByteArray := prog_4_method_6_code
def yX2_sumTones : MethodName := ⟨RX2, "sumTones", "(IF)I"⟩
abbrev cX2_bounded : ByteArray := prog_4_method_8_code
def yX2_bounded : MethodName := ⟨RX2, "bounded", "(F)F"⟩
abbrev cX2_mendAll : ByteArray := prog_4_method_9_code
def yX2_mendAll : MethodName := ⟨RX2, "mendAll", "([I[ZZ)V"⟩
abbrev cX2_mendedAt : ByteArray := prog_4_method_10_code
def yX2_mendedAt : MethodName := ⟨RX2, "mendedAt", "([I[ZII)I"⟩
abbrev cX2_makeWhole : ByteArray := prog_4_method_11_code
def yX2_makeWhole : MethodName := ⟨RX2, "makeWhole", "()V"⟩
abbrev cX2_meanAround : ByteArray := prog_4_method_12_code
def yX2_meanAround : MethodName := ⟨RX2, "meanAround", "(III)F"⟩
abbrev cX2_applyEdit : ByteArray := prog_4_method_13_code
def yX2_applyEdit : MethodName := ⟨RX2, "applyEdit", "(II)V"⟩
abbrev cX2_darken : ByteArray := prog_4_method_14_code
def yX2_darken : MethodName := ⟨RX2, "darken", "(I)V"⟩
abbrev cX2_scaleColour : ByteArray := prog_4_method_15_code
def yX2_scaleColour : MethodName := ⟨RX2, "scaleColour", "(IF)V"⟩
abbrev cX2_changeTone : ByteArray := prog_4_method_16_code
def yX2_changeTone : MethodName := ⟨RX2, "changeTone", "(I)V"⟩
abbrev cX2_turnOver : ByteArray := prog_4_method_17_code
def yX2_turnOver : MethodName := ⟨RX2, "turnOver", "()V"⟩
def RX3 : String := "BayerGate$Scene"
def TX3 : u_T := fun k => match k with
  | 0 => ("BayerGate$Scene", "shades", "[I", true)
  | 1 => ("BayerGate$Scene", "factors", "[F", true)
  | _ => ("BayerGate$Scene", "quartersOfGreen", "I", false)
def tyX3 : Nat → FieldType := fun k => match k with
  | 0 => .array .int
  | 1 => .array .float
  | _ => .int
abbrev wsX30 : List Cond := u_ws RX3 TX3 3
theorem nmX3 : ∀ a, a < 3 → ∀ b, b < 3 → a ≠ b → (TX3 a).2.1 ≠ (TX3 b).2.1 := by decide +kernel
theorem tyX3_ok : ∀ k, k < 3 → parseFieldDescriptor (TX3 k).2.2.1 = some (tyX3 k) := by decide +kernel
abbrev cX3_init : ByteArray := prog_5_method_1_code
def yX3_init : MethodName := ⟨RX3, "<init>", "()V"⟩
abbrev cX3_colourPlace : ByteArray := prog_5_method_2_code
def yX3_colourPlace : MethodName := ⟨RX3, "colourPlace", "(II)V"⟩
abbrev cX3_shade : ByteArray := prog_5_method_3_code
def yX3_shade : MethodName := ⟨RX3, "shade", "(II)I"⟩
abbrev cX3_light : ByteArray := prog_5_method_4_code
def yX3_light : MethodName := ⟨RX3, "light", "(III)V"⟩
abbrev cX3_greenQuarters : ByteArray := prog_5_method_5_code
def yX3_greenQuarters : MethodName := ⟨RX3, "greenQuarters", "()I"⟩
abbrev cX3_lightAt : ByteArray := prog_5_method_6_code
def yX3_lightAt : MethodName := ⟨RX3, "lightAt", "(III)F"⟩
def RX4 : String := "BayerGate$Sensor"
def TX4 : u_T := fun k => match k with
  | 0 => ("BayerGate$Sensor", "hows", "[I", true)
  | 1 => ("BayerGate$Sensor", "mapped", "[Z", true)
  | _ => ("BayerGate$Sensor", "draw", "I", false)
def tyX4 : Nat → FieldType := fun k => match k with
  | 0 => .array .int
  | 1 => .array .boolean
  | _ => .int
abbrev wsX40 : List Cond := u_ws RX4 TX4 3
theorem nmX4 : ∀ a, a < 3 → ∀ b, b < 3 → a ≠ b → (TX4 a).2.1 ≠ (TX4 b).2.1 := by decide +kernel
theorem tyX4_ok : ∀ k, k < 3 → parseFieldDescriptor (TX4 k).2.2.1 = some (tyX4 k) := by decide +kernel
abbrev cX4_init : ByteArray := prog_6_method_1_code
def yX4_init : MethodName := ⟨RX4, "<init>", "()V"⟩
abbrev cX4_howIs : ByteArray := prog_6_method_2_code
def yX4_howIs : MethodName := ⟨RX4, "howIs", "(I)I"⟩
abbrev cX4_setHow : ByteArray := prog_6_method_3_code
def yX4_setHow : MethodName := ⟨RX4, "setHow", "(II)V"⟩
abbrev cX4_isMapped : ByteArray := prog_6_method_4_code
def yX4_isMapped : MethodName := ⟨RX4, "isMapped", "(I)Z"⟩
abbrev cX4_setMapped : ByteArray := prog_6_method_5_code
def yX4_setMapped : MethodName := ⟨RX4, "setMapped", "(IZ)V"⟩
abbrev cX4_countMapped : ByteArray := prog_6_method_6_code
def yX4_countMapped : MethodName := ⟨RX4, "countMapped", "()I"⟩
abbrev cX4_countSpoilt : ByteArray := prog_6_method_7_code
def yX4_countSpoilt : MethodName := ⟨RX4, "countSpoilt", "(Z)I"⟩
abbrev cX4_advance : ByteArray := prog_6_method_8_code
def yX4_advance : MethodName := ⟨RX4, "advance", "(I)V"⟩
abbrev cX4_expose : ByteArray := prog_6_method_9_code
def yX4_expose : MethodName := ⟨RX4, "expose", "(LBayerGate$Scene;IILBayerGate$Frame;)I"⟩
abbrev cX4_rawOf : ByteArray := prog_6_method_10_code
def yX4_rawOf : MethodName := ⟨RX4, "rawOf", "(IFII)I"⟩
def RX5 : String := "BayerGate$StoredFile"
def TX5 : u_T := fun k => match k with
  | 0 => ("BayerGate$StoredFile", "edits", "LBayerGate$EditRow;", true)
  | 1 => ("BayerGate$StoredFile", "frame", "I", false)
  | _ => ("BayerGate$StoredFile", "version", "I", false)
def tyX5 : Nat → FieldType := fun k => match k with
  | 0 => .object "BayerGate$EditRow"
  | 1 => .int
  | _ => .int
abbrev wsX50 : List Cond := u_ws RX5 TX5 3
theorem nmX5 : ∀ a, a < 3 → ∀ b, b < 3 → a ≠ b → (TX5 a).2.1 ≠ (TX5 b).2.1 := by decide +kernel
theorem tyX5_ok : ∀ k, k < 3 → parseFieldDescriptor (TX5 k).2.2.1 = some (tyX5 k) := by decide +kernel
abbrev cX5_init : ByteArray := prog_7_method_1_code
def yX5_init : MethodName := ⟨RX5, "<init>", "()V"⟩
abbrev cX5_keep : ByteArray := prog_7_method_2_code
def yX5_keep : MethodName := ⟨RX5, "keep", "(IILBayerGate$EditRow;)V"⟩
def RX6 : String := "BayerGate"
def TX6 : u_T := fun k => match k with
  | 0 => ("BayerGate", "scene", "LBayerGate$Scene;", true)
  | 1 => ("BayerGate", "sensor", "LBayerGate$Sensor;", true)
  | 2 => ("BayerGate", "frameRow", "[LBayerGate$Frame;", true)
  | 3 => ("BayerGate", "fileRow", "[LBayerGate$StoredFile;", true)
  | 4 => ("BayerGate", "frameCount", "I", false)
  | 5 => ("BayerGate", "fileCount", "I", false)
  | 6 => ("BayerGate", "trial", "LBayerGate$Frame;", true)
  | 7 => ("BayerGate", "developed", "LBayerGate$Picture;", true)
  | _ => ("BayerGate", "compared", "LBayerGate$Picture;", true)
def tyX6 : Nat → FieldType := fun k => match k with
  | 0 => .object "BayerGate$Scene"
  | 1 => .object "BayerGate$Sensor"
  | 2 => .array (.object "BayerGate$Frame")
  | 3 => .array (.object "BayerGate$StoredFile")
  | 4 => .int
  | 5 => .int
  | 6 => .object "BayerGate$Frame"
  | 7 => .object "BayerGate$Picture"
  | _ => .object "BayerGate$Picture"
abbrev wsX60 : List Cond := u_ws RX6 TX6 9
theorem nmX6 : ∀ a, a < 9 → ∀ b, b < 9 → a ≠ b → (TX6 a).2.1 ≠ (TX6 b).2.1 := by decide +kernel
theorem tyX6_ok : ∀ k, k < 9 → parseFieldDescriptor (TX6 k).2.2.1 = some (tyX6 k) := by decide +kernel
abbrev cX6_init : ByteArray := prog_1_method_1_code
def yX6_init : MethodName := ⟨RX6, "<init>", "()V"⟩
abbrev cX6_paint : ByteArray := prog_1_method_2_code
def yX6_paint : MethodName := ⟨RX6, "paint", "(IIIII)I"⟩
abbrev cX6_lamp : ByteArray := prog_1_method_3_code
def yX6_lamp : MethodName := ⟨RX6, "lamp", "(III)I"⟩
abbrev cX6_spoil : ByteArray := prog_1_method_4_code
def yX6_spoil : MethodName := ⟨RX6, "spoil", "(III)I"⟩
abbrev cX6_map : ByteArray := prog_1_method_5_code
def yX6_map : MethodName := ⟨RX6, "map", "(IIZ)I"⟩
abbrev cX6_take : ByteArray := prog_1_method_6_code
def yX6_take : MethodName := ⟨RX6, "take", "(II)I"⟩
abbrev cX6_edit : ByteArray := prog_1_method_8_code
def yX6_edit : MethodName := ⟨RX6, "edit", "(III)I"⟩
abbrev cX6_undo : ByteArray := prog_1_method_9_code
def yX6_undo : MethodName := ⟨RX6, "undo", "(I)I"⟩
abbrev cX6_save : ByteArray := prog_1_method_10_code
def yX6_save : MethodName := ⟨RX6, "save", "(I)I"⟩
abbrev cX6_raw : ByteArray := prog_1_method_11_code
def yX6_raw : MethodName := ⟨RX6, "raw", "(III)I"⟩
abbrev cX6_picture : ByteArray := prog_1_method_12_code
def yX6_picture : MethodName := ⟨RX6, "picture", "(IIII)D"⟩
abbrev cX6_word : ByteArray := prog_1_method_13_code
def yX6_word : MethodName := ⟨RX6, "word", "(I)I"⟩
abbrev cX6_ofFrame : ByteArray := prog_1_method_14_code
def yX6_ofFrame : MethodName := ⟨RX6, "ofFrame", "(II)I"⟩
abbrev cX6_meter : ByteArray := prog_1_method_17_code
def yX6_meter : MethodName := ⟨RX6, "meter", "(I)D"⟩
abbrev cX6_ofFile : ByteArray := prog_1_method_18_code
def yX6_ofFile : MethodName := ⟨RX6, "ofFile", "(II)I"⟩
abbrev cX6_ofPlace : ByteArray := prog_1_method_19_code
def yX6_ofPlace : MethodName := ⟨RX6, "ofPlace", "(III)I"⟩
abbrev cX6_many : ByteArray := prog_1_method_20_code
def yX6_many : MethodName := ⟨RX6, "many", "(I)I"⟩
abbrev cX6_wouldClip : ByteArray := prog_1_method_22_code
def yX6_wouldClip : MethodName := ⟨RX6, "wouldClip", "(II)I"⟩
abbrev cX6_bestTake : ByteArray := prog_1_method_23_code
def yX6_bestTake : MethodName := ⟨RX6, "bestTake", "(I)I"⟩
abbrev cX6_bestWhite : ByteArray := prog_1_method_24_code
def yX6_bestWhite : MethodName := ⟨RX6, "bestWhite", "(II)I"⟩
abbrev cX6_digest : ByteArray := prog_1_method_25_code
def yX6_digest : MethodName := ⟨RX6, "digest", "()J"⟩
abbrev cX6_needIndex : ByteArray := prog_1_method_26_code
def yX6_needIndex : MethodName := ⟨RX6, "needIndex", "(II)V"⟩
abbrev cX6_needPlace : ByteArray := prog_1_method_27_code
def yX6_needPlace : MethodName := ⟨RX6, "needPlace", "(II)V"⟩
abbrev cX6_needFrame : ByteArray := prog_1_method_28_code
def yX6_needFrame : MethodName := ⟨RX6, "needFrame", "(I)V"⟩
abbrev cX6_needRange : ByteArray := prog_1_method_29_code
def yX6_needRange : MethodName := ⟨RX6, "needRange", "(III)V"⟩
abbrev cX6_needExposure : ByteArray := prog_1_method_30_code
def yX6_needExposure : MethodName := ⟨RX6, "needExposure", "(II)V"⟩
abbrev cX6_needRoom : ByteArray := prog_1_method_31_code
def yX6_needRoom : MethodName := ⟨RX6, "needRoom", "(II)V"⟩
abbrev cX6_isPlace : ByteArray := prog_1_method_32_code
def yX6_isPlace : MethodName := ⟨RX6, "isPlace", "(II)Z"⟩
abbrev cX6_placeOf : ByteArray := prog_1_method_33_code
def yX6_placeOf : MethodName := ⟨RX6, "placeOf", "(II)I"⟩
abbrev cX6_colourSeen : ByteArray := prog_1_method_34_code
def yX6_colourSeen : MethodName := ⟨RX6, "colourSeen", "(II)I"⟩
abbrev cX6_leastNumber : ByteArray := prog_1_method_35_code
def yX6_leastNumber : MethodName := ⟨RX6, "leastNumber", "(I)I"⟩
abbrev cX6_mostNumber : ByteArray := prog_1_method_36_code
def yX6_mostNumber : MethodName := ⟨RX6, "mostNumber", "(I)I"⟩
abbrev cX6_countFilesOf : ByteArray := prog_1_method_37_code
def yX6_countFilesOf : MethodName := ⟨RX6, "countFilesOf", "(I)I"⟩
abbrev cX6_countEdits : ByteArray := prog_1_method_38_code
def yX6_countEdits : MethodName := ⟨RX6, "countEdits", "()I"⟩
abbrev cX6_developFrame : ByteArray := prog_1_method_39_code
def yX6_developFrame : MethodName := ⟨RX6, "developFrame", "(ILBayerGate$Picture;)V"⟩
abbrev cX6_wordBehind : ByteArray := prog_1_method_40_code
def yX6_wordBehind : MethodName := ⟨RX6, "wordBehind", "(ILBayerGate$EditRow;)I"⟩
def RX7 : String := "BayerGateLaw$Told"
def TX7 : u_T := fun k => match k with
  | 0 => ("BayerGateLaw$Told", "m", "LBayerGate;", true)
  | 1 => ("BayerGateLaw$Told", "s", "[I", true)
  | 2 => ("BayerGateLaw$Told", "draws", "I", false)
  | 3 => ("BayerGateLaw$Told", "scene", "[[I", false)
  | 4 => ("BayerGateLaw$Told", "lamp", "[I", false)
  | 5 => ("BayerGateLaw$Told", "how", "[I", false)
  | 6 => ("BayerGateLaw$Told", "mapped", "[Z", false)
  | 7 => ("BayerGateLaw$Told", "draw", "I", false)
  | 8 => ("BayerGateLaw$Told", "raws", "[[I", false)
  | 9 => ("BayerGateLaw$Told", "frames", "[[I", false)
  | 10 => ("BayerGateLaw$Told", "edits", "[[I", false)
  | _ => ("BayerGateLaw$Told", "files", "[[I", false)
def tyX7 : Nat → FieldType := fun k => match k with
  | 0 => .object "BayerGate"
  | 1 => .array .int
  | 2 => .int
  | 3 => .array (.array .int)
  | 4 => .array .int
  | 5 => .array .int
  | 6 => .array .boolean
  | 7 => .int
  | 8 => .array (.array .int)
  | 9 => .array (.array .int)
  | 10 => .array (.array .int)
  | _ => .array (.array .int)
abbrev wsX70 : List Cond := u_ws RX7 TX7 12
theorem nmX7 : ∀ a, a < 12 → ∀ b, b < 12 → a ≠ b → (TX7 a).2.1 ≠ (TX7 b).2.1 := by decide +kernel
theorem tyX7_ok : ∀ k, k < 12 → parseFieldDescriptor (TX7 k).2.2.1 = some (tyX7 k) := by decide +kernel
abbrev cX7_init : ByteArray := prog_9_method_1_code
def yX7_init : MethodName := ⟨RX7, "<init>", "([II)V"⟩
abbrev cX7_draw : ByteArray := prog_9_method_2_code
def yX7_draw : MethodName := ⟨RX7, "draw", "(I)I"⟩
abbrev cX7_plus : ByteArray := prog_9_method_3_code
def yX7_plus : MethodName := ⟨RX7, "plus", "([[I[I)[[I"⟩
abbrev cX7_plus_ : ByteArray := prog_9_method_4_code
def yX7_plus_ : MethodName := ⟨RX7, "plus", "([III)[I"⟩
abbrev cX7_paint : ByteArray := prog_9_method_5_code
def yX7_paint : MethodName := ⟨RX7, "paint", "()Z"⟩
abbrev cX7_light : ByteArray := prog_9_method_6_code
def yX7_light : MethodName := ⟨RX7, "light", "()Z"⟩
abbrev cX7_colour : ByteArray := prog_9_method_10_code
def yX7_colour : MethodName := ⟨RX7, "colour", "(I)I"⟩
abbrev cX7_frame : ByteArray := prog_9_method_11_code
def yX7_frame : MethodName := ⟨RX7, "frame", "(II)[I"⟩
abbrev cX7_take : ByteArray := prog_9_method_12_code
def yX7_take : MethodName := ⟨RX7, "take", "()Z"⟩
abbrev cX7_edit : ByteArray := prog_9_method_14_code
def yX7_edit : MethodName := ⟨RX7, "edit", "(I)Z"⟩
abbrev cX7_save : ByteArray := prog_9_method_16_code
def yX7_save : MethodName := ⟨RX7, "save", "(I)Z"⟩
def RX8 : String := "BayerGateModel$Frame"
def TX8 : u_T := fun k => match k with
  | _ => ("", "", "", false)
def tyX8 : Nat → FieldType := fun k => match k with
  | _ => .int
abbrev wsX80 : List Cond := u_ws RX8 TX8 0
theorem nmX8 : ∀ a, a < 0 → ∀ b, b < 0 → a ≠ b → (TX8 a).2.1 ≠ (TX8 b).2.1 := by decide +kernel
theorem tyX8_ok : ∀ k, k < 0 → parseFieldDescriptor (TX8 k).2.2.1 = some (tyX8 k) := by decide +kernel
def RX9 : String := "BayerGateModel$Saved"
def TX9 : u_T := fun k => match k with
  | _ => ("", "", "", false)
def tyX9 : Nat → FieldType := fun k => match k with
  | _ => .int
abbrev wsX90 : List Cond := u_ws RX9 TX9 0
theorem nmX9 : ∀ a, a < 0 → ∀ b, b < 0 → a ≠ b → (TX9 a).2.1 ≠ (TX9 b).2.1 := by decide +kernel
theorem tyX9_ok : ∀ k, k < 0 → parseFieldDescriptor (TX9 k).2.2.1 = some (tyX9 k) := by decide +kernel
def RX10 : String := "BayerGateModel"
def TX10 : u_T := fun k => match k with
  | _ => ("", "", "", false)
def tyX10 : Nat → FieldType := fun k => match k with
  | _ => .int
abbrev wsX100 : List Cond := u_ws RX10 TX10 0
theorem nmX10 : ∀ a, a < 0 → ∀ b, b < 0 → a ≠ b → (TX10 a).2.1 ≠ (TX10 b).2.1 := by decide +kernel
theorem tyX10_ok : ∀ k, k < 0 → parseFieldDescriptor (TX10 k).2.2.1 = some (tyX10 k) := by decide +kernel
def RJx145de : String := "java/io/Serializable"
def TJx145de : u_T := fun k => match k with
  | _ => ("", "", "", false)
def tyJx145de : Nat → FieldType := fun k => match k with
  | _ => .int
abbrev wsJx145de0 : List Cond := u_ws RJx145de TJx145de 0
theorem nmJx145de : ∀ a, a < 0 → ∀ b, b < 0 → a ≠ b → (TJx145de a).2.1 ≠ (TJx145de b).2.1 := by decide +kernel
theorem tyJx145de_ok : ∀ k, k < 0 → parseFieldDescriptor (TJx145de k).2.2.1 = some (tyJx145de k) := by decide +kernel
def RJxb160c : String := "java/lang/Comparable"
def TJxb160c : u_T := fun k => match k with
  | _ => ("", "", "", false)
def tyJxb160c : Nat → FieldType := fun k => match k with
  | _ => .int
abbrev wsJxb160c0 : List Cond := u_ws RJxb160c TJxb160c 0
theorem nmJxb160c : ∀ a, a < 0 → ∀ b, b < 0 → a ≠ b → (TJxb160c a).2.1 ≠ (TJxb160c b).2.1 := by decide +kernel
theorem tyJxb160c_ok : ∀ k, k < 0 → parseFieldDescriptor (TJxb160c k).2.2.1 = some (tyJxb160c k) := by decide +kernel
def RJxe99ae : String := "java/lang/Double"
def TJxe99ae : u_T := fun k => match k with
  | _ => ("", "", "", false)
def tyJxe99ae : Nat → FieldType := fun k => match k with
  | _ => .int
abbrev wsJxe99ae0 : List Cond := u_ws RJxe99ae TJxe99ae 0
theorem nmJxe99ae : ∀ a, a < 0 → ∀ b, b < 0 → a ≠ b → (TJxe99ae a).2.1 ≠ (TJxe99ae b).2.1 := by decide +kernel
theorem tyJxe99ae_ok : ∀ k, k < 0 → parseFieldDescriptor (TJxe99ae k).2.2.1 = some (tyJxe99ae k) := by decide +kernel
def RJ9 : String := "java/lang/Math"
def TJ9 : u_T := fun k => match k with
  | _ => ("", "", "", false)
def tyJ9 : Nat → FieldType := fun k => match k with
  | _ => .int
abbrev wsJ90 : List Cond := u_ws RJ9 TJ9 0
theorem nmJ9 : ∀ a, a < 0 → ∀ b, b < 0 → a ≠ b → (TJ9 a).2.1 ≠ (TJ9 b).2.1 := by decide +kernel
theorem tyJ9_ok : ∀ k, k < 0 → parseFieldDescriptor (TJ9 k).2.2.1 = some (tyJ9 k) := by decide +kernel
abbrev cJ9_abs_0f7a4 : ByteArray := prog_18_method_59_code
def yJ9_abs_0f7a4 : MethodName := ⟨RJ9, "abs", "(I)I"⟩
abbrev cJ9_abs_294c1 : ByteArray := prog_18_method_64_code
def yJ9_abs_294c1 : MethodName := ⟨RJ9, "abs", "(D)D"⟩
abbrev cJ9_max_7cf53 : ByteArray := prog_18_method_65_code
def yJ9_max_7cf53 : MethodName := ⟨RJ9, "max", "(II)I"⟩
abbrev cJ9_min_7cf53 : ByteArray := prog_18_method_69_code
def yJ9_min_7cf53 : MethodName := ⟨RJ9, "min", "(II)I"⟩
def RJxd2413 : String := "java/lang/Number"
def TJxd2413 : u_T := fun k => match k with
  | _ => ("", "", "", false)
def tyJxd2413 : Nat → FieldType := fun k => match k with
  | _ => .int
abbrev wsJxd24130 : List Cond := u_ws RJxd2413 TJxd2413 0
theorem nmJxd2413 : ∀ a, a < 0 → ∀ b, b < 0 → a ≠ b → (TJxd2413 a).2.1 ≠ (TJxd2413 b).2.1 := by decide +kernel
theorem tyJxd2413_ok : ∀ k, k < 0 → parseFieldDescriptor (TJxd2413 k).2.2.1 = some (tyJxd2413 k) := by decide +kernel
def RJ0 : String := "java/lang/String"
def TJ0 : u_T := fun k => match k with
  | _ => ("", "", "", false)
def tyJ0 : Nat → FieldType := fun k => match k with
  | _ => .int
abbrev wsJ00 : List Cond := u_ws RJ0 TJ0 0
theorem nmJ0 : ∀ a, a < 0 → ∀ b, b < 0 → a ≠ b → (TJ0 a).2.1 ≠ (TJ0 b).2.1 := by decide +kernel
theorem tyJ0_ok : ∀ k, k < 0 → parseFieldDescriptor (TJ0 k).2.2.1 = some (tyJ0 k) := by decide +kernel
def RJ10 : String := "java/lang/System"
def TJ10 : u_T := fun k => match k with
  | _ => ("", "", "", false)
def tyJ10 : Nat → FieldType := fun k => match k with
  | _ => .int
abbrev wsJ100 : List Cond := u_ws RJ10 TJ10 0
theorem nmJ10 : ∀ a, a < 0 → ∀ b, b < 0 → a ≠ b → (TJ10 a).2.1 ≠ (TJ10 b).2.1 := by decide +kernel
theorem tyJ10_ok : ∀ k, k < 0 → parseFieldDescriptor (TJ10 k).2.2.1 = some (tyJ10 k) := by decide +kernel
def RJxfd54e : String := "java/lang/constant/Constable"
def TJxfd54e : u_T := fun k => match k with
  | _ => ("", "", "", false)
def tyJxfd54e : Nat → FieldType := fun k => match k with
  | _ => .int
abbrev wsJxfd54e0 : List Cond := u_ws RJxfd54e TJxfd54e 0
theorem nmJxfd54e : ∀ a, a < 0 → ∀ b, b < 0 → a ≠ b → (TJxfd54e a).2.1 ≠ (TJxfd54e b).2.1 := by decide +kernel
theorem tyJxfd54e_ok : ∀ k, k < 0 → parseFieldDescriptor (TJxfd54e k).2.2.1 = some (tyJxfd54e k) := by decide +kernel
def RJx3cf43 : String := "java/lang/constant/ConstantDesc"
def TJx3cf43 : u_T := fun k => match k with
  | _ => ("", "", "", false)
def tyJx3cf43 : Nat → FieldType := fun k => match k with
  | _ => .int
abbrev wsJx3cf430 : List Cond := u_ws RJx3cf43 TJx3cf43 0
theorem nmJx3cf43 : ∀ a, a < 0 → ∀ b, b < 0 → a ≠ b → (TJx3cf43 a).2.1 ≠ (TJx3cf43 b).2.1 := by decide +kernel
theorem tyJx3cf43_ok : ∀ k, k < 0 → parseFieldDescriptor (TJx3cf43 k).2.2.1 = some (tyJx3cf43 k) := by decide +kernel
def RL : String := "BayerGateLaw"
abbrev cL_below : ByteArray := method_2_code
def yL_below : MethodName := ⟨RL, "below", "(II)I"⟩
abbrev cL_cell : ByteArray := method_3_code
def yL_cell : MethodName := ⟨RL, "cell", "([II)I"⟩
abbrev cL_law : ByteArray := code
def yL_law : MethodName := ⟨RL, "law", "([I)Z"⟩
abbrev cL_isMended : ByteArray := method_5_code
def yL_isMended : MethodName := ⟨RL, "isMended", "(LBayerGateLaw$Told;)Z"⟩
def wsX0_init : List Cond := .code yX0_init cX0_init 1 none :: ([.methodLink RX0 3 objectInit, .instanceMethod objectInit, .code objectInit ⟨#[0xb1]⟩ 1 none, .arrayClass .int, .fieldLink RX0 9 "BayerGate$EditRow" "kinds" "[I", .fieldLink RX0 15 "BayerGate$EditRow" "numbers" "[I", .fieldLink RX0 18 "BayerGate$EditRow" "length" "I"] ++ wsX00)
def wsX0_count : List Cond := .code yX0_count cX0_count 1 (some .int) :: ([.fieldLink RX0 18 "BayerGate$EditRow" "length" "I"] ++ wsX00)
def wsX0_append : List Cond := .code yX0_append cX0_append 3 none :: ([.fieldLink RX0 18 "BayerGate$EditRow" "length" "I", .fieldLink RX0 9 "BayerGate$EditRow" "kinds" "[I", .fieldLink RX0 15 "BayerGate$EditRow" "numbers" "[I"] ++ wsX00)
def wsX0_takeBack : List Cond := .code yX0_takeBack cX0_takeBack 1 (some .int) :: ([.fieldLink RX0 18 "BayerGate$EditRow" "length" "I", .fieldLink RX0 9 "BayerGate$EditRow" "kinds" "[I"] ++ wsX00)
def wsX0_copyFrom : List Cond := .code yX0_copyFrom cX0_copyFrom 3 none :: ([.fieldLink RX0 9 "BayerGate$EditRow" "kinds" "[I", .fieldLink RX0 15 "BayerGate$EditRow" "numbers" "[I", .fieldLink RX0 18 "BayerGate$EditRow" "length" "I"] ++ wsX00)
def wsX0_hasMend : List Cond := .code yX0_hasMend cX0_hasMend 2 (some .boolean) :: ([.fieldLink RX0 18 "BayerGate$EditRow" "length" "I", .fieldLink RX0 9 "BayerGate$EditRow" "kinds" "[I"] ++ wsX00)
def wsX1_init : List Cond := .code yX1_init cX1_init 1 none :: ([.methodLink RX1 3 objectInit, .instanceMethod objectInit, .code objectInit ⟨#[0xb1]⟩ 1 none, .arrayClass .int, .fieldLink RX1 9 "BayerGate$Frame" "rawRow" "[I", .classLink RX1 15 RX0, .instantiable RX0 3, .initialized RX0, .fieldLink RX1 18 "BayerGate$Frame" "edits" "LBayerGate$EditRow;", .fieldLink RX1 22 "BayerGate$Frame" "time" "I", .fieldLink RX1 26 "BayerGate$Frame" "gain" "I", .fieldLink RX1 29 "BayerGate$Frame" "ghosts" "I", .instanceMethod yX0_init, .code yX0_init cX0_init 1 none, .methodLink RX0 3 objectInit, .fieldLink RX0 9 "BayerGate$EditRow" "kinds" "[I", .fieldLink RX0 15 "BayerGate$EditRow" "numbers" "[I", .fieldLink RX0 18 "BayerGate$EditRow" "length" "I"] ++ wsX10 ++ wsX00)
def wsX1_countClipped : List Cond := .code yX1_countClipped cX1_countClipped 3 (some .int) :: ([.fieldLink RX1 9 "BayerGate$Frame" "rawRow" "[I"] ++ wsX10)
def wsX6_colourSeen : List Cond := .code yX6_colourSeen cX6_colourSeen 2 (some .int) :: ([])
def wsX6_placeOf : List Cond := .code yX6_placeOf cX6_placeOf 2 (some .int) :: ([])
def wsX1_sharpness : List Cond := .code yX1_sharpness cX1_sharpness 4 (some .int) :: ([.fieldLink RX1 9 "BayerGate$Frame" "rawRow" "[I", .methodLink RX1 39 Lib.Math.abs.name, .static Lib.Math.abs.name, .initialized "java/lang/Math", .code Lib.Math.abs.name Lib.Math.abs.code 1 (some .int), .static yX6_colourSeen, .initialized RX6, .code yX6_colourSeen cX6_colourSeen 2 (some .int), .static yX6_placeOf, .code yX6_placeOf cX6_placeOf 2 (some .int)] ++ wsX10)
def wsX1_sumSeen : List Cond := .code yX1_sumSeen cX1_sumSeen 5 (some .int) :: ([.fieldLink RX1 9 "BayerGate$Frame" "rawRow" "[I", .static yX6_colourSeen, .initialized RX6, .code yX6_colourSeen cX6_colourSeen 2 (some .int), .static yX6_placeOf, .code yX6_placeOf cX6_placeOf 2 (some .int)] ++ wsX10)
def wsX1_whiteOf : List Cond := .code yX1_whiteOf cX1_whiteOf 3 (some .int) :: ([.methodLink RX1 48 Lib.Math.min.name, .static Lib.Math.min.name, .initialized "java/lang/Math", .code Lib.Math.min.name Lib.Math.min.code 2 (some .int), .methodLink RX1 51 Lib.Math.max.name, .static Lib.Math.max.name, .code Lib.Math.max.name Lib.Math.max.code 2 (some .int), .methodLink RX1 45 yX1_sumSeen, .instanceMethod yX1_sumSeen, .selects RX1 yX1_sumSeen yX1_sumSeen, .initialized RX1, .code yX1_sumSeen cX1_sumSeen 5 (some .int), .fieldLink RX1 9 "BayerGate$Frame" "rawRow" "[I", .static yX6_colourSeen, .initialized RX6, .code yX6_colourSeen cX6_colourSeen 2 (some .int), .static yX6_placeOf, .code yX6_placeOf cX6_placeOf 2 (some .int)] ++ wsX10)
def wsX1_meanOfZone : List Cond := .code yX1_meanOfZone cX1_meanOfZone 7 (some .double) :: ([.fieldLink RX1 9 "BayerGate$Frame" "rawRow" "[I", .constantDouble RX1 54 (4620693217682128896), .static yX6_colourSeen, .initialized RX6, .code yX6_colourSeen cX6_colourSeen 2 (some .int), .static yX6_placeOf, .code yX6_placeOf cX6_placeOf 2 (some .int)] ++ wsX10)
def wsX1_meanOfZones : List Cond := .code yX1_meanOfZones cX1_meanOfZones 4 (some .double) :: ([.constantDouble RX1 60 (4616189618054758400), .methodLink RX1 56 yX1_meanOfZone, .instanceMethod yX1_meanOfZone, .selects RX1 yX1_meanOfZone yX1_meanOfZone, .initialized RX1, .code yX1_meanOfZone cX1_meanOfZone 7 (some .double), .fieldLink RX1 9 "BayerGate$Frame" "rawRow" "[I", .constantDouble RX1 54 (4620693217682128896), .static yX6_colourSeen, .initialized RX6, .code yX6_colourSeen cX6_colourSeen 2 (some .int), .static yX6_placeOf, .code yX6_placeOf cX6_placeOf 2 (some .int)] ++ wsX10)
def wsX2_init : List Cond := .code yX2_init cX2_init 1 none :: ([.methodLink RX2 3 objectInit, .instanceMethod objectInit, .code objectInit ⟨#[0xb1]⟩ 1 none, .arrayClass .float, .fieldLink RX2 9 "BayerGate$Picture" "numbers" "[F", .arrayClass .int, .fieldLink RX2 15 "BayerGate$Picture" "mended" "[I"] ++ wsX20)
def wsX2_indexOf : List Cond := .code yX2_indexOf cX2_indexOf 2 (some .int) :: ([])
def wsX6_isPlace : List Cond := .code yX6_isPlace cX6_isPlace 2 (some .boolean) :: ([])
def wsX2_mendedAt : List Cond := .code yX2_mendedAt cX2_mendedAt 10 (some .int) :: ([.static yX6_isPlace, .initialized RX6, .code yX6_isPlace cX6_isPlace 2 (some .boolean), .static yX6_placeOf, .code yX6_placeOf cX6_placeOf 2 (some .int)])
def wsX2_mendAll : List Cond := .code yX2_mendAll cX2_mendAll 8 none :: ([.fieldLink RX2 15 "BayerGate$Picture" "mended" "[I", .static yX6_placeOf, .initialized RX6, .code yX6_placeOf cX6_placeOf 2 (some .int), .methodLink RX2 57 yX2_mendedAt, .static yX2_mendedAt, .initialized RX2, .code yX2_mendedAt cX2_mendedAt 10 (some .int), .static yX6_isPlace, .code yX6_isPlace cX6_isPlace 2 (some .boolean)] ++ wsX20)
def wsX2_meanAround : List Cond := .code yX2_meanAround cX2_meanAround 8 (some .float) :: ([.fieldLink RX2 15 "BayerGate$Picture" "mended" "[I", .static yX6_isPlace, .initialized RX6, .code yX6_isPlace cX6_isPlace 2 (some .boolean), .static yX6_colourSeen, .code yX6_colourSeen cX6_colourSeen 2 (some .int), .static yX6_placeOf, .code yX6_placeOf cX6_placeOf 2 (some .int)] ++ wsX20)
def wsX2_makeWhole : List Cond := .code yX2_makeWhole cX2_makeWhole 7 none :: ([.fieldLink RX2 15 "BayerGate$Picture" "mended" "[I", .fieldLink RX2 9 "BayerGate$Picture" "numbers" "[F", .static yX6_placeOf, .initialized RX6, .code yX6_placeOf cX6_placeOf 2 (some .int), .static yX6_colourSeen, .code yX6_colourSeen cX6_colourSeen 2 (some .int), .methodLink RX2 68 yX2_meanAround, .instanceMethod yX2_meanAround, .selects RX2 yX2_meanAround yX2_meanAround, .initialized RX2, .code yX2_meanAround cX2_meanAround 8 (some .float), .static yX6_isPlace, .code yX6_isPlace cX6_isPlace 2 (some .boolean), .methodLink RX2 49 yX2_indexOf, .static yX2_indexOf, .code yX2_indexOf cX2_indexOf 2 (some .int)] ++ wsX20)
def wsX2_darken : List Cond := .code yX2_darken cX2_darken 4 none :: ([.fieldLink RX2 9 "BayerGate$Picture" "numbers" "[F"] ++ wsX20)
def wsX2_scaleColour : List Cond := .code yX2_scaleColour cX2_scaleColour 4 none :: ([.fieldLink RX2 9 "BayerGate$Picture" "numbers" "[F", .methodLink RX2 49 yX2_indexOf, .static yX2_indexOf, .initialized RX2, .code yX2_indexOf cX2_indexOf 2 (some .int)] ++ wsX20)
def wsX2_changeTone : List Cond := .code yX2_changeTone cX2_changeTone 3 none :: ([.fieldLink RX2 9 "BayerGate$Picture" "numbers" "[F", .constantFloat RX2 87 (1056964608), .constantFloat RX2 53 (1132396544)] ++ wsX20)
def wsX2_turnOver : List Cond := .code yX2_turnOver cX2_turnOver 7 none :: ([.fieldLink RX2 9 "BayerGate$Picture" "numbers" "[F", .static yX6_placeOf, .initialized RX6, .code yX6_placeOf cX6_placeOf 2 (some .int), .methodLink RX2 49 yX2_indexOf, .static yX2_indexOf, .initialized RX2, .code yX2_indexOf cX2_indexOf 2 (some .int)] ++ wsX20)
def wsX2_applyEdit_r1 : List Cond := [Cond.constantFloat RX2 76 (1082130432), Cond.methodLink RX2 72 yX2_darken, Cond.instanceMethod yX2_darken, Cond.selects RX2 yX2_darken yX2_darken, Cond.initialized RX2, Cond.code yX2_darken cX2_darken 4 none, Cond.fieldLink RX2 9 "BayerGate$Picture" "numbers" "[F", Cond.methodLink RX2 77 yX2_scaleColour, Cond.instanceMethod yX2_scaleColour, Cond.selects RX2 yX2_scaleColour yX2_scaleColour, Cond.code yX2_scaleColour cX2_scaleColour 4 none, Cond.methodLink RX2 49 yX2_indexOf, Cond.static yX2_indexOf, Cond.code yX2_indexOf cX2_indexOf 2 (some .int), Cond.methodLink RX2 81 yX2_changeTone, Cond.instanceMethod yX2_changeTone, Cond.selects RX2 yX2_changeTone yX2_changeTone, Cond.code yX2_changeTone cX2_changeTone 3 none, Cond.constantFloat RX2 87 (1056964608), Cond.constantFloat RX2 53 (1132396544), Cond.methodLink RX2 84 yX2_turnOver, Cond.instanceMethod yX2_turnOver, Cond.selects RX2 yX2_turnOver yX2_turnOver, Cond.code yX2_turnOver cX2_turnOver 7 none]
def wsX2_applyEdit_r2 : List Cond := [Cond.static yX6_placeOf, Cond.initialized RX6, Cond.code yX6_placeOf cX6_placeOf 2 (some .int)]
def wsX2_applyEdit : List Cond := .code yX2_applyEdit cX2_applyEdit 3 none :: ((wsX2_applyEdit_r1 ++ wsX2_applyEdit_r2) ++ wsX20)
def wsX2_compose_r1 : List Cond := [Cond.methodLink RX2 19 yX0_hasMend, Cond.instanceMethod yX0_hasMend, Cond.selects RX0 yX0_hasMend yX0_hasMend, Cond.initialized RX0, Cond.code yX0_hasMend cX0_hasMend 2 (some .boolean), Cond.fieldLink RX0 18 "BayerGate$EditRow" "length" "I", Cond.fieldLink RX0 9 "BayerGate$EditRow" "kinds" "[I", Cond.methodLink RX2 25 yX2_mendAll, Cond.instanceMethod yX2_mendAll, Cond.selects RX2 yX2_mendAll yX2_mendAll, Cond.initialized RX2, Cond.code yX2_mendAll cX2_mendAll 8 none, Cond.fieldLink RX2 15 "BayerGate$Picture" "mended" "[I", Cond.static yX6_placeOf, Cond.initialized RX6, Cond.code yX6_placeOf cX6_placeOf 2 (some .int), Cond.methodLink RX2 57 yX2_mendedAt, Cond.static yX2_mendedAt, Cond.code yX2_mendedAt cX2_mendedAt 10 (some .int), Cond.static yX6_isPlace, Cond.code yX6_isPlace cX6_isPlace 2 (some .boolean), Cond.methodLink RX2 29 yX2_makeWhole, Cond.instanceMethod yX2_makeWhole, Cond.selects RX2 yX2_makeWhole yX2_makeWhole]
def wsX2_compose_r2 : List Cond := [Cond.code yX2_makeWhole cX2_makeWhole 7 none, Cond.fieldLink RX2 9 "BayerGate$Picture" "numbers" "[F", Cond.static yX6_colourSeen, Cond.code yX6_colourSeen cX6_colourSeen 2 (some .int), Cond.methodLink RX2 68 yX2_meanAround, Cond.instanceMethod yX2_meanAround, Cond.selects RX2 yX2_meanAround yX2_meanAround, Cond.code yX2_meanAround cX2_meanAround 8 (some .float), Cond.methodLink RX2 49 yX2_indexOf, Cond.static yX2_indexOf, Cond.code yX2_indexOf cX2_indexOf 2 (some .int), Cond.methodLink RX2 32 yX0_count, Cond.instanceMethod yX0_count, Cond.selects RX0 yX0_count yX0_count, Cond.code yX0_count cX0_count 1 (some .int), Cond.methodLink RX2 41 yX2_applyEdit, Cond.instanceMethod yX2_applyEdit, Cond.selects RX2 yX2_applyEdit yX2_applyEdit, Cond.code yX2_applyEdit cX2_applyEdit 3 none, Cond.constantFloat RX2 76 (1082130432), Cond.methodLink RX2 72 yX2_darken, Cond.instanceMethod yX2_darken, Cond.selects RX2 yX2_darken yX2_darken, Cond.code yX2_darken cX2_darken 4 none]
def wsX2_compose_r3 : List Cond := [Cond.methodLink RX2 77 yX2_scaleColour, Cond.instanceMethod yX2_scaleColour, Cond.selects RX2 yX2_scaleColour yX2_scaleColour, Cond.code yX2_scaleColour cX2_scaleColour 4 none, Cond.methodLink RX2 81 yX2_changeTone, Cond.instanceMethod yX2_changeTone, Cond.selects RX2 yX2_changeTone yX2_changeTone, Cond.code yX2_changeTone cX2_changeTone 3 none, Cond.constantFloat RX2 87 (1056964608), Cond.constantFloat RX2 53 (1132396544), Cond.methodLink RX2 84 yX2_turnOver, Cond.instanceMethod yX2_turnOver, Cond.selects RX2 yX2_turnOver yX2_turnOver, Cond.code yX2_turnOver cX2_turnOver 7 none]
def wsX2_compose : List Cond := .code yX2_compose cX2_compose 5 none :: ((wsX2_compose_r1 ++ (wsX2_compose_r2 ++ wsX2_compose_r3)) ++ wsX00 ++ wsX20)
def wsX2_bounded : List Cond := .code yX2_bounded cX2_bounded 1 (some .float) :: ([.constantFloat RX2 53 (1132396544)])
def wsX2_bound : List Cond := .code yX2_bound cX2_bound 2 none :: ([.fieldLink RX2 9 "BayerGate$Picture" "numbers" "[F", .methodLink RX2 45 yX2_bounded, .static yX2_bounded, .initialized RX2, .code yX2_bounded cX2_bounded 1 (some .float), .constantFloat RX2 53 (1132396544)] ++ wsX20)
def wsX2_sumUp : List Cond := .code yX2_sumUp cX2_sumUp 3 (some .int) :: ([.fieldLink RX2 9 "BayerGate$Picture" "numbers" "[F"] ++ wsX20)
def wsX2_sumTones : List Cond := .code yX2_sumTones cX2_sumTones 5 (some .int) :: ([.fieldLink RX2 9 "BayerGate$Picture" "numbers" "[F", .methodLink RX2 49 yX2_indexOf, .static yX2_indexOf, .initialized RX2, .code yX2_indexOf cX2_indexOf 2 (some .int), .methodLink RX2 45 yX2_bounded, .static yX2_bounded, .code yX2_bounded cX2_bounded 1 (some .float), .constantFloat RX2 53 (1132396544)] ++ wsX20)
def wsX3_init : List Cond := .code yX3_init cX3_init 2 none :: ([.methodLink RX3 3 objectInit, .instanceMethod objectInit, .code objectInit ⟨#[0xb1]⟩ 1 none, .arrayClass .int, .fieldLink RX3 9 "BayerGate$Scene" "shades" "[I", .arrayClass .float, .fieldLink RX3 15 "BayerGate$Scene" "factors" "[F", .fieldLink RX3 19 "BayerGate$Scene" "quartersOfGreen" "I"] ++ wsX30)
def wsX3_colourPlace : List Cond := .code yX3_colourPlace cX3_colourPlace 5 none :: ([.fieldLink RX3 9 "BayerGate$Scene" "shades" "[I"] ++ wsX30)
def wsX3_shade : List Cond := .code yX3_shade cX3_shade 3 (some .int) :: ([.fieldLink RX3 9 "BayerGate$Scene" "shades" "[I"] ++ wsX30)
def wsX3_light : List Cond := .code yX3_light cX3_light 4 none :: ([.fieldLink RX3 15 "BayerGate$Scene" "factors" "[F", .constantFloat RX3 23 (1082130432), .fieldLink RX3 19 "BayerGate$Scene" "quartersOfGreen" "I"] ++ wsX30)
def wsX3_greenQuarters : List Cond := .code yX3_greenQuarters cX3_greenQuarters 1 (some .int) :: ([.fieldLink RX3 19 "BayerGate$Scene" "quartersOfGreen" "I"] ++ wsX30)
def wsX3_lightAt : List Cond := .code yX3_lightAt cX3_lightAt 4 (some .float) :: ([.fieldLink RX3 15 "BayerGate$Scene" "factors" "[F", .constantFloat RX3 28 (1098907648), .methodLink RX3 24 yX3_shade, .instanceMethod yX3_shade, .selects RX3 yX3_shade yX3_shade, .initialized RX3, .code yX3_shade cX3_shade 3 (some .int), .fieldLink RX3 9 "BayerGate$Scene" "shades" "[I"] ++ wsX30)
def wsX4_init : List Cond := .code yX4_init cX4_init 1 none :: ([.methodLink RX4 3 objectInit, .instanceMethod objectInit, .code objectInit ⟨#[0xb1]⟩ 1 none, .arrayClass .int, .fieldLink RX4 9 "BayerGate$Sensor" "hows" "[I", .arrayClass .boolean, .fieldLink RX4 15 "BayerGate$Sensor" "mapped" "[Z", .fieldLink RX4 19 "BayerGate$Sensor" "draw" "I"] ++ wsX40)
def wsX4_howIs : List Cond := .code yX4_howIs cX4_howIs 2 (some .int) :: ([.fieldLink RX4 9 "BayerGate$Sensor" "hows" "[I"] ++ wsX40)
def wsX4_setHow : List Cond := .code yX4_setHow cX4_setHow 3 none :: ([.fieldLink RX4 9 "BayerGate$Sensor" "hows" "[I"] ++ wsX40)
def wsX4_isMapped : List Cond := .code yX4_isMapped cX4_isMapped 2 (some .boolean) :: ([.fieldLink RX4 15 "BayerGate$Sensor" "mapped" "[Z"] ++ wsX40)
def wsX4_setMapped : List Cond := .code yX4_setMapped cX4_setMapped 3 none :: ([.fieldLink RX4 15 "BayerGate$Sensor" "mapped" "[Z"] ++ wsX40)
def wsX4_countMapped : List Cond := .code yX4_countMapped cX4_countMapped 3 (some .int) :: ([.fieldLink RX4 15 "BayerGate$Sensor" "mapped" "[Z"] ++ wsX40)
def wsX4_countSpoilt : List Cond := .code yX4_countSpoilt cX4_countSpoilt 4 (some .int) :: ([.fieldLink RX4 9 "BayerGate$Sensor" "hows" "[I", .fieldLink RX4 15 "BayerGate$Sensor" "mapped" "[Z"] ++ wsX40)
def wsX4_advance : List Cond := .code yX4_advance cX4_advance 2 none :: ([.fieldLink RX4 19 "BayerGate$Sensor" "draw" "I"] ++ wsX40)
def wsX4_rawOf : List Cond := .code yX4_rawOf cX4_rawOf 5 (some .int) :: ([.methodLink RX4 51 Lib.Math.min.name, .static Lib.Math.min.name, .initialized "java/lang/Math", .code Lib.Math.min.name Lib.Math.min.code 2 (some .int), .methodLink RX4 56 Lib.Math.max.name, .static Lib.Math.max.name, .code Lib.Math.max.name Lib.Math.max.code 2 (some .int)])
def wsX4_expose_r1 : List Cond := [Cond.fieldLink RX4 19 "BayerGate$Sensor" "draw" "I", Cond.fieldLink RX4 9 "BayerGate$Sensor" "hows" "[I", Cond.static yX6_placeOf, Cond.initialized RX6, Cond.code yX6_placeOf cX6_placeOf 2 (some .int), Cond.static yX6_colourSeen, Cond.code yX6_colourSeen cX6_colourSeen 2 (some .int), Cond.methodLink RX4 30 yX3_lightAt, Cond.instanceMethod yX3_lightAt, Cond.selects RX3 yX3_lightAt yX3_lightAt, Cond.initialized RX3, Cond.code yX3_lightAt cX3_lightAt 4 (some .float), Cond.fieldLink RX3 15 "BayerGate$Scene" "factors" "[F", Cond.constantFloat RX3 28 (1098907648), Cond.methodLink RX3 24 yX3_shade, Cond.instanceMethod yX3_shade, Cond.selects RX3 yX3_shade yX3_shade, Cond.code yX3_shade cX3_shade 3 (some .int), Cond.fieldLink RX3 9 "BayerGate$Scene" "shades" "[I", Cond.methodLink RX4 41 yX4_rawOf, Cond.static yX4_rawOf, Cond.initialized RX4, Cond.code yX4_rawOf cX4_rawOf 5 (some .int), Cond.methodLink RX4 51 Lib.Math.min.name]
def wsX4_expose_r2 : List Cond := [Cond.static Lib.Math.min.name, Cond.initialized "java/lang/Math", Cond.code Lib.Math.min.name Lib.Math.min.code 2 (some .int), Cond.methodLink RX4 56 Lib.Math.max.name, Cond.static Lib.Math.max.name, Cond.code Lib.Math.max.name Lib.Math.max.code 2 (some .int)]
def wsX4_expose : List Cond := .code yX4_expose cX4_expose 10 (some .int) :: ((wsX4_expose_r1 ++ wsX4_expose_r2) ++ wsX40 ++ wsX10 ++ wsX30)
def wsX5_init : List Cond := .code yX5_init cX5_init 1 none :: ([.methodLink RX5 1 objectInit, .instanceMethod objectInit, .code objectInit ⟨#[0xb1]⟩ 1 none, .classLink RX5 7 RX0, .instantiable RX0 3, .initialized RX0, .fieldLink RX5 10 "BayerGate$StoredFile" "edits" "LBayerGate$EditRow;", .fieldLink RX5 16 "BayerGate$StoredFile" "frame" "I", .fieldLink RX5 20 "BayerGate$StoredFile" "version" "I", .instanceMethod yX0_init, .code yX0_init cX0_init 1 none, .methodLink RX0 3 objectInit, .arrayClass .int, .fieldLink RX0 9 "BayerGate$EditRow" "kinds" "[I", .fieldLink RX0 15 "BayerGate$EditRow" "numbers" "[I", .fieldLink RX0 18 "BayerGate$EditRow" "length" "I"] ++ wsX00 ++ wsX50)
def wsX5_keep : List Cond := .code yX5_keep cX5_keep 4 none :: ([.fieldLink RX5 16 "BayerGate$StoredFile" "frame" "I", .fieldLink RX5 20 "BayerGate$StoredFile" "version" "I", .fieldLink RX5 10 "BayerGate$StoredFile" "edits" "LBayerGate$EditRow;", .methodLink RX5 23 yX0_copyFrom, .instanceMethod yX0_copyFrom, .selects RX0 yX0_copyFrom yX0_copyFrom, .initialized RX0, .code yX0_copyFrom cX0_copyFrom 3 none, .fieldLink RX0 9 "BayerGate$EditRow" "kinds" "[I", .fieldLink RX0 15 "BayerGate$EditRow" "numbers" "[I", .fieldLink RX0 18 "BayerGate$EditRow" "length" "I"] ++ wsX50 ++ wsX00)
def wsX6_init_r1 : List Cond := [Cond.methodLink RX6 3 objectInit, Cond.instanceMethod objectInit, Cond.code objectInit ⟨#[0xb1]⟩ 1 none, Cond.classLink RX6 9 RX3, Cond.instantiable RX3 3, Cond.initialized RX3, Cond.fieldLink RX6 12 "BayerGate" "scene" "LBayerGate$Scene;", Cond.classLink RX6 16 RX4, Cond.instantiable RX4 3, Cond.initialized RX4, Cond.fieldLink RX6 19 "BayerGate" "sensor" "LBayerGate$Sensor;", Cond.classLink RX6 23 RX1, Cond.fieldLink RX6 25 "BayerGate" "frameRow" "[LBayerGate$Frame;", Cond.classLink RX6 29 RX5, Cond.fieldLink RX6 31 "BayerGate" "fileRow" "[LBayerGate$StoredFile;", Cond.fieldLink RX6 35 "BayerGate" "frameCount" "I", Cond.fieldLink RX6 39 "BayerGate" "fileCount" "I", Cond.instantiable RX1 5, Cond.initialized RX1, Cond.fieldLink RX6 43 "BayerGate" "trial" "LBayerGate$Frame;", Cond.classLink RX6 47 RX2, Cond.instantiable RX2 2, Cond.initialized RX2, Cond.fieldLink RX6 50 "BayerGate" "developed" "LBayerGate$Picture;"]
def wsX6_init_r2 : List Cond := [Cond.fieldLink RX6 54 "BayerGate" "compared" "LBayerGate$Picture;", Cond.instantiable RX5 3, Cond.initialized RX5, Cond.methodLink RX6 11 yX3_init, Cond.instanceMethod yX3_init, Cond.code yX3_init cX3_init 2 none, Cond.methodLink RX3 3 objectInit, Cond.arrayClass .int, Cond.fieldLink RX3 9 "BayerGate$Scene" "shades" "[I", Cond.arrayClass .float, Cond.fieldLink RX3 15 "BayerGate$Scene" "factors" "[F", Cond.fieldLink RX3 19 "BayerGate$Scene" "quartersOfGreen" "I", Cond.instanceMethod yX4_init, Cond.code yX4_init cX4_init 1 none, Cond.methodLink RX4 3 objectInit, Cond.fieldLink RX4 9 "BayerGate$Sensor" "hows" "[I", Cond.arrayClass .boolean, Cond.fieldLink RX4 15 "BayerGate$Sensor" "mapped" "[Z", Cond.fieldLink RX4 19 "BayerGate$Sensor" "draw" "I", Cond.instanceMethod yX1_init, Cond.code yX1_init cX1_init 1 none, Cond.methodLink RX1 3 objectInit, Cond.fieldLink RX1 9 "BayerGate$Frame" "rawRow" "[I", Cond.classLink RX1 15 RX0]
def wsX6_init_r3 : List Cond := [Cond.instantiable RX0 3, Cond.initialized RX0, Cond.fieldLink RX1 18 "BayerGate$Frame" "edits" "LBayerGate$EditRow;", Cond.fieldLink RX1 22 "BayerGate$Frame" "time" "I", Cond.fieldLink RX1 26 "BayerGate$Frame" "gain" "I", Cond.fieldLink RX1 29 "BayerGate$Frame" "ghosts" "I", Cond.instanceMethod yX0_init, Cond.code yX0_init cX0_init 1 none, Cond.methodLink RX0 3 objectInit, Cond.fieldLink RX0 9 "BayerGate$EditRow" "kinds" "[I", Cond.fieldLink RX0 15 "BayerGate$EditRow" "numbers" "[I", Cond.fieldLink RX0 18 "BayerGate$EditRow" "length" "I", Cond.instanceMethod yX2_init, Cond.code yX2_init cX2_init 1 none, Cond.methodLink RX2 3 objectInit, Cond.fieldLink RX2 9 "BayerGate$Picture" "numbers" "[F", Cond.fieldLink RX2 15 "BayerGate$Picture" "mended" "[I", Cond.instanceMethod yX5_init, Cond.code yX5_init cX5_init 1 none, Cond.methodLink RX5 1 objectInit, Cond.classLink RX5 7 RX0, Cond.fieldLink RX5 10 "BayerGate$StoredFile" "edits" "LBayerGate$EditRow;", Cond.fieldLink RX5 16 "BayerGate$StoredFile" "frame" "I", Cond.fieldLink RX5 20 "BayerGate$StoredFile" "version" "I"]
def wsX6_init : List Cond := .code yX6_init cX6_init 2 none :: ((wsX6_init_r1 ++ (wsX6_init_r2 ++ wsX6_init_r3)) ++ wsX30 ++ wsX60 ++ wsX40 ++ wsX10 ++ wsX20 ++ wsX50 ++ wsX00)
def wsX6_needPlace : List Cond := .code yX6_needPlace cX6_needPlace 2 none :: ([.classLink RX6 284 "java/lang/IndexOutOfBoundsException", .initialized "java/lang/IndexOutOfBoundsException", .methodLink RX6 289 yX6_isPlace, .static yX6_isPlace, .initialized RX6, .code yX6_isPlace cX6_isPlace 2 (some .boolean)] ++ (vx_atS RX6 288 "java/lang/IndexOutOfBoundsException" ["java/lang/RuntimeException", "java/lang/Exception"]).filter goodWord)
def wsX6_needRange : List Cond := .code yX6_needRange cX6_needRange 3 none :: ([.classLink RX6 62 "java/lang/IllegalArgumentException", .initialized "java/lang/IllegalArgumentException"] ++ (vx_atS RX6 66 "java/lang/IllegalArgumentException" ["java/lang/RuntimeException", "java/lang/Exception"]).filter goodWord)
def wsX6_paint_r1 : List Cond := [Cond.classLink RX6 62 "java/lang/IllegalArgumentException", Cond.initialized "java/lang/IllegalArgumentException", Cond.constant RX6 69 (16777215), Cond.fieldLink RX6 12 "BayerGate" "scene" "LBayerGate$Scene;", Cond.methodLink RX6 58 yX6_needPlace, Cond.static yX6_needPlace, Cond.initialized RX6, Cond.code yX6_needPlace cX6_needPlace 2 none, Cond.classLink RX6 284 "java/lang/IndexOutOfBoundsException", Cond.initialized "java/lang/IndexOutOfBoundsException", Cond.methodLink RX6 289 yX6_isPlace, Cond.static yX6_isPlace, Cond.code yX6_isPlace cX6_isPlace 2 (some .boolean), Cond.methodLink RX6 70 yX6_needRange, Cond.static yX6_needRange, Cond.code yX6_needRange cX6_needRange 3 none, Cond.methodLink RX6 74 yX6_placeOf, Cond.static yX6_placeOf, Cond.code yX6_placeOf cX6_placeOf 2 (some .int), Cond.methodLink RX6 78 yX3_colourPlace, Cond.instanceMethod yX3_colourPlace, Cond.selects RX3 yX3_colourPlace yX3_colourPlace, Cond.initialized RX3, Cond.code yX3_colourPlace cX3_colourPlace 5 none]
def wsX6_paint_r2 : List Cond := [Cond.fieldLink RX3 9 "BayerGate$Scene" "shades" "[I"]
def wsX6_paint : List Cond := .code yX6_paint cX6_paint 8 (some .int) :: ((wsX6_paint_r1 ++ wsX6_paint_r2) ++ wsX60 ++ wsX30 ++ (vx_atS RX6 66 "java/lang/IllegalArgumentException" ["java/lang/RuntimeException", "java/lang/Exception"]).filter goodWord ++ (vx_atS RX6 288 "java/lang/IndexOutOfBoundsException" ["java/lang/RuntimeException", "java/lang/Exception"]).filter goodWord)
def wsX6_lamp : List Cond := .code yX6_lamp cX6_lamp 5 (some .int) :: ([.fieldLink RX6 12 "BayerGate" "scene" "LBayerGate$Scene;", .methodLink RX6 70 yX6_needRange, .static yX6_needRange, .initialized RX6, .code yX6_needRange cX6_needRange 3 none, .classLink RX6 62 "java/lang/IllegalArgumentException", .initialized "java/lang/IllegalArgumentException", .methodLink RX6 81 yX3_greenQuarters, .instanceMethod yX3_greenQuarters, .selects RX3 yX3_greenQuarters yX3_greenQuarters, .initialized RX3, .code yX3_greenQuarters cX3_greenQuarters 1 (some .int), .fieldLink RX3 19 "BayerGate$Scene" "quartersOfGreen" "I", .methodLink RX6 85 yX3_light, .instanceMethod yX3_light, .selects RX3 yX3_light yX3_light, .code yX3_light cX3_light 4 none, .fieldLink RX3 15 "BayerGate$Scene" "factors" "[F", .constantFloat RX3 23 (1082130432)] ++ wsX60 ++ wsX30 ++ (vx_atS RX6 66 "java/lang/IllegalArgumentException" ["java/lang/RuntimeException", "java/lang/Exception"]).filter goodWord)
def wsX6_spoil_r1 : List Cond := [Cond.fieldLink RX6 19 "BayerGate" "sensor" "LBayerGate$Sensor;", Cond.methodLink RX6 58 yX6_needPlace, Cond.static yX6_needPlace, Cond.initialized RX6, Cond.code yX6_needPlace cX6_needPlace 2 none, Cond.classLink RX6 284 "java/lang/IndexOutOfBoundsException", Cond.initialized "java/lang/IndexOutOfBoundsException", Cond.methodLink RX6 289 yX6_isPlace, Cond.static yX6_isPlace, Cond.code yX6_isPlace cX6_isPlace 2 (some .boolean), Cond.methodLink RX6 70 yX6_needRange, Cond.static yX6_needRange, Cond.code yX6_needRange cX6_needRange 3 none, Cond.classLink RX6 62 "java/lang/IllegalArgumentException", Cond.initialized "java/lang/IllegalArgumentException", Cond.methodLink RX6 74 yX6_placeOf, Cond.static yX6_placeOf, Cond.code yX6_placeOf cX6_placeOf 2 (some .int), Cond.methodLink RX6 88 yX4_howIs, Cond.instanceMethod yX4_howIs, Cond.selects RX4 yX4_howIs yX4_howIs, Cond.initialized RX4, Cond.code yX4_howIs cX4_howIs 2 (some .int), Cond.fieldLink RX4 9 "BayerGate$Sensor" "hows" "[I"]
def wsX6_spoil_r2 : List Cond := [Cond.methodLink RX6 92 yX4_setHow, Cond.instanceMethod yX4_setHow, Cond.selects RX4 yX4_setHow yX4_setHow, Cond.code yX4_setHow cX4_setHow 3 none]
def wsX6_spoil : List Cond := .code yX6_spoil cX6_spoil 6 (some .int) :: ((wsX6_spoil_r1 ++ wsX6_spoil_r2) ++ wsX60 ++ wsX40 ++ (vx_atS RX6 288 "java/lang/IndexOutOfBoundsException" ["java/lang/RuntimeException", "java/lang/Exception"]).filter goodWord ++ (vx_atS RX6 66 "java/lang/IllegalArgumentException" ["java/lang/RuntimeException", "java/lang/Exception"]).filter goodWord)
def wsX6_map : List Cond := .code yX6_map cX6_map 4 (some .int) :: ([.fieldLink RX6 19 "BayerGate" "sensor" "LBayerGate$Sensor;", .methodLink RX6 58 yX6_needPlace, .static yX6_needPlace, .initialized RX6, .code yX6_needPlace cX6_needPlace 2 none, .classLink RX6 284 "java/lang/IndexOutOfBoundsException", .initialized "java/lang/IndexOutOfBoundsException", .methodLink RX6 289 yX6_isPlace, .static yX6_isPlace, .code yX6_isPlace cX6_isPlace 2 (some .boolean), .methodLink RX6 74 yX6_placeOf, .static yX6_placeOf, .code yX6_placeOf cX6_placeOf 2 (some .int), .methodLink RX6 95 yX4_setMapped, .instanceMethod yX4_setMapped, .selects RX4 yX4_setMapped yX4_setMapped, .initialized RX4, .code yX4_setMapped cX4_setMapped 3 none, .fieldLink RX4 15 "BayerGate$Sensor" "mapped" "[Z", .methodLink RX6 99 yX4_countMapped, .instanceMethod yX4_countMapped, .selects RX4 yX4_countMapped yX4_countMapped, .code yX4_countMapped cX4_countMapped 3 (some .int)] ++ wsX60 ++ wsX40 ++ (vx_atS RX6 288 "java/lang/IndexOutOfBoundsException" ["java/lang/RuntimeException", "java/lang/Exception"]).filter goodWord)
def wsX6_needExposure : List Cond := .code yX6_needExposure cX6_needExposure 2 none :: ([.methodLink RX6 70 yX6_needRange, .static yX6_needRange, .initialized RX6, .code yX6_needRange cX6_needRange 3 none, .classLink RX6 62 "java/lang/IllegalArgumentException", .initialized "java/lang/IllegalArgumentException"] ++ (vx_atS RX6 66 "java/lang/IllegalArgumentException" ["java/lang/RuntimeException", "java/lang/Exception"]).filter goodWord)
def wsX6_needRoom : List Cond := .code yX6_needRoom cX6_needRoom 2 none :: ([.classLink RX6 299 "java/lang/IllegalStateException", .initialized "java/lang/IllegalStateException"] ++ (vx_atS RX6 303 "java/lang/IllegalStateException" ["java/lang/RuntimeException", "java/lang/Exception"]).filter goodWord)
def wsX6_take_r1 : List Cond := [Cond.fieldLink RX6 35 "BayerGate" "frameCount" "I", Cond.fieldLink RX6 19 "BayerGate" "sensor" "LBayerGate$Sensor;", Cond.fieldLink RX6 12 "BayerGate" "scene" "LBayerGate$Scene;", Cond.fieldLink RX6 25 "BayerGate" "frameRow" "[LBayerGate$Frame;", Cond.methodLink RX6 102 yX6_needExposure, Cond.static yX6_needExposure, Cond.initialized RX6, Cond.code yX6_needExposure cX6_needExposure 2 none, Cond.methodLink RX6 70 yX6_needRange, Cond.static yX6_needRange, Cond.code yX6_needRange cX6_needRange 3 none, Cond.classLink RX6 62 "java/lang/IllegalArgumentException", Cond.initialized "java/lang/IllegalArgumentException", Cond.methodLink RX6 105 yX6_needRoom, Cond.static yX6_needRoom, Cond.code yX6_needRoom cX6_needRoom 2 none, Cond.classLink RX6 299 "java/lang/IllegalStateException", Cond.initialized "java/lang/IllegalStateException", Cond.methodLink RX6 108 yX4_expose, Cond.instanceMethod yX4_expose, Cond.selects RX4 yX4_expose yX4_expose, Cond.initialized RX4, Cond.code yX4_expose cX4_expose 10 (some .int), Cond.fieldLink RX4 19 "BayerGate$Sensor" "draw" "I"]
def wsX6_take_r2 : List Cond := [Cond.fieldLink RX4 9 "BayerGate$Sensor" "hows" "[I", Cond.static yX6_placeOf, Cond.code yX6_placeOf cX6_placeOf 2 (some .int), Cond.static yX6_colourSeen, Cond.code yX6_colourSeen cX6_colourSeen 2 (some .int), Cond.methodLink RX4 30 yX3_lightAt, Cond.instanceMethod yX3_lightAt, Cond.selects RX3 yX3_lightAt yX3_lightAt, Cond.initialized RX3, Cond.code yX3_lightAt cX3_lightAt 4 (some .float), Cond.fieldLink RX3 15 "BayerGate$Scene" "factors" "[F", Cond.constantFloat RX3 28 (1098907648), Cond.methodLink RX3 24 yX3_shade, Cond.instanceMethod yX3_shade, Cond.selects RX3 yX3_shade yX3_shade, Cond.code yX3_shade cX3_shade 3 (some .int), Cond.fieldLink RX3 9 "BayerGate$Scene" "shades" "[I", Cond.methodLink RX4 41 yX4_rawOf, Cond.static yX4_rawOf, Cond.code yX4_rawOf cX4_rawOf 5 (some .int), Cond.methodLink RX4 51 Lib.Math.min.name, Cond.static Lib.Math.min.name, Cond.initialized "java/lang/Math", Cond.code Lib.Math.min.name Lib.Math.min.code 2 (some .int)]
def wsX6_take_r3 : List Cond := [Cond.methodLink RX4 56 Lib.Math.max.name, Cond.static Lib.Math.max.name, Cond.code Lib.Math.max.name Lib.Math.max.code 2 (some .int), Cond.methodLink RX6 112 yX4_advance, Cond.instanceMethod yX4_advance, Cond.selects RX4 yX4_advance yX4_advance, Cond.code yX4_advance cX4_advance 2 none]
def wsX6_take : List Cond := .code yX6_take cX6_take 4 (some .int) :: ((wsX6_take_r1 ++ (wsX6_take_r2 ++ wsX6_take_r3)) ++ wsX60 ++ wsX40 ++ wsX10 ++ wsX30 ++ (vx_atS RX6 66 "java/lang/IllegalArgumentException" ["java/lang/RuntimeException", "java/lang/Exception"]).filter goodWord ++ (vx_atS RX6 303 "java/lang/IllegalStateException" ["java/lang/RuntimeException", "java/lang/Exception"]).filter goodWord)
def wsX6_needFrame : List Cond := .code yX6_needFrame cX6_needFrame 2 none :: ([.classLink RX6 284 "java/lang/IndexOutOfBoundsException", .initialized "java/lang/IndexOutOfBoundsException", .fieldLink RX6 35 "BayerGate" "frameCount" "I"] ++ wsX60 ++ (vx_atS RX6 288 "java/lang/IndexOutOfBoundsException" ["java/lang/RuntimeException", "java/lang/Exception"]).filter goodWord)
def wsX6_leastNumber : List Cond := .code yX6_leastNumber cX6_leastNumber 1 (some .int) :: ([])
def wsX6_mostNumber : List Cond := .code yX6_mostNumber cX6_mostNumber 1 (some .int) :: ([])
def wsX6_edit_r1 : List Cond := [Cond.fieldLink RX6 25 "BayerGate" "frameRow" "[LBayerGate$Frame;", Cond.methodLink RX6 127 yX6_needFrame, Cond.instanceMethod yX6_needFrame, Cond.selects RX6 yX6_needFrame yX6_needFrame, Cond.initialized RX6, Cond.code yX6_needFrame cX6_needFrame 2 none, Cond.classLink RX6 284 "java/lang/IndexOutOfBoundsException", Cond.initialized "java/lang/IndexOutOfBoundsException", Cond.fieldLink RX6 35 "BayerGate" "frameCount" "I", Cond.methodLink RX6 70 yX6_needRange, Cond.static yX6_needRange, Cond.code yX6_needRange cX6_needRange 3 none, Cond.classLink RX6 62 "java/lang/IllegalArgumentException", Cond.initialized "java/lang/IllegalArgumentException", Cond.methodLink RX6 130 yX6_leastNumber, Cond.static yX6_leastNumber, Cond.code yX6_leastNumber cX6_leastNumber 1 (some .int), Cond.methodLink RX6 133 yX6_mostNumber, Cond.static yX6_mostNumber, Cond.code yX6_mostNumber cX6_mostNumber 1 (some .int), Cond.methodLink RX6 140 yX0_count, Cond.instanceMethod yX0_count, Cond.selects RX0 yX0_count yX0_count, Cond.initialized RX0]
def wsX6_edit_r2 : List Cond := [Cond.code yX0_count cX0_count 1 (some .int), Cond.fieldLink RX0 18 "BayerGate$EditRow" "length" "I", Cond.methodLink RX6 105 yX6_needRoom, Cond.static yX6_needRoom, Cond.code yX6_needRoom cX6_needRoom 2 none, Cond.classLink RX6 299 "java/lang/IllegalStateException", Cond.initialized "java/lang/IllegalStateException", Cond.methodLink RX6 145 yX0_append, Cond.instanceMethod yX0_append, Cond.selects RX0 yX0_append yX0_append, Cond.code yX0_append cX0_append 3 none, Cond.fieldLink RX0 9 "BayerGate$EditRow" "kinds" "[I", Cond.fieldLink RX0 15 "BayerGate$EditRow" "numbers" "[I"]
def wsX6_edit : List Cond := .code yX6_edit cX6_edit 5 (some .int) :: ((wsX6_edit_r1 ++ wsX6_edit_r2) ++ wsX60 ++ wsX10 ++ wsX00 ++ (vx_atS RX6 288 "java/lang/IndexOutOfBoundsException" ["java/lang/RuntimeException", "java/lang/Exception"]).filter goodWord ++ (vx_atS RX6 66 "java/lang/IllegalArgumentException" ["java/lang/RuntimeException", "java/lang/Exception"]).filter goodWord ++ (vx_atS RX6 303 "java/lang/IllegalStateException" ["java/lang/RuntimeException", "java/lang/Exception"]).filter goodWord)
def wsX6_undo : List Cond := .code yX6_undo cX6_undo 2 (some .int) :: ([.fieldLink RX6 25 "BayerGate" "frameRow" "[LBayerGate$Frame;", .methodLink RX6 127 yX6_needFrame, .instanceMethod yX6_needFrame, .selects RX6 yX6_needFrame yX6_needFrame, .initialized RX6, .code yX6_needFrame cX6_needFrame 2 none, .classLink RX6 284 "java/lang/IndexOutOfBoundsException", .initialized "java/lang/IndexOutOfBoundsException", .fieldLink RX6 35 "BayerGate" "frameCount" "I", .methodLink RX6 148 yX0_takeBack, .instanceMethod yX0_takeBack, .selects RX0 yX0_takeBack yX0_takeBack, .initialized RX0, .code yX0_takeBack cX0_takeBack 1 (some .int), .fieldLink RX0 18 "BayerGate$EditRow" "length" "I", .fieldLink RX0 9 "BayerGate$EditRow" "kinds" "[I"] ++ wsX60 ++ wsX10 ++ wsX00 ++ (vx_atS RX6 288 "java/lang/IndexOutOfBoundsException" ["java/lang/RuntimeException", "java/lang/Exception"]).filter goodWord)
def wsX6_countFilesOf : List Cond := .code yX6_countFilesOf cX6_countFilesOf 4 (some .int) :: ([.fieldLink RX6 39 "BayerGate" "fileCount" "I", .fieldLink RX6 31 "BayerGate" "fileRow" "[LBayerGate$StoredFile;"] ++ wsX60 ++ wsX50)
def wsX6_save_r1 : List Cond := [Cond.fieldLink RX6 39 "BayerGate" "fileCount" "I", Cond.fieldLink RX6 31 "BayerGate" "fileRow" "[LBayerGate$StoredFile;", Cond.fieldLink RX6 25 "BayerGate" "frameRow" "[LBayerGate$Frame;", Cond.methodLink RX6 127 yX6_needFrame, Cond.instanceMethod yX6_needFrame, Cond.selects RX6 yX6_needFrame yX6_needFrame, Cond.initialized RX6, Cond.code yX6_needFrame cX6_needFrame 2 none, Cond.classLink RX6 284 "java/lang/IndexOutOfBoundsException", Cond.initialized "java/lang/IndexOutOfBoundsException", Cond.fieldLink RX6 35 "BayerGate" "frameCount" "I", Cond.methodLink RX6 105 yX6_needRoom, Cond.static yX6_needRoom, Cond.code yX6_needRoom cX6_needRoom 2 none, Cond.classLink RX6 299 "java/lang/IllegalStateException", Cond.initialized "java/lang/IllegalStateException", Cond.methodLink RX6 151 yX6_countFilesOf, Cond.instanceMethod yX6_countFilesOf, Cond.selects RX6 yX6_countFilesOf yX6_countFilesOf, Cond.code yX6_countFilesOf cX6_countFilesOf 4 (some .int), Cond.methodLink RX6 154 yX5_keep, Cond.instanceMethod yX5_keep, Cond.selects RX5 yX5_keep yX5_keep, Cond.initialized RX5]
def wsX6_save_r2 : List Cond := [Cond.code yX5_keep cX5_keep 4 none, Cond.fieldLink RX5 16 "BayerGate$StoredFile" "frame" "I", Cond.fieldLink RX5 20 "BayerGate$StoredFile" "version" "I", Cond.fieldLink RX5 10 "BayerGate$StoredFile" "edits" "LBayerGate$EditRow;", Cond.methodLink RX5 23 yX0_copyFrom, Cond.instanceMethod yX0_copyFrom, Cond.selects RX0 yX0_copyFrom yX0_copyFrom, Cond.initialized RX0, Cond.code yX0_copyFrom cX0_copyFrom 3 none, Cond.fieldLink RX0 9 "BayerGate$EditRow" "kinds" "[I", Cond.fieldLink RX0 15 "BayerGate$EditRow" "numbers" "[I", Cond.fieldLink RX0 18 "BayerGate$EditRow" "length" "I"]
def wsX6_save : List Cond := .code yX6_save cX6_save 3 (some .int) :: ((wsX6_save_r1 ++ wsX6_save_r2) ++ wsX60 ++ wsX10 ++ wsX50 ++ wsX00 ++ (vx_atS RX6 288 "java/lang/IndexOutOfBoundsException" ["java/lang/RuntimeException", "java/lang/Exception"]).filter goodWord ++ (vx_atS RX6 303 "java/lang/IllegalStateException" ["java/lang/RuntimeException", "java/lang/Exception"]).filter goodWord)
def wsX6_raw : List Cond := .code yX6_raw cX6_raw 4 (some .int) :: ([.fieldLink RX6 25 "BayerGate" "frameRow" "[LBayerGate$Frame;", .methodLink RX6 127 yX6_needFrame, .instanceMethod yX6_needFrame, .selects RX6 yX6_needFrame yX6_needFrame, .initialized RX6, .code yX6_needFrame cX6_needFrame 2 none, .classLink RX6 284 "java/lang/IndexOutOfBoundsException", .initialized "java/lang/IndexOutOfBoundsException", .fieldLink RX6 35 "BayerGate" "frameCount" "I", .methodLink RX6 58 yX6_needPlace, .static yX6_needPlace, .code yX6_needPlace cX6_needPlace 2 none, .methodLink RX6 289 yX6_isPlace, .static yX6_isPlace, .code yX6_isPlace cX6_isPlace 2 (some .boolean), .methodLink RX6 74 yX6_placeOf, .static yX6_placeOf, .code yX6_placeOf cX6_placeOf 2 (some .int)] ++ wsX60 ++ wsX10 ++ (vx_atS RX6 288 "java/lang/IndexOutOfBoundsException" ["java/lang/RuntimeException", "java/lang/Exception"]).filter goodWord)
def wsX6_developFrame_r1 : List Cond := [Cond.fieldLink RX6 25 "BayerGate" "frameRow" "[LBayerGate$Frame;", Cond.fieldLink RX6 19 "BayerGate" "sensor" "LBayerGate$Sensor;", Cond.methodLink RX6 246 yX2_compose, Cond.instanceMethod yX2_compose, Cond.selects RX2 yX2_compose yX2_compose, Cond.initialized RX2, Cond.code yX2_compose cX2_compose 5 none, Cond.methodLink RX2 19 yX0_hasMend, Cond.instanceMethod yX0_hasMend, Cond.selects RX0 yX0_hasMend yX0_hasMend, Cond.initialized RX0, Cond.code yX0_hasMend cX0_hasMend 2 (some .boolean), Cond.fieldLink RX0 18 "BayerGate$EditRow" "length" "I", Cond.fieldLink RX0 9 "BayerGate$EditRow" "kinds" "[I", Cond.methodLink RX2 25 yX2_mendAll, Cond.instanceMethod yX2_mendAll, Cond.selects RX2 yX2_mendAll yX2_mendAll, Cond.code yX2_mendAll cX2_mendAll 8 none, Cond.fieldLink RX2 15 "BayerGate$Picture" "mended" "[I", Cond.static yX6_placeOf, Cond.initialized RX6, Cond.code yX6_placeOf cX6_placeOf 2 (some .int), Cond.methodLink RX2 57 yX2_mendedAt, Cond.static yX2_mendedAt]
def wsX6_developFrame_r2 : List Cond := [Cond.code yX2_mendedAt cX2_mendedAt 10 (some .int), Cond.static yX6_isPlace, Cond.code yX6_isPlace cX6_isPlace 2 (some .boolean), Cond.methodLink RX2 29 yX2_makeWhole, Cond.instanceMethod yX2_makeWhole, Cond.selects RX2 yX2_makeWhole yX2_makeWhole, Cond.code yX2_makeWhole cX2_makeWhole 7 none, Cond.fieldLink RX2 9 "BayerGate$Picture" "numbers" "[F", Cond.static yX6_colourSeen, Cond.code yX6_colourSeen cX6_colourSeen 2 (some .int), Cond.methodLink RX2 68 yX2_meanAround, Cond.instanceMethod yX2_meanAround, Cond.selects RX2 yX2_meanAround yX2_meanAround, Cond.code yX2_meanAround cX2_meanAround 8 (some .float), Cond.methodLink RX2 49 yX2_indexOf, Cond.static yX2_indexOf, Cond.code yX2_indexOf cX2_indexOf 2 (some .int), Cond.methodLink RX2 32 yX0_count, Cond.instanceMethod yX0_count, Cond.selects RX0 yX0_count yX0_count, Cond.code yX0_count cX0_count 1 (some .int), Cond.methodLink RX2 41 yX2_applyEdit, Cond.instanceMethod yX2_applyEdit, Cond.selects RX2 yX2_applyEdit yX2_applyEdit]
def wsX6_developFrame_r3 : List Cond := [Cond.code yX2_applyEdit cX2_applyEdit 3 none, Cond.constantFloat RX2 76 (1082130432), Cond.methodLink RX2 72 yX2_darken, Cond.instanceMethod yX2_darken, Cond.selects RX2 yX2_darken yX2_darken, Cond.code yX2_darken cX2_darken 4 none, Cond.methodLink RX2 77 yX2_scaleColour, Cond.instanceMethod yX2_scaleColour, Cond.selects RX2 yX2_scaleColour yX2_scaleColour, Cond.code yX2_scaleColour cX2_scaleColour 4 none, Cond.methodLink RX2 81 yX2_changeTone, Cond.instanceMethod yX2_changeTone, Cond.selects RX2 yX2_changeTone yX2_changeTone, Cond.code yX2_changeTone cX2_changeTone 3 none, Cond.constantFloat RX2 87 (1056964608), Cond.constantFloat RX2 53 (1132396544), Cond.methodLink RX2 84 yX2_turnOver, Cond.instanceMethod yX2_turnOver, Cond.selects RX2 yX2_turnOver yX2_turnOver, Cond.code yX2_turnOver cX2_turnOver 7 none, Cond.methodLink RX6 304 yX2_bound, Cond.instanceMethod yX2_bound, Cond.selects RX2 yX2_bound yX2_bound, Cond.code yX2_bound cX2_bound 2 none]
def wsX6_developFrame_r4 : List Cond := [Cond.methodLink RX2 45 yX2_bounded, Cond.static yX2_bounded, Cond.code yX2_bounded cX2_bounded 1 (some .float)]
def wsX6_developFrame : List Cond := .code yX6_developFrame cX6_developFrame 4 none :: ((wsX6_developFrame_r1 ++ (wsX6_developFrame_r2 ++ (wsX6_developFrame_r3 ++ wsX6_developFrame_r4))) ++ wsX60 ++ wsX10 ++ wsX40 ++ wsX00 ++ wsX20)
def wsX6_picture_r1 : List Cond := [Cond.fieldLink RX6 50 "BayerGate" "developed" "LBayerGate$Picture;", Cond.methodLink RX6 127 yX6_needFrame, Cond.instanceMethod yX6_needFrame, Cond.selects RX6 yX6_needFrame yX6_needFrame, Cond.initialized RX6, Cond.code yX6_needFrame cX6_needFrame 2 none, Cond.classLink RX6 284 "java/lang/IndexOutOfBoundsException", Cond.initialized "java/lang/IndexOutOfBoundsException", Cond.fieldLink RX6 35 "BayerGate" "frameCount" "I", Cond.methodLink RX6 58 yX6_needPlace, Cond.static yX6_needPlace, Cond.code yX6_needPlace cX6_needPlace 2 none, Cond.methodLink RX6 289 yX6_isPlace, Cond.static yX6_isPlace, Cond.code yX6_isPlace cX6_isPlace 2 (some .boolean), Cond.methodLink RX6 70 yX6_needRange, Cond.static yX6_needRange, Cond.code yX6_needRange cX6_needRange 3 none, Cond.classLink RX6 62 "java/lang/IllegalArgumentException", Cond.initialized "java/lang/IllegalArgumentException", Cond.methodLink RX6 162 yX6_developFrame, Cond.instanceMethod yX6_developFrame, Cond.selects RX6 yX6_developFrame yX6_developFrame, Cond.code yX6_developFrame cX6_developFrame 4 none]
def wsX6_picture_r2 : List Cond := [Cond.fieldLink RX6 25 "BayerGate" "frameRow" "[LBayerGate$Frame;", Cond.fieldLink RX6 19 "BayerGate" "sensor" "LBayerGate$Sensor;", Cond.methodLink RX6 246 yX2_compose, Cond.instanceMethod yX2_compose, Cond.selects RX2 yX2_compose yX2_compose, Cond.initialized RX2, Cond.code yX2_compose cX2_compose 5 none, Cond.methodLink RX2 19 yX0_hasMend, Cond.instanceMethod yX0_hasMend, Cond.selects RX0 yX0_hasMend yX0_hasMend, Cond.initialized RX0, Cond.code yX0_hasMend cX0_hasMend 2 (some .boolean), Cond.fieldLink RX0 18 "BayerGate$EditRow" "length" "I", Cond.fieldLink RX0 9 "BayerGate$EditRow" "kinds" "[I", Cond.methodLink RX2 25 yX2_mendAll, Cond.instanceMethod yX2_mendAll, Cond.selects RX2 yX2_mendAll yX2_mendAll, Cond.code yX2_mendAll cX2_mendAll 8 none, Cond.fieldLink RX2 15 "BayerGate$Picture" "mended" "[I", Cond.static yX6_placeOf, Cond.code yX6_placeOf cX6_placeOf 2 (some .int), Cond.methodLink RX2 57 yX2_mendedAt, Cond.static yX2_mendedAt, Cond.code yX2_mendedAt cX2_mendedAt 10 (some .int)]
def wsX6_picture_r3 : List Cond := [Cond.methodLink RX2 29 yX2_makeWhole, Cond.instanceMethod yX2_makeWhole, Cond.selects RX2 yX2_makeWhole yX2_makeWhole, Cond.code yX2_makeWhole cX2_makeWhole 7 none, Cond.fieldLink RX2 9 "BayerGate$Picture" "numbers" "[F", Cond.static yX6_colourSeen, Cond.code yX6_colourSeen cX6_colourSeen 2 (some .int), Cond.methodLink RX2 68 yX2_meanAround, Cond.instanceMethod yX2_meanAround, Cond.selects RX2 yX2_meanAround yX2_meanAround, Cond.code yX2_meanAround cX2_meanAround 8 (some .float), Cond.methodLink RX2 49 yX2_indexOf, Cond.static yX2_indexOf, Cond.code yX2_indexOf cX2_indexOf 2 (some .int), Cond.methodLink RX2 32 yX0_count, Cond.instanceMethod yX0_count, Cond.selects RX0 yX0_count yX0_count, Cond.code yX0_count cX0_count 1 (some .int), Cond.methodLink RX2 41 yX2_applyEdit, Cond.instanceMethod yX2_applyEdit, Cond.selects RX2 yX2_applyEdit yX2_applyEdit, Cond.code yX2_applyEdit cX2_applyEdit 3 none, Cond.constantFloat RX2 76 (1082130432), Cond.methodLink RX2 72 yX2_darken]
def wsX6_picture_r4 : List Cond := [Cond.instanceMethod yX2_darken, Cond.selects RX2 yX2_darken yX2_darken, Cond.code yX2_darken cX2_darken 4 none, Cond.methodLink RX2 77 yX2_scaleColour, Cond.instanceMethod yX2_scaleColour, Cond.selects RX2 yX2_scaleColour yX2_scaleColour, Cond.code yX2_scaleColour cX2_scaleColour 4 none, Cond.methodLink RX2 81 yX2_changeTone, Cond.instanceMethod yX2_changeTone, Cond.selects RX2 yX2_changeTone yX2_changeTone, Cond.code yX2_changeTone cX2_changeTone 3 none, Cond.constantFloat RX2 87 (1056964608), Cond.constantFloat RX2 53 (1132396544), Cond.methodLink RX2 84 yX2_turnOver, Cond.instanceMethod yX2_turnOver, Cond.selects RX2 yX2_turnOver yX2_turnOver, Cond.code yX2_turnOver cX2_turnOver 7 none, Cond.methodLink RX6 304 yX2_bound, Cond.instanceMethod yX2_bound, Cond.selects RX2 yX2_bound yX2_bound, Cond.code yX2_bound cX2_bound 2 none, Cond.methodLink RX2 45 yX2_bounded, Cond.static yX2_bounded, Cond.code yX2_bounded cX2_bounded 1 (some .float)]
def wsX6_picture_r5 : List Cond := [Cond.methodLink RX6 74 yX6_placeOf, Cond.methodLink RX6 170 yX2_indexOf]
def wsX6_picture : List Cond := .code yX6_picture cX6_picture 5 (some .double) :: ((wsX6_picture_r1 ++ (wsX6_picture_r2 ++ (wsX6_picture_r3 ++ (wsX6_picture_r4 ++ wsX6_picture_r5)))) ++ wsX60 ++ wsX20 ++ wsX10 ++ wsX40 ++ wsX00 ++ (vx_atS RX6 288 "java/lang/IndexOutOfBoundsException" ["java/lang/RuntimeException", "java/lang/Exception"]).filter goodWord ++ (vx_atS RX6 66 "java/lang/IllegalArgumentException" ["java/lang/RuntimeException", "java/lang/Exception"]).filter goodWord)
