def wsL_law0_r6 : List Cond := [Cond.code yX6_paint cX6_paint 8 (some .int), Cond.classLink RX6 62 "java/lang/IllegalArgumentException", Cond.initialized "java/lang/IllegalArgumentException", Cond.constant RX6 69 (16777215), Cond.methodLink RX6 58 yX6_needPlace, Cond.static yX6_needPlace, Cond.code yX6_needPlace cX6_needPlace 2 none, Cond.classLink RX6 284 "java/lang/IndexOutOfBoundsException", Cond.initialized "java/lang/IndexOutOfBoundsException", Cond.methodLink RX6 289 yX6_isPlace, Cond.static yX6_isPlace, Cond.code yX6_isPlace cX6_isPlace 2 (some .boolean), Cond.methodLink RX6 70 yX6_needRange, Cond.static yX6_needRange, Cond.code yX6_needRange cX6_needRange 3 none, Cond.methodLink RX6 74 yX6_placeOf, Cond.static yX6_placeOf, Cond.code yX6_placeOf cX6_placeOf 2 (some .int), Cond.methodLink RX6 78 yX3_colourPlace, Cond.instanceMethod yX3_colourPlace, Cond.selects RX3 yX3_colourPlace yX3_colourPlace, Cond.code yX3_colourPlace cX3_colourPlace 5 none, Cond.methodLink RL 101 yX9_paint, Cond.instanceMethod yX9_paint]
def wsL_law0_r7 : List Cond := [Cond.selects RX9 yX9_paint yX9_paint, Cond.code yX9_paint cX9_paint 8 (some .int), Cond.fieldLink RX9 33 "BayerGateModel" "thrown" "I", Cond.constant RX9 55 (16777215), Cond.constant RX9 60 (65536), Cond.methodLink RX9 47 yX9_isPlace, Cond.static yX9_isPlace, Cond.code yX9_isPlace cX9_isPlace 2 (some .boolean), Cond.methodLink RX9 37 yX9_in, Cond.static yX9_in, Cond.code yX9_in cX9_in 3 (some .boolean), Cond.methodLink RX9 51 yX9_no, Cond.instanceMethod yX9_no, Cond.selects RX9 yX9_no yX9_no, Cond.code yX9_no cX9_no 2 (some .int), Cond.methodLink RX9 56 yX9_at, Cond.static yX9_at, Cond.code yX9_at cX9_at 2 (some .int), Cond.methodLink RL 102 yX9_thrown, Cond.instanceMethod yX9_thrown, Cond.selects RX9 yX9_thrown yX9_thrown, Cond.code yX9_thrown cX9_thrown 1 (some .int), Cond.methodLink RL 106 yL_lamp, Cond.static yL_lamp]
def wsL_law0_r8 : List Cond := [Cond.codeWith yL_lamp cL_lamp 6 (some .int) [(0, 12, 15, 15)], Cond.methodLink RL 17 yX6_lamp, Cond.instanceMethod yX6_lamp, Cond.selects RX6 yX6_lamp yX6_lamp, Cond.code yX6_lamp cX6_lamp 5 (some .int), Cond.methodLink RX6 81 yX3_greenQuarters, Cond.instanceMethod yX3_greenQuarters, Cond.selects RX3 yX3_greenQuarters yX3_greenQuarters, Cond.code yX3_greenQuarters cX3_greenQuarters 1 (some .int), Cond.methodLink RX6 85 yX3_light, Cond.instanceMethod yX3_light, Cond.selects RX3 yX3_light yX3_light, Cond.code yX3_light cX3_light 4 none, Cond.constantFloat RX3 23 (1082130432), Cond.methodLink RL 109 yX9_lamp, Cond.instanceMethod yX9_lamp, Cond.selects RX9 yX9_lamp yX9_lamp, Cond.code yX9_lamp cX9_lamp 5 (some .int), Cond.methodLink RL 110 yL_spoil, Cond.static yL_spoil, Cond.codeWith yL_spoil cL_spoil 6 (some .int) [(0, 12, 15, 13), (0, 12, 19, 15)], Cond.methodLink RL 21 yX6_spoil, Cond.instanceMethod yX6_spoil, Cond.selects RX6 yX6_spoil yX6_spoil]
def wsL_law0_r9 : List Cond := [Cond.code yX6_spoil cX6_spoil 6 (some .int), Cond.methodLink RX6 88 yX4_howIs, Cond.instanceMethod yX4_howIs, Cond.selects RX4 yX4_howIs yX4_howIs, Cond.code yX4_howIs cX4_howIs 2 (some .int), Cond.methodLink RX6 92 yX4_setHow, Cond.instanceMethod yX4_setHow, Cond.selects RX4 yX4_setHow yX4_setHow, Cond.code yX4_setHow cX4_setHow 3 none, Cond.methodLink RL 112 yX9_spoil, Cond.instanceMethod yX9_spoil, Cond.selects RX9 yX9_spoil yX9_spoil, Cond.code yX9_spoil cX9_spoil 5 (some .int), Cond.methodLink RL 113 yL_map, Cond.static yL_map, Cond.codeWith yL_map cL_map 6 (some .int) [(0, 12, 15, 13)], Cond.methodLink RL 24 yX6_map, Cond.instanceMethod yX6_map, Cond.selects RX6 yX6_map yX6_map, Cond.code yX6_map cX6_map 4 (some .int), Cond.methodLink RX6 95 yX4_setMapped, Cond.instanceMethod yX4_setMapped, Cond.selects RX4 yX4_setMapped yX4_setMapped, Cond.code yX4_setMapped cX4_setMapped 3 none]
def wsL_law0_r10 : List Cond := [Cond.methodLink RX6 99 yX4_countMapped, Cond.instanceMethod yX4_countMapped, Cond.selects RX4 yX4_countMapped yX4_countMapped, Cond.code yX4_countMapped cX4_countMapped 3 (some .int), Cond.methodLink RL 116 yX9_map, Cond.instanceMethod yX9_map, Cond.selects RX9 yX9_map yX9_map, Cond.code yX9_map cX9_map 4 (some .int), Cond.methodLink RX9 61 yX9_mapped, Cond.instanceMethod yX9_mapped, Cond.selects RX9 yX9_mapped yX9_mapped, Cond.code yX9_mapped cX9_mapped 6 (some .int), Cond.methodLink RL 117 yL_take, Cond.static yL_take, Cond.codeWith yL_take cL_take 5 (some .int) [(0, 10, 13, 15), (0, 10, 17, 32)], Cond.classLink RL 32 "java/lang/IllegalStateException", Cond.methodLink RL 28 yX6_take, Cond.instanceMethod yX6_take, Cond.selects RX6 yX6_take yX6_take, Cond.code yX6_take cX6_take 4 (some .int), Cond.methodLink RX6 102 yX6_needExposure, Cond.static yX6_needExposure, Cond.code yX6_needExposure cX6_needExposure 2 none, Cond.methodLink RX6 105 yX6_needRoom]
def wsL_law0_r11 : List Cond := [Cond.static yX6_needRoom, Cond.code yX6_needRoom cX6_needRoom 2 none, Cond.classLink RX6 299 "java/lang/IllegalStateException", Cond.initialized "java/lang/IllegalStateException", Cond.methodLink RX6 108 yX4_expose, Cond.instanceMethod yX4_expose, Cond.selects RX4 yX4_expose yX4_expose, Cond.code yX4_expose cX4_expose 10 (some .int), Cond.static yX6_colourSeen, Cond.code yX6_colourSeen cX6_colourSeen 2 (some .int), Cond.methodLink RX4 30 yX3_lightAt, Cond.instanceMethod yX3_lightAt, Cond.selects RX3 yX3_lightAt yX3_lightAt, Cond.code yX3_lightAt cX3_lightAt 4 (some .float), Cond.constantFloat RX3 28 (1098907648), Cond.methodLink RX3 24 yX3_shade, Cond.instanceMethod yX3_shade, Cond.selects RX3 yX3_shade yX3_shade, Cond.code yX3_shade cX3_shade 3 (some .int), Cond.methodLink RX4 41 yX4_rawOf, Cond.static yX4_rawOf, Cond.code yX4_rawOf cX4_rawOf 5 (some .int), Cond.methodLink RX4 51 Lib.Math.min.name, Cond.static Lib.Math.min.name]
def wsL_law0_r12 : List Cond := [Cond.initialized "java/lang/Math", Cond.code Lib.Math.min.name Lib.Math.min.code 2 (some .int), Cond.methodLink RX4 56 Lib.Math.max.name, Cond.static Lib.Math.max.name, Cond.code Lib.Math.max.name Lib.Math.max.code 2 (some .int), Cond.methodLink RX6 112 yX4_advance, Cond.instanceMethod yX4_advance, Cond.selects RX4 yX4_advance yX4_advance, Cond.code yX4_advance cX4_advance 2 none, Cond.methodLink RL 120 yX9_take, Cond.instanceMethod yX9_take, Cond.selects RX9 yX9_take yX9_take, Cond.code yX9_take cX9_take 3 (some .int), Cond.methodLink RX9 41 ⟨"java/util/List", "size", "()I"⟩, Cond.selects RJx4a65c ⟨"java/util/List", "size", "()I"⟩ yJx4a65c_size_8abf5, Cond.instanceMethod yJx4a65c_size_8abf5, Cond.code yJx4a65c_size_8abf5 cJx4a65c_size_8abf5 1 (some .int), Cond.fieldLink RJx4a65c 48 "java/util/ArrayList" "size" "I", Cond.methodLink RX9 85 yX9_taken, Cond.instanceMethod yX9_taken, Cond.selects RX9 yX9_taken yX9_taken, Cond.code yX9_taken cX9_taken 9 (some (.object "BayerGateModel$Frame")), Cond.fieldLink RX9 64 "BayerGateModel" "draw" "I", Cond.constantFloat RX9 70 (1082130432)]
def wsL_law0_r13 : List Cond := [Cond.constantFloat RX9 71 (1098907648), Cond.methodLink RX9 72 Lib.Math.min.name, Cond.methodLink RX9 77 Lib.Math.max.name, Cond.classLink RX9 80 RX7, Cond.instantiable RX7 5, Cond.initialized RX7, Cond.methodLink RX9 67 yX9_colour, Cond.static yX9_colour, Cond.code yX9_colour cX9_colour 3 (some .int), Cond.methodLink RX9 82 yX7_init, Cond.instanceMethod yX7_init, Cond.code yX7_init cX7_init 4 none, Cond.methodLink RX7 3 objectInit, Cond.classLink RX7 9 RJx4a65c, Cond.fieldLink RX7 12 "BayerGateModel$Frame" "edits" "Ljava/util/List;", Cond.fieldLink RX7 18 "BayerGateModel$Frame" "time" "I", Cond.fieldLink RX7 22 "BayerGateModel$Frame" "gain" "I", Cond.fieldLink RX7 25 "BayerGateModel$Frame" "raw" "[I", Cond.methodLink RX7 11 yJx4a65c_init_da8c8, Cond.methodLink RX9 89 ⟨"java/util/List", "add", "(Ljava/lang/Object;)Z"⟩, Cond.selects RJx4a65c ⟨"java/util/List", "add", "(Ljava/lang/Object;)Z"⟩ yJx4a65c_add_9ea2d, Cond.instanceMethod yJx4a65c_add_9ea2d, Cond.code yJx4a65c_add_9ea2d cJx4a65c_add_9ea2d 2 (some .boolean), Cond.fieldLink RJx4a65c 63 "java/util/ArrayList" "modCount" "I"]
def wsL_law0_r14 : List Cond := [Cond.sameField "java/util/ArrayList" "java/util/AbstractList" "modCount" "I", Cond.methodLink RJx4a65c 131 yJx4a65c_add_72be8, Cond.instanceMethod yJx4a65c_add_72be8, Cond.selects RJx4a65c yJx4a65c_add_72be8 yJx4a65c_add_72be8, Cond.code yJx4a65c_add_72be8 cJx4a65c_add_72be8 4 none, Cond.methodLink RJx4a65c 129 yJx4a65c_grow_d5877, Cond.instanceMethod yJx4a65c_grow_d5877, Cond.selects RJx4a65c yJx4a65c_grow_d5877 yJx4a65c_grow_d5877, Cond.code yJx4a65c_grow_d5877 cJx4a65c_grow_d5877 1 (some (.array (.object "java/lang/Object"))), Cond.methodLink RJx4a65c 69 yJx4a65c_grow_92f84, Cond.instanceMethod yJx4a65c_grow_92f84, Cond.selects RJx4a65c yJx4a65c_grow_92f84 yJx4a65c_grow_92f84, Cond.code yJx4a65c_grow_92f84 cJx4a65c_grow_92f84 4 (some (.array (.object "java/lang/Object"))), Cond.methodLink RJx4a65c 79 Lib.Math.max.name, Cond.classLink RJx4a65c 7 "java/lang/Object", Cond.methodLink RJx4a65c 73 yJ8_newLength_cabcc, Cond.static yJ8_newLength_cabcc, Cond.initialized RJ8, Cond.code yJ8_newLength_cabcc cJ8_newLength_cabcc 4 (some .int), Cond.methodLink RJ8 194 Lib.Math.max.name, Cond.constant RJ8 200 (2147483639), Cond.methodLink RJ8 201 yJ8_hugeLength_7cf53, Cond.static yJ8_hugeLength_7cf53, Cond.code yJ8_hugeLength_7cf53 cJ8_hugeLength_7cf53 3 (some .int)]
def wsL_law0_r15 : List Cond := [Cond.methodLink RJx4a65c 66 yJ7_copyOf_1904c, Cond.static yJ7_copyOf_1904c, Cond.initialized RJ7, Cond.code yJ7_copyOf_1904c cJ7_copyOf_1904c 2 (some (.array (.object "java/lang/Object"))), Cond.methodLink RJ7 86 ⟨"java/lang/Object", "getClass", "()Ljava/lang/Class;"⟩, Cond.selects "[Ljava/lang/Object;" ⟨"java/lang/Object", "getClass", "()Ljava/lang/Class;"⟩ ⟨"java/lang/Object", "getClass", "()Ljava/lang/Class;"⟩, Cond.instanceMethod ⟨"java/lang/Object", "getClass", "()Ljava/lang/Class;"⟩, Cond.native ⟨"java/lang/Object", "getClass", "()Ljava/lang/Class;"⟩, Cond.methodLink RJ7 300 yJ7_copyOf_6403c, Cond.static yJ7_copyOf_6403c, Cond.code yJ7_copyOf_6403c cJ7_copyOf_6403c 4 (some (.array (.object "java/lang/Object"))), Cond.classLink RJ7 110 "[Ljava/lang/Object;", Cond.classLink RJ7 2 "java/lang/Object", Cond.methodLink RJ7 304 Lib.Math.min.name, Cond.methodLink RJ7 150 arraycopyName, Cond.native arraycopyName, Cond.static arraycopyName, Cond.initialized "java/lang/System", Cond.methodLink RL 121 yL_merge, Cond.static yL_merge, Cond.codeWith yL_merge cL_merge 5 (some .int) [(0, 10, 13, 15), (0, 10, 17, 32)], Cond.methodLink RL 34 yX6_merge, Cond.instanceMethod yX6_merge, Cond.selects RX6 yX6_merge yX6_merge]
def wsL_law0_r16 : List Cond := [Cond.code yX6_merge cX6_merge 4 (some .int), Cond.methodLink RX6 116 yJ6_bitCount_0f7a4, Cond.static yJ6_bitCount_0f7a4, Cond.initialized RJ6, Cond.code yJ6_bitCount_0f7a4 cJ6_bitCount_0f7a4 1 (some .int), Cond.constant RJ6 265 (1431655765), Cond.constant RJ6 266 (858993459), Cond.constant RJ6 267 (252645135), Cond.methodLink RX6 123 yX6_putTogether, Cond.instanceMethod yX6_putTogether, Cond.selects RX6 yX6_putTogether yX6_putTogether, Cond.code yX6_putTogether cX6_putTogether 12 none, Cond.methodLink RX6 255 Lib.Math.abs.name, Cond.static Lib.Math.abs.name, Cond.code Lib.Math.abs.name Lib.Math.abs.code 1 (some .int), Cond.methodLink RX6 313 yX6_smallestOf, Cond.instanceMethod yX6_smallestOf, Cond.selects RX6 yX6_smallestOf yX6_smallestOf, Cond.code yX6_smallestOf cX6_smallestOf 3 (some .int), Cond.methodLink RX6 310 yX6_isIn, Cond.static yX6_isIn, Cond.code yX6_isIn cX6_isIn 2 (some .boolean), Cond.methodLink RL 123 yX9_merge, Cond.instanceMethod yX9_merge]
def wsL_law0_r17 : List Cond := [Cond.selects RX9 yX9_merge yX9_merge, Cond.code yX9_merge cX9_merge 13 (some .int), Cond.classLink RX9 80 "BayerGateModel$Frame", Cond.fieldLink RX9 97 "BayerGateModel$Frame" "time" "I", Cond.fieldLink RX9 100 "BayerGateModel$Frame" "gain" "I", Cond.fieldLink RX9 103 "BayerGateModel$Frame" "raw" "[I", Cond.methodLink RX9 106 Lib.Math.abs.name, Cond.fieldLink RX9 109 "BayerGateModel$Frame" "ghosts" "I", Cond.methodLink RX9 93 ⟨"java/util/List", "get", "(I)Ljava/lang/Object;"⟩, Cond.selects RJx4a65c ⟨"java/util/List", "get", "(I)Ljava/lang/Object;"⟩ yJx4a65c_get_915e3, Cond.instanceMethod yJx4a65c_get_915e3, Cond.code yJx4a65c_get_915e3 cJx4a65c_get_915e3 2 (some (.object "java/lang/Object")), Cond.methodLink RJx4a65c 118 yJ15_checkIndex_7cf53, Cond.static yJ15_checkIndex_7cf53, Cond.initialized RJ15, Cond.code yJ15_checkIndex_7cf53 cJ15_checkIndex_7cf53 2 (some .int), Cond.methodLink RJ15 105 yJ3_checkIndex_8e157, Cond.static yJ3_checkIndex_8e157, Cond.initialized RJ3, Cond.code yJ3_checkIndex_8e157 cJ3_checkIndex_8e157 3 (some .int), Cond.methodLink RJx4a65c 123 yJx4a65c_elementData_915e3, Cond.instanceMethod yJx4a65c_elementData_915e3, Cond.selects RJx4a65c yJx4a65c_elementData_915e3 yJx4a65c_elementData_915e3, Cond.code yJx4a65c_elementData_915e3 cJx4a65c_elementData_915e3 2 (some (.object "java/lang/Object"))]
def wsL_law0_r18 : List Cond := [Cond.methodLink RL 124 yL_edit, Cond.static yL_edit, Cond.codeWith yL_edit cL_edit 6 (some .int) [(0, 12, 15, 13), (0, 12, 19, 15), (0, 12, 23, 32)], Cond.methodLink RL 37 yX6_edit, Cond.instanceMethod yX6_edit, Cond.selects RX6 yX6_edit yX6_edit, Cond.code yX6_edit cX6_edit 5 (some .int), Cond.methodLink RX6 127 yX6_needFrame, Cond.instanceMethod yX6_needFrame, Cond.selects RX6 yX6_needFrame yX6_needFrame, Cond.code yX6_needFrame cX6_needFrame 2 none, Cond.methodLink RX6 130 yX6_leastNumber, Cond.static yX6_leastNumber, Cond.code yX6_leastNumber cX6_leastNumber 1 (some .int), Cond.methodLink RX6 133 yX6_mostNumber, Cond.static yX6_mostNumber, Cond.code yX6_mostNumber cX6_mostNumber 1 (some .int), Cond.methodLink RX6 140 yX0_count, Cond.instanceMethod yX0_count, Cond.selects RX0 yX0_count yX0_count, Cond.code yX0_count cX0_count 1 (some .int), Cond.methodLink RX6 145 yX0_append, Cond.instanceMethod yX0_append, Cond.selects RX0 yX0_append yX0_append]
def wsL_law0_r19 : List Cond := [Cond.code yX0_append cX0_append 3 none, Cond.methodLink RL 126 yX9_edit, Cond.instanceMethod yX9_edit, Cond.selects RX9 yX9_edit yX9_edit, Cond.code yX9_edit cX9_edit 6 (some .int), Cond.fieldLink RX9 119 "BayerGateModel$Frame" "edits" "Ljava/util/List;", Cond.methodLink RX9 112 yX9_isFrame, Cond.instanceMethod yX9_isFrame, Cond.selects RX9 yX9_isFrame yX9_isFrame, Cond.code yX9_isFrame cX9_isFrame 2 (some .boolean), Cond.methodLink RX9 116 yX9_canBe, Cond.static yX9_canBe, Cond.code yX9_canBe cX9_canBe 2 (some .boolean), Cond.methodLink RL 127 yL_undo, Cond.static yL_undo, Cond.codeWith yL_undo cL_undo 4 (some .int) [(0, 9, 12, 13)], Cond.methodLink RL 40 yX6_undo, Cond.instanceMethod yX6_undo, Cond.selects RX6 yX6_undo yX6_undo, Cond.code yX6_undo cX6_undo 2 (some .int), Cond.methodLink RX6 148 yX0_takeBack, Cond.instanceMethod yX0_takeBack, Cond.selects RX0 yX0_takeBack yX0_takeBack, Cond.code yX0_takeBack cX0_takeBack 1 (some .int)]
def wsL_law0_r20 : List Cond := [Cond.methodLink RL 130 yX9_undo, Cond.instanceMethod yX9_undo, Cond.selects RX9 yX9_undo yX9_undo, Cond.code yX9_undo cX9_undo 3 (some .int), Cond.classLink RX9 125 "[I", Cond.methodLink RX9 122 ⟨"java/util/List", "remove", "(I)Ljava/lang/Object;"⟩, Cond.selects RJx4a65c ⟨"java/util/List", "remove", "(I)Ljava/lang/Object;"⟩ yJx4a65c_remove_915e3, Cond.instanceMethod yJx4a65c_remove_915e3, Cond.code yJx4a65c_remove_915e3 cJx4a65c_remove_915e3 4 (some (.object "java/lang/Object")), Cond.methodLink RJx4a65c 144 yJx4a65c_fastRemove_b59b0, Cond.instanceMethod yJx4a65c_fastRemove_b59b0, Cond.selects RJx4a65c yJx4a65c_fastRemove_b59b0 yJx4a65c_fastRemove_b59b0, Cond.code yJx4a65c_fastRemove_b59b0 cJx4a65c_fastRemove_b59b0 4 none, Cond.methodLink RJx4a65c 112 arraycopyName, Cond.methodLink RL 131 yL_save, Cond.static yL_save, Cond.codeWith yL_save cL_save 4 (some .int) [(0, 9, 12, 13), (0, 9, 15, 32)], Cond.methodLink RL 44 yX6_save, Cond.instanceMethod yX6_save, Cond.selects RX6 yX6_save yX6_save, Cond.code yX6_save cX6_save 3 (some .int), Cond.methodLink RX6 151 yX6_countFilesOf, Cond.instanceMethod yX6_countFilesOf, Cond.selects RX6 yX6_countFilesOf yX6_countFilesOf]
def wsL_law0_r21 : List Cond := [Cond.code yX6_countFilesOf cX6_countFilesOf 4 (some .int), Cond.methodLink RX6 154 yX5_keep, Cond.instanceMethod yX5_keep, Cond.selects RX5 yX5_keep yX5_keep, Cond.code yX5_keep cX5_keep 4 none, Cond.methodLink RX5 23 yX0_copyFrom, Cond.instanceMethod yX0_copyFrom, Cond.selects RX0 yX0_copyFrom yX0_copyFrom, Cond.code yX0_copyFrom cX0_copyFrom 3 none, Cond.methodLink RL 133 yX9_save, Cond.instanceMethod yX9_save, Cond.selects RX9 yX9_save yX9_save, Cond.code yX9_save cX9_save 5 (some .int), Cond.classLink RX9 126 RX8, Cond.instantiable RX8 3, Cond.initialized RX8, Cond.fieldLink RX9 137 "BayerGateModel$Saved" "edits" "Ljava/util/List;", Cond.methodLink RX9 131 yX9_filesOf, Cond.instanceMethod yX9_filesOf, Cond.selects RX9 yX9_filesOf yX9_filesOf, Cond.code yX9_filesOf cX9_filesOf 4 (some .int), Cond.classLink RX9 126 "BayerGateModel$Saved", Cond.fieldLink RX9 128 "BayerGateModel$Saved" "frame" "I", Cond.methodLink RX9 134 yX8_init]
def wsL_law0_r22 : List Cond := [Cond.instanceMethod yX8_init, Cond.code yX8_init cX8_init 3 none, Cond.methodLink RX8 1 objectInit, Cond.classLink RX8 7 RJx4a65c, Cond.fieldLink RX8 10 "BayerGateModel$Saved" "edits" "Ljava/util/List;", Cond.fieldLink RX8 16 "BayerGateModel$Saved" "frame" "I", Cond.fieldLink RX8 20 "BayerGateModel$Saved" "version" "I", Cond.methodLink RX8 9 yJx4a65c_init_da8c8, Cond.methodLink RL 134 yL_raw, Cond.static yL_raw, Cond.codeWith yL_raw cL_raw 6 (some .int) [(0, 12, 15, 13)], Cond.methodLink RL 47 yX6_raw, Cond.instanceMethod yX6_raw, Cond.selects RX6 yX6_raw yX6_raw, Cond.code yX6_raw cX6_raw 4 (some .int), Cond.methodLink RL 136 yX9_raw, Cond.instanceMethod yX9_raw, Cond.selects RX9 yX9_raw yX9_raw, Cond.code yX9_raw cX9_raw 4 (some .int), Cond.methodLink RL 137 yL_picture, Cond.static yL_picture, Cond.codeWith yL_picture cL_picture 7 (some .int) [(0, 13, 16, 13), (0, 13, 20, 15)], Cond.methodLink RL 50 yX6_picture, Cond.instanceMethod yX6_picture]
def wsL_law0_r23 : List Cond := [Cond.selects RX6 yX6_picture yX6_picture, Cond.code yX6_picture cX6_picture 5 (some .double), Cond.methodLink RX6 162 yX6_developFrame, Cond.instanceMethod yX6_developFrame, Cond.selects RX6 yX6_developFrame yX6_developFrame, Cond.code yX6_developFrame cX6_developFrame 4 none, Cond.methodLink RX6 246 yX2_compose, Cond.instanceMethod yX2_compose, Cond.selects RX2 yX2_compose yX2_compose, Cond.code yX2_compose cX2_compose 5 none, Cond.methodLink RX2 19 yX0_hasMend, Cond.instanceMethod yX0_hasMend, Cond.selects RX0 yX0_hasMend yX0_hasMend, Cond.code yX0_hasMend cX0_hasMend 2 (some .boolean), Cond.methodLink RX2 25 yX2_mendAll, Cond.instanceMethod yX2_mendAll, Cond.selects RX2 yX2_mendAll yX2_mendAll, Cond.code yX2_mendAll cX2_mendAll 8 none, Cond.methodLink RX2 57 yX2_mendedAt, Cond.static yX2_mendedAt, Cond.code yX2_mendedAt cX2_mendedAt 10 (some .int), Cond.methodLink RX2 29 yX2_makeWhole, Cond.instanceMethod yX2_makeWhole, Cond.selects RX2 yX2_makeWhole yX2_makeWhole]
def wsL_law0_r24 : List Cond := [Cond.code yX2_makeWhole cX2_makeWhole 7 none, Cond.methodLink RX2 68 yX2_meanAround, Cond.instanceMethod yX2_meanAround, Cond.selects RX2 yX2_meanAround yX2_meanAround, Cond.code yX2_meanAround cX2_meanAround 8 (some .float), Cond.methodLink RX2 49 yX2_indexOf, Cond.static yX2_indexOf, Cond.code yX2_indexOf cX2_indexOf 2 (some .int), Cond.methodLink RX2 32 yX0_count, Cond.methodLink RX2 41 yX2_applyEdit, Cond.instanceMethod yX2_applyEdit, Cond.selects RX2 yX2_applyEdit yX2_applyEdit, Cond.code yX2_applyEdit cX2_applyEdit 3 none, Cond.constantFloat RX2 76 (1082130432), Cond.methodLink RX2 72 yX2_darken, Cond.instanceMethod yX2_darken, Cond.selects RX2 yX2_darken yX2_darken, Cond.code yX2_darken cX2_darken 4 none, Cond.methodLink RX2 77 yX2_scaleColour, Cond.instanceMethod yX2_scaleColour, Cond.selects RX2 yX2_scaleColour yX2_scaleColour, Cond.code yX2_scaleColour cX2_scaleColour 4 none, Cond.methodLink RX2 81 yX2_changeTone, Cond.instanceMethod yX2_changeTone]
def wsL_law0_r25 : List Cond := [Cond.selects RX2 yX2_changeTone yX2_changeTone, Cond.code yX2_changeTone cX2_changeTone 3 none, Cond.constantFloat RX2 87 (1056964608), Cond.constantFloat RX2 53 (1132396544), Cond.methodLink RX2 84 yX2_turnOver, Cond.instanceMethod yX2_turnOver, Cond.selects RX2 yX2_turnOver yX2_turnOver, Cond.code yX2_turnOver cX2_turnOver 7 none, Cond.methodLink RX6 304 yX2_bound, Cond.instanceMethod yX2_bound, Cond.selects RX2 yX2_bound yX2_bound, Cond.code yX2_bound cX2_bound 2 none, Cond.methodLink RX2 45 yX2_bounded, Cond.static yX2_bounded, Cond.code yX2_bounded cX2_bounded 1 (some .float), Cond.methodLink RX6 170 yX2_indexOf, Cond.methodLink RL 140 yX9_picture__, Cond.instanceMethod yX9_picture__, Cond.selects RX9 yX9_picture__ yX9_picture__, Cond.code yX9_picture__ cX9_picture__ 5 (some .double), Cond.methodLink RX9 165 yX9_picture_, Cond.instanceMethod yX9_picture_, Cond.selects RX9 yX9_picture_ yX9_picture_, Cond.code yX9_picture_ cX9_picture_ 2 (some (.array .float))]
def wsL_law0_r26 : List Cond := [Cond.methodLink RX9 161 yX9_picture, Cond.instanceMethod yX9_picture, Cond.selects RX9 yX9_picture yX9_picture, Cond.code yX9_picture cX9_picture 10 (some (.array .float)), Cond.constantFloat RX9 142 (1132396544), Cond.methodLink RX9 143 yX9_has, Cond.static yX9_has, Cond.code yX9_has cX9_has 3 (some .boolean), Cond.methodLink RX9 147 yX9_mended, Cond.instanceMethod yX9_mended, Cond.selects RX9 yX9_mended yX9_mended, Cond.code yX9_mended cX9_mended 9 (some (.array .int)), Cond.methodLink RX9 151 yX9_whole, Cond.instanceMethod yX9_whole, Cond.selects RX9 yX9_whole yX9_whole, Cond.code yX9_whole cX9_whole 10 (some (.array .float)), Cond.methodLink RX9 155 yX9_edited, Cond.static yX9_edited, Cond.code yX9_edited cX9_edited 4 (some .float), Cond.constantFloat RX9 141 (1056964608), Cond.methodLink RX9 138 yJ9_max_e70c8, Cond.static yJ9_max_e70c8, Cond.initialized RJ9, Cond.code yJ9_max_e70c8 cJ9_max_e70c8 2 (some .float)]
def wsL_law0_r27 : List Cond := [Cond.methodLink RJ9 68 ⟨"java/lang/Float", "floatToRawIntBits", "(F)I"⟩, Cond.native ⟨"java/lang/Float", "floatToRawIntBits", "(F)I"⟩, Cond.static ⟨"java/lang/Float", "floatToRawIntBits", "(F)I"⟩, Cond.initialized "java/lang/Float", Cond.fieldLink RJ9 170 "java/lang/Math" "negativeZeroFloatBits" "J", Cond.methodLink RX9 159 yJ9_min_e70c8, Cond.static yJ9_min_e70c8, Cond.code yJ9_min_e70c8 cJ9_min_e70c8 2 (some .float), Cond.methodLink RL 141 yL_word, Cond.static yL_word, Cond.codeWith yL_word cL_word 4 (some .int) [(0, 9, 12, 13)], Cond.methodLink RL 54 yX6_word, Cond.instanceMethod yX6_word, Cond.selects RX6 yX6_word yX6_word, Cond.code yX6_word cX6_word 2 (some .int), Cond.methodLink RX6 173 yX6_wordBehind, Cond.instanceMethod yX6_wordBehind, Cond.selects RX6 yX6_wordBehind yX6_wordBehind, Cond.code yX6_wordBehind cX6_wordBehind 3 (some .int), Cond.methodLink RX6 307 yX2_sumUp, Cond.instanceMethod yX2_sumUp, Cond.selects RX2 yX2_sumUp yX2_sumUp, Cond.code yX2_sumUp cX2_sumUp 3 (some .int), Cond.methodLink RL 143 yX9_word_]
def wsL_law0_r28 : List Cond := [Cond.instanceMethod yX9_word_, Cond.selects RX9 yX9_word_ yX9_word_, Cond.code yX9_word_ cX9_word_ 2 (some .int), Cond.methodLink RX9 168 yX9_word, Cond.static yX9_word, Cond.code yX9_word cX9_word 6 (some .int), Cond.methodLink RL 144 yL_ofFrame, Cond.static yL_ofFrame, Cond.codeWith yL_ofFrame cL_ofFrame 5 (some .int) [(0, 10, 13, 13), (0, 10, 17, 15)], Cond.methodLink RL 57 yX6_ofFrame, Cond.instanceMethod yX6_ofFrame, Cond.selects RX6 yX6_ofFrame yX6_ofFrame, Cond.code yX6_ofFrame cX6_ofFrame 4 (some .int), Cond.methodLink RX6 183 yX1_countClipped, Cond.instanceMethod yX1_countClipped, Cond.selects RX1 yX1_countClipped yX1_countClipped, Cond.code yX1_countClipped cX1_countClipped 3 (some .int), Cond.methodLink RX6 189 yX1_sharpness, Cond.instanceMethod yX1_sharpness, Cond.selects RX1 yX1_sharpness yX1_sharpness, Cond.code yX1_sharpness cX1_sharpness 4 (some .int), Cond.methodLink RX1 39 Lib.Math.abs.name, Cond.methodLink RX6 192 yX1_whiteOf, Cond.instanceMethod yX1_whiteOf]
def wsL_law0_r29 : List Cond := [Cond.selects RX1 yX1_whiteOf yX1_whiteOf, Cond.code yX1_whiteOf cX1_whiteOf 3 (some .int), Cond.methodLink RX1 48 Lib.Math.min.name, Cond.methodLink RX1 51 Lib.Math.max.name, Cond.methodLink RX1 45 yX1_sumSeen, Cond.instanceMethod yX1_sumSeen, Cond.selects RX1 yX1_sumSeen yX1_sumSeen, Cond.code yX1_sumSeen cX1_sumSeen 5 (some .int), Cond.methodLink RL 146 yX9_ofFrame, Cond.instanceMethod yX9_ofFrame, Cond.selects RX9 yX9_ofFrame yX9_ofFrame, Cond.code yX9_ofFrame cX9_ofFrame 3 (some .int), Cond.methodLink RX9 181 yX9_frameNow, Cond.instanceMethod yX9_frameNow, Cond.selects RX9 yX9_frameNow yX9_frameNow, Cond.code yX9_frameNow cX9_frameNow 5 (some .int), Cond.methodLink RX9 172 yX7_clipped, Cond.instanceMethod yX7_clipped, Cond.selects RX7 yX7_clipped yX7_clipped, Cond.code yX7_clipped cX7_clipped 6 (some .int), Cond.methodLink RX9 175 yX7_sharp, Cond.instanceMethod yX7_sharp, Cond.selects RX7 yX7_sharp yX7_sharp, Cond.code yX7_sharp cX7_sharp 3 (some .int)]
def wsL_law0_r30 : List Cond := [Cond.methodLink RX7 45 Lib.Math.abs.name, Cond.methodLink RX9 178 yX7_white, Cond.instanceMethod yX7_white, Cond.selects RX7 yX7_white yX7_white, Cond.code yX7_white cX7_white 3 (some .int), Cond.methodLink RX7 36 Lib.Math.min.name, Cond.methodLink RX7 42 Lib.Math.max.name, Cond.methodLink RX7 33 yX7_sum, Cond.instanceMethod yX7_sum, Cond.selects RX7 yX7_sum yX7_sum, Cond.code yX7_sum cX7_sum 4 (some .int), Cond.methodLink RL 147 yL_ofEdit, Cond.static yL_ofEdit, Cond.codeWith yL_ofEdit cL_ofEdit 6 (some .int) [(0, 12, 15, 13), (0, 12, 19, 15)], Cond.methodLink RL 60 yX6_ofEdit, Cond.instanceMethod yX6_ofEdit, Cond.selects RX6 yX6_ofEdit yX6_ofEdit, Cond.code yX6_ofEdit cX6_ofEdit 5 (some .int), Cond.methodLink RX6 195 yX6_needIndex, Cond.static yX6_needIndex, Cond.code yX6_needIndex cX6_needIndex 2 none, Cond.methodLink RL 149 yX9_ofEdit, Cond.instanceMethod yX9_ofEdit, Cond.selects RX9 yX9_ofEdit yX9_ofEdit]
def wsL_law0_r31 : List Cond := [Cond.code yX9_ofEdit cX9_ofEdit 4 (some .int), Cond.methodLink RL 150 yL_zone, Cond.static yL_zone, Cond.codeWith yL_zone cL_zone 5 (some .int) [(0, 9, 12, 13)], Cond.methodLink RL 63 yX6_zone, Cond.instanceMethod yX6_zone, Cond.selects RX6 yX6_zone yX6_zone, Cond.code yX6_zone cX6_zone 3 (some .double), Cond.methodLink RX6 203 yX1_meanOfZone, Cond.instanceMethod yX1_meanOfZone, Cond.selects RX1 yX1_meanOfZone yX1_meanOfZone, Cond.code yX1_meanOfZone cX1_meanOfZone 7 (some .double), Cond.constantDouble RX1 54 (4620693217682128896), Cond.methodLink RL 153 yX9_zone, Cond.instanceMethod yX9_zone, Cond.selects RX9 yX9_zone yX9_zone, Cond.code yX9_zone cX9_zone 3 (some .double), Cond.methodLink RX9 184 yX7_zone, Cond.instanceMethod yX7_zone, Cond.selects RX7 yX7_zone yX7_zone, Cond.code yX7_zone cX7_zone 4 (some .double), Cond.constantDouble RX7 48 (4620693217682128896), Cond.methodLink RL 154 yL_meter, Cond.static yL_meter]
def wsL_law0_r32 : List Cond := [Cond.codeWith yL_meter cL_meter 4 (some .int) [(0, 8, 11, 13)], Cond.methodLink RL 67 yX6_meter, Cond.instanceMethod yX6_meter, Cond.selects RX6 yX6_meter yX6_meter, Cond.code yX6_meter cX6_meter 2 (some .double), Cond.methodLink RX6 207 yX1_meanOfZones, Cond.instanceMethod yX1_meanOfZones, Cond.selects RX1 yX1_meanOfZones yX1_meanOfZones, Cond.code yX1_meanOfZones cX1_meanOfZones 4 (some .double), Cond.constantDouble RX1 60 (4616189618054758400), Cond.methodLink RX1 56 yX1_meanOfZone, Cond.methodLink RL 157 yX9_meter, Cond.instanceMethod yX9_meter, Cond.selects RX9 yX9_meter yX9_meter, Cond.code yX9_meter cX9_meter 2 (some .double), Cond.methodLink RX9 188 yX7_meter, Cond.instanceMethod yX7_meter, Cond.selects RX7 yX7_meter yX7_meter, Cond.code yX7_meter cX7_meter 4 (some .double), Cond.constantDouble RX7 54 (4616189618054758400), Cond.methodLink RX7 50 yX7_zone, Cond.methodLink RL 158 yL_ofFile, Cond.static yL_ofFile, Cond.codeWith yL_ofFile cL_ofFile 5 (some .int) [(0, 10, 13, 13), (0, 10, 17, 15)]]
def wsL_law0_r33 : List Cond := [Cond.methodLink RL 71 yX6_ofFile, Cond.instanceMethod yX6_ofFile, Cond.selects RX6 yX6_ofFile yX6_ofFile, Cond.code yX6_ofFile cX6_ofFile 4 (some .int), Cond.methodLink RL 160 yX9_ofFile, Cond.instanceMethod yX9_ofFile, Cond.selects RX9 yX9_ofFile yX9_ofFile, Cond.code yX9_ofFile cX9_ofFile 3 (some .int), Cond.methodLink RX9 195 yX9_fileNow, Cond.instanceMethod yX9_fileNow, Cond.selects RX9 yX9_fileNow yX9_fileNow, Cond.code yX9_fileNow cX9_fileNow 4 (some .int), Cond.fieldLink RX9 192 "BayerGateModel$Saved" "version" "I", Cond.methodLink RL 161 yL_ofPlace, Cond.static yL_ofPlace, Cond.codeWith yL_ofPlace cL_ofPlace 6 (some .int) [(0, 12, 15, 13), (0, 12, 19, 15)], Cond.methodLink RL 74 yX6_ofPlace, Cond.instanceMethod yX6_ofPlace, Cond.selects RX6 yX6_ofPlace yX6_ofPlace, Cond.code yX6_ofPlace cX6_ofPlace 5 (some .int), Cond.methodLink RX6 218 yX3_shade, Cond.methodLink RX6 221 yX6_colourSeen, Cond.methodLink RX6 224 yX4_isMapped, Cond.instanceMethod yX4_isMapped]
def wsL_law0_r34 : List Cond := [Cond.selects RX4 yX4_isMapped yX4_isMapped, Cond.code yX4_isMapped cX4_isMapped 2 (some .boolean), Cond.methodLink RL 163 yX9_ofPlace, Cond.instanceMethod yX9_ofPlace, Cond.selects RX9 yX9_ofPlace yX9_ofPlace, Cond.code yX9_ofPlace cX9_ofPlace 6 (some .int), Cond.methodLink RL 164 yL_many, Cond.static yL_many, Cond.codeWith yL_many cL_many 4 (some .int) [(0, 9, 12, 15)], Cond.methodLink RL 77 yX6_many, Cond.instanceMethod yX6_many, Cond.selects RX6 yX6_many yX6_many, Cond.code yX6_many cX6_many 2 (some .int), Cond.methodLink RX6 231 yX6_countEdits, Cond.instanceMethod yX6_countEdits, Cond.selects RX6 yX6_countEdits yX6_countEdits, Cond.code yX6_countEdits cX6_countEdits 3 (some .int), Cond.methodLink RX6 234 yX4_countSpoilt, Cond.instanceMethod yX4_countSpoilt, Cond.selects RX4 yX4_countSpoilt yX4_countSpoilt, Cond.code yX4_countSpoilt cX4_countSpoilt 4 (some .int), Cond.methodLink RL 166 yX9_many, Cond.instanceMethod yX9_many, Cond.selects RX9 yX9_many yX9_many]
def wsL_law0_r35 : List Cond := [Cond.code yX9_many cX9_many 2 (some .int), Cond.methodLink RX9 198 yX9_manyNow, Cond.instanceMethod yX9_manyNow, Cond.selects RX9 yX9_manyNow yX9_manyNow, Cond.code yX9_manyNow cX9_manyNow 6 (some .int), Cond.methodLink RL 167 yL_apart, Cond.static yL_apart, Cond.codeWith yL_apart cL_apart 5 (some .int) [(0, 9, 12, 13)], Cond.methodLink RL 80 yX6_apart, Cond.instanceMethod yX6_apart, Cond.selects RX6 yX6_apart yX6_apart, Cond.code yX6_apart cX6_apart 3 (some .double), Cond.methodLink RX6 238 yX2_farthestFrom, Cond.instanceMethod yX2_farthestFrom, Cond.selects RX2 yX2_farthestFrom yX2_farthestFrom, Cond.code yX2_farthestFrom cX2_farthestFrom 5 (some .float), Cond.methodLink RL 169 yX9_apart, Cond.instanceMethod yX9_apart, Cond.selects RX9 yX9_apart yX9_apart, Cond.code yX9_apart cX9_apart 7 (some .double), Cond.methodLink RX9 201 yJ9_abs_f6c48, Cond.static yJ9_abs_f6c48, Cond.code yJ9_abs_f6c48 cJ9_abs_f6c48 1 (some .float), Cond.constant RJ9 134 (2147483647)]
def wsL_law0_r36 : List Cond := [Cond.methodLink RJ9 162 ⟨"java/lang/Float", "intBitsToFloat", "(I)F"⟩, Cond.native ⟨"java/lang/Float", "intBitsToFloat", "(I)F"⟩, Cond.static ⟨"java/lang/Float", "intBitsToFloat", "(I)F"⟩, Cond.methodLink RL 170 yL_wouldClip, Cond.static yL_wouldClip, Cond.codeWith yL_wouldClip cL_wouldClip 5 (some .int) [(0, 10, 13, 15)], Cond.methodLink RL 83 yX6_wouldClip, Cond.instanceMethod yX6_wouldClip, Cond.selects RX6 yX6_wouldClip yX6_wouldClip, Cond.code yX6_wouldClip cX6_wouldClip 3 (some .int), Cond.methodLink RL 172 yX9_wouldClip, Cond.instanceMethod yX9_wouldClip, Cond.selects RX9 yX9_wouldClip yX9_wouldClip, Cond.code yX9_wouldClip cX9_wouldClip 3 (some .int), Cond.methodLink RL 173 yL_bestTake, Cond.static yL_bestTake, Cond.codeWith yL_bestTake cL_bestTake 4 (some .int) [(0, 9, 12, 15)], Cond.methodLink RL 86 yX6_bestTake, Cond.instanceMethod yX6_bestTake, Cond.selects RX6 yX6_bestTake yX6_bestTake, Cond.code yX6_bestTake cX6_bestTake 9 (some .int), Cond.methodLink RL 175 yX9_bestTake, Cond.instanceMethod yX9_bestTake, Cond.selects RX9 yX9_bestTake yX9_bestTake]
def wsL_law0_r37 : List Cond := [Cond.code yX9_bestTake cX9_bestTake 9 (some .int), Cond.methodLink RX9 204 yJ9_abs_294c1, Cond.static yJ9_abs_294c1, Cond.code yJ9_abs_294c1 cJ9_abs_294c1 2 (some .double), Cond.methodLink RJ9 79 ⟨"java/lang/Double", "doubleToRawLongBits", "(D)J"⟩, Cond.native ⟨"java/lang/Double", "doubleToRawLongBits", "(D)J"⟩, Cond.static ⟨"java/lang/Double", "doubleToRawLongBits", "(D)J"⟩, Cond.initialized "java/lang/Double", Cond.constantLong RJ9 135 (9223372036854775807), Cond.methodLink RJ9 166 ⟨"java/lang/Double", "longBitsToDouble", "(J)D"⟩, Cond.native ⟨"java/lang/Double", "longBitsToDouble", "(J)D"⟩, Cond.static ⟨"java/lang/Double", "longBitsToDouble", "(J)D"⟩, Cond.methodLink RL 176 yL_bestWhite, Cond.static yL_bestWhite, Cond.codeWith yL_bestWhite cL_bestWhite 5 (some .int) [(0, 10, 13, 13), (0, 10, 17, 15)], Cond.methodLink RL 89 yX6_bestWhite, Cond.instanceMethod yX6_bestWhite, Cond.selects RX6 yX6_bestWhite yX6_bestWhite, Cond.code yX6_bestWhite cX6_bestWhite 10 (some .int), Cond.constantFloat RX6 254 (1082130432), Cond.methodLink RX6 250 yX2_sumTones, Cond.instanceMethod yX2_sumTones, Cond.selects RX2 yX2_sumTones yX2_sumTones, Cond.code yX2_sumTones cX2_sumTones 5 (some .int)]
def wsL_law0_r38 : List Cond := [Cond.methodLink RL 178 yX9_bestWhite, Cond.instanceMethod yX9_bestWhite, Cond.selects RX9 yX9_bestWhite yX9_bestWhite, Cond.code yX9_bestWhite cX9_bestWhite 12 (some .int), Cond.methodLink RL 179 yX6_digest, Cond.instanceMethod yX6_digest, Cond.selects RX6 yX6_digest yX6_digest, Cond.code yX6_digest cX6_digest 6 (some .long), Cond.constantLong RX6 260 (9602), Cond.constantLong RX6 262 (31), Cond.constantDouble RX6 276 (4629700416936869888), Cond.methodLink RX6 264 yX6_many, Cond.methodLink RX6 267 yX6_ofFrame, Cond.methodLink RX6 270 yX6_word, Cond.methodLink RX6 273 yX6_meter, Cond.methodLink RX6 278 yX6_ofFile, Cond.methodLink RX6 281 yX6_wouldClip, Cond.methodLink RL 183 yX9_digest, Cond.instanceMethod yX9_digest, Cond.selects RX9 yX9_digest yX9_digest, Cond.code yX9_digest cX9_digest 8 (some .long), Cond.constantLong RX9 207 (9602), Cond.constantLong RX9 209 (31), Cond.constantDouble RX9 211 (4629700416936869888)]
def wsL_law0 : List Cond := (wsL_law0_r1 ++ (wsL_law0_r2 ++ (wsL_law0_r3 ++ (wsL_law0_r4 ++ (wsL_law0_r5 ++ (wsL_law0_r6 ++ (wsL_law0_r7 ++ (wsL_law0_r8 ++ (wsL_law0_r9 ++ (wsL_law0_r10 ++ (wsL_law0_r11 ++ (wsL_law0_r12 ++ (wsL_law0_r13 ++ (wsL_law0_r14 ++ (wsL_law0_r15 ++ (wsL_law0_r16 ++ (wsL_law0_r17 ++ (wsL_law0_r18 ++ (wsL_law0_r19 ++ (wsL_law0_r20 ++ (wsL_law0_r21 ++ (wsL_law0_r22 ++ (wsL_law0_r23 ++ (wsL_law0_r24 ++ (wsL_law0_r25 ++ (wsL_law0_r26 ++ (wsL_law0_r27 ++ (wsL_law0_r28 ++ (wsL_law0_r29 ++ (wsL_law0_r30 ++ (wsL_law0_r31 ++ (wsL_law0_r32 ++ (wsL_law0_r33 ++ (wsL_law0_r34 ++ (wsL_law0_r35 ++ (wsL_law0_r36 ++ (wsL_law0_r37 ++ wsL_law0_r38))))))))))))))))))))))))))))))))))))) ++ wsX60 ++ wsX90 ++ wsX30 ++ wsX40 ++ wsX10 ++ wsX20 ++ wsX50 ++ wsX00 ++ wsJx4a65c0 ++ wsX70 ++ wsX80 ++ ([] : List Cond)
def wsL_law : List Cond := wsL_law0 ++ (vx_atS RX6 66 "java/lang/IllegalArgumentException" ["java/lang/RuntimeException", "java/lang/Exception"]).filter goodWord ++ (vx_atS RX6 288 "java/lang/IndexOutOfBoundsException" ["java/lang/RuntimeException", "java/lang/Exception"]).filter goodWord ++ (vx_atS RX6 303 "java/lang/IllegalStateException" ["java/lang/RuntimeException", "java/lang/Exception"]).filter goodWord
set_option maxRecDepth 20000 in
theorem wsL_law_in0 : ∀ w ∈ wsL_law0, w ∈ lw_tbl := fun w h => (goodIn_p wsL_law0 [67, 70, 75, 93, 115, 121, 165, 178, 771, 777, 780, 783, 511, 514, 405, 235, 357, 523, 831, 834, 837, 841, 845, 827, 530, 534, 538, 850, 546, 550, 554, 854, 561, 565, 307, 858, 862, 573, 482, 576, 486, 354, 492, 496, 500, 371, 374, 596, 866, 876, 880, 883, 892, 924, 928, 932, 936, 939, 944, 947, 968, 603, 606, 614, 360, 618, 621, 981, 990, 993, 996, 1000, 629, 327, 632, 635, 315, 639, 1005, 1009, 1012, 646, 650, 1016, 1025, 1029, 657, 378, 661, 665, 1035, 1041, 1044, 672, 1064, 679, 683, 390, 394, 398, 402, 409, 414, 417, 422, 426, 431, 435, 441, 445, 448, 1068, 1072, 1076, 1079, 1083, 1087, 1090, 1093, 1103, 382, 386, 452, 1107, 1110, 323, 347, 351, 364, 368, 1114, 1118, 1122, 1126, 1132, 1136, 699, 474, 1142, 706, 464, 1146, 1150, 456, 460, 1155, 1159, 471, 1165, 1169, 722, 728, 1173, 232, 311, 319, 1177, 1181, 739, 743, 1185, 1188, 479, 1196, 754, 1200, 1203, 761, 765, 1214, 226, 1218] (by decide +kernel) (by decide +kernel) w h).1
theorem wsL_law_x0 : ∀ w ∈ (vx_atS RX6 66 "java/lang/IllegalArgumentException" ["java/lang/RuntimeException", "java/lang/Exception"]).filter goodWord, w ∈ lw_tbl := by decide +kernel
theorem wsL_law_x1 : ∀ w ∈ (vx_atS RX6 288 "java/lang/IndexOutOfBoundsException" ["java/lang/RuntimeException", "java/lang/Exception"]).filter goodWord, w ∈ lw_tbl := by decide +kernel
theorem wsL_law_x2 : ∀ w ∈ (vx_atS RX6 303 "java/lang/IllegalStateException" ["java/lang/RuntimeException", "java/lang/Exception"]).filter goodWord, w ∈ lw_tbl := by decide +kernel
theorem wsL_law_in : ∀ w ∈ wsL_law, w ∈ lw_tbl := fun w h => (List.mem_append.mp h).elim (fun h => (List.mem_append.mp h).elim (fun h => (List.mem_append.mp h).elim (fun h => wsL_law_in0 w h) (fun h => wsL_law_x0 w h)) (fun h => wsL_law_x1 w h)) (fun h => wsL_law_x2 w h)
theorem inlX0 : ∀ w ∈ wsX00, w ∈ wsL_law := fun _ h => List.mem_append_left _ (List.mem_append_left _ (List.mem_append_left _ (List.mem_append_left _ (List.mem_append_left _ (List.mem_append_left _ (List.mem_append_left _ (List.mem_append_right _ h)))))))
theorem inX0 : ∀ w ∈ wsX00, w ∈ lw_tbl := fun w h => wsL_law_in w (inlX0 w h)
theorem inlX1 : ∀ w ∈ wsX10, w ∈ wsL_law := fun _ h => List.mem_append_left _ (List.mem_append_left _ (List.mem_append_left _ (List.mem_append_left _ (List.mem_append_left _ (List.mem_append_left _ (List.mem_append_left _ (List.mem_append_left _ (List.mem_append_left _ (List.mem_append_left _ (List.mem_append_right _ h))))))))))
theorem inX1 : ∀ w ∈ wsX10, w ∈ lw_tbl := fun w h => wsL_law_in w (inlX1 w h)
theorem inlX2 : ∀ w ∈ wsX20, w ∈ wsL_law := fun _ h => List.mem_append_left _ (List.mem_append_left _ (List.mem_append_left _ (List.mem_append_left _ (List.mem_append_left _ (List.mem_append_left _ (List.mem_append_left _ (List.mem_append_left _ (List.mem_append_left _ (List.mem_append_right _ h)))))))))
theorem inX2 : ∀ w ∈ wsX20, w ∈ lw_tbl := fun w h => wsL_law_in w (inlX2 w h)
theorem inlX3 : ∀ w ∈ wsX30, w ∈ wsL_law := fun _ h => List.mem_append_left _ (List.mem_append_left _ (List.mem_append_left _ (List.mem_append_left _ (List.mem_append_left _ (List.mem_append_left _ (List.mem_append_left _ (List.mem_append_left _ (List.mem_append_left _ (List.mem_append_left _ (List.mem_append_left _ (List.mem_append_left _ (List.mem_append_right _ h))))))))))))
theorem inX3 : ∀ w ∈ wsX30, w ∈ lw_tbl := fun w h => wsL_law_in w (inlX3 w h)
theorem inlX4 : ∀ w ∈ wsX40, w ∈ wsL_law := fun _ h => List.mem_append_left _ (List.mem_append_left _ (List.mem_append_left _ (List.mem_append_left _ (List.mem_append_left _ (List.mem_append_left _ (List.mem_append_left _ (List.mem_append_left _ (List.mem_append_left _ (List.mem_append_left _ (List.mem_append_left _ (List.mem_append_right _ h)))))))))))
theorem inX4 : ∀ w ∈ wsX40, w ∈ lw_tbl := fun w h => wsL_law_in w (inlX4 w h)
theorem inlX5 : ∀ w ∈ wsX50, w ∈ wsL_law := fun _ h => List.mem_append_left _ (List.mem_append_left _ (List.mem_append_left _ (List.mem_append_left _ (List.mem_append_left _ (List.mem_append_left _ (List.mem_append_left _ (List.mem_append_left _ (List.mem_append_right _ h))))))))
theorem inX5 : ∀ w ∈ wsX50, w ∈ lw_tbl := fun w h => wsL_law_in w (inlX5 w h)
theorem inlX6 : ∀ w ∈ wsX60, w ∈ wsL_law := fun _ h => List.mem_append_left _ (List.mem_append_left _ (List.mem_append_left _ (List.mem_append_left _ (List.mem_append_left _ (List.mem_append_left _ (List.mem_append_left _ (List.mem_append_left _ (List.mem_append_left _ (List.mem_append_left _ (List.mem_append_left _ (List.mem_append_left _ (List.mem_append_left _ (List.mem_append_left _ (List.mem_append_right _ h))))))))))))))
theorem inX6 : ∀ w ∈ wsX60, w ∈ lw_tbl := fun w h => wsL_law_in w (inlX6 w h)
theorem inlX7 : ∀ w ∈ wsX70, w ∈ wsL_law := fun _ h => List.mem_append_left _ (List.mem_append_left _ (List.mem_append_left _ (List.mem_append_left _ (List.mem_append_left _ (List.mem_append_right _ h)))))
theorem inX7 : ∀ w ∈ wsX70, w ∈ lw_tbl := fun w h => wsL_law_in w (inlX7 w h)
theorem inlX8 : ∀ w ∈ wsX80, w ∈ wsL_law := fun _ h => List.mem_append_left _ (List.mem_append_left _ (List.mem_append_left _ (List.mem_append_left _ (List.mem_append_right _ h))))
theorem inX8 : ∀ w ∈ wsX80, w ∈ lw_tbl := fun w h => wsL_law_in w (inlX8 w h)
theorem inlX9 : ∀ w ∈ wsX90, w ∈ wsL_law := fun _ h => List.mem_append_left _ (List.mem_append_left _ (List.mem_append_left _ (List.mem_append_left _ (List.mem_append_left _ (List.mem_append_left _ (List.mem_append_left _ (List.mem_append_left _ (List.mem_append_left _ (List.mem_append_left _ (List.mem_append_left _ (List.mem_append_left _ (List.mem_append_left _ (List.mem_append_right _ h)))))))))))))
theorem inX9 : ∀ w ∈ wsX90, w ∈ lw_tbl := fun w h => wsL_law_in w (inlX9 w h)
theorem inJx145de : ∀ w ∈ wsJx145de0, w ∈ lw_tbl := by decide +kernel
theorem inJx8e188 : ∀ w ∈ wsJx8e1880, w ∈ lw_tbl := by decide +kernel
theorem inJxb160c : ∀ w ∈ wsJxb160c0, w ∈ lw_tbl := by decide +kernel
theorem inJxe99ae : ∀ w ∈ wsJxe99ae0, w ∈ lw_tbl := by decide +kernel
theorem inJxf58ca : ∀ w ∈ wsJxf58ca0, w ∈ lw_tbl := by decide +kernel
theorem inJ6 : ∀ w ∈ wsJ60, w ∈ lw_tbl := by decide +kernel
theorem inJxab1ab : ∀ w ∈ wsJxab1ab0, w ∈ lw_tbl := by decide +kernel
theorem inJ9 : ∀ w ∈ wsJ90, w ∈ lw_tbl := by decide +kernel
theorem inJxd2413 : ∀ w ∈ wsJxd24130, w ∈ lw_tbl := by decide +kernel
theorem inJ0 : ∀ w ∈ wsJ00, w ∈ lw_tbl := by decide +kernel
theorem inJ10 : ∀ w ∈ wsJ100, w ∈ lw_tbl := by decide +kernel
theorem inJxfd54e : ∀ w ∈ wsJxfd54e0, w ∈ lw_tbl := by decide +kernel
theorem inJx3cf43 : ∀ w ∈ wsJx3cf430, w ∈ lw_tbl := by decide +kernel
theorem inJxa1e45 : ∀ w ∈ wsJxa1e450, w ∈ lw_tbl := by decide +kernel
theorem inJxc12de : ∀ w ∈ wsJxc12de0, w ∈ lw_tbl := by decide +kernel
theorem inlJx4a65c : ∀ w ∈ wsJx4a65c0, w ∈ wsL_law := fun _ h => List.mem_append_left _ (List.mem_append_left _ (List.mem_append_left _ (List.mem_append_left _ (List.mem_append_left _ (List.mem_append_left _ (List.mem_append_right _ h))))))
theorem inJx4a65c : ∀ w ∈ wsJx4a65c0, w ∈ lw_tbl := fun w h => wsL_law_in w (inlJx4a65c w h)
theorem inJ7 : ∀ w ∈ wsJ70, w ∈ lw_tbl := by decide +kernel
theorem inJx5ef63 : ∀ w ∈ wsJx5ef630, w ∈ lw_tbl := by decide +kernel
theorem inJxbd725 : ∀ w ∈ wsJxbd7250, w ∈ lw_tbl := by decide +kernel
theorem inJ15 : ∀ w ∈ wsJ150, w ∈ lw_tbl := by decide +kernel
theorem inJxf0a74 : ∀ w ∈ wsJxf0a740, w ∈ lw_tbl := by decide +kernel
theorem inJxa66e6 : ∀ w ∈ wsJxa66e60, w ∈ lw_tbl := by decide +kernel
theorem inJ8 : ∀ w ∈ wsJ80, w ∈ lw_tbl := by decide +kernel
theorem inJ3 : ∀ w ∈ wsJ30, w ∈ lw_tbl := by decide +kernel
set_option maxRecDepth 20000 in
theorem ggX1_init_X0_init : GoodIn wsX1_init wsX0_init := goodIn_r _ [14, 15, 2, 3, 4, 16, 17, 18, 24, 25, 26] (by decide +kernel) (by decide +kernel)
set_option maxRecDepth 20000 in
theorem gX1_init_X0_init_n17 : GoodIn wsX1_init (wsX0_init) := ggX1_init_X0_init
set_option maxRecDepth 20000 in
theorem ggX1_sharpness_X6_colourSeen : GoodIn wsX1_sharpness wsX6_colourSeen := goodIn_r _ [8] (by decide +kernel) (by decide +kernel)
set_option maxRecDepth 20000 in
theorem gX1_sharpness_X6_colourSeen_n32 : GoodIn wsX1_sharpness (wsX6_colourSeen) := ggX1_sharpness_X6_colourSeen
set_option maxRecDepth 20000 in
theorem ggX1_sharpness_X6_placeOf : GoodIn wsX1_sharpness wsX6_placeOf := goodIn_r _ [10] (by decide +kernel) (by decide +kernel)
set_option maxRecDepth 20000 in
theorem gX1_sharpness_X6_placeOf_n36 : GoodIn wsX1_sharpness (wsX6_placeOf) := ggX1_sharpness_X6_placeOf
set_option maxRecDepth 20000 in
theorem ggX1_whiteOf_X1_sumSeen : GoodIn wsX1_whiteOf wsX1_sumSeen := goodIn_r _ [12, 13, 14, 15, 16, 17, 18, 19, 20, 21, 22, 23] (by decide +kernel) (by decide +kernel)
set_option maxRecDepth 20000 in
theorem gX1_whiteOf_X1_sumSeen : GoodIn wsX1_whiteOf (wsV RX1 45 RX1 yX1_sumSeen wsX1_sumSeen) := goodIn_app (goodIn_of _ (by decide +kernel)) ggX1_whiteOf_X1_sumSeen
set_option maxRecDepth 20000 in
theorem ggX1_sumSeen_X6_colourSeen : GoodIn wsX1_sumSeen wsX6_colourSeen := goodIn_r _ [4] (by decide +kernel) (by decide +kernel)
set_option maxRecDepth 20000 in
theorem gX1_sumSeen_X6_colourSeen_n32 : GoodIn wsX1_sumSeen (wsX6_colourSeen) := ggX1_sumSeen_X6_colourSeen
set_option maxRecDepth 20000 in
theorem ggX1_sumSeen_X6_placeOf : GoodIn wsX1_sumSeen wsX6_placeOf := goodIn_r _ [6] (by decide +kernel) (by decide +kernel)
set_option maxRecDepth 20000 in
theorem gX1_sumSeen_X6_placeOf_n36 : GoodIn wsX1_sumSeen (wsX6_placeOf) := ggX1_sumSeen_X6_placeOf
set_option maxRecDepth 20000 in
theorem ggX1_meanOfZone_X6_colourSeen : GoodIn wsX1_meanOfZone wsX6_colourSeen := goodIn_r _ [5] (by decide +kernel) (by decide +kernel)
set_option maxRecDepth 20000 in
theorem gX1_meanOfZone_X6_colourSeen_n32 : GoodIn wsX1_meanOfZone (wsX6_colourSeen) := ggX1_meanOfZone_X6_colourSeen
set_option maxRecDepth 20000 in
theorem ggX1_meanOfZone_X6_placeOf : GoodIn wsX1_meanOfZone wsX6_placeOf := goodIn_r _ [7] (by decide +kernel) (by decide +kernel)
set_option maxRecDepth 20000 in
theorem gX1_meanOfZone_X6_placeOf_n36 : GoodIn wsX1_meanOfZone (wsX6_placeOf) := ggX1_meanOfZone_X6_placeOf
set_option maxRecDepth 20000 in
theorem ggX1_meanOfZones_X1_meanOfZone : GoodIn wsX1_meanOfZones wsX1_meanOfZone := goodIn_r _ [6, 7, 8, 9, 10, 11, 12, 13, 14, 15, 16, 17, 18] (by decide +kernel) (by decide +kernel)
set_option maxRecDepth 20000 in
theorem gX1_meanOfZones_X1_meanOfZone : GoodIn wsX1_meanOfZones (wsV RX1 56 RX1 yX1_meanOfZone wsX1_meanOfZone) := goodIn_app (goodIn_of _ (by decide +kernel)) ggX1_meanOfZones_X1_meanOfZone
set_option maxRecDepth 20000 in
theorem ggX2_compose_X0_hasMend : GoodIn wsX2_compose wsX0_hasMend := goodIn_r _ [5, 6, 7, 63, 64, 65] (by decide +kernel) (by decide +kernel)
set_option maxRecDepth 20000 in
theorem gX2_compose_X0_hasMend : GoodIn wsX2_compose (wsV RX2 19 RX0 yX0_hasMend wsX0_hasMend) := goodIn_app (goodIn_of _ (by decide +kernel)) ggX2_compose_X0_hasMend
set_option maxRecDepth 20000 in
theorem ggX2_compose_X2_mendAll : GoodIn wsX2_compose wsX2_mendAll := goodIn_r _ [12, 13, 14, 15, 16, 17, 18, 11, 19, 20, 21, 66, 67] (by decide +kernel) (by decide +kernel)
set_option maxRecDepth 20000 in
theorem gX2_compose_X2_mendAll : GoodIn wsX2_compose (wsV RX2 25 RX2 yX2_mendAll wsX2_mendAll) := goodIn_app (goodIn_of _ (by decide +kernel)) ggX2_compose_X2_mendAll
set_option maxRecDepth 20000 in
theorem ggX2_compose_X2_makeWhole : GoodIn wsX2_compose wsX2_makeWhole := goodIn_r _ [25, 13, 26, 14, 15, 16, 27, 28, 29, 30, 31, 11, 32, 20, 21, 33, 34, 35, 66, 67] (by decide +kernel) (by decide +kernel)
set_option maxRecDepth 20000 in
theorem gX2_compose_X2_makeWhole : GoodIn wsX2_compose (wsV RX2 29 RX2 yX2_makeWhole wsX2_makeWhole) := goodIn_app (goodIn_of _ (by decide +kernel)) ggX2_compose_X2_makeWhole
set_option maxRecDepth 20000 in
theorem ggX2_compose_X0_count : GoodIn wsX2_compose wsX0_count := goodIn_r _ [39, 6, 63, 64, 65] (by decide +kernel) (by decide +kernel)
set_option maxRecDepth 20000 in
theorem gX2_compose_X0_count : GoodIn wsX2_compose (wsV RX2 32 RX0 yX0_count wsX0_count) := goodIn_app (goodIn_of _ (by decide +kernel)) ggX2_compose_X0_count
set_option maxRecDepth 20000 in
theorem ggX2_compose_X2_applyEdit : GoodIn wsX2_compose wsX2_applyEdit := goodIn_r _ [43, 44, 45, 46, 47, 11, 48, 26, 49, 50, 51, 52, 33, 34, 35, 53, 54, 55, 56, 57, 58, 59, 60, 61, 62, 14, 15, 16, 66, 67] (by decide +kernel) (by decide +kernel)
set_option maxRecDepth 20000 in
theorem gX2_compose_X2_applyEdit : GoodIn wsX2_compose (wsV RX2 41 RX2 yX2_applyEdit wsX2_applyEdit) := goodIn_app (goodIn_of _ (by decide +kernel)) ggX2_compose_X2_applyEdit
set_option maxRecDepth 20000 in
theorem ggX2_bound_X2_bounded : GoodIn wsX2_bound wsX2_bounded := goodIn_r _ [5, 6] (by decide +kernel) (by decide +kernel)
set_option maxRecDepth 20000 in
theorem gX2_bound_X2_bounded : GoodIn wsX2_bound (va_wsS RX2 45 yX2_bounded wsX2_bounded) := goodIn_app (goodIn_of _ (by decide +kernel)) ggX2_bound_X2_bounded
set_option maxRecDepth 20000 in
theorem ggX2_sumTones_X2_indexOf : GoodIn wsX2_sumTones wsX2_indexOf := goodIn_r _ [5] (by decide +kernel) (by decide +kernel)
set_option maxRecDepth 20000 in
theorem gX2_sumTones_X2_indexOf : GoodIn wsX2_sumTones (va_wsS RX2 49 yX2_indexOf wsX2_indexOf) := goodIn_app (goodIn_of _ (by decide +kernel)) ggX2_sumTones_X2_indexOf
set_option maxRecDepth 20000 in
theorem ggX2_sumTones_X2_bounded : GoodIn wsX2_sumTones wsX2_bounded := goodIn_r _ [8, 9] (by decide +kernel) (by decide +kernel)
set_option maxRecDepth 20000 in
theorem gX2_sumTones_X2_bounded : GoodIn wsX2_sumTones (va_wsS RX2 45 yX2_bounded wsX2_bounded) := goodIn_app (goodIn_of _ (by decide +kernel)) ggX2_sumTones_X2_bounded
set_option maxRecDepth 20000 in
theorem ggX2_mendAll_X6_placeOf : GoodIn wsX2_mendAll wsX6_placeOf := goodIn_r _ [4] (by decide +kernel) (by decide +kernel)
set_option maxRecDepth 20000 in
theorem gX2_mendAll_X6_placeOf_n54 : GoodIn wsX2_mendAll (wsX6_placeOf) := ggX2_mendAll_X6_placeOf
set_option maxRecDepth 20000 in
theorem ggX2_mendAll_X2_mendedAt : GoodIn wsX2_mendAll wsX2_mendedAt := goodIn_r _ [8, 9, 3, 10, 2, 4] (by decide +kernel) (by decide +kernel)
set_option maxRecDepth 20000 in
theorem gX2_mendAll_X2_mendedAt : GoodIn wsX2_mendAll (va_wsS RX2 57 yX2_mendedAt wsX2_mendedAt) := goodIn_app (goodIn_of _ (by decide +kernel)) ggX2_mendAll_X2_mendedAt
set_option maxRecDepth 20000 in
theorem ggX2_mendedAt_X6_isPlace : GoodIn wsX2_mendedAt wsX6_isPlace := goodIn_r _ [3] (by decide +kernel) (by decide +kernel)
set_option maxRecDepth 20000 in
theorem gX2_mendedAt_X6_isPlace_n61 : GoodIn wsX2_mendedAt (wsX6_isPlace) := ggX2_mendedAt_X6_isPlace
set_option maxRecDepth 20000 in
theorem ggX2_mendedAt_X6_placeOf : GoodIn wsX2_mendedAt wsX6_placeOf := goodIn_r _ [5] (by decide +kernel) (by decide +kernel)
set_option maxRecDepth 20000 in
theorem gX2_mendedAt_X6_placeOf_n54 : GoodIn wsX2_mendedAt (wsX6_placeOf) := ggX2_mendedAt_X6_placeOf
set_option maxRecDepth 20000 in
theorem ggX2_makeWhole_X6_placeOf : GoodIn wsX2_makeWhole wsX6_placeOf := goodIn_r _ [5] (by decide +kernel) (by decide +kernel)
set_option maxRecDepth 20000 in
theorem gX2_makeWhole_X6_placeOf_n54 : GoodIn wsX2_makeWhole (wsX6_placeOf) := ggX2_makeWhole_X6_placeOf
set_option maxRecDepth 20000 in
theorem ggX2_makeWhole_X6_colourSeen : GoodIn wsX2_makeWhole wsX6_colourSeen := goodIn_r _ [7] (by decide +kernel) (by decide +kernel)
set_option maxRecDepth 20000 in
theorem gX2_makeWhole_X6_colourSeen_n65 : GoodIn wsX2_makeWhole (wsX6_colourSeen) := ggX2_makeWhole_X6_colourSeen
set_option maxRecDepth 20000 in
theorem ggX2_makeWhole_X2_meanAround : GoodIn wsX2_makeWhole wsX2_meanAround := goodIn_r _ [12, 1, 13, 4, 14, 6, 7, 3, 5, 18, 19] (by decide +kernel) (by decide +kernel)
set_option maxRecDepth 20000 in
theorem gX2_makeWhole_X2_meanAround : GoodIn wsX2_makeWhole (wsV RX2 68 RX2 yX2_meanAround wsX2_meanAround) := goodIn_app (goodIn_of _ (by decide +kernel)) ggX2_makeWhole_X2_meanAround
set_option maxRecDepth 20000 in
theorem ggX2_makeWhole_X2_indexOf : GoodIn wsX2_makeWhole wsX2_indexOf := goodIn_r _ [17] (by decide +kernel) (by decide +kernel)
set_option maxRecDepth 20000 in
theorem gX2_makeWhole_X2_indexOf : GoodIn wsX2_makeWhole (va_wsS RX2 49 yX2_indexOf wsX2_indexOf) := goodIn_app (goodIn_of _ (by decide +kernel)) ggX2_makeWhole_X2_indexOf
set_option maxRecDepth 20000 in
theorem ggX2_meanAround_X6_isPlace : GoodIn wsX2_meanAround wsX6_isPlace := goodIn_r _ [4] (by decide +kernel) (by decide +kernel)
set_option maxRecDepth 20000 in
theorem gX2_meanAround_X6_isPlace_n61 : GoodIn wsX2_meanAround (wsX6_isPlace) := ggX2_meanAround_X6_isPlace
set_option maxRecDepth 20000 in
theorem ggX2_meanAround_X6_colourSeen : GoodIn wsX2_meanAround wsX6_colourSeen := goodIn_r _ [6] (by decide +kernel) (by decide +kernel)
set_option maxRecDepth 20000 in
theorem gX2_meanAround_X6_colourSeen_n65 : GoodIn wsX2_meanAround (wsX6_colourSeen) := ggX2_meanAround_X6_colourSeen
set_option maxRecDepth 20000 in
theorem ggX2_meanAround_X6_placeOf : GoodIn wsX2_meanAround wsX6_placeOf := goodIn_r _ [8] (by decide +kernel) (by decide +kernel)
set_option maxRecDepth 20000 in
theorem gX2_meanAround_X6_placeOf_n54 : GoodIn wsX2_meanAround (wsX6_placeOf) := ggX2_meanAround_X6_placeOf
set_option maxRecDepth 20000 in
theorem ggX2_applyEdit_X2_darken : GoodIn wsX2_applyEdit wsX2_darken := goodIn_r _ [6, 7, 28, 29] (by decide +kernel) (by decide +kernel)
set_option maxRecDepth 20000 in
theorem gX2_applyEdit_X2_darken : GoodIn wsX2_applyEdit (wsV RX2 72 RX2 yX2_darken wsX2_darken) := goodIn_app (goodIn_of _ (by decide +kernel)) ggX2_applyEdit_X2_darken
set_option maxRecDepth 20000 in
theorem ggX2_applyEdit_X2_scaleColour : GoodIn wsX2_applyEdit wsX2_scaleColour := goodIn_r _ [11, 7, 12, 13, 5, 14, 28, 29] (by decide +kernel) (by decide +kernel)
set_option maxRecDepth 20000 in
theorem gX2_applyEdit_X2_scaleColour : GoodIn wsX2_applyEdit (wsV RX2 77 RX2 yX2_scaleColour wsX2_scaleColour) := goodIn_app (goodIn_of _ (by decide +kernel)) ggX2_applyEdit_X2_scaleColour
set_option maxRecDepth 20000 in
theorem ggX2_applyEdit_X2_changeTone : GoodIn wsX2_applyEdit wsX2_changeTone := goodIn_r _ [18, 7, 19, 20, 28, 29] (by decide +kernel) (by decide +kernel)
set_option maxRecDepth 20000 in
theorem gX2_applyEdit_X2_changeTone : GoodIn wsX2_applyEdit (wsV RX2 81 RX2 yX2_changeTone wsX2_changeTone) := goodIn_app (goodIn_of _ (by decide +kernel)) ggX2_applyEdit_X2_changeTone
set_option maxRecDepth 20000 in
theorem ggX2_applyEdit_X2_turnOver : GoodIn wsX2_applyEdit wsX2_turnOver := goodIn_r _ [24, 7, 25, 26, 27, 12, 13, 5, 14, 28, 29] (by decide +kernel) (by decide +kernel)
set_option maxRecDepth 20000 in
theorem gX2_applyEdit_X2_turnOver : GoodIn wsX2_applyEdit (wsV RX2 84 RX2 yX2_turnOver wsX2_turnOver) := goodIn_app (goodIn_of _ (by decide +kernel)) ggX2_applyEdit_X2_turnOver
set_option maxRecDepth 20000 in
theorem ggX2_scaleColour_X2_indexOf : GoodIn wsX2_scaleColour wsX2_indexOf := goodIn_r _ [5] (by decide +kernel) (by decide +kernel)
set_option maxRecDepth 20000 in
theorem gX2_scaleColour_X2_indexOf : GoodIn wsX2_scaleColour (va_wsS RX2 49 yX2_indexOf wsX2_indexOf) := goodIn_app (goodIn_of _ (by decide +kernel)) ggX2_scaleColour_X2_indexOf
set_option maxRecDepth 20000 in
theorem ggX2_turnOver_X6_placeOf : GoodIn wsX2_turnOver wsX6_placeOf := goodIn_r _ [4] (by decide +kernel) (by decide +kernel)
set_option maxRecDepth 20000 in
theorem gX2_turnOver_X6_placeOf_n54 : GoodIn wsX2_turnOver (wsX6_placeOf) := ggX2_turnOver_X6_placeOf
set_option maxRecDepth 20000 in
theorem ggX2_turnOver_X2_indexOf : GoodIn wsX2_turnOver wsX2_indexOf := goodIn_r _ [8] (by decide +kernel) (by decide +kernel)
set_option maxRecDepth 20000 in
theorem gX2_turnOver_X2_indexOf : GoodIn wsX2_turnOver (va_wsS RX2 49 yX2_indexOf wsX2_indexOf) := goodIn_app (goodIn_of _ (by decide +kernel)) ggX2_turnOver_X2_indexOf
set_option maxRecDepth 20000 in
theorem ggX3_lightAt_X3_shade : GoodIn wsX3_lightAt wsX3_shade := goodIn_r _ [7, 8, 9, 10, 11] (by decide +kernel) (by decide +kernel)
set_option maxRecDepth 20000 in
theorem gX3_lightAt_X3_shade : GoodIn wsX3_lightAt (wsV RX3 24 RX3 yX3_shade wsX3_shade) := goodIn_app (goodIn_of _ (by decide +kernel)) ggX3_lightAt_X3_shade
set_option maxRecDepth 20000 in
theorem ggX4_expose_X6_placeOf : GoodIn wsX4_expose wsX6_placeOf := goodIn_r _ [5] (by decide +kernel) (by decide +kernel)
set_option maxRecDepth 20000 in
theorem gX4_expose_X6_placeOf_n23 : GoodIn wsX4_expose (wsX6_placeOf) := ggX4_expose_X6_placeOf
set_option maxRecDepth 20000 in
theorem ggX4_expose_X6_colourSeen : GoodIn wsX4_expose wsX6_colourSeen := goodIn_r _ [7] (by decide +kernel) (by decide +kernel)
set_option maxRecDepth 20000 in
theorem gX4_expose_X6_colourSeen_n27 : GoodIn wsX4_expose (wsX6_colourSeen) := ggX4_expose_X6_colourSeen
set_option maxRecDepth 20000 in
theorem ggX4_expose_X3_lightAt : GoodIn wsX4_expose wsX3_lightAt := goodIn_r _ [12, 13, 14, 15, 16, 17, 11, 18, 19, 39, 40, 41] (by decide +kernel) (by decide +kernel)
set_option maxRecDepth 20000 in
theorem gX4_expose_X3_lightAt : GoodIn wsX4_expose (wsV RX4 30 RX3 yX3_lightAt wsX3_lightAt) := goodIn_app (goodIn_of _ (by decide +kernel)) ggX4_expose_X3_lightAt
set_option maxRecDepth 20000 in
theorem ggX4_expose_X4_rawOf : GoodIn wsX4_expose wsX4_rawOf := goodIn_r _ [23, 24, 25, 26, 27, 28, 29, 30] (by decide +kernel) (by decide +kernel)
set_option maxRecDepth 20000 in
theorem gX4_expose_X4_rawOf : GoodIn wsX4_expose (va_wsS RX4 41 yX4_rawOf wsX4_rawOf) := goodIn_app (goodIn_of _ (by decide +kernel)) ggX4_expose_X4_rawOf
set_option maxRecDepth 20000 in
theorem ggX5_init_X0_init : GoodIn wsX5_init wsX0_init := goodIn_r _ [11, 12, 2, 3, 13, 14, 15, 16, 17, 18, 19] (by decide +kernel) (by decide +kernel)
set_option maxRecDepth 20000 in
theorem gX5_init_X0_init_n9 : GoodIn wsX5_init (wsX0_init) := ggX5_init_X0_init
set_option maxRecDepth 20000 in
theorem ggX5_keep_X0_copyFrom : GoodIn wsX5_keep wsX0_copyFrom := goodIn_r _ [8, 9, 10, 11, 15, 16, 17] (by decide +kernel) (by decide +kernel)
set_option maxRecDepth 20000 in
theorem gX5_keep_X0_copyFrom : GoodIn wsX5_keep (wsV RX5 23 RX0 yX0_copyFrom wsX0_copyFrom) := goodIn_app (goodIn_of _ (by decide +kernel)) ggX5_keep_X0_copyFrom
set_option maxRecDepth 20000 in
theorem ggX6_init_X3_init : GoodIn wsX6_init wsX3_init := goodIn_r _ [30, 31, 2, 3, 32, 33, 34, 35, 36, 73, 74, 75] (by decide +kernel) (by decide +kernel)
set_option maxRecDepth 20000 in
theorem gX6_init_X3_init : GoodIn wsX6_init (wsX3_init) := ggX6_init_X3_init
set_option maxRecDepth 20000 in
theorem ggX6_init_X4_init : GoodIn wsX6_init wsX4_init := goodIn_r _ [38, 39, 2, 3, 32, 40, 41, 42, 43, 85, 86, 87] (by decide +kernel) (by decide +kernel)
set_option maxRecDepth 20000 in
theorem gX6_init_X4_init_n18 : GoodIn wsX6_init (wsX4_init) := ggX6_init_X4_init
set_option maxRecDepth 20000 in
theorem ggX6_init_X1_init : GoodIn wsX6_init wsX1_init := goodIn_r _ [45, 46, 2, 3, 32, 47, 48, 49, 50, 51, 52, 53, 54, 55, 56, 57, 58, 59, 60, 88, 89, 90, 91, 92, 98, 99, 100] (by decide +kernel) (by decide +kernel)
set_option maxRecDepth 20000 in
theorem gX6_init_X1_init_n42 : GoodIn wsX6_init (wsX1_init) := ggX6_init_X1_init
set_option maxRecDepth 20000 in
theorem ggX6_init_X2_init : GoodIn wsX6_init wsX2_init := goodIn_r _ [62, 63, 2, 3, 34, 64, 32, 65, 93, 94] (by decide +kernel) (by decide +kernel)
set_option maxRecDepth 20000 in
theorem gX6_init_X2_init_n49 : GoodIn wsX6_init (wsX2_init) := ggX6_init_X2_init
set_option maxRecDepth 20000 in
theorem ggX6_init_X5_init : GoodIn wsX6_init wsX5_init := goodIn_r _ [67, 68, 2, 3, 69, 49, 50, 70, 71, 72, 55, 56, 57, 32, 58, 59, 60, 98, 99, 100, 95, 96, 97] (by decide +kernel) (by decide +kernel)
set_option maxRecDepth 20000 in
theorem gX6_init_X5_init_n57 : GoodIn wsX6_init (wsX5_init) := ggX6_init_X5_init
set_option maxRecDepth 20000 in
theorem ggX6_paint_X6_needPlace : GoodIn wsX6_paint wsX6_needPlace := goodIn_ca (goodIn_r _ [8, 9, 10, 11, 12, 7, 13] (by decide +kernel) (by decide +kernel)) (goodIn_sub (fun _ h => List.mem_cons_of_mem _ (List.mem_append_right _ h)) (by decide +kernel))
set_option maxRecDepth 20000 in
theorem gX6_paint_X6_needPlace : GoodIn wsX6_paint (va_wsS RX6 58 yX6_needPlace wsX6_needPlace) := goodIn_app (goodIn_of _ (by decide +kernel)) ggX6_paint_X6_needPlace
set_option maxRecDepth 20000 in
theorem ggX6_paint_X6_needRange : GoodIn wsX6_paint wsX6_needRange := goodIn_ca (goodIn_r _ [16, 1, 2] (by decide +kernel) (by decide +kernel)) (goodIn_sub (fun _ h => List.mem_cons_of_mem _ (List.mem_append_left _ (List.mem_append_right _ h))) (by decide +kernel))
set_option maxRecDepth 20000 in
theorem gX6_paint_X6_needRange : GoodIn wsX6_paint (va_wsS RX6 70 yX6_needRange wsX6_needRange) := goodIn_app (goodIn_of _ (by decide +kernel)) ggX6_paint_X6_needRange
set_option maxRecDepth 20000 in
theorem ggX6_paint_X6_placeOf : GoodIn wsX6_paint wsX6_placeOf := goodIn_r _ [19] (by decide +kernel) (by decide +kernel)
set_option maxRecDepth 20000 in
theorem gX6_paint_X6_placeOf : GoodIn wsX6_paint (va_wsS RX6 74 yX6_placeOf wsX6_placeOf) := goodIn_app (goodIn_of _ (by decide +kernel)) ggX6_paint_X6_placeOf
set_option maxRecDepth 20000 in
theorem ggX6_paint_X3_colourPlace : GoodIn wsX6_paint wsX3_colourPlace := goodIn_r _ [24, 25, 35, 36, 37] (by decide +kernel) (by decide +kernel)
set_option maxRecDepth 20000 in
theorem gX6_paint_X3_colourPlace : GoodIn wsX6_paint (wsV RX6 78 RX3 yX3_colourPlace wsX3_colourPlace) := goodIn_app (goodIn_of _ (by decide +kernel)) ggX6_paint_X3_colourPlace
set_option maxRecDepth 20000 in
theorem ggX6_lamp_X6_needRange : GoodIn wsX6_lamp wsX6_needRange := goodIn_ca (goodIn_r _ [5, 6, 7] (by decide +kernel) (by decide +kernel)) (goodIn_sub (fun _ h => List.mem_cons_of_mem _ (List.mem_append_right _ h)) (by decide +kernel))
set_option maxRecDepth 20000 in
theorem gX6_lamp_X6_needRange : GoodIn wsX6_lamp (va_wsS RX6 70 yX6_needRange wsX6_needRange) := goodIn_app (goodIn_of _ (by decide +kernel)) ggX6_lamp_X6_needRange
set_option maxRecDepth 20000 in
theorem ggX6_lamp_X3_greenQuarters : GoodIn wsX6_lamp wsX3_greenQuarters := goodIn_r _ [12, 13, 29, 30, 31] (by decide +kernel) (by decide +kernel)
set_option maxRecDepth 20000 in
theorem gX6_lamp_X3_greenQuarters : GoodIn wsX6_lamp (wsV RX6 81 RX3 yX3_greenQuarters wsX3_greenQuarters) := goodIn_app (goodIn_of _ (by decide +kernel)) ggX6_lamp_X3_greenQuarters
set_option maxRecDepth 20000 in
theorem ggX6_lamp_X3_light : GoodIn wsX6_lamp wsX3_light := goodIn_r _ [17, 18, 19, 13, 29, 30, 31] (by decide +kernel) (by decide +kernel)
set_option maxRecDepth 20000 in
theorem gX6_lamp_X3_light : GoodIn wsX6_lamp (wsV RX6 85 RX3 yX3_light wsX3_light) := goodIn_app (goodIn_of _ (by decide +kernel)) ggX6_lamp_X3_light
set_option maxRecDepth 20000 in
theorem ggX6_spoil_X6_needPlace : GoodIn wsX6_spoil wsX6_needPlace := goodIn_ca (goodIn_r _ [5, 6, 7, 8, 9, 4, 10] (by decide +kernel) (by decide +kernel)) (goodIn_sub (fun _ h => List.mem_cons_of_mem _ (List.mem_append_left _ (List.mem_append_right _ h))) (by decide +kernel))
set_option maxRecDepth 20000 in
theorem gX6_spoil_X6_needPlace : GoodIn wsX6_spoil (va_wsS RX6 58 yX6_needPlace wsX6_needPlace) := goodIn_app (goodIn_of _ (by decide +kernel)) ggX6_spoil_X6_needPlace
set_option maxRecDepth 20000 in
theorem ggX6_spoil_X6_needRange : GoodIn wsX6_spoil wsX6_needRange := goodIn_ca (goodIn_r _ [13, 14, 15] (by decide +kernel) (by decide +kernel)) (goodIn_sub (fun _ h => List.mem_cons_of_mem _ (List.mem_append_right _ h)) (by decide +kernel))
set_option maxRecDepth 20000 in
theorem gX6_spoil_X6_needRange : GoodIn wsX6_spoil (va_wsS RX6 70 yX6_needRange wsX6_needRange) := goodIn_app (goodIn_of _ (by decide +kernel)) ggX6_spoil_X6_needRange
set_option maxRecDepth 20000 in
theorem ggX6_spoil_X6_placeOf : GoodIn wsX6_spoil wsX6_placeOf := goodIn_r _ [18] (by decide +kernel) (by decide +kernel)
set_option maxRecDepth 20000 in
theorem gX6_spoil_X6_placeOf : GoodIn wsX6_spoil (va_wsS RX6 74 yX6_placeOf wsX6_placeOf) := goodIn_app (goodIn_of _ (by decide +kernel)) ggX6_spoil_X6_placeOf
set_option maxRecDepth 20000 in
theorem ggX6_spoil_X4_howIs : GoodIn wsX6_spoil wsX4_howIs := goodIn_r _ [23, 24, 38, 39, 40] (by decide +kernel) (by decide +kernel)
set_option maxRecDepth 20000 in
theorem gX6_spoil_X4_howIs : GoodIn wsX6_spoil (wsV RX6 88 RX4 yX4_howIs wsX4_howIs) := goodIn_app (goodIn_of _ (by decide +kernel)) ggX6_spoil_X4_howIs
set_option maxRecDepth 20000 in
theorem ggX6_spoil_X4_setHow : GoodIn wsX6_spoil wsX4_setHow := goodIn_r _ [28, 24, 38, 39, 40] (by decide +kernel) (by decide +kernel)
set_option maxRecDepth 20000 in
theorem gX6_spoil_X4_setHow : GoodIn wsX6_spoil (wsV RX6 92 RX4 yX4_setHow wsX4_setHow) := goodIn_app (goodIn_of _ (by decide +kernel)) ggX6_spoil_X4_setHow
set_option maxRecDepth 20000 in
theorem ggX6_map_X6_needPlace : GoodIn wsX6_map wsX6_needPlace := goodIn_ca (goodIn_r _ [5, 6, 7, 8, 9, 4, 10] (by decide +kernel) (by decide +kernel)) (goodIn_sub (fun _ h => List.mem_cons_of_mem _ (List.mem_append_right _ h)) (by decide +kernel))
set_option maxRecDepth 20000 in
theorem gX6_map_X6_needPlace : GoodIn wsX6_map (va_wsS RX6 58 yX6_needPlace wsX6_needPlace) := goodIn_app (goodIn_of _ (by decide +kernel)) ggX6_map_X6_needPlace
set_option maxRecDepth 20000 in
theorem ggX6_map_X6_placeOf : GoodIn wsX6_map wsX6_placeOf := goodIn_r _ [13] (by decide +kernel) (by decide +kernel)
set_option maxRecDepth 20000 in
theorem gX6_map_X6_placeOf : GoodIn wsX6_map (va_wsS RX6 74 yX6_placeOf wsX6_placeOf) := goodIn_app (goodIn_of _ (by decide +kernel)) ggX6_map_X6_placeOf
set_option maxRecDepth 20000 in
theorem ggX6_map_X4_setMapped : GoodIn wsX6_map wsX4_setMapped := goodIn_r _ [18, 19, 33, 34, 35] (by decide +kernel) (by decide +kernel)
set_option maxRecDepth 20000 in
theorem gX6_map_X4_setMapped : GoodIn wsX6_map (wsV RX6 95 RX4 yX4_setMapped wsX4_setMapped) := goodIn_app (goodIn_of _ (by decide +kernel)) ggX6_map_X4_setMapped
set_option maxRecDepth 20000 in
theorem ggX6_map_X4_countMapped : GoodIn wsX6_map wsX4_countMapped := goodIn_r _ [23, 19, 33, 34, 35] (by decide +kernel) (by decide +kernel)
set_option maxRecDepth 20000 in
theorem gX6_map_X4_countMapped : GoodIn wsX6_map (wsV RX6 99 RX4 yX4_countMapped wsX4_countMapped) := goodIn_app (goodIn_of _ (by decide +kernel)) ggX6_map_X4_countMapped
set_option maxRecDepth 20000 in
theorem ggX6_take_X6_needExposure : GoodIn wsX6_take wsX6_needExposure := goodIn_ca (goodIn_r _ [8, 9, 10, 7, 11, 12, 13] (by decide +kernel) (by decide +kernel)) (goodIn_sub (fun _ h => List.mem_cons_of_mem _ (List.mem_append_left _ (List.mem_append_right _ h))) (by decide +kernel))
set_option maxRecDepth 20000 in
theorem gX6_take_X6_needExposure : GoodIn wsX6_take (va_wsS RX6 102 yX6_needExposure wsX6_needExposure) := goodIn_app (goodIn_of _ (by decide +kernel)) ggX6_take_X6_needExposure
set_option maxRecDepth 20000 in
theorem ggX6_take_X6_needRoom : GoodIn wsX6_take wsX6_needRoom := goodIn_ca (goodIn_r _ [16, 17, 18] (by decide +kernel) (by decide +kernel)) (goodIn_sub (fun _ h => List.mem_cons_of_mem _ (List.mem_append_right _ h)) (by decide +kernel))
set_option maxRecDepth 20000 in
theorem gX6_take_X6_needRoom : GoodIn wsX6_take (va_wsS RX6 105 yX6_needRoom wsX6_needRoom) := goodIn_app (goodIn_of _ (by decide +kernel)) ggX6_take_X6_needRoom
set_option maxRecDepth 20000 in
theorem ggX6_take_X4_expose : GoodIn wsX6_take wsX4_expose := goodIn_r _ [23, 24, 25, 26, 7, 27, 28, 29, 30, 31, 32, 33, 34, 35, 36, 37, 38, 39, 40, 41, 42, 43, 22, 44, 45, 46, 47, 48, 49, 50, 51, 65, 66, 67, 68, 69, 70, 71, 72, 73, 74, 75] (by decide +kernel) (by decide +kernel)
set_option maxRecDepth 20000 in
theorem gX6_take_X4_expose : GoodIn wsX6_take (wsV RX6 108 RX4 yX4_expose wsX4_expose) := goodIn_app (goodIn_of _ (by decide +kernel)) ggX6_take_X4_expose
set_option maxRecDepth 20000 in
theorem ggX6_take_X4_advance : GoodIn wsX6_take wsX4_advance := goodIn_r _ [55, 24, 65, 66, 67] (by decide +kernel) (by decide +kernel)
set_option maxRecDepth 20000 in
theorem gX6_take_X4_advance : GoodIn wsX6_take (wsV RX6 112 RX4 yX4_advance wsX4_advance) := goodIn_app (goodIn_of _ (by decide +kernel)) ggX6_take_X4_advance
set_option maxRecDepth 20000 in
theorem ggX6_merge_X6_needRange : GoodIn wsX6_merge wsX6_needRange := goodIn_ca (goodIn_r _ [8, 1, 2] (by decide +kernel) (by decide +kernel)) (goodIn_sub (fun _ h => List.mem_cons_of_mem _ (List.mem_append_left _ (List.mem_append_right _ h))) (by decide +kernel))
set_option maxRecDepth 20000 in
theorem gX6_merge_X6_needRange : GoodIn wsX6_merge (va_wsS RX6 70 yX6_needRange wsX6_needRange) := goodIn_app (goodIn_of _ (by decide +kernel)) ggX6_merge_X6_needRange
set_option maxRecDepth 20000 in
theorem ggX6_merge_J6_bitCount_0f7a4 : GoodIn wsX6_merge wsJ6_bitCount_0f7a4 := goodIn_r _ [12, 13, 14, 15] (by decide +kernel) (by decide +kernel)
set_option maxRecDepth 20000 in
theorem gX6_merge_J6_bitCount_0f7a4 : GoodIn wsX6_merge (va_wsS RX6 116 yJ6_bitCount_0f7a4 wsJ6_bitCount_0f7a4) := goodIn_app (goodIn_of _ (by decide +kernel)) ggX6_merge_J6_bitCount_0f7a4
set_option maxRecDepth 20000 in
theorem ggX6_merge_X6_needRoom : GoodIn wsX6_merge wsX6_needRoom := goodIn_ca (goodIn_r _ [18, 19, 20] (by decide +kernel) (by decide +kernel)) (goodIn_sub (fun _ h => List.mem_cons_of_mem _ (List.mem_append_right _ h)) (by decide +kernel))
set_option maxRecDepth 20000 in
theorem gX6_merge_X6_needRoom : GoodIn wsX6_merge (va_wsS RX6 105 yX6_needRoom wsX6_needRoom) := goodIn_app (goodIn_of _ (by decide +kernel)) ggX6_merge_X6_needRoom
set_option maxRecDepth 20000 in
theorem ggX6_merge_X6_putTogether : GoodIn wsX6_merge wsX6_putTogether := goodIn_r _ [24, 4, 3, 25, 26, 27, 28, 29, 30, 31, 7, 32, 33, 34, 35, 36, 37, 38, 39, 40, 41, 42, 43, 44, 45, 46, 47, 48, 49] (by decide +kernel) (by decide +kernel)
set_option maxRecDepth 20000 in
theorem gX6_merge_X6_putTogether : GoodIn wsX6_merge (wsV RX6 123 RX6 yX6_putTogether wsX6_putTogether) := goodIn_app (goodIn_of _ (by decide +kernel)) ggX6_merge_X6_putTogether
