set_option maxRecDepth 20000 in
theorem ggX6_edit_X6_needFrame : GoodIn wsX6_edit wsX6_needFrame := goodIn_ca (goodIn_r _ [6, 7, 8, 9, 38, 39, 40, 41, 42, 43, 44, 45, 46] (by decide +kernel) (by decide +kernel)) (goodIn_sub (fun _ h => List.mem_cons_of_mem _ (List.mem_append_left _ (List.mem_append_left _ (List.mem_append_right _ h)))) (by decide +kernel))
set_option maxRecDepth 20000 in
theorem gX6_edit_X6_needFrame : GoodIn wsX6_edit (wsV RX6 127 RX6 yX6_needFrame wsX6_needFrame) := goodIn_app (goodIn_of _ (by decide +kernel)) ggX6_edit_X6_needFrame
set_option maxRecDepth 20000 in
theorem ggX6_edit_X6_needRange : GoodIn wsX6_edit wsX6_needRange := goodIn_ca (goodIn_r _ [12, 13, 14] (by decide +kernel) (by decide +kernel)) (goodIn_sub (fun _ h => List.mem_cons_of_mem _ (List.mem_append_left _ (List.mem_append_right _ h))) (by decide +kernel))
set_option maxRecDepth 20000 in
theorem gX6_edit_X6_needRange : GoodIn wsX6_edit (va_wsS RX6 70 yX6_needRange wsX6_needRange) := goodIn_app (goodIn_of _ (by decide +kernel)) ggX6_edit_X6_needRange
set_option maxRecDepth 20000 in
theorem ggX6_edit_X6_leastNumber : GoodIn wsX6_edit wsX6_leastNumber := goodIn_r _ [17] (by decide +kernel) (by decide +kernel)
set_option maxRecDepth 20000 in
theorem gX6_edit_X6_leastNumber : GoodIn wsX6_edit (va_wsS RX6 130 yX6_leastNumber wsX6_leastNumber) := goodIn_app (goodIn_of _ (by decide +kernel)) ggX6_edit_X6_leastNumber
set_option maxRecDepth 20000 in
theorem ggX6_edit_X6_mostNumber : GoodIn wsX6_edit wsX6_mostNumber := goodIn_r _ [20] (by decide +kernel) (by decide +kernel)
set_option maxRecDepth 20000 in
theorem gX6_edit_X6_mostNumber : GoodIn wsX6_edit (va_wsS RX6 133 yX6_mostNumber wsX6_mostNumber) := goodIn_app (goodIn_of _ (by decide +kernel)) ggX6_edit_X6_mostNumber
set_option maxRecDepth 20000 in
theorem ggX6_edit_X0_count : GoodIn wsX6_edit wsX0_count := goodIn_r _ [25, 26, 52, 53, 54] (by decide +kernel) (by decide +kernel)
set_option maxRecDepth 20000 in
theorem gX6_edit_X0_count : GoodIn wsX6_edit (wsV RX6 140 RX0 yX0_count wsX0_count) := goodIn_app (goodIn_of _ (by decide +kernel)) ggX6_edit_X0_count
set_option maxRecDepth 20000 in
theorem ggX6_edit_X6_needRoom : GoodIn wsX6_edit wsX6_needRoom := goodIn_ca (goodIn_r _ [29, 30, 31] (by decide +kernel) (by decide +kernel)) (goodIn_sub (fun _ h => List.mem_cons_of_mem _ (List.mem_append_right _ h)) (by decide +kernel))
set_option maxRecDepth 20000 in
theorem gX6_edit_X6_needRoom : GoodIn wsX6_edit (va_wsS RX6 105 yX6_needRoom wsX6_needRoom) := goodIn_app (goodIn_of _ (by decide +kernel)) ggX6_edit_X6_needRoom
set_option maxRecDepth 20000 in
theorem ggX6_edit_X0_append : GoodIn wsX6_edit wsX0_append := goodIn_r _ [35, 26, 36, 37, 52, 53, 54] (by decide +kernel) (by decide +kernel)
set_option maxRecDepth 20000 in
theorem gX6_edit_X0_append : GoodIn wsX6_edit (wsV RX6 145 RX0 yX0_append wsX0_append) := goodIn_app (goodIn_of _ (by decide +kernel)) ggX6_edit_X0_append
set_option maxRecDepth 20000 in
theorem ggX6_undo_X6_needFrame : GoodIn wsX6_undo wsX6_needFrame := goodIn_ca (goodIn_r _ [6, 7, 8, 9, 17, 18, 19, 20, 21, 22, 23, 24, 25] (by decide +kernel) (by decide +kernel)) (goodIn_sub (fun _ h => List.mem_cons_of_mem _ (List.mem_append_right _ h)) (by decide +kernel))
set_option maxRecDepth 20000 in
theorem gX6_undo_X6_needFrame : GoodIn wsX6_undo (wsV RX6 127 RX6 yX6_needFrame wsX6_needFrame) := goodIn_app (goodIn_of _ (by decide +kernel)) ggX6_undo_X6_needFrame
set_option maxRecDepth 20000 in
theorem ggX6_undo_X0_takeBack : GoodIn wsX6_undo wsX0_takeBack := goodIn_r _ [14, 15, 16, 31, 32, 33] (by decide +kernel) (by decide +kernel)
set_option maxRecDepth 20000 in
theorem gX6_undo_X0_takeBack : GoodIn wsX6_undo (wsV RX6 148 RX0 yX0_takeBack wsX0_takeBack) := goodIn_app (goodIn_of _ (by decide +kernel)) ggX6_undo_X0_takeBack
set_option maxRecDepth 20000 in
theorem ggX6_save_X6_needFrame : GoodIn wsX6_save wsX6_needFrame := goodIn_ca (goodIn_r _ [8, 9, 10, 11, 37, 38, 39, 40, 41, 42, 43, 44, 45] (by decide +kernel) (by decide +kernel)) (goodIn_sub (fun _ h => List.mem_cons_of_mem _ (List.mem_append_left _ (List.mem_append_right _ h))) (by decide +kernel))
set_option maxRecDepth 20000 in
theorem gX6_save_X6_needFrame : GoodIn wsX6_save (wsV RX6 127 RX6 yX6_needFrame wsX6_needFrame) := goodIn_app (goodIn_of _ (by decide +kernel)) ggX6_save_X6_needFrame
set_option maxRecDepth 20000 in
theorem ggX6_save_X6_needRoom : GoodIn wsX6_save wsX6_needRoom := goodIn_ca (goodIn_r _ [14, 15, 16] (by decide +kernel) (by decide +kernel)) (goodIn_sub (fun _ h => List.mem_cons_of_mem _ (List.mem_append_right _ h)) (by decide +kernel))
set_option maxRecDepth 20000 in
theorem gX6_save_X6_needRoom : GoodIn wsX6_save (va_wsS RX6 105 yX6_needRoom wsX6_needRoom) := goodIn_app (goodIn_of _ (by decide +kernel)) ggX6_save_X6_needRoom
set_option maxRecDepth 20000 in
theorem ggX6_save_X6_countFilesOf : GoodIn wsX6_save wsX6_countFilesOf := goodIn_r _ [20, 1, 2, 37, 38, 39, 40, 41, 42, 43, 44, 45, 51, 52, 53] (by decide +kernel) (by decide +kernel)
set_option maxRecDepth 20000 in
theorem gX6_save_X6_countFilesOf : GoodIn wsX6_save (wsV RX6 151 RX6 yX6_countFilesOf wsX6_countFilesOf) := goodIn_app (goodIn_of _ (by decide +kernel)) ggX6_save_X6_countFilesOf
set_option maxRecDepth 20000 in
theorem ggX6_save_X5_keep : GoodIn wsX6_save wsX5_keep := goodIn_r _ [25, 26, 27, 28, 29, 30, 31, 32, 33, 34, 35, 36, 51, 52, 53, 54, 55, 56] (by decide +kernel) (by decide +kernel)
set_option maxRecDepth 20000 in
theorem gX6_save_X5_keep : GoodIn wsX6_save (wsV RX6 154 RX5 yX5_keep wsX5_keep) := goodIn_app (goodIn_of _ (by decide +kernel)) ggX6_save_X5_keep
set_option maxRecDepth 20000 in
theorem ggX6_raw_X6_needFrame : GoodIn wsX6_raw wsX6_needFrame := goodIn_ca (goodIn_r _ [6, 7, 8, 9, 19, 20, 21, 22, 23, 24, 25, 26, 27] (by decide +kernel) (by decide +kernel)) (goodIn_sub (fun _ h => List.mem_cons_of_mem _ (List.mem_append_right _ h)) (by decide +kernel))
set_option maxRecDepth 20000 in
theorem gX6_raw_X6_needFrame : GoodIn wsX6_raw (wsV RX6 127 RX6 yX6_needFrame wsX6_needFrame) := goodIn_app (goodIn_of _ (by decide +kernel)) ggX6_raw_X6_needFrame
set_option maxRecDepth 20000 in
theorem ggX6_raw_X6_needPlace : GoodIn wsX6_raw wsX6_needPlace := goodIn_ca (goodIn_r _ [12, 7, 8, 13, 14, 5, 15] (by decide +kernel) (by decide +kernel)) (goodIn_sub (fun _ h => List.mem_cons_of_mem _ (List.mem_append_right _ h)) (by decide +kernel))
set_option maxRecDepth 20000 in
theorem gX6_raw_X6_needPlace : GoodIn wsX6_raw (va_wsS RX6 58 yX6_needPlace wsX6_needPlace) := goodIn_app (goodIn_of _ (by decide +kernel)) ggX6_raw_X6_needPlace
set_option maxRecDepth 20000 in
theorem ggX6_raw_X6_placeOf : GoodIn wsX6_raw wsX6_placeOf := goodIn_r _ [18] (by decide +kernel) (by decide +kernel)
set_option maxRecDepth 20000 in
theorem gX6_raw_X6_placeOf : GoodIn wsX6_raw (va_wsS RX6 74 yX6_placeOf wsX6_placeOf) := goodIn_app (goodIn_of _ (by decide +kernel)) ggX6_raw_X6_placeOf
set_option maxRecDepth 20000 in
theorem ggX6_picture_X6_needFrame : GoodIn wsX6_picture wsX6_needFrame := goodIn_ca (goodIn_r _ [6, 7, 8, 9, 99, 100, 101, 102, 103, 104, 105, 106, 107] (by decide +kernel) (by decide +kernel)) (goodIn_sub (fun _ h => List.mem_cons_of_mem _ (List.mem_append_left _ (List.mem_append_right _ h))) (by decide +kernel))
set_option maxRecDepth 20000 in
theorem gX6_picture_X6_needFrame : GoodIn wsX6_picture (wsV RX6 127 RX6 yX6_needFrame wsX6_needFrame) := goodIn_app (goodIn_of _ (by decide +kernel)) ggX6_picture_X6_needFrame
set_option maxRecDepth 20000 in
theorem ggX6_picture_X6_needPlace : GoodIn wsX6_picture wsX6_needPlace := goodIn_ca (goodIn_r _ [12, 7, 8, 13, 14, 5, 15] (by decide +kernel) (by decide +kernel)) (goodIn_sub (fun _ h => List.mem_cons_of_mem _ (List.mem_append_left _ (List.mem_append_right _ h))) (by decide +kernel))
set_option maxRecDepth 20000 in
theorem gX6_picture_X6_needPlace : GoodIn wsX6_picture (va_wsS RX6 58 yX6_needPlace wsX6_needPlace) := goodIn_app (goodIn_of _ (by decide +kernel)) ggX6_picture_X6_needPlace
set_option maxRecDepth 20000 in
theorem ggX6_picture_X6_needRange : GoodIn wsX6_picture wsX6_needRange := goodIn_ca (goodIn_r _ [18, 19, 20] (by decide +kernel) (by decide +kernel)) (goodIn_sub (fun _ h => List.mem_cons_of_mem _ (List.mem_append_right _ h)) (by decide +kernel))
set_option maxRecDepth 20000 in
theorem gX6_picture_X6_needRange : GoodIn wsX6_picture (va_wsS RX6 70 yX6_needRange wsX6_needRange) := goodIn_app (goodIn_of _ (by decide +kernel)) ggX6_picture_X6_needRange
set_option maxRecDepth 20000 in
theorem ggX6_picture_X6_developFrame : GoodIn wsX6_picture wsX6_developFrame := goodIn_r _ [24, 25, 26, 27, 28, 29, 30, 31, 32, 33, 34, 35, 36, 37, 38, 39, 40, 41, 42, 43, 44, 5, 45, 46, 47, 48, 14, 15, 49, 50, 51, 52, 53, 54, 55, 56, 57, 58, 59, 60, 61, 62, 63, 64, 65, 66, 67, 68, 69, 70, 71, 72, 73, 74, 75, 76, 77, 78, 79, 80, 81, 82, 83, 84, 85, 86, 87, 88, 89, 90, 91, 92, 93, 94, 95, 96, 99, 100, 101, 102, 103, 104, 105, 106, 107, 110, 111, 112, 113, 114, 115, 116, 117, 118, 119, 120, 108, 109] (by decide +kernel) (by decide +kernel)
set_option maxRecDepth 20000 in
theorem gX6_picture_X6_developFrame : GoodIn wsX6_picture (wsV RX6 162 RX6 yX6_developFrame wsX6_developFrame) := goodIn_app (goodIn_of _ (by decide +kernel)) ggX6_picture_X6_developFrame
set_option maxRecDepth 20000 in
theorem ggX6_picture_X6_placeOf : GoodIn wsX6_picture wsX6_placeOf := goodIn_r _ [45] (by decide +kernel) (by decide +kernel)
set_option maxRecDepth 20000 in
theorem gX6_picture_X6_placeOf : GoodIn wsX6_picture (va_wsS RX6 74 yX6_placeOf wsX6_placeOf) := goodIn_app (goodIn_of _ (by decide +kernel)) ggX6_picture_X6_placeOf
set_option maxRecDepth 20000 in
theorem ggX6_picture_X2_indexOf : GoodIn wsX6_picture wsX2_indexOf := goodIn_r _ [62] (by decide +kernel) (by decide +kernel)
set_option maxRecDepth 20000 in
theorem gX6_picture_X2_indexOf : GoodIn wsX6_picture (va_wsS RX6 170 yX2_indexOf wsX2_indexOf) := goodIn_app (goodIn_of _ (by decide +kernel)) ggX6_picture_X2_indexOf
set_option maxRecDepth 20000 in
theorem ggX6_word_X6_needFrame : GoodIn wsX6_word wsX6_needFrame := goodIn_ca (goodIn_r _ [6, 7, 8, 9, 92, 93, 94, 95, 96, 97, 98, 99, 100] (by decide +kernel) (by decide +kernel)) (goodIn_sub (fun _ h => List.mem_cons_of_mem _ (List.mem_append_right _ h)) (by decide +kernel))
set_option maxRecDepth 20000 in
theorem gX6_word_X6_needFrame : GoodIn wsX6_word (wsV RX6 127 RX6 yX6_needFrame wsX6_needFrame) := goodIn_app (goodIn_of _ (by decide +kernel)) ggX6_word_X6_needFrame
set_option maxRecDepth 20000 in
theorem ggX6_word_X6_wordBehind : GoodIn wsX6_word wsX6_wordBehind := goodIn_r _ [13, 14, 1, 15, 16, 17, 18, 19, 20, 21, 22, 23, 24, 25, 26, 27, 28, 29, 30, 31, 32, 33, 5, 34, 35, 36, 37, 38, 39, 40, 41, 42, 43, 44, 45, 46, 47, 48, 49, 50, 51, 52, 53, 54, 55, 56, 57, 58, 59, 60, 61, 62, 63, 64, 65, 66, 67, 68, 69, 70, 71, 72, 73, 74, 75, 76, 77, 78, 79, 80, 81, 82, 83, 84, 85, 86, 87, 88, 89, 90, 91, 92, 93, 94, 95, 96, 97, 98, 99, 100, 101, 102, 103, 104, 105, 106, 107, 108, 109, 110, 111, 112, 113] (by decide +kernel) (by decide +kernel)
set_option maxRecDepth 20000 in
theorem gX6_word_X6_wordBehind : GoodIn wsX6_word (wsV RX6 173 RX6 yX6_wordBehind wsX6_wordBehind) := goodIn_app (goodIn_of _ (by decide +kernel)) ggX6_word_X6_wordBehind
set_option maxRecDepth 20000 in
theorem ggX6_ofFrame_X6_needFrame : GoodIn wsX6_ofFrame wsX6_needFrame := goodIn_ca (goodIn_r _ [6, 7, 8, 9, 59, 60, 61, 62, 63, 64, 65, 66, 67] (by decide +kernel) (by decide +kernel)) (goodIn_sub (fun _ h => List.mem_cons_of_mem _ (List.mem_append_left _ (List.mem_append_right _ h))) (by decide +kernel))
set_option maxRecDepth 20000 in
theorem gX6_ofFrame_X6_needFrame : GoodIn wsX6_ofFrame (wsV RX6 127 RX6 yX6_needFrame wsX6_needFrame) := goodIn_app (goodIn_of _ (by decide +kernel)) ggX6_ofFrame_X6_needFrame
set_option maxRecDepth 20000 in
theorem ggX6_ofFrame_X6_needRange : GoodIn wsX6_ofFrame wsX6_needRange := goodIn_ca (goodIn_r _ [12, 13, 14] (by decide +kernel) (by decide +kernel)) (goodIn_sub (fun _ h => List.mem_cons_of_mem _ (List.mem_append_right _ h)) (by decide +kernel))
set_option maxRecDepth 20000 in
theorem gX6_ofFrame_X6_needRange : GoodIn wsX6_ofFrame (va_wsS RX6 70 yX6_needRange wsX6_needRange) := goodIn_app (goodIn_of _ (by decide +kernel)) ggX6_ofFrame_X6_needRange
set_option maxRecDepth 20000 in
theorem ggX6_ofFrame_X0_count : GoodIn wsX6_ofFrame wsX0_count := goodIn_r _ [19, 20, 73, 74, 75] (by decide +kernel) (by decide +kernel)
set_option maxRecDepth 20000 in
theorem gX6_ofFrame_X0_count : GoodIn wsX6_ofFrame (wsV RX6 140 RX0 yX0_count wsX0_count) := goodIn_app (goodIn_of _ (by decide +kernel)) ggX6_ofFrame_X0_count
set_option maxRecDepth 20000 in
theorem ggX6_ofFrame_X1_countClipped : GoodIn wsX6_ofFrame wsX1_countClipped := goodIn_r _ [25, 26, 68, 69, 70, 71, 72] (by decide +kernel) (by decide +kernel)
set_option maxRecDepth 20000 in
theorem gX6_ofFrame_X1_countClipped : GoodIn wsX6_ofFrame (wsV RX6 183 RX1 yX1_countClipped wsX1_countClipped) := goodIn_app (goodIn_of _ (by decide +kernel)) ggX6_ofFrame_X1_countClipped
set_option maxRecDepth 20000 in
theorem ggX6_ofFrame_X1_sharpness : GoodIn wsX6_ofFrame wsX1_sharpness := goodIn_r _ [30, 26, 31, 32, 33, 34, 35, 5, 36, 37, 38, 68, 69, 70, 71, 72] (by decide +kernel) (by decide +kernel)
set_option maxRecDepth 20000 in
theorem gX6_ofFrame_X1_sharpness : GoodIn wsX6_ofFrame (wsV RX6 189 RX1 yX1_sharpness wsX1_sharpness) := goodIn_app (goodIn_of _ (by decide +kernel)) ggX6_ofFrame_X1_sharpness
set_option maxRecDepth 20000 in
theorem ggX6_ofFrame_X1_whiteOf : GoodIn wsX6_ofFrame wsX1_whiteOf := goodIn_r _ [42, 43, 44, 33, 45, 46, 47, 48, 49, 50, 51, 24, 52, 26, 35, 5, 36, 37, 38, 68, 69, 70, 71, 72] (by decide +kernel) (by decide +kernel)
set_option maxRecDepth 20000 in
theorem gX6_ofFrame_X1_whiteOf : GoodIn wsX6_ofFrame (wsV RX6 192 RX1 yX1_whiteOf wsX1_whiteOf) := goodIn_app (goodIn_of _ (by decide +kernel)) ggX6_ofFrame_X1_whiteOf
set_option maxRecDepth 20000 in
theorem ggX6_ofFrame_X6_countFilesOf : GoodIn wsX6_ofFrame wsX6_countFilesOf := goodIn_r _ [56, 57, 58, 59, 60, 61, 62, 63, 64, 65, 66, 67, 76, 77, 78] (by decide +kernel) (by decide +kernel)
set_option maxRecDepth 20000 in
theorem gX6_ofFrame_X6_countFilesOf : GoodIn wsX6_ofFrame (wsV RX6 151 RX6 yX6_countFilesOf wsX6_countFilesOf) := goodIn_app (goodIn_of _ (by decide +kernel)) ggX6_ofFrame_X6_countFilesOf
set_option maxRecDepth 20000 in
theorem ggX6_ofEdit_X6_needFrame : GoodIn wsX6_ofEdit wsX6_needFrame := goodIn_ca (goodIn_r _ [6, 7, 8, 9, 24, 25, 26, 27, 28, 29, 30, 31, 32] (by decide +kernel) (by decide +kernel)) (goodIn_sub (fun _ h => List.mem_cons_of_mem _ (List.mem_append_left _ (List.mem_append_right _ h))) (by decide +kernel))
set_option maxRecDepth 20000 in
theorem gX6_ofEdit_X6_needFrame : GoodIn wsX6_ofEdit (wsV RX6 127 RX6 yX6_needFrame wsX6_needFrame) := goodIn_app (goodIn_of _ (by decide +kernel)) ggX6_ofEdit_X6_needFrame
set_option maxRecDepth 20000 in
theorem ggX6_ofEdit_X0_count : GoodIn wsX6_ofEdit wsX0_count := goodIn_r _ [14, 15, 38, 39, 40] (by decide +kernel) (by decide +kernel)
set_option maxRecDepth 20000 in
theorem gX6_ofEdit_X0_count : GoodIn wsX6_ofEdit (wsV RX6 140 RX0 yX0_count wsX0_count) := goodIn_app (goodIn_of _ (by decide +kernel)) ggX6_ofEdit_X0_count
set_option maxRecDepth 20000 in
theorem ggX6_ofEdit_X6_needIndex : GoodIn wsX6_ofEdit wsX6_needIndex := goodIn_ca (goodIn_r _ [18, 7, 8] (by decide +kernel) (by decide +kernel)) (goodIn_sub (fun _ h => List.mem_cons_of_mem _ (List.mem_append_left _ (List.mem_append_right _ h))) (by decide +kernel))
set_option maxRecDepth 20000 in
theorem gX6_ofEdit_X6_needIndex : GoodIn wsX6_ofEdit (va_wsS RX6 195 yX6_needIndex wsX6_needIndex) := goodIn_app (goodIn_of _ (by decide +kernel)) ggX6_ofEdit_X6_needIndex
set_option maxRecDepth 20000 in
theorem ggX6_ofEdit_X6_needRange : GoodIn wsX6_ofEdit wsX6_needRange := goodIn_ca (goodIn_r _ [21, 22, 23] (by decide +kernel) (by decide +kernel)) (goodIn_sub (fun _ h => List.mem_cons_of_mem _ (List.mem_append_right _ h)) (by decide +kernel))
set_option maxRecDepth 20000 in
theorem gX6_ofEdit_X6_needRange : GoodIn wsX6_ofEdit (va_wsS RX6 70 yX6_needRange wsX6_needRange) := goodIn_app (goodIn_of _ (by decide +kernel)) ggX6_ofEdit_X6_needRange
set_option maxRecDepth 20000 in
theorem ggX6_zone_X6_needFrame : GoodIn wsX6_zone wsX6_needFrame := goodIn_ca (goodIn_r _ [6, 7, 8, 9, 24, 25, 26, 27, 28, 29, 30, 31, 32] (by decide +kernel) (by decide +kernel)) (goodIn_sub (fun _ h => List.mem_cons_of_mem _ (List.mem_append_right _ h)) (by decide +kernel))
set_option maxRecDepth 20000 in
theorem gX6_zone_X6_needFrame : GoodIn wsX6_zone (wsV RX6 127 RX6 yX6_needFrame wsX6_needFrame) := goodIn_app (goodIn_of _ (by decide +kernel)) ggX6_zone_X6_needFrame
set_option maxRecDepth 20000 in
theorem ggX6_zone_X6_needIndex : GoodIn wsX6_zone wsX6_needIndex := goodIn_ca (goodIn_r _ [12, 7, 8] (by decide +kernel) (by decide +kernel)) (goodIn_sub (fun _ h => List.mem_cons_of_mem _ (List.mem_append_right _ h)) (by decide +kernel))
set_option maxRecDepth 20000 in
theorem gX6_zone_X6_needIndex : GoodIn wsX6_zone (va_wsS RX6 195 yX6_needIndex wsX6_needIndex) := goodIn_app (goodIn_of _ (by decide +kernel)) ggX6_zone_X6_needIndex
set_option maxRecDepth 20000 in
theorem ggX6_zone_X1_meanOfZone : GoodIn wsX6_zone wsX1_meanOfZone := goodIn_r _ [17, 18, 19, 20, 5, 21, 22, 23, 33, 34, 35, 36, 37] (by decide +kernel) (by decide +kernel)
set_option maxRecDepth 20000 in
theorem gX6_zone_X1_meanOfZone : GoodIn wsX6_zone (wsV RX6 203 RX1 yX1_meanOfZone wsX1_meanOfZone) := goodIn_app (goodIn_of _ (by decide +kernel)) ggX6_zone_X1_meanOfZone
set_option maxRecDepth 20000 in
theorem ggX6_meter_X6_needFrame : GoodIn wsX6_meter wsX6_needFrame := goodIn_ca (goodIn_r _ [6, 7, 8, 9, 26, 27, 28, 29, 30, 31, 32, 33, 34] (by decide +kernel) (by decide +kernel)) (goodIn_sub (fun _ h => List.mem_cons_of_mem _ (List.mem_append_right _ h)) (by decide +kernel))
set_option maxRecDepth 20000 in
theorem gX6_meter_X6_needFrame : GoodIn wsX6_meter (wsV RX6 127 RX6 yX6_needFrame wsX6_needFrame) := goodIn_app (goodIn_of _ (by decide +kernel)) ggX6_meter_X6_needFrame
set_option maxRecDepth 20000 in
theorem ggX6_meter_X1_meanOfZones : GoodIn wsX6_meter wsX1_meanOfZones := goodIn_r _ [14, 15, 16, 17, 18, 13, 19, 20, 21, 22, 5, 23, 24, 25, 35, 36, 37, 38, 39] (by decide +kernel) (by decide +kernel)
set_option maxRecDepth 20000 in
theorem gX6_meter_X1_meanOfZones : GoodIn wsX6_meter (wsV RX6 207 RX1 yX1_meanOfZones wsX1_meanOfZones) := goodIn_app (goodIn_of _ (by decide +kernel)) ggX6_meter_X1_meanOfZones
set_option maxRecDepth 20000 in
theorem ggX6_ofFile_X6_needIndex : GoodIn wsX6_ofFile wsX6_needIndex := goodIn_ca (goodIn_r _ [6, 7, 8] (by decide +kernel) (by decide +kernel)) (goodIn_sub (fun _ h => List.mem_cons_of_mem _ (List.mem_append_left _ (List.mem_append_right _ h))) (by decide +kernel))
set_option maxRecDepth 20000 in
theorem gX6_ofFile_X6_needIndex : GoodIn wsX6_ofFile (va_wsS RX6 195 yX6_needIndex wsX6_needIndex) := goodIn_app (goodIn_of _ (by decide +kernel)) ggX6_ofFile_X6_needIndex
set_option maxRecDepth 20000 in
theorem ggX6_ofFile_X6_needRange : GoodIn wsX6_ofFile wsX6_needRange := goodIn_ca (goodIn_r _ [11, 12, 13] (by decide +kernel) (by decide +kernel)) (goodIn_sub (fun _ h => List.mem_cons_of_mem _ (List.mem_append_right _ h)) (by decide +kernel))
set_option maxRecDepth 20000 in
theorem gX6_ofFile_X6_needRange : GoodIn wsX6_ofFile (va_wsS RX6 70 yX6_needRange wsX6_needRange) := goodIn_app (goodIn_of _ (by decide +kernel)) ggX6_ofFile_X6_needRange
set_option maxRecDepth 20000 in
theorem ggX6_ofFile_X0_count : GoodIn wsX6_ofFile wsX0_count := goodIn_r _ [18, 19, 110, 111, 112] (by decide +kernel) (by decide +kernel)
set_option maxRecDepth 20000 in
theorem gX6_ofFile_X0_count : GoodIn wsX6_ofFile (wsV RX6 140 RX0 yX0_count wsX0_count) := goodIn_app (goodIn_of _ (by decide +kernel)) ggX6_ofFile_X0_count
set_option maxRecDepth 20000 in
theorem ggX6_ofFile_X6_wordBehind : GoodIn wsX6_ofFile wsX6_wordBehind := goodIn_r _ [23, 24, 25, 26, 27, 28, 29, 30, 31, 32, 33, 34, 17, 35, 19, 36, 37, 38, 39, 40, 41, 42, 5, 43, 44, 45, 46, 47, 48, 49, 50, 51, 52, 53, 54, 55, 56, 57, 58, 59, 60, 61, 62, 63, 15, 16, 18, 64, 65, 66, 67, 68, 69, 70, 71, 72, 73, 74, 75, 76, 77, 78, 79, 80, 81, 82, 83, 84, 85, 86, 87, 88, 89, 90, 91, 92, 93, 94, 95, 96, 97, 98, 99, 100, 101, 102, 103, 104, 105, 106, 113, 114, 115, 116, 117, 118, 119, 120, 110, 111, 112, 121, 122] (by decide +kernel) (by decide +kernel)
set_option maxRecDepth 20000 in
theorem gX6_ofFile_X6_wordBehind : GoodIn wsX6_ofFile (wsV RX6 173 RX6 yX6_wordBehind wsX6_wordBehind) := goodIn_app (goodIn_of _ (by decide +kernel)) ggX6_ofFile_X6_wordBehind
set_option maxRecDepth 20000 in
theorem ggX6_ofPlace_X6_needPlace : GoodIn wsX6_ofPlace wsX6_needPlace := goodIn_ca (goodIn_r _ [6, 7, 8, 9, 10, 5, 11] (by decide +kernel) (by decide +kernel)) (goodIn_sub (fun _ h => List.mem_cons_of_mem _ (List.mem_append_left _ (List.mem_append_right _ h))) (by decide +kernel))
set_option maxRecDepth 20000 in
theorem gX6_ofPlace_X6_needPlace : GoodIn wsX6_ofPlace (va_wsS RX6 58 yX6_needPlace wsX6_needPlace) := goodIn_app (goodIn_of _ (by decide +kernel)) ggX6_ofPlace_X6_needPlace
set_option maxRecDepth 20000 in
theorem ggX6_ofPlace_X6_needRange : GoodIn wsX6_ofPlace wsX6_needRange := goodIn_ca (goodIn_r _ [14, 15, 16] (by decide +kernel) (by decide +kernel)) (goodIn_sub (fun _ h => List.mem_cons_of_mem _ (List.mem_append_right _ h)) (by decide +kernel))
set_option maxRecDepth 20000 in
theorem gX6_ofPlace_X6_needRange : GoodIn wsX6_ofPlace (va_wsS RX6 70 yX6_needRange wsX6_needRange) := goodIn_app (goodIn_of _ (by decide +kernel)) ggX6_ofPlace_X6_needRange
set_option maxRecDepth 20000 in
theorem ggX6_ofPlace_X6_placeOf : GoodIn wsX6_ofPlace wsX6_placeOf := goodIn_r _ [19] (by decide +kernel) (by decide +kernel)
set_option maxRecDepth 20000 in
theorem gX6_ofPlace_X6_placeOf : GoodIn wsX6_ofPlace (va_wsS RX6 74 yX6_placeOf wsX6_placeOf) := goodIn_app (goodIn_of _ (by decide +kernel)) ggX6_ofPlace_X6_placeOf
set_option maxRecDepth 20000 in
theorem ggX6_ofPlace_X3_shade : GoodIn wsX6_ofPlace wsX3_shade := goodIn_r _ [24, 25, 49, 50, 51] (by decide +kernel) (by decide +kernel)
set_option maxRecDepth 20000 in
theorem gX6_ofPlace_X3_shade : GoodIn wsX6_ofPlace (wsV RX6 218 RX3 yX3_shade wsX3_shade) := goodIn_app (goodIn_of _ (by decide +kernel)) ggX6_ofPlace_X3_shade
set_option maxRecDepth 20000 in
theorem ggX6_ofPlace_X6_colourSeen : GoodIn wsX6_ofPlace wsX6_colourSeen := goodIn_r _ [28] (by decide +kernel) (by decide +kernel)
set_option maxRecDepth 20000 in
theorem gX6_ofPlace_X6_colourSeen : GoodIn wsX6_ofPlace (va_wsS RX6 221 yX6_colourSeen wsX6_colourSeen) := goodIn_app (goodIn_of _ (by decide +kernel)) ggX6_ofPlace_X6_colourSeen
set_option maxRecDepth 20000 in
theorem ggX6_ofPlace_X4_howIs : GoodIn wsX6_ofPlace wsX4_howIs := goodIn_r _ [33, 34, 52, 53, 54] (by decide +kernel) (by decide +kernel)
set_option maxRecDepth 20000 in
theorem gX6_ofPlace_X4_howIs : GoodIn wsX6_ofPlace (wsV RX6 88 RX4 yX4_howIs wsX4_howIs) := goodIn_app (goodIn_of _ (by decide +kernel)) ggX6_ofPlace_X4_howIs
set_option maxRecDepth 20000 in
theorem ggX6_ofPlace_X4_isMapped : GoodIn wsX6_ofPlace wsX4_isMapped := goodIn_r _ [38, 39, 52, 53, 54] (by decide +kernel) (by decide +kernel)
set_option maxRecDepth 20000 in
theorem gX6_ofPlace_X4_isMapped : GoodIn wsX6_ofPlace (wsV RX6 224 RX4 yX4_isMapped wsX4_isMapped) := goodIn_app (goodIn_of _ (by decide +kernel)) ggX6_ofPlace_X4_isMapped
set_option maxRecDepth 20000 in
theorem ggX6_many_X6_needRange : GoodIn wsX6_many wsX6_needRange := goodIn_ca (goodIn_r _ [7, 8, 9] (by decide +kernel) (by decide +kernel)) (goodIn_sub (fun _ h => List.mem_cons_of_mem _ (List.mem_append_right _ h)) (by decide +kernel))
set_option maxRecDepth 20000 in
theorem gX6_many_X6_needRange : GoodIn wsX6_many (va_wsS RX6 70 yX6_needRange wsX6_needRange) := goodIn_app (goodIn_of _ (by decide +kernel)) ggX6_many_X6_needRange
set_option maxRecDepth 20000 in
theorem ggX6_many_X4_countMapped : GoodIn wsX6_many wsX4_countMapped := goodIn_r _ [14, 15, 41, 42, 43] (by decide +kernel) (by decide +kernel)
set_option maxRecDepth 20000 in
theorem gX6_many_X4_countMapped : GoodIn wsX6_many (wsV RX6 99 RX4 yX4_countMapped wsX4_countMapped) := goodIn_app (goodIn_of _ (by decide +kernel)) ggX6_many_X4_countMapped
set_option maxRecDepth 20000 in
theorem ggX6_many_X6_countEdits : GoodIn wsX6_many wsX6_countEdits := goodIn_r _ [19, 1, 20, 21, 22, 23, 24, 25, 26, 32, 33, 34, 35, 36, 37, 38, 39, 40, 44, 45, 46, 47, 48, 49, 50, 51] (by decide +kernel) (by decide +kernel)
set_option maxRecDepth 20000 in
theorem gX6_many_X6_countEdits : GoodIn wsX6_many (wsV RX6 231 RX6 yX6_countEdits wsX6_countEdits) := goodIn_app (goodIn_of _ (by decide +kernel)) ggX6_many_X6_countEdits
set_option maxRecDepth 20000 in
theorem ggX6_many_X4_countSpoilt : GoodIn wsX6_many wsX4_countSpoilt := goodIn_r _ [30, 31, 15, 41, 42, 43] (by decide +kernel) (by decide +kernel)
set_option maxRecDepth 20000 in
theorem gX6_many_X4_countSpoilt : GoodIn wsX6_many (wsV RX6 234 RX4 yX4_countSpoilt wsX4_countSpoilt) := goodIn_app (goodIn_of _ (by decide +kernel)) ggX6_many_X4_countSpoilt
set_option maxRecDepth 20000 in
theorem ggX6_apart_X6_needFrame : GoodIn wsX6_apart wsX6_needFrame := goodIn_ca (goodIn_r _ [7, 8, 9, 10, 93, 94, 95, 96, 97, 98, 99, 100, 101] (by decide +kernel) (by decide +kernel)) (goodIn_sub (fun _ h => List.mem_cons_of_mem _ (List.mem_append_right _ h)) (by decide +kernel))
set_option maxRecDepth 20000 in
theorem gX6_apart_X6_needFrame : GoodIn wsX6_apart (wsV RX6 127 RX6 yX6_needFrame wsX6_needFrame) := goodIn_app (goodIn_of _ (by decide +kernel)) ggX6_apart_X6_needFrame
set_option maxRecDepth 20000 in
theorem ggX6_apart_X6_developFrame : GoodIn wsX6_apart wsX6_developFrame := goodIn_r _ [14, 15, 16, 17, 18, 19, 20, 21, 22, 23, 24, 25, 26, 27, 28, 29, 30, 31, 32, 33, 34, 6, 35, 36, 37, 38, 39, 40, 41, 42, 43, 44, 45, 46, 47, 48, 49, 50, 51, 52, 53, 54, 55, 56, 57, 58, 59, 60, 61, 62, 63, 64, 65, 66, 67, 68, 69, 70, 71, 72, 73, 74, 75, 76, 77, 78, 79, 80, 81, 82, 83, 84, 85, 86, 87, 88, 93, 94, 95, 96, 97, 98, 99, 100, 101, 102, 103, 104, 105, 106, 107, 108, 109, 110, 111, 112, 113, 114] (by decide +kernel) (by decide +kernel)
set_option maxRecDepth 20000 in
theorem gX6_apart_X6_developFrame : GoodIn wsX6_apart (wsV RX6 162 RX6 yX6_developFrame wsX6_developFrame) := goodIn_app (goodIn_of _ (by decide +kernel)) ggX6_apart_X6_developFrame
set_option maxRecDepth 20000 in
theorem ggX6_apart_X2_farthestFrom : GoodIn wsX6_apart wsX2_farthestFrom := goodIn_r _ [92, 45, 113, 114] (by decide +kernel) (by decide +kernel)
set_option maxRecDepth 20000 in
theorem gX6_apart_X2_farthestFrom : GoodIn wsX6_apart (wsV RX6 238 RX2 yX2_farthestFrom wsX2_farthestFrom) := goodIn_app (goodIn_of _ (by decide +kernel)) ggX6_apart_X2_farthestFrom
set_option maxRecDepth 20000 in
theorem ggX6_wouldClip_X6_needExposure : GoodIn wsX6_wouldClip wsX6_needExposure := goodIn_ca (goodIn_r _ [7, 8, 9, 6, 10, 11, 12] (by decide +kernel) (by decide +kernel)) (goodIn_sub (fun _ h => List.mem_cons_of_mem _ (List.mem_append_right _ h)) (by decide +kernel))
set_option maxRecDepth 20000 in
theorem gX6_wouldClip_X6_needExposure : GoodIn wsX6_wouldClip (va_wsS RX6 102 yX6_needExposure wsX6_needExposure) := goodIn_app (goodIn_of _ (by decide +kernel)) ggX6_wouldClip_X6_needExposure
set_option maxRecDepth 20000 in
theorem ggX6_wouldClip_X4_expose : GoodIn wsX6_wouldClip wsX4_expose := goodIn_r _ [17, 18, 19, 20, 6, 21, 22, 23, 24, 25, 26, 27, 28, 29, 30, 31, 32, 33, 34, 35, 36, 37, 16, 38, 39, 40, 41, 42, 43, 44, 45, 61, 62, 63, 64, 65, 66, 67, 68, 69, 70, 71] (by decide +kernel) (by decide +kernel)
set_option maxRecDepth 20000 in
theorem gX6_wouldClip_X4_expose : GoodIn wsX6_wouldClip (wsV RX6 108 RX4 yX4_expose wsX4_expose) := goodIn_app (goodIn_of _ (by decide +kernel)) ggX6_wouldClip_X4_expose
set_option maxRecDepth 20000 in
theorem ggX6_wouldClip_X1_countClipped : GoodIn wsX6_wouldClip wsX1_countClipped := goodIn_r _ [50, 51, 64, 65, 66, 67, 68] (by decide +kernel) (by decide +kernel)
set_option maxRecDepth 20000 in
theorem gX6_wouldClip_X1_countClipped : GoodIn wsX6_wouldClip (wsV RX6 183 RX1 yX1_countClipped wsX1_countClipped) := goodIn_app (goodIn_of _ (by decide +kernel)) ggX6_wouldClip_X1_countClipped
set_option maxRecDepth 20000 in
theorem ggX6_bestTake_X6_needRange : GoodIn wsX6_bestTake wsX6_needRange := goodIn_ca (goodIn_r _ [7, 8, 9] (by decide +kernel) (by decide +kernel)) (goodIn_sub (fun _ h => List.mem_cons_of_mem _ (List.mem_append_right _ h)) (by decide +kernel))
set_option maxRecDepth 20000 in
theorem gX6_bestTake_X6_needRange : GoodIn wsX6_bestTake (va_wsS RX6 70 yX6_needRange wsX6_needRange) := goodIn_app (goodIn_of _ (by decide +kernel)) ggX6_bestTake_X6_needRange
set_option maxRecDepth 20000 in
theorem ggX6_bestTake_X4_expose : GoodIn wsX6_bestTake wsX4_expose := goodIn_r _ [14, 15, 16, 17, 6, 18, 19, 20, 21, 22, 23, 24, 25, 26, 27, 28, 29, 30, 31, 32, 33, 34, 13, 35, 36, 37, 38, 39, 40, 41, 42, 64, 65, 66, 67, 68, 69, 70, 71, 72, 73, 74] (by decide +kernel) (by decide +kernel)
set_option maxRecDepth 20000 in
theorem gX6_bestTake_X4_expose : GoodIn wsX6_bestTake (wsV RX6 108 RX4 yX4_expose wsX4_expose) := goodIn_app (goodIn_of _ (by decide +kernel)) ggX6_bestTake_X4_expose
set_option maxRecDepth 20000 in
theorem ggX6_bestTake_X1_meanOfZones : GoodIn wsX6_bestTake wsX1_meanOfZones := goodIn_r _ [47, 48, 49, 50, 51, 46, 52, 53, 54, 19, 6, 20, 17, 18, 67, 68, 69, 70, 71] (by decide +kernel) (by decide +kernel)
set_option maxRecDepth 20000 in
theorem gX6_bestTake_X1_meanOfZones : GoodIn wsX6_bestTake (wsV RX6 207 RX1 yX1_meanOfZones wsX1_meanOfZones) := goodIn_app (goodIn_of _ (by decide +kernel)) ggX6_bestTake_X1_meanOfZones
set_option maxRecDepth 20000 in
theorem ggX6_bestWhite_X6_needFrame : GoodIn wsX6_bestWhite wsX6_needFrame := goodIn_ca (goodIn_r _ [13, 14, 15, 16, 100, 101, 102, 103, 104, 105, 106, 107, 108] (by decide +kernel) (by decide +kernel)) (goodIn_sub (fun _ h => List.mem_cons_of_mem _ (List.mem_append_left _ (List.mem_append_right _ h))) (by decide +kernel))
set_option maxRecDepth 20000 in
theorem gX6_bestWhite_X6_needFrame : GoodIn wsX6_bestWhite (wsV RX6 127 RX6 yX6_needFrame wsX6_needFrame) := goodIn_app (goodIn_of _ (by decide +kernel)) ggX6_bestWhite_X6_needFrame
set_option maxRecDepth 20000 in
theorem ggX6_bestWhite_X6_needRange : GoodIn wsX6_bestWhite wsX6_needRange := goodIn_ca (goodIn_r _ [19, 20, 21] (by decide +kernel) (by decide +kernel)) (goodIn_sub (fun _ h => List.mem_cons_of_mem _ (List.mem_append_right _ h)) (by decide +kernel))
set_option maxRecDepth 20000 in
theorem gX6_bestWhite_X6_needRange : GoodIn wsX6_bestWhite (va_wsS RX6 70 yX6_needRange wsX6_needRange) := goodIn_app (goodIn_of _ (by decide +kernel)) ggX6_bestWhite_X6_needRange
set_option maxRecDepth 20000 in
theorem ggX6_bestWhite_X2_compose : GoodIn wsX6_bestWhite wsX2_compose := goodIn_r _ [26, 27, 28, 29, 30, 31, 32, 33, 34, 35, 36, 25, 37, 38, 39, 12, 40, 41, 42, 43, 44, 45, 46, 47, 48, 49, 50, 51, 52, 53, 54, 55, 56, 57, 58, 59, 60, 61, 62, 63, 64, 65, 66, 67, 68, 69, 70, 71, 72, 73, 74, 75, 76, 77, 78, 79, 80, 81, 82, 83, 84, 85, 86, 117, 118, 119, 120, 121] (by decide +kernel) (by decide +kernel)
set_option maxRecDepth 20000 in
theorem gX6_bestWhite_X2_compose : GoodIn wsX6_bestWhite (wsV RX6 246 RX2 yX2_compose wsX2_compose) := goodIn_app (goodIn_of _ (by decide +kernel)) ggX6_bestWhite_X2_compose
set_option maxRecDepth 20000 in
theorem ggX6_bestWhite_X2_sumTones : GoodIn wsX6_bestWhite wsX2_sumTones := goodIn_r _ [90, 50, 57, 58, 25, 59, 91, 92, 93, 82, 120, 121] (by decide +kernel) (by decide +kernel)
set_option maxRecDepth 20000 in
theorem gX6_bestWhite_X2_sumTones : GoodIn wsX6_bestWhite (wsV RX6 250 RX2 yX2_sumTones wsX2_sumTones) := goodIn_app (goodIn_of _ (by decide +kernel)) ggX6_bestWhite_X2_sumTones
set_option maxRecDepth 20000 in
theorem ggX6_bestWhite_X6_leastNumber : GoodIn wsX6_bestWhite wsX6_leastNumber := goodIn_r _ [96] (by decide +kernel) (by decide +kernel)
set_option maxRecDepth 20000 in
theorem gX6_bestWhite_X6_leastNumber : GoodIn wsX6_bestWhite (va_wsS RX6 130 yX6_leastNumber wsX6_leastNumber) := goodIn_app (goodIn_of _ (by decide +kernel)) ggX6_bestWhite_X6_leastNumber
set_option maxRecDepth 20000 in
theorem ggX6_bestWhite_X6_mostNumber : GoodIn wsX6_bestWhite wsX6_mostNumber := goodIn_r _ [99] (by decide +kernel) (by decide +kernel)
set_option maxRecDepth 20000 in
theorem gX6_bestWhite_X6_mostNumber : GoodIn wsX6_bestWhite (va_wsS RX6 133 yX6_mostNumber wsX6_mostNumber) := goodIn_app (goodIn_of _ (by decide +kernel)) ggX6_bestWhite_X6_mostNumber
set_option maxRecDepth 20000 in
theorem ggX6_digest_X6_many : GoodIn wsX6_digest wsX6_many := goodIn_ca (goodIn_r _ [11, 3, 6, 12, 13, 14, 10, 15, 16, 17, 18, 19, 20, 21, 22, 23, 24, 25, 26, 27, 5, 28, 29, 30, 31, 32, 33, 34, 35, 36, 37, 38, 214, 215, 216, 217, 218, 219, 220, 221, 222, 228, 229, 230, 223, 224, 225, 226, 227, 231, 232, 233] (by decide +kernel) (by decide +kernel)) (goodIn_sub (fun _ h => List.mem_cons_of_mem _ (List.mem_append_left _ (List.mem_append_right _ h))) (by decide +kernel))
set_option maxRecDepth 20000 in
theorem gX6_digest_X6_many : GoodIn wsX6_digest (wsV RX6 264 RX6 yX6_many wsX6_many) := goodIn_app (goodIn_of _ (by decide +kernel)) ggX6_digest_X6_many
set_option maxRecDepth 20000 in
theorem ggX6_digest_X6_ofFrame : GoodIn wsX6_digest wsX6_ofFrame := goodIn_ca (goodIn_ca (goodIn_r _ [42, 5, 43, 44, 45, 10, 46, 47, 48, 3, 13, 14, 15, 16, 17, 28, 29, 30, 31, 32, 33, 49, 50, 51, 52, 53, 54, 55, 56, 57, 58, 59, 60, 61, 62, 63, 64, 65, 66, 67, 68, 69, 70, 71, 72, 73, 74, 75, 76, 77, 78, 79, 80, 81, 82, 83, 84, 6, 85, 214, 215, 216, 217, 218, 219, 220, 221, 222, 223, 224, 225, 226, 227, 231, 232, 233, 234, 235, 236] (by decide +kernel) (by decide +kernel)) (goodIn_sub (fun _ h => List.mem_cons_of_mem _ (List.mem_append_right _ h)) (by decide +kernel))) (goodIn_sub (fun _ h => List.mem_cons_of_mem _ (List.mem_append_left _ (List.mem_append_right _ h))) (by decide +kernel))
set_option maxRecDepth 20000 in
theorem gX6_digest_X6_ofFrame : GoodIn wsX6_digest (wsV RX6 267 RX6 yX6_ofFrame wsX6_ofFrame) := goodIn_app (goodIn_of _ (by decide +kernel)) ggX6_digest_X6_ofFrame
set_option maxRecDepth 20000 in
theorem ggX6_digest_X6_word : GoodIn wsX6_digest wsX6_word := goodIn_ca (goodIn_r _ [89, 5, 43, 44, 45, 10, 46, 47, 48, 3, 90, 91, 92, 93, 94, 12, 95, 96, 97, 98, 99, 100, 101, 102, 31, 103, 33, 104, 105, 106, 107, 108, 109, 65, 66, 110, 111, 112, 113, 114, 115, 116, 117, 118, 119, 63, 64, 120, 121, 122, 123, 124, 125, 126, 127, 29, 30, 32, 128, 129, 130, 131, 132, 133, 134, 135, 136, 137, 138, 139, 140, 141, 142, 143, 144, 145, 146, 147, 148, 149, 150, 151, 152, 153, 154, 155, 156, 157, 158, 159, 160, 161, 214, 215, 216, 217, 218, 219, 220, 221, 222, 223, 224, 225, 226, 227, 228, 229, 230, 231, 232, 233, 237, 238] (by decide +kernel) (by decide +kernel)) (goodIn_sub (fun _ h => List.mem_cons_of_mem _ (List.mem_append_right _ h)) (by decide +kernel))
set_option maxRecDepth 20000 in
theorem gX6_digest_X6_word : GoodIn wsX6_digest (wsV RX6 270 RX6 yX6_word wsX6_word) := goodIn_app (goodIn_of _ (by decide +kernel)) ggX6_digest_X6_word
set_option maxRecDepth 20000 in
theorem ggX6_digest_X6_meter : GoodIn wsX6_digest wsX6_meter := goodIn_ca (goodIn_r _ [165, 5, 43, 44, 45, 10, 46, 47, 48, 3, 166, 167, 168, 52, 169, 170, 171, 172, 173, 174, 54, 175, 63, 64, 65, 66, 214, 215, 216, 217, 218, 219, 220, 221, 222, 223, 224, 225, 226, 227] (by decide +kernel) (by decide +kernel)) (goodIn_sub (fun _ h => List.mem_cons_of_mem _ (List.mem_append_right _ h)) (by decide +kernel))
set_option maxRecDepth 20000 in
theorem gX6_digest_X6_meter : GoodIn wsX6_digest (wsV RX6 273 RX6 yX6_meter wsX6_meter) := goodIn_app (goodIn_of _ (by decide +kernel)) ggX6_digest_X6_meter
set_option maxRecDepth 20000 in
theorem ggX6_digest_X6_ofFile : GoodIn wsX6_digest wsX6_ofFile := goodIn_ca (goodIn_ca (goodIn_r _ [179, 6, 85, 180, 181, 10, 182, 47, 48, 13, 14, 15, 16, 17, 28, 29, 30, 31, 32, 33, 90, 91, 92, 93, 94, 5, 12, 95, 96, 97, 98, 99, 100, 101, 102, 103, 104, 105, 106, 107, 108, 109, 65, 66, 110, 111, 112, 113, 114, 115, 116, 117, 118, 119, 63, 64, 120, 121, 122, 123, 124, 125, 126, 127, 128, 129, 130, 131, 132, 133, 134, 135, 136, 137, 138, 139, 140, 141, 142, 143, 144, 145, 146, 147, 148, 149, 150, 151, 152, 153, 154, 155, 156, 157, 158, 159, 160, 161, 214, 215, 216, 217, 218, 219, 220, 221, 222, 234, 235, 236, 231, 232, 233, 223, 224, 225, 226, 227, 228, 229, 230, 237, 238] (by decide +kernel) (by decide +kernel)) (goodIn_sub (fun _ h => List.mem_cons_of_mem _ (List.mem_append_right _ h)) (by decide +kernel))) (goodIn_sub (fun _ h => List.mem_cons_of_mem _ (List.mem_append_left _ (List.mem_append_right _ h))) (by decide +kernel))
set_option maxRecDepth 20000 in
theorem gX6_digest_X6_ofFile : GoodIn wsX6_digest (wsV RX6 278 RX6 yX6_ofFile wsX6_ofFile) := goodIn_app (goodIn_of _ (by decide +kernel)) ggX6_digest_X6_ofFile
set_option maxRecDepth 20000 in
theorem ggX6_digest_X6_wouldClip : GoodIn wsX6_digest wsX6_wouldClip := goodIn_ca (goodIn_r _ [186, 12, 187, 188, 189, 190, 10, 191, 13, 14, 15, 16, 17, 192, 193, 194, 21, 195, 196, 38, 65, 66, 63, 64, 197, 198, 199, 200, 201, 202, 203, 204, 205, 206, 207, 208, 209, 210, 211, 212, 72, 61, 73, 213, 75, 76, 49, 50, 51, 52, 53, 54, 214, 215, 216, 217, 218, 219, 220, 221, 222, 228, 229, 230, 223, 224, 225, 226, 227, 239, 240, 241] (by decide +kernel) (by decide +kernel)) (goodIn_sub (fun _ h => List.mem_cons_of_mem _ (List.mem_append_left _ (List.mem_append_right _ h))) (by decide +kernel))
set_option maxRecDepth 20000 in
theorem gX6_digest_X6_wouldClip : GoodIn wsX6_digest (wsV RX6 281 RX6 yX6_wouldClip wsX6_wouldClip) := goodIn_app (goodIn_of _ (by decide +kernel)) ggX6_digest_X6_wouldClip
set_option maxRecDepth 20000 in
theorem ggX6_needPlace_X6_isPlace : GoodIn wsX6_needPlace wsX6_isPlace := goodIn_r _ [6] (by decide +kernel) (by decide +kernel)
set_option maxRecDepth 20000 in
theorem gX6_needPlace_X6_isPlace : GoodIn wsX6_needPlace (va_wsS RX6 289 yX6_isPlace wsX6_isPlace) := goodIn_app (goodIn_of _ (by decide +kernel)) ggX6_needPlace_X6_isPlace
set_option maxRecDepth 20000 in
theorem ggX6_needExposure_X6_needRange : GoodIn wsX6_needExposure wsX6_needRange := goodIn_ca (goodIn_r _ [4, 5, 6] (by decide +kernel) (by decide +kernel)) (goodIn_sub (fun _ h => List.mem_cons_of_mem _ (List.mem_append_right _ h)) (by decide +kernel))
set_option maxRecDepth 20000 in
theorem gX6_needExposure_X6_needRange : GoodIn wsX6_needExposure (va_wsS RX6 70 yX6_needRange wsX6_needRange) := goodIn_app (goodIn_of _ (by decide +kernel)) ggX6_needExposure_X6_needRange
set_option maxRecDepth 20000 in
theorem ggX6_countEdits_X0_count : GoodIn wsX6_countEdits wsX0_count := goodIn_r _ [7, 8, 23, 24, 25] (by decide +kernel) (by decide +kernel)
set_option maxRecDepth 20000 in
theorem gX6_countEdits_X0_count : GoodIn wsX6_countEdits (wsV RX6 140 RX0 yX0_count wsX0_count) := goodIn_app (goodIn_of _ (by decide +kernel)) ggX6_countEdits_X0_count
set_option maxRecDepth 20000 in
theorem ggX6_developFrame_X2_compose : GoodIn wsX6_developFrame wsX2_compose := goodIn_r _ [7, 8, 9, 10, 11, 12, 13, 14, 15, 16, 17, 6, 18, 19, 20, 21, 22, 23, 24, 25, 26, 27, 28, 29, 30, 31, 32, 33, 34, 35, 36, 37, 38, 39, 40, 41, 42, 43, 44, 45, 46, 47, 48, 49, 50, 51, 52, 53, 54, 55, 56, 57, 58, 59, 60, 61, 62, 63, 64, 65, 66, 67, 68, 93, 94, 95, 96, 97] (by decide +kernel) (by decide +kernel)
set_option maxRecDepth 20000 in
theorem gX6_developFrame_X2_compose : GoodIn wsX6_developFrame (wsV RX6 246 RX2 yX2_compose wsX2_compose) := goodIn_app (goodIn_of _ (by decide +kernel)) ggX6_developFrame_X2_compose
set_option maxRecDepth 20000 in
theorem ggX6_developFrame_X2_bound : GoodIn wsX6_developFrame wsX2_bound := goodIn_r _ [72, 32, 73, 74, 6, 75, 64, 96, 97] (by decide +kernel) (by decide +kernel)
set_option maxRecDepth 20000 in
theorem gX6_developFrame_X2_bound : GoodIn wsX6_developFrame (wsV RX6 304 RX2 yX2_bound wsX2_bound) := goodIn_app (goodIn_of _ (by decide +kernel)) ggX6_developFrame_X2_bound
set_option maxRecDepth 20000 in
theorem ggX6_wordBehind_X2_compose : GoodIn wsX6_wordBehind wsX2_compose := goodIn_r _ [8, 9, 10, 11, 12, 13, 14, 15, 16, 17, 18, 7, 19, 20, 21, 22, 23, 24, 25, 26, 27, 28, 29, 30, 31, 32, 33, 34, 35, 36, 37, 38, 39, 40, 41, 42, 43, 44, 45, 46, 47, 48, 49, 50, 51, 52, 53, 54, 55, 56, 57, 58, 59, 60, 61, 62, 63, 64, 65, 66, 67, 68, 69, 98, 99, 100, 101, 102] (by decide +kernel) (by decide +kernel)
set_option maxRecDepth 20000 in
theorem gX6_wordBehind_X2_compose : GoodIn wsX6_wordBehind (wsV RX6 246 RX2 yX2_compose wsX2_compose) := goodIn_app (goodIn_of _ (by decide +kernel)) ggX6_wordBehind_X2_compose
set_option maxRecDepth 20000 in
theorem ggX6_wordBehind_X2_bound : GoodIn wsX6_wordBehind wsX2_bound := goodIn_r _ [73, 33, 74, 75, 7, 76, 65, 101, 102] (by decide +kernel) (by decide +kernel)
set_option maxRecDepth 20000 in
theorem gX6_wordBehind_X2_bound : GoodIn wsX6_wordBehind (wsV RX6 304 RX2 yX2_bound wsX2_bound) := goodIn_app (goodIn_of _ (by decide +kernel)) ggX6_wordBehind_X2_bound
set_option maxRecDepth 20000 in
theorem ggX6_wordBehind_X2_sumUp : GoodIn wsX6_wordBehind wsX2_sumUp := goodIn_r _ [80, 33, 101, 102] (by decide +kernel) (by decide +kernel)
set_option maxRecDepth 20000 in
theorem gX6_wordBehind_X2_sumUp : GoodIn wsX6_wordBehind (wsV RX6 307 RX2 yX2_sumUp wsX2_sumUp) := goodIn_app (goodIn_of _ (by decide +kernel)) ggX6_wordBehind_X2_sumUp
set_option maxRecDepth 20000 in
theorem ggX6_smallestOf_X6_isIn : GoodIn wsX6_smallestOf wsX6_isIn := goodIn_r _ [4] (by decide +kernel) (by decide +kernel)
set_option maxRecDepth 20000 in
theorem gX6_smallestOf_X6_isIn : GoodIn wsX6_smallestOf (va_wsS RX6 310 yX6_isIn wsX6_isIn) := goodIn_app (goodIn_of _ (by decide +kernel)) ggX6_smallestOf_X6_isIn
set_option maxRecDepth 20000 in
theorem ggX6_putTogether_X6_smallestOf : GoodIn wsX6_putTogether wsX6_smallestOf := goodIn_r _ [11, 12, 13, 10, 14] (by decide +kernel) (by decide +kernel)
set_option maxRecDepth 20000 in
theorem gX6_putTogether_X6_smallestOf : GoodIn wsX6_putTogether (wsV RX6 313 RX6 yX6_smallestOf wsX6_smallestOf) := goodIn_app (goodIn_of _ (by decide +kernel)) ggX6_putTogether_X6_smallestOf
set_option maxRecDepth 20000 in
theorem ggX6_putTogether_X6_isIn : GoodIn wsX6_putTogether wsX6_isIn := goodIn_r _ [14] (by decide +kernel) (by decide +kernel)
set_option maxRecDepth 20000 in
theorem gX6_putTogether_X6_isIn : GoodIn wsX6_putTogether (va_wsS RX6 310 yX6_isIn wsX6_isIn) := goodIn_app (goodIn_of _ (by decide +kernel)) ggX6_putTogether_X6_isIn
set_option maxRecDepth 20000 in
theorem ggX7_init_Jx4a65c_init_da8c8 : GoodIn wsX7_init wsJx4a65c_init_da8c8 := goodIn_r _ [13, 14, 15, 16, 17, 18, 19, 20, 21, 22, 23, 24, 25, 2, 3, 26, 27, 28] (by decide +kernel) (by decide +kernel)
set_option maxRecDepth 20000 in
theorem gX7_init_Jx4a65c_init_da8c8 : GoodIn wsX7_init (wsJx4a65c_init_da8c8) := ggX7_init_Jx4a65c_init_da8c8
set_option maxRecDepth 20000 in
theorem ggX7_sum_X9_colour : GoodIn wsX7_sum wsX9_colour := goodIn_r _ [4] (by decide +kernel) (by decide +kernel)
set_option maxRecDepth 20000 in
theorem gX7_sum_X9_colour_n29 : GoodIn wsX7_sum (wsX9_colour) := ggX7_sum_X9_colour
set_option maxRecDepth 20000 in
theorem ggX7_white_X7_sum : GoodIn wsX7_white wsX7_sum := goodIn_r _ [12, 13, 14, 15, 16, 17, 18, 19, 20, 21] (by decide +kernel) (by decide +kernel)
set_option maxRecDepth 20000 in
theorem gX7_white_X7_sum : GoodIn wsX7_white (wsV RX7 33 RX7 yX7_sum wsX7_sum) := goodIn_app (goodIn_of _ (by decide +kernel)) ggX7_white_X7_sum
set_option maxRecDepth 20000 in
theorem ggX7_sharp_X9_colour : GoodIn wsX7_sharp wsX9_colour := goodIn_r _ [8] (by decide +kernel) (by decide +kernel)
set_option maxRecDepth 20000 in
theorem gX7_sharp_X9_colour_n29 : GoodIn wsX7_sharp (wsX9_colour) := ggX7_sharp_X9_colour
set_option maxRecDepth 20000 in
theorem ggX7_zone_X9_colour : GoodIn wsX7_zone wsX9_colour := goodIn_r _ [5] (by decide +kernel) (by decide +kernel)
set_option maxRecDepth 20000 in
theorem gX7_zone_X9_colour_n29 : GoodIn wsX7_zone (wsX9_colour) := ggX7_zone_X9_colour
set_option maxRecDepth 20000 in
theorem ggX7_meter_X7_zone : GoodIn wsX7_meter wsX7_zone := goodIn_r _ [6, 7, 8, 9, 10, 11, 12, 13, 14, 15, 16] (by decide +kernel) (by decide +kernel)
set_option maxRecDepth 20000 in
theorem gX7_meter_X7_zone : GoodIn wsX7_meter (wsV RX7 50 RX7 yX7_zone wsX7_zone) := goodIn_app (goodIn_of _ (by decide +kernel)) ggX7_meter_X7_zone
set_option maxRecDepth 20000 in
theorem ggX8_init_Jx4a65c_init_da8c8 : GoodIn wsX8_init wsJx4a65c_init_da8c8 := goodIn_r _ [12, 13, 14, 15, 16, 17, 18, 19, 20, 21, 22, 23, 24, 2, 3, 25, 26, 27] (by decide +kernel) (by decide +kernel)
set_option maxRecDepth 20000 in
theorem gX8_init_Jx4a65c_init_da8c8 : GoodIn wsX8_init (wsJx4a65c_init_da8c8) := ggX8_init_Jx4a65c_init_da8c8
set_option maxRecDepth 20000 in
theorem ggX9_init_Jx4a65c_init_da8c8 : GoodIn wsX9_init wsJx4a65c_init_da8c8 := goodIn_r _ [17, 18, 19, 20, 21, 22, 23, 24, 25, 26, 27, 28, 29, 2, 3, 38, 39, 40] (by decide +kernel) (by decide +kernel)
set_option maxRecDepth 20000 in
theorem gX9_init_Jx4a65c_init_da8c8 : GoodIn wsX9_init (wsJx4a65c_init_da8c8) := ggX9_init_Jx4a65c_init_da8c8
set_option maxRecDepth 20000 in
theorem ggX9_isPlace_X9_in : GoodIn wsX9_isPlace wsX9_in := goodIn_r _ [4] (by decide +kernel) (by decide +kernel)
set_option maxRecDepth 20000 in
theorem gX9_isPlace_X9_in : GoodIn wsX9_isPlace (va_wsS RX9 37 yX9_in wsX9_in) := goodIn_app (goodIn_of _ (by decide +kernel)) ggX9_isPlace_X9_in
set_option maxRecDepth 20000 in
theorem ggX9_isFrame_Jx4a65c_size_8abf5 : GoodIn wsX9_isFrame wsJx4a65c_size_8abf5 := goodIn_r _ [6, 7, 20, 21, 22] (by decide +kernel) (by decide +kernel)
set_option maxRecDepth 20000 in
theorem gX9_isFrame_Jx4a65c_size_8abf5_f41Jx4a65c : GoodIn wsX9_isFrame (va_wsF RX9 41 RJx4a65c ⟨"java/util/List", "size", "()I"⟩ yJx4a65c_size_8abf5 wsJx4a65c_size_8abf5) := goodIn_app (goodIn_of _ (by decide +kernel)) ggX9_isFrame_Jx4a65c_size_8abf5
set_option maxRecDepth 20000 in
theorem ggX9_isFrame_X9_in : GoodIn wsX9_isFrame wsX9_in := goodIn_r _ [11] (by decide +kernel) (by decide +kernel)
set_option maxRecDepth 20000 in
theorem gX9_isFrame_X9_in : GoodIn wsX9_isFrame (va_wsS RX9 37 yX9_in wsX9_in) := goodIn_app (goodIn_of _ (by decide +kernel)) ggX9_isFrame_X9_in
set_option maxRecDepth 20000 in
theorem ggX9_paint_X9_isPlace : GoodIn wsX9_paint wsX9_isPlace := goodIn_r _ [8, 9, 10, 7, 11] (by decide +kernel) (by decide +kernel)
set_option maxRecDepth 20000 in
theorem gX9_paint_X9_isPlace : GoodIn wsX9_paint (va_wsS RX9 47 yX9_isPlace wsX9_isPlace) := goodIn_app (goodIn_of _ (by decide +kernel)) ggX9_paint_X9_isPlace
set_option maxRecDepth 20000 in
theorem ggX9_paint_X9_no : GoodIn wsX9_paint wsX9_no := goodIn_r _ [15, 1, 19, 20, 21, 22, 23, 24, 25, 26] (by decide +kernel) (by decide +kernel)
set_option maxRecDepth 20000 in
theorem gX9_paint_X9_no : GoodIn wsX9_paint (wsV RX9 51 RX9 yX9_no wsX9_no) := goodIn_app (goodIn_of _ (by decide +kernel)) ggX9_paint_X9_no
set_option maxRecDepth 20000 in
theorem ggX9_paint_X9_in : GoodIn wsX9_paint wsX9_in := goodIn_r _ [11] (by decide +kernel) (by decide +kernel)
set_option maxRecDepth 20000 in
theorem gX9_paint_X9_in : GoodIn wsX9_paint (va_wsS RX9 37 yX9_in wsX9_in) := goodIn_app (goodIn_of _ (by decide +kernel)) ggX9_paint_X9_in
set_option maxRecDepth 20000 in
theorem ggX9_paint_X9_at : GoodIn wsX9_paint wsX9_at := goodIn_r _ [18] (by decide +kernel) (by decide +kernel)
set_option maxRecDepth 20000 in
theorem gX9_paint_X9_at : GoodIn wsX9_paint (va_wsS RX9 56 yX9_at wsX9_at) := goodIn_app (goodIn_of _ (by decide +kernel)) ggX9_paint_X9_at
set_option maxRecDepth 20000 in
theorem ggX9_lamp_X9_in : GoodIn wsX9_lamp wsX9_in := goodIn_r _ [6] (by decide +kernel) (by decide +kernel)
set_option maxRecDepth 20000 in
theorem gX9_lamp_X9_in : GoodIn wsX9_lamp (va_wsS RX9 37 yX9_in wsX9_in) := goodIn_app (goodIn_of _ (by decide +kernel)) ggX9_lamp_X9_in
set_option maxRecDepth 20000 in
theorem ggX9_lamp_X9_no : GoodIn wsX9_lamp wsX9_no := goodIn_r _ [10, 1, 11, 12, 13, 14, 15, 16, 17, 18] (by decide +kernel) (by decide +kernel)
set_option maxRecDepth 20000 in
theorem gX9_lamp_X9_no : GoodIn wsX9_lamp (wsV RX9 51 RX9 yX9_no wsX9_no) := goodIn_app (goodIn_of _ (by decide +kernel)) ggX9_lamp_X9_no
set_option maxRecDepth 20000 in
theorem ggX9_spoil_X9_isPlace : GoodIn wsX9_spoil wsX9_isPlace := goodIn_r _ [6, 7, 8, 5, 9] (by decide +kernel) (by decide +kernel)
set_option maxRecDepth 20000 in
theorem gX9_spoil_X9_isPlace : GoodIn wsX9_spoil (va_wsS RX9 47 yX9_isPlace wsX9_isPlace) := goodIn_app (goodIn_of _ (by decide +kernel)) ggX9_spoil_X9_isPlace
set_option maxRecDepth 20000 in
theorem ggX9_spoil_X9_no : GoodIn wsX9_spoil wsX9_no := goodIn_r _ [13, 1, 17, 18, 19, 20, 21, 22, 23, 24] (by decide +kernel) (by decide +kernel)
set_option maxRecDepth 20000 in
theorem gX9_spoil_X9_no : GoodIn wsX9_spoil (wsV RX9 51 RX9 yX9_no wsX9_no) := goodIn_app (goodIn_of _ (by decide +kernel)) ggX9_spoil_X9_no
set_option maxRecDepth 20000 in
theorem ggX9_spoil_X9_in : GoodIn wsX9_spoil wsX9_in := goodIn_r _ [9] (by decide +kernel) (by decide +kernel)
set_option maxRecDepth 20000 in
theorem gX9_spoil_X9_in : GoodIn wsX9_spoil (va_wsS RX9 37 yX9_in wsX9_in) := goodIn_app (goodIn_of _ (by decide +kernel)) ggX9_spoil_X9_in
set_option maxRecDepth 20000 in
theorem ggX9_spoil_X9_at : GoodIn wsX9_spoil wsX9_at := goodIn_r _ [16] (by decide +kernel) (by decide +kernel)
set_option maxRecDepth 20000 in
theorem gX9_spoil_X9_at : GoodIn wsX9_spoil (va_wsS RX9 56 yX9_at wsX9_at) := goodIn_app (goodIn_of _ (by decide +kernel)) ggX9_spoil_X9_at
set_option maxRecDepth 20000 in
theorem ggX9_map_X9_isPlace : GoodIn wsX9_map wsX9_isPlace := goodIn_r _ [6, 7, 8, 5, 9] (by decide +kernel) (by decide +kernel)
set_option maxRecDepth 20000 in
theorem gX9_map_X9_isPlace : GoodIn wsX9_map (va_wsS RX9 47 yX9_isPlace wsX9_isPlace) := goodIn_app (goodIn_of _ (by decide +kernel)) ggX9_map_X9_isPlace
set_option maxRecDepth 20000 in
theorem ggX9_map_X9_no : GoodIn wsX9_map wsX9_no := goodIn_r _ [13, 1, 21, 22, 23, 24, 25, 26, 27, 28] (by decide +kernel) (by decide +kernel)
set_option maxRecDepth 20000 in
theorem gX9_map_X9_no : GoodIn wsX9_map (wsV RX9 51 RX9 yX9_no wsX9_no) := goodIn_app (goodIn_of _ (by decide +kernel)) ggX9_map_X9_no
set_option maxRecDepth 20000 in
theorem ggX9_map_X9_at : GoodIn wsX9_map wsX9_at := goodIn_r _ [16] (by decide +kernel) (by decide +kernel)
set_option maxRecDepth 20000 in
theorem gX9_map_X9_at : GoodIn wsX9_map (va_wsS RX9 56 yX9_at wsX9_at) := goodIn_app (goodIn_of _ (by decide +kernel)) ggX9_map_X9_at
set_option maxRecDepth 20000 in
theorem ggX9_map_X9_mapped : GoodIn wsX9_map wsX9_mapped := goodIn_r _ [20, 2, 21, 22, 23, 24, 25, 26, 27, 28] (by decide +kernel) (by decide +kernel)
set_option maxRecDepth 20000 in
theorem gX9_map_X9_mapped : GoodIn wsX9_map (wsV RX9 61 RX9 yX9_mapped wsX9_mapped) := goodIn_app (goodIn_of _ (by decide +kernel)) ggX9_map_X9_mapped
set_option maxRecDepth 20000 in
theorem ggX9_taken_X9_colour : GoodIn wsX9_taken wsX9_colour := goodIn_r _ [21] (by decide +kernel) (by decide +kernel)
set_option maxRecDepth 20000 in
theorem gX9_taken_X9_colour : GoodIn wsX9_taken (va_wsS RX9 67 yX9_colour wsX9_colour) := goodIn_app (goodIn_of _ (by decide +kernel)) ggX9_taken_X9_colour
set_option maxRecDepth 20000 in
theorem ggX9_taken_X7_init : GoodIn wsX9_taken wsX7_init := goodIn_r _ [24, 25, 26, 27, 28, 29, 30, 31, 32, 33, 34, 35, 36, 37, 38, 39, 40, 41, 42, 43, 44, 45, 46, 47, 48, 49, 63, 64, 65, 58, 59, 60, 61, 62] (by decide +kernel) (by decide +kernel)
set_option maxRecDepth 20000 in
theorem gX9_taken_X7_init : GoodIn wsX9_taken (wsX7_init) := ggX9_taken_X7_init
set_option maxRecDepth 20000 in
theorem ggX9_take_X9_in : GoodIn wsX9_take wsX9_in := goodIn_r _ [6] (by decide +kernel) (by decide +kernel)
set_option maxRecDepth 20000 in
theorem gX9_take_X9_in : GoodIn wsX9_take (va_wsS RX9 37 yX9_in wsX9_in) := goodIn_app (goodIn_of _ (by decide +kernel)) ggX9_take_X9_in
set_option maxRecDepth 20000 in
theorem ggX9_take_X9_no : GoodIn wsX9_take wsX9_no := goodIn_r _ [10, 1, 115, 116, 117, 118, 119, 120, 121, 122] (by decide +kernel) (by decide +kernel)
set_option maxRecDepth 20000 in
theorem gX9_take_X9_no : GoodIn wsX9_take (wsV RX9 51 RX9 yX9_no wsX9_no) := goodIn_app (goodIn_of _ (by decide +kernel)) ggX9_take_X9_no
set_option maxRecDepth 20000 in
theorem ggX9_take_Jx4a65c_size_8abf5 : GoodIn wsX9_take wsJx4a65c_size_8abf5 := goodIn_r _ [15, 16, 123, 124, 125] (by decide +kernel) (by decide +kernel)
set_option maxRecDepth 20000 in
theorem gX9_take_Jx4a65c_size_8abf5_f41Jx4a65c : GoodIn wsX9_take (va_wsF RX9 41 RJx4a65c ⟨"java/util/List", "size", "()I"⟩ yJx4a65c_size_8abf5 wsJx4a65c_size_8abf5) := goodIn_app (goodIn_of _ (by decide +kernel)) ggX9_take_Jx4a65c_size_8abf5
set_option maxRecDepth 20000 in
theorem ggX9_take_X9_taken : GoodIn wsX9_take wsX9_taken := goodIn_r _ [20, 21, 22, 23, 24, 25, 26, 27, 28, 29, 30, 31, 32, 33, 34, 35, 36, 37, 38, 39, 5, 40, 41, 42, 43, 44, 45, 46, 47, 48, 14, 49, 50, 51, 52, 53, 54, 55, 56, 57, 58, 59, 60, 61, 62, 63, 64, 65, 66, 67, 115, 116, 117, 118, 119, 120, 121, 122, 126, 127, 128, 129, 130, 123, 124, 125] (by decide +kernel) (by decide +kernel)
set_option maxRecDepth 20000 in
theorem gX9_take_X9_taken : GoodIn wsX9_take (wsV RX9 85 RX9 yX9_taken wsX9_taken) := goodIn_app (goodIn_of _ (by decide +kernel)) ggX9_take_X9_taken
set_option maxRecDepth 20000 in
theorem ggX9_take_Jx4a65c_add_9ea2d : GoodIn wsX9_take wsJx4a65c_add_9ea2d := goodIn_r _ [71, 72, 73, 57, 16, 74, 75, 76, 14, 77, 78, 79, 80, 81, 82, 83, 84, 85, 56, 86, 33, 29, 34, 87, 88, 89, 90, 91, 92, 93, 94, 95, 96, 97, 98, 99, 100, 101, 102, 103, 104, 105, 106, 107, 108, 109, 110, 28, 30, 111, 112, 113, 114, 123, 124, 125] (by decide +kernel) (by decide +kernel)
set_option maxRecDepth 20000 in
theorem gX9_take_Jx4a65c_add_9ea2d_f89Jx4a65c : GoodIn wsX9_take (va_wsF RX9 89 RJx4a65c ⟨"java/util/List", "add", "(Ljava/lang/Object;)Z"⟩ yJx4a65c_add_9ea2d wsJx4a65c_add_9ea2d) := goodIn_app (goodIn_of _ (by decide +kernel)) ggX9_take_Jx4a65c_add_9ea2d
set_option maxRecDepth 20000 in
theorem ggX9_merge_Jx4a65c_size_8abf5 : GoodIn wsX9_merge wsJx4a65c_size_8abf5 := goodIn_r _ [20, 21, 137, 138, 139] (by decide +kernel) (by decide +kernel)
set_option maxRecDepth 20000 in
theorem gX9_merge_Jx4a65c_size_8abf5_f41Jx4a65c : GoodIn wsX9_merge (va_wsF RX9 41 RJx4a65c ⟨"java/util/List", "size", "()I"⟩ yJx4a65c_size_8abf5 wsJx4a65c_size_8abf5) := goodIn_app (goodIn_of _ (by decide +kernel)) ggX9_merge_Jx4a65c_size_8abf5
set_option maxRecDepth 20000 in
theorem ggX9_merge_X9_in : GoodIn wsX9_merge wsX9_in := goodIn_r _ [25] (by decide +kernel) (by decide +kernel)
set_option maxRecDepth 20000 in
theorem gX9_merge_X9_in : GoodIn wsX9_merge (va_wsS RX9 37 yX9_in wsX9_in) := goodIn_app (goodIn_of _ (by decide +kernel)) ggX9_merge_X9_in
set_option maxRecDepth 20000 in
theorem ggX9_merge_X9_no : GoodIn wsX9_merge wsX9_no := goodIn_r _ [29, 1, 124, 125, 126, 127, 128, 129, 130, 131] (by decide +kernel) (by decide +kernel)
set_option maxRecDepth 20000 in
theorem gX9_merge_X9_no : GoodIn wsX9_merge (wsV RX9 51 RX9 yX9_no wsX9_no) := goodIn_app (goodIn_of _ (by decide +kernel)) ggX9_merge_X9_no
set_option maxRecDepth 20000 in
theorem ggX9_merge_Jx4a65c_get_915e3 : GoodIn wsX9_merge wsJx4a65c_get_915e3 := goodIn_r _ [33, 21, 34, 35, 36, 37, 38, 39, 40, 41, 42, 43, 44, 19, 45, 46, 137, 138, 139] (by decide +kernel) (by decide +kernel)
set_option maxRecDepth 20000 in
theorem gX9_merge_Jx4a65c_get_915e3_f93Jx4a65c : GoodIn wsX9_merge (va_wsF RX9 93 RJx4a65c ⟨"java/util/List", "get", "(I)Ljava/lang/Object;"⟩ yJx4a65c_get_915e3 wsJx4a65c_get_915e3) := goodIn_app (goodIn_of _ (by decide +kernel)) ggX9_merge_Jx4a65c_get_915e3
set_option maxRecDepth 20000 in
theorem ggX9_merge_X7_init : GoodIn wsX9_merge wsX7_init := goodIn_r _ [49, 50, 51, 52, 53, 54, 19, 55, 56, 57, 58, 59, 60, 61, 62, 46, 63, 64, 65, 66, 67, 68, 69, 70, 71, 72, 137, 138, 139, 132, 133, 134, 135, 136] (by decide +kernel) (by decide +kernel)
set_option maxRecDepth 20000 in
theorem gX9_merge_X7_init : GoodIn wsX9_merge (wsX7_init) := ggX9_merge_X7_init
set_option maxRecDepth 20000 in
theorem ggX9_merge_Jx4a65c_add_9ea2d : GoodIn wsX9_merge wsJx4a65c_add_9ea2d := goodIn_r _ [76, 77, 78, 46, 21, 79, 80, 81, 19, 82, 83, 84, 85, 86, 87, 88, 89, 90, 62, 91, 92, 13, 93, 94, 95, 96, 97, 98, 99, 100, 101, 102, 103, 104, 105, 106, 107, 108, 109, 110, 111, 112, 113, 114, 115, 116, 117, 118, 119, 120, 121, 122, 123, 137, 138, 139] (by decide +kernel) (by decide +kernel)
set_option maxRecDepth 20000 in
theorem gX9_merge_Jx4a65c_add_9ea2d_f89Jx4a65c : GoodIn wsX9_merge (va_wsF RX9 89 RJx4a65c ⟨"java/util/List", "add", "(Ljava/lang/Object;)Z"⟩ yJx4a65c_add_9ea2d wsJx4a65c_add_9ea2d) := goodIn_app (goodIn_of _ (by decide +kernel)) ggX9_merge_Jx4a65c_add_9ea2d
set_option maxRecDepth 20000 in
theorem ggX9_canBe_X9_in : GoodIn wsX9_canBe wsX9_in := goodIn_r _ [4] (by decide +kernel) (by decide +kernel)
set_option maxRecDepth 20000 in
theorem gX9_canBe_X9_in : GoodIn wsX9_canBe (va_wsS RX9 37 yX9_in wsX9_in) := goodIn_app (goodIn_of _ (by decide +kernel)) ggX9_canBe_X9_in
set_option maxRecDepth 20000 in
theorem ggX9_edit_X9_isFrame : GoodIn wsX9_edit wsX9_isFrame := goodIn_r _ [10, 2, 11, 12, 13, 14, 15, 16, 17, 18, 9, 19, 97, 98, 99, 100, 101, 102, 103, 104, 110, 111, 112] (by decide +kernel) (by decide +kernel)
set_option maxRecDepth 20000 in
theorem gX9_edit_X9_isFrame : GoodIn wsX9_edit (wsV RX9 112 RX9 yX9_isFrame wsX9_isFrame) := goodIn_app (goodIn_of _ (by decide +kernel)) ggX9_edit_X9_isFrame
set_option maxRecDepth 20000 in
theorem ggX9_edit_X9_no : GoodIn wsX9_edit wsX9_no := goodIn_r _ [23, 1, 97, 98, 99, 100, 101, 102, 103, 104] (by decide +kernel) (by decide +kernel)
set_option maxRecDepth 20000 in
theorem gX9_edit_X9_no : GoodIn wsX9_edit (wsV RX9 51 RX9 yX9_no wsX9_no) := goodIn_app (goodIn_of _ (by decide +kernel)) ggX9_edit_X9_no
set_option maxRecDepth 20000 in
theorem ggX9_edit_X9_canBe : GoodIn wsX9_edit wsX9_canBe := goodIn_r _ [26, 17, 18, 9, 19] (by decide +kernel) (by decide +kernel)
set_option maxRecDepth 20000 in
theorem gX9_edit_X9_canBe : GoodIn wsX9_edit (va_wsS RX9 116 yX9_canBe wsX9_canBe) := goodIn_app (goodIn_of _ (by decide +kernel)) ggX9_edit_X9_canBe
set_option maxRecDepth 20000 in
theorem ggX9_edit_Jx4a65c_get_915e3 : GoodIn wsX9_edit wsJx4a65c_get_915e3 := goodIn_r _ [30, 16, 31, 32, 33, 34, 35, 36, 37, 38, 39, 40, 41, 14, 42, 43, 110, 111, 112] (by decide +kernel) (by decide +kernel)
set_option maxRecDepth 20000 in
theorem gX9_edit_Jx4a65c_get_915e3_f93Jx4a65c : GoodIn wsX9_edit (va_wsF RX9 93 RJx4a65c ⟨"java/util/List", "get", "(I)Ljava/lang/Object;"⟩ yJx4a65c_get_915e3 wsJx4a65c_get_915e3) := goodIn_app (goodIn_of _ (by decide +kernel)) ggX9_edit_Jx4a65c_get_915e3
set_option maxRecDepth 20000 in
theorem ggX9_edit_Jx4a65c_size_8abf5 : GoodIn wsX9_edit wsJx4a65c_size_8abf5 := goodIn_r _ [15, 16, 110, 111, 112] (by decide +kernel) (by decide +kernel)
set_option maxRecDepth 20000 in
theorem gX9_edit_Jx4a65c_size_8abf5_f41Jx4a65c : GoodIn wsX9_edit (va_wsF RX9 41 RJx4a65c ⟨"java/util/List", "size", "()I"⟩ yJx4a65c_size_8abf5 wsJx4a65c_size_8abf5) := goodIn_app (goodIn_of _ (by decide +kernel)) ggX9_edit_Jx4a65c_size_8abf5
set_option maxRecDepth 20000 in
theorem ggX9_edit_Jx4a65c_add_9ea2d : GoodIn wsX9_edit wsJx4a65c_add_9ea2d := goodIn_r _ [47, 48, 49, 43, 16, 50, 51, 52, 14, 53, 54, 55, 56, 57, 58, 59, 60, 61, 62, 63, 64, 65, 66, 67, 68, 69, 70, 71, 72, 73, 74, 75, 76, 77, 78, 79, 80, 81, 82, 83, 84, 85, 86, 87, 88, 89, 90, 91, 92, 93, 94, 95, 96, 110, 111, 112] (by decide +kernel) (by decide +kernel)
set_option maxRecDepth 20000 in
theorem gX9_edit_Jx4a65c_add_9ea2d_f89Jx4a65c : GoodIn wsX9_edit (va_wsF RX9 89 RJx4a65c ⟨"java/util/List", "add", "(Ljava/lang/Object;)Z"⟩ yJx4a65c_add_9ea2d wsJx4a65c_add_9ea2d) := goodIn_app (goodIn_of _ (by decide +kernel)) ggX9_edit_Jx4a65c_add_9ea2d
set_option maxRecDepth 20000 in
theorem ggX9_undo_X9_isFrame : GoodIn wsX9_undo wsX9_isFrame := goodIn_r _ [10, 2, 11, 12, 13, 14, 15, 16, 17, 18, 9, 19, 55, 56, 57, 58, 59, 60, 61, 62, 68, 69, 70] (by decide +kernel) (by decide +kernel)
set_option maxRecDepth 20000 in
theorem gX9_undo_X9_isFrame : GoodIn wsX9_undo (wsV RX9 112 RX9 yX9_isFrame wsX9_isFrame) := goodIn_app (goodIn_of _ (by decide +kernel)) ggX9_undo_X9_isFrame
set_option maxRecDepth 20000 in
theorem ggX9_undo_X9_no : GoodIn wsX9_undo wsX9_no := goodIn_r _ [23, 1, 55, 56, 57, 58, 59, 60, 61, 62] (by decide +kernel) (by decide +kernel)
set_option maxRecDepth 20000 in
theorem gX9_undo_X9_no : GoodIn wsX9_undo (wsV RX9 51 RX9 yX9_no wsX9_no) := goodIn_app (goodIn_of _ (by decide +kernel)) ggX9_undo_X9_no
set_option maxRecDepth 20000 in
theorem ggX9_undo_Jx4a65c_get_915e3 : GoodIn wsX9_undo wsJx4a65c_get_915e3 := goodIn_r _ [27, 16, 28, 29, 30, 31, 32, 33, 34, 35, 36, 37, 38, 14, 39, 40, 68, 69, 70] (by decide +kernel) (by decide +kernel)
set_option maxRecDepth 20000 in
theorem gX9_undo_Jx4a65c_get_915e3_f93Jx4a65c : GoodIn wsX9_undo (va_wsF RX9 93 RJx4a65c ⟨"java/util/List", "get", "(I)Ljava/lang/Object;"⟩ yJx4a65c_get_915e3 wsJx4a65c_get_915e3) := goodIn_app (goodIn_of _ (by decide +kernel)) ggX9_undo_Jx4a65c_get_915e3
set_option maxRecDepth 20000 in
theorem ggX9_undo_Jx4a65c_size_8abf5 : GoodIn wsX9_undo wsJx4a65c_size_8abf5 := goodIn_r _ [15, 16, 68, 69, 70] (by decide +kernel) (by decide +kernel)
set_option maxRecDepth 20000 in
theorem gX9_undo_Jx4a65c_size_8abf5_f41Jx4a65c : GoodIn wsX9_undo (va_wsF RX9 41 RJx4a65c ⟨"java/util/List", "size", "()I"⟩ yJx4a65c_size_8abf5 wsJx4a65c_size_8abf5) := goodIn_app (goodIn_of _ (by decide +kernel)) ggX9_undo_Jx4a65c_size_8abf5
set_option maxRecDepth 20000 in
theorem ggX9_undo_Jx4a65c_remove_915e3 : GoodIn wsX9_undo wsJx4a65c_remove_915e3 := goodIn_r _ [44, 16, 40, 28, 29, 30, 31, 32, 33, 34, 35, 45, 46, 47, 14, 48, 49, 50, 51, 52, 53, 54, 68, 69, 70] (by decide +kernel) (by decide +kernel)
set_option maxRecDepth 20000 in
theorem gX9_undo_Jx4a65c_remove_915e3_f122Jx4a65c : GoodIn wsX9_undo (va_wsF RX9 122 RJx4a65c ⟨"java/util/List", "remove", "(I)Ljava/lang/Object;"⟩ yJx4a65c_remove_915e3 wsJx4a65c_remove_915e3) := goodIn_app (goodIn_of _ (by decide +kernel)) ggX9_undo_Jx4a65c_remove_915e3
set_option maxRecDepth 20000 in
theorem ggX9_filesOf_Jx4a65c_size_8abf5 : GoodIn wsX9_filesOf wsJx4a65c_size_8abf5 := goodIn_r _ [8, 9, 38, 39, 40] (by decide +kernel) (by decide +kernel)
set_option maxRecDepth 20000 in
theorem gX9_filesOf_Jx4a65c_size_8abf5_f41Jx4a65c : GoodIn wsX9_filesOf (va_wsF RX9 41 RJx4a65c ⟨"java/util/List", "size", "()I"⟩ yJx4a65c_size_8abf5 wsJx4a65c_size_8abf5) := goodIn_app (goodIn_of _ (by decide +kernel)) ggX9_filesOf_Jx4a65c_size_8abf5
set_option maxRecDepth 20000 in
theorem ggX9_filesOf_Jx4a65c_get_915e3 : GoodIn wsX9_filesOf wsJx4a65c_get_915e3 := goodIn_r _ [13, 9, 14, 15, 16, 17, 18, 19, 20, 21, 22, 23, 24, 7, 25, 26, 38, 39, 40] (by decide +kernel) (by decide +kernel)
set_option maxRecDepth 20000 in
theorem gX9_filesOf_Jx4a65c_get_915e3_f93Jx4a65c : GoodIn wsX9_filesOf (va_wsF RX9 93 RJx4a65c ⟨"java/util/List", "get", "(I)Ljava/lang/Object;"⟩ yJx4a65c_get_915e3 wsJx4a65c_get_915e3) := goodIn_app (goodIn_of _ (by decide +kernel)) ggX9_filesOf_Jx4a65c_get_915e3
set_option maxRecDepth 20000 in
theorem ggX9_save_X9_isFrame : GoodIn wsX9_save wsX9_isFrame := goodIn_r _ [15, 6, 16, 17, 18, 19, 20, 21, 22, 23, 14, 24, 129, 130, 131, 132, 133, 134, 135, 136, 145, 146, 147] (by decide +kernel) (by decide +kernel)
set_option maxRecDepth 20000 in
theorem gX9_save_X9_isFrame : GoodIn wsX9_save (wsV RX9 112 RX9 yX9_isFrame wsX9_isFrame) := goodIn_app (goodIn_of _ (by decide +kernel)) ggX9_save_X9_isFrame
set_option maxRecDepth 20000 in
theorem ggX9_save_X9_no : GoodIn wsX9_save wsX9_no := goodIn_r _ [28, 1, 129, 130, 131, 132, 133, 134, 135, 136] (by decide +kernel) (by decide +kernel)
set_option maxRecDepth 20000 in
theorem gX9_save_X9_no : GoodIn wsX9_save (wsV RX9 51 RX9 yX9_no wsX9_no) := goodIn_app (goodIn_of _ (by decide +kernel)) ggX9_save_X9_no
set_option maxRecDepth 20000 in
theorem ggX9_save_Jx4a65c_size_8abf5 : GoodIn wsX9_save wsJx4a65c_size_8abf5 := goodIn_r _ [20, 21, 145, 146, 147] (by decide +kernel) (by decide +kernel)
set_option maxRecDepth 20000 in
theorem gX9_save_Jx4a65c_size_8abf5_f41Jx4a65c : GoodIn wsX9_save (va_wsF RX9 41 RJx4a65c ⟨"java/util/List", "size", "()I"⟩ yJx4a65c_size_8abf5 wsJx4a65c_size_8abf5) := goodIn_app (goodIn_of _ (by decide +kernel)) ggX9_save_Jx4a65c_size_8abf5
set_option maxRecDepth 20000 in
theorem ggX9_save_X9_filesOf : GoodIn wsX9_save wsX9_filesOf := goodIn_r _ [32, 2, 33, 34, 16, 17, 18, 19, 20, 21, 35, 36, 37, 38, 39, 40, 41, 42, 43, 44, 45, 46, 47, 48, 49, 50, 51, 129, 130, 131, 132, 133, 134, 135, 136, 137, 138, 139, 145, 146, 147] (by decide +kernel) (by decide +kernel)
set_option maxRecDepth 20000 in
theorem gX9_save_X9_filesOf : GoodIn wsX9_save (wsV RX9 131 RX9 yX9_filesOf wsX9_filesOf) := goodIn_app (goodIn_of _ (by decide +kernel)) ggX9_save_X9_filesOf
set_option maxRecDepth 20000 in
theorem ggX9_save_X8_init : GoodIn wsX9_save wsX8_init := goodIn_r _ [54, 55, 56, 57, 58, 59, 19, 60, 61, 62, 63, 64, 65, 66, 51, 67, 68, 69, 70, 71, 72, 73, 74, 75, 76, 145, 146, 147, 137, 138, 139] (by decide +kernel) (by decide +kernel)
set_option maxRecDepth 20000 in
theorem gX9_save_X8_init : GoodIn wsX9_save (wsX8_init) := ggX9_save_X8_init
set_option maxRecDepth 20000 in
theorem ggX9_save_Jx4a65c_get_915e3 : GoodIn wsX9_save wsJx4a65c_get_915e3 := goodIn_r _ [38, 21, 39, 40, 41, 42, 43, 44, 45, 46, 47, 48, 49, 19, 50, 51, 145, 146, 147] (by decide +kernel) (by decide +kernel)
set_option maxRecDepth 20000 in
theorem gX9_save_Jx4a65c_get_915e3_f93Jx4a65c : GoodIn wsX9_save (va_wsF RX9 93 RJx4a65c ⟨"java/util/List", "get", "(I)Ljava/lang/Object;"⟩ yJx4a65c_get_915e3 wsJx4a65c_get_915e3) := goodIn_app (goodIn_of _ (by decide +kernel)) ggX9_save_Jx4a65c_get_915e3
set_option maxRecDepth 20000 in
theorem ggX9_save_Jx4a65c_add_9ea2d : GoodIn wsX9_save wsJx4a65c_add_9ea2d := goodIn_r _ [80, 81, 82, 51, 21, 83, 84, 85, 19, 86, 87, 88, 89, 90, 91, 92, 93, 94, 66, 95, 96, 97, 98, 99, 100, 101, 102, 103, 104, 105, 106, 107, 108, 109, 110, 111, 112, 113, 114, 115, 116, 117, 118, 119, 120, 121, 122, 123, 124, 125, 126, 127, 128, 145, 146, 147] (by decide +kernel) (by decide +kernel)
set_option maxRecDepth 20000 in
theorem gX9_save_Jx4a65c_add_9ea2d_f89Jx4a65c : GoodIn wsX9_save (va_wsF RX9 89 RJx4a65c ⟨"java/util/List", "add", "(Ljava/lang/Object;)Z"⟩ yJx4a65c_add_9ea2d wsJx4a65c_add_9ea2d) := goodIn_app (goodIn_of _ (by decide +kernel)) ggX9_save_Jx4a65c_add_9ea2d
set_option maxRecDepth 20000 in
theorem ggX9_mended_X9_isPlace : GoodIn wsX9_mended wsX9_isPlace := goodIn_r _ [6, 7, 8, 5, 9] (by decide +kernel) (by decide +kernel)
set_option maxRecDepth 20000 in
theorem gX9_mended_X9_isPlace : GoodIn wsX9_mended (va_wsS RX9 47 yX9_isPlace wsX9_isPlace) := goodIn_app (goodIn_of _ (by decide +kernel)) ggX9_mended_X9_isPlace
set_option maxRecDepth 20000 in
theorem ggX9_mended_X9_at : GoodIn wsX9_mended wsX9_at := goodIn_r _ [12] (by decide +kernel) (by decide +kernel)
set_option maxRecDepth 20000 in
theorem gX9_mended_X9_at : GoodIn wsX9_mended (va_wsS RX9 56 yX9_at wsX9_at) := goodIn_app (goodIn_of _ (by decide +kernel)) ggX9_mended_X9_at
set_option maxRecDepth 20000 in
theorem ggX9_has_Jx4a65c_size_8abf5 : GoodIn wsX9_has wsJx4a65c_size_8abf5 := goodIn_r _ [6, 7, 25, 26, 27] (by decide +kernel) (by decide +kernel)
set_option maxRecDepth 20000 in
theorem gX9_has_Jx4a65c_size_8abf5_f41Jx4a65c : GoodIn wsX9_has (va_wsF RX9 41 RJx4a65c ⟨"java/util/List", "size", "()I"⟩ yJx4a65c_size_8abf5 wsJx4a65c_size_8abf5) := goodIn_app (goodIn_of _ (by decide +kernel)) ggX9_has_Jx4a65c_size_8abf5
set_option maxRecDepth 20000 in
theorem ggX9_has_Jx4a65c_get_915e3 : GoodIn wsX9_has wsJx4a65c_get_915e3 := goodIn_r _ [11, 7, 12, 13, 14, 15, 16, 17, 18, 19, 20, 21, 22, 5, 23, 24, 25, 26, 27] (by decide +kernel) (by decide +kernel)
set_option maxRecDepth 20000 in
theorem gX9_has_Jx4a65c_get_915e3_f93Jx4a65c : GoodIn wsX9_has (va_wsF RX9 93 RJx4a65c ⟨"java/util/List", "get", "(I)Ljava/lang/Object;"⟩ yJx4a65c_get_915e3 wsJx4a65c_get_915e3) := goodIn_app (goodIn_of _ (by decide +kernel)) ggX9_has_Jx4a65c_get_915e3
set_option maxRecDepth 20000 in
theorem ggX9_whole_X9_colour : GoodIn wsX9_whole wsX9_colour := goodIn_r _ [5] (by decide +kernel) (by decide +kernel)
set_option maxRecDepth 20000 in
theorem gX9_whole_X9_colour : GoodIn wsX9_whole (va_wsS RX9 67 yX9_colour wsX9_colour) := goodIn_app (goodIn_of _ (by decide +kernel)) ggX9_whole_X9_colour
set_option maxRecDepth 20000 in
theorem ggX9_whole_X9_isPlace : GoodIn wsX9_whole wsX9_isPlace := goodIn_r _ [8, 9, 10, 4, 11] (by decide +kernel) (by decide +kernel)
set_option maxRecDepth 20000 in
theorem gX9_whole_X9_isPlace : GoodIn wsX9_whole (va_wsS RX9 47 yX9_isPlace wsX9_isPlace) := goodIn_app (goodIn_of _ (by decide +kernel)) ggX9_whole_X9_isPlace
set_option maxRecDepth 20000 in
theorem ggX9_whole_X9_at : GoodIn wsX9_whole wsX9_at := goodIn_r _ [14] (by decide +kernel) (by decide +kernel)
set_option maxRecDepth 20000 in
theorem gX9_whole_X9_at : GoodIn wsX9_whole (va_wsS RX9 56 yX9_at wsX9_at) := goodIn_app (goodIn_of _ (by decide +kernel)) ggX9_whole_X9_at
