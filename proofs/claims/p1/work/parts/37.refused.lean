set_option maxRecDepth 20000 in
theorem ggX9_paint_X9_isPlace : GoodIn wsX9_paint wsX9_isPlace := goodIn_r _ [8, 9, 10, 7, 11] (by decide +kernel) (by decide +kernel)
set_option maxRecDepth 20000 in
theorem gX9_paint_X9_isPlace : GoodIn wsX9_paint (va_wsS RX9 47 yX9_isPlace wsX9_isPlace) := goodIn_app (goodIn_of _ (by decide +kernel)) ggX9_paint_X9_isPlace
set_option maxRecDepth 20000 in
theorem ggX9_paint_X9_no : GoodIn wsX9_paint wsX9_no := goodIn_r _ [15, 1, 19, 20, 21, 22, 23, 24, 25, 26] (by decide +kernel) (by decide +kernel)
set_option maxRecDepth 20000 in
theorem gX9_paint_X9_no : GoodIn wsX9_paint (wsV RX9 51 RX9 yX9_no wsX9_no) := goodIn_app (goodIn_of _ (by decide +kernel)) ggX9_paint_X9_no
set_option maxRecDepth 20000 in
theorem ggX9_paint_X9_in : GoodIn wsX9_paint wsX9_in := goodIn_r _ [11] (by decide +kernel) (by decide +kernel)
set_option maxRecDepth 20000 in
theorem gX9_paint_X9_in : GoodIn wsX9_paint (va_wsS RX9 37 yX9_in wsX9_in) := goodIn_app (goodIn_of _ (by decide +kernel)) ggX9_paint_X9_in
set_option maxRecDepth 20000 in
theorem ggX9_lamp_X9_in : GoodIn wsX9_lamp wsX9_in := goodIn_r _ [6] (by decide +kernel) (by decide +kernel)
set_option maxRecDepth 20000 in
theorem gX9_lamp_X9_in : GoodIn wsX9_lamp (va_wsS RX9 37 yX9_in wsX9_in) := goodIn_app (goodIn_of _ (by decide +kernel)) ggX9_lamp_X9_in
set_option maxRecDepth 20000 in
theorem ggX9_lamp_X9_no : GoodIn wsX9_lamp wsX9_no := goodIn_r _ [10, 1, 11, 12, 13, 14, 15, 16, 17, 18] (by decide +kernel) (by decide +kernel)
set_option maxRecDepth 20000 in
theorem gX9_lamp_X9_no : GoodIn wsX9_lamp (wsV RX9 51 RX9 yX9_no wsX9_no) := goodIn_app (goodIn_of _ (by decide +kernel)) ggX9_lamp_X9_no
set_option maxRecDepth 20000 in
theorem ggX9_spoil_X9_isPlace : GoodIn wsX9_spoil wsX9_isPlace := goodIn_r _ [6, 7, 8, 5, 9] (by decide +kernel) (by decide +kernel)
set_option maxRecDepth 20000 in
theorem gX9_spoil_X9_isPlace : GoodIn wsX9_spoil (va_wsS RX9 47 yX9_isPlace wsX9_isPlace) := goodIn_app (goodIn_of _ (by decide +kernel)) ggX9_spoil_X9_isPlace
set_option maxRecDepth 20000 in
theorem ggX9_spoil_X9_no : GoodIn wsX9_spoil wsX9_no := goodIn_r _ [13, 1, 17, 18, 19, 20, 21, 22, 23, 24] (by decide +kernel) (by decide +kernel)
set_option maxRecDepth 20000 in
theorem gX9_spoil_X9_no : GoodIn wsX9_spoil (wsV RX9 51 RX9 yX9_no wsX9_no) := goodIn_app (goodIn_of _ (by decide +kernel)) ggX9_spoil_X9_no
set_option maxRecDepth 20000 in
theorem ggX9_spoil_X9_in : GoodIn wsX9_spoil wsX9_in := goodIn_r _ [9] (by decide +kernel) (by decide +kernel)
set_option maxRecDepth 20000 in
theorem gX9_spoil_X9_in : GoodIn wsX9_spoil (va_wsS RX9 37 yX9_in wsX9_in) := goodIn_app (goodIn_of _ (by decide +kernel)) ggX9_spoil_X9_in
set_option maxRecDepth 20000 in
theorem ggX9_spoil_X9_at : GoodIn wsX9_spoil wsX9_at := goodIn_r _ [16] (by decide +kernel) (by decide +kernel)
set_option maxRecDepth 20000 in
theorem gX9_spoil_X9_at : GoodIn wsX9_spoil (va_wsS RX9 56 yX9_at wsX9_at) := goodIn_app (goodIn_of _ (by decide +kernel)) ggX9_spoil_X9_at
set_option maxRecDepth 20000 in
theorem ggX9_map_X9_isPlace : GoodIn wsX9_map wsX9_isPlace := goodIn_r _ [6, 7, 8, 5, 9] (by decide +kernel) (by decide +kernel)
set_option maxRecDepth 20000 in
theorem gX9_map_X9_isPlace : GoodIn wsX9_map (va_wsS RX9 47 yX9_isPlace wsX9_isPlace) := goodIn_app (goodIn_of _ (by decide +kernel)) ggX9_map_X9_isPlace
set_option maxRecDepth 20000 in
theorem ggX9_map_X9_no : GoodIn wsX9_map wsX9_no := goodIn_r _ [13, 1, 21, 22, 23, 24, 25, 26, 27, 28] (by decide +kernel) (by decide +kernel)
set_option maxRecDepth 20000 in
theorem gX9_map_X9_no : GoodIn wsX9_map (wsV RX9 51 RX9 yX9_no wsX9_no) := goodIn_app (goodIn_of _ (by decide +kernel)) ggX9_map_X9_no
set_option maxRecDepth 20000 in
theorem ggX9_map_X9_at : GoodIn wsX9_map wsX9_at := goodIn_r _ [16] (by decide +kernel) (by decide +kernel)
set_option maxRecDepth 20000 in
theorem gX9_map_X9_at : GoodIn wsX9_map (va_wsS RX9 56 yX9_at wsX9_at) := goodIn_app (goodIn_of _ (by decide +kernel)) ggX9_map_X9_at
set_option maxRecDepth 20000 in
theorem ggX9_map_X9_mapped : GoodIn wsX9_map wsX9_mapped := goodIn_r _ [20, 2, 21, 22, 23, 24, 25, 26, 27, 28] (by decide +kernel) (by decide +kernel)
set_option maxRecDepth 20000 in
theorem gX9_map_X9_mapped : GoodIn wsX9_map (wsV RX9 61 RX9 yX9_mapped wsX9_mapped) := goodIn_app (goodIn_of _ (by decide +kernel)) ggX9_map_X9_mapped
set_option maxRecDepth 20000 in
theorem ggX9_edit_X9_isFrame : GoodIn wsX9_edit wsX9_isFrame := goodIn_r _ [10, 2, 11, 12, 13, 14, 15, 16, 17, 18, 9, 19, 97, 98, 99, 100, 101, 102, 103, 104, 110, 111, 112] (by decide +kernel) (by decide +kernel)
set_option maxRecDepth 20000 in
theorem gX9_edit_X9_isFrame : GoodIn wsX9_edit (wsV RX9 112 RX9 yX9_isFrame wsX9_isFrame) := goodIn_app (goodIn_of _ (by decide +kernel)) ggX9_edit_X9_isFrame
set_option maxRecDepth 20000 in
theorem ggX9_edit_X9_no : GoodIn wsX9_edit wsX9_no := goodIn_r _ [23, 1, 97, 98, 99, 100, 101, 102, 103, 104] (by decide +kernel) (by decide +kernel)
set_option maxRecDepth 20000 in
theorem gX9_edit_X9_no : GoodIn wsX9_edit (wsV RX9 51 RX9 yX9_no wsX9_no) := goodIn_app (goodIn_of _ (by decide +kernel)) ggX9_edit_X9_no
set_option maxRecDepth 20000 in
theorem ggX9_undo_X9_isFrame : GoodIn wsX9_undo wsX9_isFrame := goodIn_r _ [10, 2, 11, 12, 13, 14, 15, 16, 17, 18, 9, 19, 55, 56, 57, 58, 59, 60, 61, 62, 68, 69, 70] (by decide +kernel) (by decide +kernel)
set_option maxRecDepth 20000 in
theorem gX9_undo_X9_isFrame : GoodIn wsX9_undo (wsV RX9 112 RX9 yX9_isFrame wsX9_isFrame) := goodIn_app (goodIn_of _ (by decide +kernel)) ggX9_undo_X9_isFrame
set_option maxRecDepth 20000 in
theorem ggX9_undo_X9_no : GoodIn wsX9_undo wsX9_no := goodIn_r _ [23, 1, 55, 56, 57, 58, 59, 60, 61, 62] (by decide +kernel) (by decide +kernel)
set_option maxRecDepth 20000 in
theorem gX9_undo_X9_no : GoodIn wsX9_undo (wsV RX9 51 RX9 yX9_no wsX9_no) := goodIn_app (goodIn_of _ (by decide +kernel)) ggX9_undo_X9_no
set_option maxRecDepth 20000 in
theorem ggX9_save_X9_isFrame : GoodIn wsX9_save wsX9_isFrame := goodIn_r _ [15, 6, 16, 17, 18, 19, 20, 21, 22, 23, 14, 24, 129, 130, 131, 132, 133, 134, 135, 136, 145, 146, 147] (by decide +kernel) (by decide +kernel)
set_option maxRecDepth 20000 in
theorem gX9_save_X9_isFrame : GoodIn wsX9_save (wsV RX9 112 RX9 yX9_isFrame wsX9_isFrame) := goodIn_app (goodIn_of _ (by decide +kernel)) ggX9_save_X9_isFrame
set_option maxRecDepth 20000 in
theorem ggX9_save_X9_no : GoodIn wsX9_save wsX9_no := goodIn_r _ [28, 1, 129, 130, 131, 132, 133, 134, 135, 136] (by decide +kernel) (by decide +kernel)
set_option maxRecDepth 20000 in
theorem gX9_save_X9_no : GoodIn wsX9_save (wsV RX9 51 RX9 yX9_no wsX9_no) := goodIn_app (goodIn_of _ (by decide +kernel)) ggX9_save_X9_no
set_option maxRecDepth 20000 in
theorem ggX9_raw_X9_isFrame : GoodIn wsX9_raw wsX9_isFrame := goodIn_r _ [9, 2, 10, 11, 12, 13, 14, 15, 16, 17, 8, 18, 46, 47, 48, 49, 50, 51, 52, 53, 59, 60, 61] (by decide +kernel) (by decide +kernel)
set_option maxRecDepth 20000 in
theorem gX9_raw_X9_isFrame : GoodIn wsX9_raw (wsV RX9 112 RX9 yX9_isFrame wsX9_isFrame) := goodIn_app (goodIn_of _ (by decide +kernel)) ggX9_raw_X9_isFrame
set_option maxRecDepth 20000 in
theorem ggX9_raw_X9_no : GoodIn wsX9_raw wsX9_no := goodIn_r _ [25, 1, 46, 47, 48, 49, 50, 51, 52, 53] (by decide +kernel) (by decide +kernel)
set_option maxRecDepth 20000 in
theorem gX9_raw_X9_no : GoodIn wsX9_raw (wsV RX9 51 RX9 yX9_no wsX9_no) := goodIn_app (goodIn_of _ (by decide +kernel)) ggX9_raw_X9_no
set_option maxRecDepth 20000 in
theorem ggX9_word__X9_isFrame : GoodIn wsX9_word_ wsX9_isFrame := goodIn_r _ [6, 7, 8, 9, 10, 11, 12, 13, 14, 15, 5, 16, 94, 95, 96, 97, 98, 99, 100, 101, 102, 103, 104] (by decide +kernel) (by decide +kernel)
set_option maxRecDepth 20000 in
theorem gX9_word__X9_isFrame : GoodIn wsX9_word_ (wsV RX9 112 RX9 yX9_isFrame wsX9_isFrame) := goodIn_app (goodIn_of _ (by decide +kernel)) ggX9_word__X9_isFrame
set_option maxRecDepth 20000 in
theorem ggX9_word__X9_no : GoodIn wsX9_word_ wsX9_no := goodIn_r _ [20, 1, 94, 95, 96, 97, 98, 99, 100, 101] (by decide +kernel) (by decide +kernel)
set_option maxRecDepth 20000 in
theorem gX9_word__X9_no : GoodIn wsX9_word_ (wsV RX9 51 RX9 yX9_no wsX9_no) := goodIn_app (goodIn_of _ (by decide +kernel)) ggX9_word__X9_no
set_option maxRecDepth 20000 in
theorem ggX9_ofFrame_X9_isFrame : GoodIn wsX9_ofFrame wsX9_isFrame := goodIn_r _ [6, 7, 8, 9, 10, 11, 12, 13, 14, 15, 5, 16, 85, 86, 87, 88, 89, 90, 91, 92, 93, 94, 95] (by decide +kernel) (by decide +kernel)
set_option maxRecDepth 20000 in
theorem gX9_ofFrame_X9_isFrame : GoodIn wsX9_ofFrame (wsV RX9 112 RX9 yX9_isFrame wsX9_isFrame) := goodIn_app (goodIn_of _ (by decide +kernel)) ggX9_ofFrame_X9_isFrame
set_option maxRecDepth 20000 in
theorem ggX9_ofFrame_X9_no : GoodIn wsX9_ofFrame wsX9_no := goodIn_r _ [20, 1, 85, 86, 87, 88, 89, 90, 91, 92] (by decide +kernel) (by decide +kernel)
set_option maxRecDepth 20000 in
theorem gX9_ofFrame_X9_no : GoodIn wsX9_ofFrame (wsV RX9 51 RX9 yX9_no wsX9_no) := goodIn_app (goodIn_of _ (by decide +kernel)) ggX9_ofFrame_X9_no
set_option maxRecDepth 20000 in
theorem ggX9_ofEdit_X9_isFrame : GoodIn wsX9_ofEdit wsX9_isFrame := goodIn_r _ [10, 2, 11, 12, 13, 14, 15, 16, 17, 18, 9, 19, 41, 42, 43, 44, 45, 46, 47, 48, 54, 55, 56] (by decide +kernel) (by decide +kernel)
set_option maxRecDepth 20000 in
theorem gX9_ofEdit_X9_isFrame : GoodIn wsX9_ofEdit (wsV RX9 112 RX9 yX9_isFrame wsX9_isFrame) := goodIn_app (goodIn_of _ (by decide +kernel)) ggX9_ofEdit_X9_isFrame
set_option maxRecDepth 20000 in
theorem ggX9_ofEdit_X9_no : GoodIn wsX9_ofEdit wsX9_no := goodIn_r _ [40, 1, 41, 42, 43, 44, 45, 46, 47, 48] (by decide +kernel) (by decide +kernel)
set_option maxRecDepth 20000 in
theorem gX9_ofEdit_X9_no : GoodIn wsX9_ofEdit (wsV RX9 51 RX9 yX9_no wsX9_no) := goodIn_app (goodIn_of _ (by decide +kernel)) ggX9_ofEdit_X9_no
set_option maxRecDepth 20000 in
theorem ggX9_bestWhite_X9_isFrame : GoodIn wsX9_bestWhite wsX9_isFrame := goodIn_r _ [18, 2, 19, 20, 21, 6, 22, 23, 24, 25, 17, 26, 160, 161, 162, 163, 164, 165, 166, 167, 168, 169, 170] (by decide +kernel) (by decide +kernel)
set_option maxRecDepth 20000 in
theorem gX9_bestWhite_X9_isFrame : GoodIn wsX9_bestWhite (wsV RX9 112 RX9 yX9_isFrame wsX9_isFrame) := goodIn_app (goodIn_of _ (by decide +kernel)) ggX9_bestWhite_X9_isFrame
set_option maxRecDepth 20000 in
theorem ggX9_bestWhite_X9_no : GoodIn wsX9_bestWhite wsX9_no := goodIn_r _ [30, 1, 160, 161, 162, 163, 164, 165, 166, 167] (by decide +kernel) (by decide +kernel)
set_option maxRecDepth 20000 in
theorem gX9_bestWhite_X9_no : GoodIn wsX9_bestWhite (wsV RX9 51 RX9 yX9_no wsX9_no) := goodIn_app (goodIn_of _ (by decide +kernel)) ggX9_bestWhite_X9_no
set_option maxRecDepth 20000 in
theorem ggX9_zone_X9_isFrame : GoodIn wsX9_zone wsX9_isFrame := goodIn_r _ [8, 2, 9, 10, 11, 12, 13, 14, 15, 16, 7, 17, 48, 49, 50, 51, 52, 53, 54, 55, 56, 57, 58] (by decide +kernel) (by decide +kernel)
set_option maxRecDepth 20000 in
theorem gX9_zone_X9_isFrame : GoodIn wsX9_zone (wsV RX9 112 RX9 yX9_isFrame wsX9_isFrame) := goodIn_app (goodIn_of _ (by decide +kernel)) ggX9_zone_X9_isFrame
set_option maxRecDepth 20000 in
theorem ggX9_zone_X9_no : GoodIn wsX9_zone wsX9_no := goodIn_r _ [21, 1, 48, 49, 50, 51, 52, 53, 54, 55] (by decide +kernel) (by decide +kernel)
set_option maxRecDepth 20000 in
theorem gX9_zone_X9_no : GoodIn wsX9_zone (wsV RX9 51 RX9 yX9_no wsX9_no) := goodIn_app (goodIn_of _ (by decide +kernel)) ggX9_zone_X9_no
set_option maxRecDepth 20000 in
theorem ggX9_meter_X9_isFrame : GoodIn wsX9_meter wsX9_isFrame := goodIn_r _ [8, 2, 9, 10, 11, 12, 13, 14, 15, 16, 7, 17, 53, 54, 55, 56, 57, 58, 59, 60, 61, 62, 63] (by decide +kernel) (by decide +kernel)
set_option maxRecDepth 20000 in
theorem gX9_meter_X9_isFrame : GoodIn wsX9_meter (wsV RX9 112 RX9 yX9_isFrame wsX9_isFrame) := goodIn_app (goodIn_of _ (by decide +kernel)) ggX9_meter_X9_isFrame
set_option maxRecDepth 20000 in
theorem ggX9_meter_X9_no : GoodIn wsX9_meter wsX9_no := goodIn_r _ [21, 1, 53, 54, 55, 56, 57, 58, 59, 60] (by decide +kernel) (by decide +kernel)
set_option maxRecDepth 20000 in
theorem gX9_meter_X9_no : GoodIn wsX9_meter (wsV RX9 51 RX9 yX9_no wsX9_no) := goodIn_app (goodIn_of _ (by decide +kernel)) ggX9_meter_X9_no
set_option maxRecDepth 20000 in
theorem ggX9_apart_X9_isFrame : GoodIn wsX9_apart wsX9_isFrame := goodIn_r _ [6, 7, 8, 9, 10, 11, 12, 13, 14, 15, 5, 16, 98, 99, 100, 101, 102, 103, 104, 105, 106, 107, 108] (by decide +kernel) (by decide +kernel)
set_option maxRecDepth 20000 in
theorem gX9_apart_X9_isFrame : GoodIn wsX9_apart (wsV RX9 112 RX9 yX9_isFrame wsX9_isFrame) := goodIn_app (goodIn_of _ (by decide +kernel)) ggX9_apart_X9_isFrame
set_option maxRecDepth 20000 in
theorem ggX9_apart_X9_no : GoodIn wsX9_apart wsX9_no := goodIn_r _ [20, 1, 98, 99, 100, 101, 102, 103, 104, 105] (by decide +kernel) (by decide +kernel)
set_option maxRecDepth 20000 in
theorem gX9_apart_X9_no : GoodIn wsX9_apart (wsV RX9 51 RX9 yX9_no wsX9_no) := goodIn_app (goodIn_of _ (by decide +kernel)) ggX9_apart_X9_no
set_option maxRecDepth 20000 in
theorem ggX9_picture___X9_isFrame : GoodIn wsX9_picture__ wsX9_isFrame := goodIn_r _ [6, 7, 8, 9, 10, 11, 12, 13, 14, 15, 5, 16, 91, 92, 93, 94, 95, 96, 97, 98, 99, 100, 101] (by decide +kernel) (by decide +kernel)
set_option maxRecDepth 20000 in
theorem gX9_picture___X9_isFrame : GoodIn wsX9_picture__ (wsV RX9 112 RX9 yX9_isFrame wsX9_isFrame) := goodIn_app (goodIn_of _ (by decide +kernel)) ggX9_picture___X9_isFrame
set_option maxRecDepth 20000 in
theorem ggX9_picture___X9_no : GoodIn wsX9_picture__ wsX9_no := goodIn_r _ [23, 1, 91, 92, 93, 94, 95, 96, 97, 98] (by decide +kernel) (by decide +kernel)
set_option maxRecDepth 20000 in
theorem gX9_picture___X9_no : GoodIn wsX9_picture__ (wsV RX9 51 RX9 yX9_no wsX9_no) := goodIn_app (goodIn_of _ (by decide +kernel)) ggX9_picture___X9_no
set_option maxRecDepth 20000 in
theorem ggX9_merge_Jx4a65c_size_8abf5 : GoodIn wsX9_merge wsJx4a65c_size_8abf5 := goodIn_r _ [20, 21, 137, 138, 139] (by decide +kernel) (by decide +kernel)
set_option maxRecDepth 20000 in
theorem gX9_merge_Jx4a65c_size_8abf5_f41Jx4a65c : GoodIn wsX9_merge (va_wsF RX9 41 RJx4a65c ⟨"java/util/List", "size", "()I"⟩ yJx4a65c_size_8abf5 wsJx4a65c_size_8abf5) := goodIn_app (goodIn_of _ (by decide +kernel)) ggX9_merge_Jx4a65c_size_8abf5
set_option maxRecDepth 20000 in
theorem ggX9_merge_X9_in : GoodIn wsX9_merge wsX9_in := goodIn_r _ [25] (by decide +kernel) (by decide +kernel)
set_option maxRecDepth 20000 in
theorem gX9_merge_X9_in : GoodIn wsX9_merge (va_wsS RX9 37 yX9_in wsX9_in) := goodIn_app (goodIn_of _ (by decide +kernel)) ggX9_merge_X9_in
set_option maxRecDepth 20000 in
theorem ggX9_merge_X9_no : GoodIn wsX9_merge wsX9_no := goodIn_r _ [29, 1, 124, 125, 126, 127, 128, 129, 130, 131] (by decide +kernel) (by decide +kernel)
set_option maxRecDepth 20000 in
theorem gX9_merge_X9_no : GoodIn wsX9_merge (wsV RX9 51 RX9 yX9_no wsX9_no) := goodIn_app (goodIn_of _ (by decide +kernel)) ggX9_merge_X9_no
set_option maxRecDepth 20000 in
theorem ggX9_ofFile_Jx4a65c_size_8abf5 : GoodIn wsX9_ofFile wsJx4a65c_size_8abf5 := goodIn_r _ [7, 8, 102, 103, 104] (by decide +kernel) (by decide +kernel)
set_option maxRecDepth 20000 in
theorem gX9_ofFile_Jx4a65c_size_8abf5_f41Jx4a65c : GoodIn wsX9_ofFile (va_wsF RX9 41 RJx4a65c ⟨"java/util/List", "size", "()I"⟩ yJx4a65c_size_8abf5 wsJx4a65c_size_8abf5) := goodIn_app (goodIn_of _ (by decide +kernel)) ggX9_ofFile_Jx4a65c_size_8abf5
set_option maxRecDepth 20000 in
theorem ggX9_ofFile_X9_in : GoodIn wsX9_ofFile wsX9_in := goodIn_r _ [12] (by decide +kernel) (by decide +kernel)
set_option maxRecDepth 20000 in
theorem gX9_ofFile_X9_in : GoodIn wsX9_ofFile (va_wsS RX9 37 yX9_in wsX9_in) := goodIn_app (goodIn_of _ (by decide +kernel)) ggX9_ofFile_X9_in
set_option maxRecDepth 20000 in
theorem ggX9_ofFile_X9_no : GoodIn wsX9_ofFile wsX9_no := goodIn_r _ [16, 1, 94, 95, 96, 97, 98, 99, 100, 101] (by decide +kernel) (by decide +kernel)
set_option maxRecDepth 20000 in
theorem gX9_ofFile_X9_no : GoodIn wsX9_ofFile (wsV RX9 51 RX9 yX9_no wsX9_no) := goodIn_app (goodIn_of _ (by decide +kernel)) ggX9_ofFile_X9_no
set_option maxRecDepth 20000 in
theorem ggX9_take_X9_in : GoodIn wsX9_take wsX9_in := goodIn_r _ [6] (by decide +kernel) (by decide +kernel)
set_option maxRecDepth 20000 in
theorem gX9_take_X9_in : GoodIn wsX9_take (va_wsS RX9 37 yX9_in wsX9_in) := goodIn_app (goodIn_of _ (by decide +kernel)) ggX9_take_X9_in
set_option maxRecDepth 20000 in
theorem ggX9_take_X9_no : GoodIn wsX9_take wsX9_no := goodIn_r _ [10, 1, 115, 116, 117, 118, 119, 120, 121, 122] (by decide +kernel) (by decide +kernel)
set_option maxRecDepth 20000 in
theorem gX9_take_X9_no : GoodIn wsX9_take (wsV RX9 51 RX9 yX9_no wsX9_no) := goodIn_app (goodIn_of _ (by decide +kernel)) ggX9_take_X9_no
set_option maxRecDepth 20000 in
theorem ggX9_wouldClip_X9_in : GoodIn wsX9_wouldClip wsX9_in := goodIn_r _ [5] (by decide +kernel) (by decide +kernel)
set_option maxRecDepth 20000 in
theorem gX9_wouldClip_X9_in : GoodIn wsX9_wouldClip (va_wsS RX9 37 yX9_in wsX9_in) := goodIn_app (goodIn_of _ (by decide +kernel)) ggX9_wouldClip_X9_in
set_option maxRecDepth 20000 in
theorem ggX9_wouldClip_X9_no : GoodIn wsX9_wouldClip wsX9_no := goodIn_r _ [9, 1, 66, 67, 68, 69, 70, 71, 72, 73] (by decide +kernel) (by decide +kernel)
set_option maxRecDepth 20000 in
theorem gX9_wouldClip_X9_no : GoodIn wsX9_wouldClip (wsV RX9 51 RX9 yX9_no wsX9_no) := goodIn_app (goodIn_of _ (by decide +kernel)) ggX9_wouldClip_X9_no
set_option maxRecDepth 20000 in
theorem ggX9_many_X9_in : GoodIn wsX9_many wsX9_in := goodIn_r _ [5] (by decide +kernel) (by decide +kernel)
set_option maxRecDepth 20000 in
theorem gX9_many_X9_in : GoodIn wsX9_many (va_wsS RX9 37 yX9_in wsX9_in) := goodIn_app (goodIn_of _ (by decide +kernel)) ggX9_many_X9_in
set_option maxRecDepth 20000 in
theorem ggX9_many_X9_no : GoodIn wsX9_many wsX9_no := goodIn_r _ [9, 1, 49, 50, 51, 52, 53, 54, 55, 56] (by decide +kernel) (by decide +kernel)
set_option maxRecDepth 20000 in
theorem gX9_many_X9_no : GoodIn wsX9_many (wsV RX9 51 RX9 yX9_no wsX9_no) := goodIn_app (goodIn_of _ (by decide +kernel)) ggX9_many_X9_no
set_option maxRecDepth 20000 in
theorem ggX9_bestTake_X9_in : GoodIn wsX9_bestTake wsX9_in := goodIn_r _ [5] (by decide +kernel) (by decide +kernel)
set_option maxRecDepth 20000 in
theorem gX9_bestTake_X9_in : GoodIn wsX9_bestTake (va_wsS RX9 37 yX9_in wsX9_in) := goodIn_app (goodIn_of _ (by decide +kernel)) ggX9_bestTake_X9_in
set_option maxRecDepth 20000 in
theorem ggX9_bestTake_X9_no : GoodIn wsX9_bestTake wsX9_no := goodIn_r _ [9, 1, 84, 85, 86, 87, 88, 89, 90, 91] (by decide +kernel) (by decide +kernel)
set_option maxRecDepth 20000 in
theorem gX9_bestTake_X9_no : GoodIn wsX9_bestTake (wsV RX9 51 RX9 yX9_no wsX9_no) := goodIn_app (goodIn_of _ (by decide +kernel)) ggX9_bestTake_X9_no
set_option maxRecDepth 20000 in
theorem ggX9_ofPlace_X9_isPlace : GoodIn wsX9_ofPlace wsX9_isPlace := goodIn_r _ [9, 10, 11, 8, 12] (by decide +kernel) (by decide +kernel)
set_option maxRecDepth 20000 in
theorem gX9_ofPlace_X9_isPlace : GoodIn wsX9_ofPlace (va_wsS RX9 47 yX9_isPlace wsX9_isPlace) := goodIn_app (goodIn_of _ (by decide +kernel)) ggX9_ofPlace_X9_isPlace
set_option maxRecDepth 20000 in
theorem ggX9_ofPlace_X9_no : GoodIn wsX9_ofPlace wsX9_no := goodIn_r _ [16, 1, 23, 24, 25, 26, 27, 28, 29, 30] (by decide +kernel) (by decide +kernel)
set_option maxRecDepth 20000 in
theorem gX9_ofPlace_X9_no : GoodIn wsX9_ofPlace (wsV RX9 51 RX9 yX9_no wsX9_no) := goodIn_app (goodIn_of _ (by decide +kernel)) ggX9_ofPlace_X9_no
set_option maxRecDepth 20000 in
theorem ggX9_ofPlace_X9_in : GoodIn wsX9_ofPlace wsX9_in := goodIn_r _ [12] (by decide +kernel) (by decide +kernel)
set_option maxRecDepth 20000 in
theorem gX9_ofPlace_X9_in : GoodIn wsX9_ofPlace (va_wsS RX9 37 yX9_in wsX9_in) := goodIn_app (goodIn_of _ (by decide +kernel)) ggX9_ofPlace_X9_in
abbrev rmX9_paint : Room := { frames := 2, cells := 0, slots := 0, locals := 43 }
set_option maxRecDepth 20000 in
theorem il_X9_paint_33 : (Cond.fieldLink RX9 33 "BayerGateModel" "thrown" "I") ∈ wsX9_paint := by decide +kernel
set_option maxRecDepth 20000 in
theorem iu_X9_paint_9 : ∀ w ∈ u_ws RX9 TX9 8, w ∈ wsX9_paint := by decide +kernel
set_option maxHeartbeats 4000000 in
set_option maxRecDepth 100000 in
theorem kX9_paint_1 (l : Launch) (G : iG) (N : Nat) (ad : Nat → Nat) (C : Nat → va_E) (mo dz : Nat) (th : Int32) (hmod : Mod G N ad C mo dz th) (x y tx ty co : Int32) (h : isPl x y = false) (sz : Nat) : Met l yX9_paint wsX9_paint rmX9_paint (iPre G N ad C sz [.ref (ad mo), .int x, .int y, .int tx, .int ty, .int co]) (va_Qi (fun (r : Int32) (u : Nat → va_E) => r = nI 0 ∧ Thr ad u mo (nI 1) ∧ sameM C u mo) (iB G N ad) (iA N ad sz)) 0 0 (iA N ad sz) := by
  refine Met.ofW (cc := cX9_paint) (maxL := 8) (ret := (some .int)) (by decide) rfl ?_
  intro p e s m args below meth c s₁ B hml hv
  obtain ⟨rfl, hsz, hP, hK, hD0⟩ := hv
  have hx := B.exec
  have hb := B.bytes
  have hr := B.returns
  have hts := atoms_spec (ws := wsX9_paint) B.pre
  have hown : s.vm.findClass RX9 = some m.cls := findClass_of_methodNamed B.named
  have hlocks := B.notSynchronized
  subst hsz
  have hD := wl_self hD0 s.heap.size
  have hA : ∀ q : Nat, s.heap.size ≤ q → iA N ad s.heap.size q := fun q h => Or.inr h
  have hS : va_S (iA N ad s.heap.size) s.heap s.heap [] := va_S.rf
  have hP : va_P G.1 vwB (wl N ad C) s.heap := hP
  have hl := lv_entry ([.ref (ad mo), .int x, .int y, .int tx, .int ty, .int co]) (n := 8) (Nat.le_of_ble_eq_true rfl)
  rw [lg_entry_eq]
  generalize (lg_sl ([.ref (ad mo), .int x, .int y, .int tx, .int ty, .int co]) ++ List.replicate (8 - (lg_sl ([.ref (ad mo), .int x, .int y, .int tx, .int ty, .int co])).length) Slot.unset).toArray = ls at hl ⊢
  have hl : lv_has ls 8 [(0, .ref (ad mo)), (1, .int x), (2, .int y), (3, .int tx), (4, .int ty), (5, .int co)] := hl
  obtain ⟨hN, gm0, gm1, gm2, gm3, gm4, gm5, gm6⟩ := id hmod
  refine lv_aload_n hx hb dX9_paint_0 rfl (lv_at hl 0 rfl) ?_
  refine lv_iconst (v := nI 0) hx hb dX9_paint_1 (by decide) ?_
  refine iw_put (ty := .int) hx hb hts iu_X9_paint_9 tyX9 tyX9_ok nmX9 hown hK hP hD hS (by omega) (gm0) rfl 0 (by decide) (hts _ il_X9_paint_33) (fun _ h9 => h9) rfl (by decide +kernel) rfl rfl (Nat.le_of_ble_eq_true rfl) rfl dX9_paint_2 (fun H locs hP hD hS => ?_)
  refine lv_iload_n hx hb dX9_paint_5 rfl (lv_at hl 1 rfl) ?_
  refine lv_iload_n hx hb dX9_paint_6 rfl (lv_at hl 2 rfl) ?_
  refine iw_pi (va_runS (As := [.int x, .int y]) (rest := []) ⟨hx, hb, hml, hown, hts⟩ (kX9_isPlace l (x) (y)) (va_cwS 2 hts gX9_paint_X9_isPlace rfl rfl rfl (by decide +kernel) ⟨Nat.le_of_ble_eq_true rfl, Nat.le_of_ble_eq_true rfl⟩) ⟨fun a U g mk q => q, fun U hU hW => ⟨rfl, trivial⟩⟩ rfl rfl hl.1 rfl (lv_room (Nat.le_of_ble_eq_true rfl)) dX9_paint_7 ⟨Nat.le_of_ble_eq_true rfl, Nat.le_of_ble_eq_true rfl⟩) hP hS (fun r8 u8 H locs hw8 hP hS => ?_)
  refine lv_asI hw8 ?_
  refine lv_asI (y := nI 0) (by rw [h]; rfl) ?_
  refine lv_if_eq (tgt := 22) hx hb dX9_paint_10 (by decide) (fun _ => ?_) (fun c9 => absurd (by decide) c9)
  refine lv_aload_n hx hb dX9_paint_22 rfl (lv_at hl 0 rfl) ?_
  refine lv_iconst (v := nI 1) hx hb dX9_paint_23 (by decide) ?_
  refine iw_i (va_runV (As := [.int (nI 1)]) (rest := []) ⟨hx, hb, hml, hown, hts⟩ (kX9_no l G N ad _ mo (by omega) (nI 0) (nI 1) (va_us _ _ _) _) (cwV 1 hts gX9_paint_X9_no rfl rfl rfl (by decide +kernel) ⟨Nat.le_of_ble_eq_true rfl, Nat.le_of_ble_eq_true rfl⟩) (iPV hK hP hD (by omega) (va_us _ _ _) rfl [.int (nI 1)]) rfl rfl hl.1 rfl (lv_room (Nat.le_of_ble_eq_true rfl)) dX9_paint_24 ⟨Nat.le_of_ble_eq_true rfl, Nat.le_of_ble_eq_true rfl⟩) hD hS hA (fun r8 u8 H locs hw8 hP hD hS => ?_)
  obtain ⟨hr8, hu8⟩ := hw8
  refine lv_asI hr8 ?_
  rw [hu8] at hP hD
  rw [va_uu _ _ _ _] at hP hD
  exact W.iret (v := (nI 0)) hx hb hr (fun t ht hW => ⟨⟨_, _, rfl, ⟨rfl, ⟨_, va_us _ _ _⟩, sameM_up (sameM_rf) _ (by omega) (by omega)⟩, iB_of ht hP⟩, hS.F ht⟩) hS.2.2 dX9_paint_27
set_option maxHeartbeats 4000000 in
set_option maxRecDepth 100000 in
theorem kX9_paint_2 (l : Launch) (G : iG) (N : Nat) (ad : Nat → Nat) (C : Nat → va_E) (mo dz : Nat) (th : Int32) (hmod : Mod G N ad C mo dz th) (x y : Nat) (hx8 : x < 8) (hy8 : y < 8) (tx ty co : Int32) (h : isPl tx ty = false) (sz : Nat) : Met l yX9_paint wsX9_paint rmX9_paint (iPre G N ad C sz [.ref (ad mo), .int (nI x), .int (nI y), .int tx, .int ty, .int co]) (va_Qi (fun (r : Int32) (u : Nat → va_E) => r = nI 0 ∧ Thr ad u mo (nI 1) ∧ sameM C u mo) (iB G N ad) (iA N ad sz)) 0 0 (iA N ad sz) := by
  refine Met.ofW (cc := cX9_paint) (maxL := 8) (ret := (some .int)) (by decide) rfl ?_
  intro p e s m args below meth c s₁ B hml hv
  obtain ⟨rfl, hsz, hP, hK, hD0⟩ := hv
  have hx := B.exec
  have hb := B.bytes
  have hr := B.returns
  have hts := atoms_spec (ws := wsX9_paint) B.pre
  have hown : s.vm.findClass RX9 = some m.cls := findClass_of_methodNamed B.named
  have hlocks := B.notSynchronized
  subst hsz
  have hD := wl_self hD0 s.heap.size
  have hA : ∀ q : Nat, s.heap.size ≤ q → iA N ad s.heap.size q := fun q h => Or.inr h
  have hS : va_S (iA N ad s.heap.size) s.heap s.heap [] := va_S.rf
  have hP : va_P G.1 vwB (wl N ad C) s.heap := hP
  have hl := lv_entry ([.ref (ad mo), .int (nI x), .int (nI y), .int tx, .int ty, .int co]) (n := 8) (Nat.le_of_ble_eq_true rfl)
  rw [lg_entry_eq]
  generalize (lg_sl ([.ref (ad mo), .int (nI x), .int (nI y), .int tx, .int ty, .int co]) ++ List.replicate (8 - (lg_sl ([.ref (ad mo), .int (nI x), .int (nI y), .int tx, .int ty, .int co])).length) Slot.unset).toArray = ls at hl ⊢
  have hl : lv_has ls 8 [(0, .ref (ad mo)), (1, .int (nI x)), (2, .int (nI y)), (3, .int tx), (4, .int ty), (5, .int co)] := hl
  obtain ⟨hN, gm0, gm1, gm2, gm3, gm4, gm5, gm6⟩ := id hmod
  refine lv_aload_n hx hb dX9_paint_0 rfl (lv_at hl 0 rfl) ?_
  refine lv_iconst (v := nI 0) hx hb dX9_paint_1 (by decide) ?_
  refine iw_put (ty := .int) hx hb hts iu_X9_paint_9 tyX9 tyX9_ok nmX9 hown hK hP hD hS (by omega) (gm0) rfl 0 (by decide) (hts _ il_X9_paint_33) (fun _ h9 => h9) rfl (by decide +kernel) rfl rfl (Nat.le_of_ble_eq_true rfl) rfl dX9_paint_2 (fun H locs hP hD hS => ?_)
  refine lv_iload_n hx hb dX9_paint_5 rfl (lv_at hl 1 rfl) ?_
  refine lv_iload_n hx hb dX9_paint_6 rfl (lv_at hl 2 rfl) ?_
  refine iw_pi (va_runS (As := [.int (nI x), .int (nI y)]) (rest := []) ⟨hx, hb, hml, hown, hts⟩ (kX9_isPlace l (nI x) (nI y)) (va_cwS 2 hts gX9_paint_X9_isPlace rfl rfl rfl (by decide +kernel) ⟨Nat.le_of_ble_eq_true rfl, Nat.le_of_ble_eq_true rfl⟩) ⟨fun a U g mk q => q, fun U hU hW => ⟨rfl, trivial⟩⟩ rfl rfl hl.1 rfl (lv_room (Nat.le_of_ble_eq_true rfl)) dX9_paint_7 ⟨Nat.le_of_ble_eq_true rfl, Nat.le_of_ble_eq_true rfl⟩) hP hS (fun r8 u8 H locs hw8 hP hS => ?_)
  refine lv_asI hw8 ?_
  refine lv_asI (y := nI 1) (by rw [isPl_ok (by omega) (by omega)]; rfl) ?_
  refine lv_if_eq (tgt := 22) hx hb dX9_paint_10 (by decide) (fun c9 => absurd c9 (by decide)) (fun _ => ?_)
  refine lv_iload_n hx hb dX9_paint_13 rfl (lv_at hl 3 rfl) ?_
  refine lv_iload hx hb dX9_paint_14 (lv_at hl 4 rfl) ?_
  refine iw_pi (va_runS (As := [.int tx, .int ty]) (rest := []) ⟨hx, hb, hml, hown, hts⟩ (kX9_isPlace l (tx) (ty)) (va_cwS 2 hts gX9_paint_X9_isPlace rfl rfl rfl (by decide +kernel) ⟨Nat.le_of_ble_eq_true rfl, Nat.le_of_ble_eq_true rfl⟩) ⟨fun a U g mk q => q, fun U hU hW => ⟨rfl, trivial⟩⟩ rfl rfl hl.1 rfl (lv_room (Nat.le_of_ble_eq_true rfl)) dX9_paint_16 ⟨Nat.le_of_ble_eq_true rfl, Nat.le_of_ble_eq_true rfl⟩) hP hS (fun r8 u8 H locs hw8 hP hS => ?_)
  refine lv_asI hw8 ?_
  refine lv_asI (y := nI 0) (by rw [h]; rfl) ?_
  refine lv_if_ne (tgt := 28) hx hb dX9_paint_19 (by decide) (fun c9 => absurd (by decide) c9) (fun _ => ?_)
  refine lv_aload_n hx hb dX9_paint_22 rfl (lv_at hl 0 rfl) ?_
  refine lv_iconst (v := nI 1) hx hb dX9_paint_23 (by decide) ?_
  refine iw_i (va_runV (As := [.int (nI 1)]) (rest := []) ⟨hx, hb, hml, hown, hts⟩ (kX9_no l G N ad _ mo (by omega) (nI 0) (nI 1) (va_us _ _ _) _) (cwV 1 hts gX9_paint_X9_no rfl rfl rfl (by decide +kernel) ⟨Nat.le_of_ble_eq_true rfl, Nat.le_of_ble_eq_true rfl⟩) (iPV hK hP hD (by omega) (va_us _ _ _) rfl [.int (nI 1)]) rfl rfl hl.1 rfl (lv_room (Nat.le_of_ble_eq_true rfl)) dX9_paint_24 ⟨Nat.le_of_ble_eq_true rfl, Nat.le_of_ble_eq_true rfl⟩) hD hS hA (fun r8 u8 H locs hw8 hP hD hS => ?_)
  obtain ⟨hr8, hu8⟩ := hw8
  refine lv_asI hr8 ?_
  rw [hu8] at hP hD
  rw [va_uu _ _ _ _] at hP hD
  exact W.iret (v := (nI 0)) hx hb hr (fun t ht hW => ⟨⟨_, _, rfl, ⟨rfl, ⟨_, va_us _ _ _⟩, sameM_up (sameM_rf) _ (by omega) (by omega)⟩, iB_of ht hP⟩, hS.F ht⟩) hS.2.2 dX9_paint_27
set_option maxHeartbeats 4000000 in
set_option maxRecDepth 100000 in
theorem kX9_paint_3 (l : Launch) (G : iG) (N : Nat) (ad : Nat → Nat) (C : Nat → va_E) (mo dz : Nat) (th : Int32) (hmod : Mod G N ad C mo dz th) (x y tx ty : Nat) (hx8 : x < 8) (hy8 : y < 8) (htx : tx < 8) (hty : ty < 8) (co : Int32) (h : tx < x) (sz : Nat) : Met l yX9_paint wsX9_paint rmX9_paint (iPre G N ad C sz [.ref (ad mo), .int (nI x), .int (nI y), .int (nI tx), .int (nI ty), .int co]) (va_Qi (fun (r : Int32) (u : Nat → va_E) => r = nI 0 ∧ Thr ad u mo (nI 2) ∧ sameM C u mo) (iB G N ad) (iA N ad sz)) 0 0 (iA N ad sz) := by
  refine Met.ofW (cc := cX9_paint) (maxL := 8) (ret := (some .int)) (by decide) rfl ?_
  intro p e s m args below meth c s₁ B hml hv
  obtain ⟨rfl, hsz, hP, hK, hD0⟩ := hv
  have hx := B.exec
  have hb := B.bytes
  have hr := B.returns
  have hts := atoms_spec (ws := wsX9_paint) B.pre
  have hown : s.vm.findClass RX9 = some m.cls := findClass_of_methodNamed B.named
  have hlocks := B.notSynchronized
  subst hsz
  have hD := wl_self hD0 s.heap.size
  have hA : ∀ q : Nat, s.heap.size ≤ q → iA N ad s.heap.size q := fun q h => Or.inr h
  have hS : va_S (iA N ad s.heap.size) s.heap s.heap [] := va_S.rf
  have hP : va_P G.1 vwB (wl N ad C) s.heap := hP
  have hl := lv_entry ([.ref (ad mo), .int (nI x), .int (nI y), .int (nI tx), .int (nI ty), .int co]) (n := 8) (Nat.le_of_ble_eq_true rfl)
  rw [lg_entry_eq]
  generalize (lg_sl ([.ref (ad mo), .int (nI x), .int (nI y), .int (nI tx), .int (nI ty), .int co]) ++ List.replicate (8 - (lg_sl ([.ref (ad mo), .int (nI x), .int (nI y), .int (nI tx), .int (nI ty), .int co])).length) Slot.unset).toArray = ls at hl ⊢
  have hl : lv_has ls 8 [(0, .ref (ad mo)), (1, .int (nI x)), (2, .int (nI y)), (3, .int (nI tx)), (4, .int (nI ty)), (5, .int co)] := hl
  obtain ⟨hN, gm0, gm1, gm2, gm3, gm4, gm5, gm6⟩ := id hmod
  refine lv_aload_n hx hb dX9_paint_0 rfl (lv_at hl 0 rfl) ?_
  refine lv_iconst (v := nI 0) hx hb dX9_paint_1 (by decide) ?_
  refine iw_put (ty := .int) hx hb hts iu_X9_paint_9 tyX9 tyX9_ok nmX9 hown hK hP hD hS (by omega) (gm0) rfl 0 (by decide) (hts _ il_X9_paint_33) (fun _ h9 => h9) rfl (by decide +kernel) rfl rfl (Nat.le_of_ble_eq_true rfl) rfl dX9_paint_2 (fun H locs hP hD hS => ?_)
  refine lv_iload_n hx hb dX9_paint_5 rfl (lv_at hl 1 rfl) ?_
  refine lv_iload_n hx hb dX9_paint_6 rfl (lv_at hl 2 rfl) ?_
  refine iw_pi (va_runS (As := [.int (nI x), .int (nI y)]) (rest := []) ⟨hx, hb, hml, hown, hts⟩ (kX9_isPlace l (nI x) (nI y)) (va_cwS 2 hts gX9_paint_X9_isPlace rfl rfl rfl (by decide +kernel) ⟨Nat.le_of_ble_eq_true rfl, Nat.le_of_ble_eq_true rfl⟩) ⟨fun a U g mk q => q, fun U hU hW => ⟨rfl, trivial⟩⟩ rfl rfl hl.1 rfl (lv_room (Nat.le_of_ble_eq_true rfl)) dX9_paint_7 ⟨Nat.le_of_ble_eq_true rfl, Nat.le_of_ble_eq_true rfl⟩) hP hS (fun r8 u8 H locs hw8 hP hS => ?_)
  refine lv_asI hw8 ?_
  refine lv_asI (y := nI 1) (by rw [isPl_ok (by omega) (by omega)]; rfl) ?_
  refine lv_if_eq (tgt := 22) hx hb dX9_paint_10 (by decide) (fun c9 => absurd c9 (by decide)) (fun _ => ?_)
  refine lv_iload_n hx hb dX9_paint_13 rfl (lv_at hl 3 rfl) ?_
  refine lv_iload hx hb dX9_paint_14 (lv_at hl 4 rfl) ?_
  refine iw_pi (va_runS (As := [.int (nI tx), .int (nI ty)]) (rest := []) ⟨hx, hb, hml, hown, hts⟩ (kX9_isPlace l (nI tx) (nI ty)) (va_cwS 2 hts gX9_paint_X9_isPlace rfl rfl rfl (by decide +kernel) ⟨Nat.le_of_ble_eq_true rfl, Nat.le_of_ble_eq_true rfl⟩) ⟨fun a U g mk q => q, fun U hU hW => ⟨rfl, trivial⟩⟩ rfl rfl hl.1 rfl (lv_room (Nat.le_of_ble_eq_true rfl)) dX9_paint_16 ⟨Nat.le_of_ble_eq_true rfl, Nat.le_of_ble_eq_true rfl⟩) hP hS (fun r8 u8 H locs hw8 hP hS => ?_)
  refine lv_asI hw8 ?_
  refine lv_asI (y := nI 1) (by rw [isPl_ok (by omega) (by omega)]; rfl) ?_
  refine lv_if_ne (tgt := 28) hx hb dX9_paint_19 (by decide) (fun _ => ?_) (fun c9 => absurd c9 (by decide))
  refine lv_iload_n hx hb dX9_paint_28 rfl (lv_at hl 3 rfl) ?_
  refine lv_iload_n hx hb dX9_paint_29 rfl (lv_at hl 1 rfl) ?_
  refine lv_icmp_lt (tgt := 50) hx hb dX9_paint_30 (by decide) (fun _ => ?_) (fun c9 => absurd (nI_lt h (by omega)) c9)
  refine lv_aload_n hx hb dX9_paint_50 rfl (lv_at hl 0 rfl) ?_
  refine lv_iconst (v := nI 2) hx hb dX9_paint_51 (by decide) ?_
  refine iw_i (va_runV (As := [.int (nI 2)]) (rest := []) ⟨hx, hb, hml, hown, hts⟩ (kX9_no l G N ad _ mo (by omega) (nI 0) (nI 2) (va_us _ _ _) _) (cwV 1 hts gX9_paint_X9_no rfl rfl rfl (by decide +kernel) ⟨Nat.le_of_ble_eq_true rfl, Nat.le_of_ble_eq_true rfl⟩) (iPV hK hP hD (by omega) (va_us _ _ _) rfl [.int (nI 2)]) rfl rfl hl.1 rfl (lv_room (Nat.le_of_ble_eq_true rfl)) dX9_paint_52 ⟨Nat.le_of_ble_eq_true rfl, Nat.le_of_ble_eq_true rfl⟩) hD hS hA (fun r8 u8 H locs hw8 hP hD hS => ?_)
  obtain ⟨hr8, hu8⟩ := hw8
  refine lv_asI hr8 ?_
  rw [hu8] at hP hD
  rw [va_uu _ _ _ _] at hP hD
  exact W.iret (v := (nI 0)) hx hb hr (fun t ht hW => ⟨⟨_, _, rfl, ⟨rfl, ⟨_, va_us _ _ _⟩, sameM_up (sameM_rf) _ (by omega) (by omega)⟩, iB_of ht hP⟩, hS.F ht⟩) hS.2.2 dX9_paint_55
set_option maxHeartbeats 4000000 in
set_option maxRecDepth 100000 in
theorem kX9_paint_4 (l : Launch) (G : iG) (N : Nat) (ad : Nat → Nat) (C : Nat → va_E) (mo dz : Nat) (th : Int32) (hmod : Mod G N ad C mo dz th) (x y tx ty : Nat) (hx8 : x < 8) (hy8 : y < 8) (htx : tx < 8) (hty : ty < 8) (co : Int32) (h1 : x ≤ tx) (h : ty < y) (sz : Nat) : Met l yX9_paint wsX9_paint rmX9_paint (iPre G N ad C sz [.ref (ad mo), .int (nI x), .int (nI y), .int (nI tx), .int (nI ty), .int co]) (va_Qi (fun (r : Int32) (u : Nat → va_E) => r = nI 0 ∧ Thr ad u mo (nI 2) ∧ sameM C u mo) (iB G N ad) (iA N ad sz)) 0 0 (iA N ad sz) := by
  refine Met.ofW (cc := cX9_paint) (maxL := 8) (ret := (some .int)) (by decide) rfl ?_
  intro p e s m args below meth c s₁ B hml hv
  obtain ⟨rfl, hsz, hP, hK, hD0⟩ := hv
  have hx := B.exec
  have hb := B.bytes
  have hr := B.returns
  have hts := atoms_spec (ws := wsX9_paint) B.pre
  have hown : s.vm.findClass RX9 = some m.cls := findClass_of_methodNamed B.named
  have hlocks := B.notSynchronized
  subst hsz
  have hD := wl_self hD0 s.heap.size
  have hA : ∀ q : Nat, s.heap.size ≤ q → iA N ad s.heap.size q := fun q h => Or.inr h
  have hS : va_S (iA N ad s.heap.size) s.heap s.heap [] := va_S.rf
  have hP : va_P G.1 vwB (wl N ad C) s.heap := hP
  have hl := lv_entry ([.ref (ad mo), .int (nI x), .int (nI y), .int (nI tx), .int (nI ty), .int co]) (n := 8) (Nat.le_of_ble_eq_true rfl)
  rw [lg_entry_eq]
  generalize (lg_sl ([.ref (ad mo), .int (nI x), .int (nI y), .int (nI tx), .int (nI ty), .int co]) ++ List.replicate (8 - (lg_sl ([.ref (ad mo), .int (nI x), .int (nI y), .int (nI tx), .int (nI ty), .int co])).length) Slot.unset).toArray = ls at hl ⊢
  have hl : lv_has ls 8 [(0, .ref (ad mo)), (1, .int (nI x)), (2, .int (nI y)), (3, .int (nI tx)), (4, .int (nI ty)), (5, .int co)] := hl
  obtain ⟨hN, gm0, gm1, gm2, gm3, gm4, gm5, gm6⟩ := id hmod
  refine lv_aload_n hx hb dX9_paint_0 rfl (lv_at hl 0 rfl) ?_
  refine lv_iconst (v := nI 0) hx hb dX9_paint_1 (by decide) ?_
  refine iw_put (ty := .int) hx hb hts iu_X9_paint_9 tyX9 tyX9_ok nmX9 hown hK hP hD hS (by omega) (gm0) rfl 0 (by decide) (hts _ il_X9_paint_33) (fun _ h9 => h9) rfl (by decide +kernel) rfl rfl (Nat.le_of_ble_eq_true rfl) rfl dX9_paint_2 (fun H locs hP hD hS => ?_)
  refine lv_iload_n hx hb dX9_paint_5 rfl (lv_at hl 1 rfl) ?_
  refine lv_iload_n hx hb dX9_paint_6 rfl (lv_at hl 2 rfl) ?_
  refine iw_pi (va_runS (As := [.int (nI x), .int (nI y)]) (rest := []) ⟨hx, hb, hml, hown, hts⟩ (kX9_isPlace l (nI x) (nI y)) (va_cwS 2 hts gX9_paint_X9_isPlace rfl rfl rfl (by decide +kernel) ⟨Nat.le_of_ble_eq_true rfl, Nat.le_of_ble_eq_true rfl⟩) ⟨fun a U g mk q => q, fun U hU hW => ⟨rfl, trivial⟩⟩ rfl rfl hl.1 rfl (lv_room (Nat.le_of_ble_eq_true rfl)) dX9_paint_7 ⟨Nat.le_of_ble_eq_true rfl, Nat.le_of_ble_eq_true rfl⟩) hP hS (fun r8 u8 H locs hw8 hP hS => ?_)
  refine lv_asI hw8 ?_
  refine lv_asI (y := nI 1) (by rw [isPl_ok (by omega) (by omega)]; rfl) ?_
  refine lv_if_eq (tgt := 22) hx hb dX9_paint_10 (by decide) (fun c9 => absurd c9 (by decide)) (fun _ => ?_)
  refine lv_iload_n hx hb dX9_paint_13 rfl (lv_at hl 3 rfl) ?_
  refine lv_iload hx hb dX9_paint_14 (lv_at hl 4 rfl) ?_
  refine iw_pi (va_runS (As := [.int (nI tx), .int (nI ty)]) (rest := []) ⟨hx, hb, hml, hown, hts⟩ (kX9_isPlace l (nI tx) (nI ty)) (va_cwS 2 hts gX9_paint_X9_isPlace rfl rfl rfl (by decide +kernel) ⟨Nat.le_of_ble_eq_true rfl, Nat.le_of_ble_eq_true rfl⟩) ⟨fun a U g mk q => q, fun U hU hW => ⟨rfl, trivial⟩⟩ rfl rfl hl.1 rfl (lv_room (Nat.le_of_ble_eq_true rfl)) dX9_paint_16 ⟨Nat.le_of_ble_eq_true rfl, Nat.le_of_ble_eq_true rfl⟩) hP hS (fun r8 u8 H locs hw8 hP hS => ?_)
  refine lv_asI hw8 ?_
  refine lv_asI (y := nI 1) (by rw [isPl_ok (by omega) (by omega)]; rfl) ?_
  refine lv_if_ne (tgt := 28) hx hb dX9_paint_19 (by decide) (fun _ => ?_) (fun c9 => absurd c9 (by decide))
  refine lv_iload_n hx hb dX9_paint_28 rfl (lv_at hl 3 rfl) ?_
  refine lv_iload_n hx hb dX9_paint_29 rfl (lv_at hl 1 rfl) ?_
  refine lv_icmp_lt (tgt := 50) hx hb dX9_paint_30 (by decide) (fun c9 => absurd c9 (nI_nlt (by omega) (by omega))) (fun _ => ?_)
  refine lv_iload hx hb dX9_paint_33 (lv_at hl 4 rfl) ?_
  refine lv_iload_n hx hb dX9_paint_35 rfl (lv_at hl 2 rfl) ?_
  refine lv_icmp_lt (tgt := 50) hx hb dX9_paint_36 (by decide) (fun _ => ?_) (fun c9 => absurd (nI_lt h (by omega)) c9)
  refine lv_aload_n hx hb dX9_paint_50 rfl (lv_at hl 0 rfl) ?_
  refine lv_iconst (v := nI 2) hx hb dX9_paint_51 (by decide) ?_
  refine iw_i (va_runV (As := [.int (nI 2)]) (rest := []) ⟨hx, hb, hml, hown, hts⟩ (kX9_no l G N ad _ mo (by omega) (nI 0) (nI 2) (va_us _ _ _) _) (cwV 1 hts gX9_paint_X9_no rfl rfl rfl (by decide +kernel) ⟨Nat.le_of_ble_eq_true rfl, Nat.le_of_ble_eq_true rfl⟩) (iPV hK hP hD (by omega) (va_us _ _ _) rfl [.int (nI 2)]) rfl rfl hl.1 rfl (lv_room (Nat.le_of_ble_eq_true rfl)) dX9_paint_52 ⟨Nat.le_of_ble_eq_true rfl, Nat.le_of_ble_eq_true rfl⟩) hD hS hA (fun r8 u8 H locs hw8 hP hD hS => ?_)
  obtain ⟨hr8, hu8⟩ := hw8
  refine lv_asI hr8 ?_
  rw [hu8] at hP hD
  rw [va_uu _ _ _ _] at hP hD
  exact W.iret (v := (nI 0)) hx hb hr (fun t ht hW => ⟨⟨_, _, rfl, ⟨rfl, ⟨_, va_us _ _ _⟩, sameM_up (sameM_rf) _ (by omega) (by omega)⟩, iB_of ht hP⟩, hS.F ht⟩) hS.2.2 dX9_paint_55
set_option maxRecDepth 20000 in
theorem il_X9_paint_55 : (Cond.constant RX9 55 (16777215)) ∈ wsX9_paint := by decide +kernel
set_option maxHeartbeats 4000000 in
set_option maxRecDepth 100000 in
theorem kX9_paint_5 (l : Launch) (G : iG) (N : Nat) (ad : Nat → Nat) (C : Nat → va_E) (mo dz : Nat) (th : Int32) (hmod : Mod G N ad C mo dz th) (x y tx ty : Nat) (hx8 : x < 8) (hy8 : y < 8) (htx : tx < 8) (hty : ty < 8) (co : Int32) (h1 : x ≤ tx) (h2 : y ≤ ty) (h : co < nI 0 ∨ nI 16777215 < co) (sz : Nat) : Met l yX9_paint wsX9_paint rmX9_paint (iPre G N ad C sz [.ref (ad mo), .int (nI x), .int (nI y), .int (nI tx), .int (nI ty), .int co]) (va_Qi (fun (r : Int32) (u : Nat → va_E) => r = nI 0 ∧ Thr ad u mo (nI 2) ∧ sameM C u mo) (iB G N ad) (iA N ad sz)) 0 0 (iA N ad sz) := by
  refine Met.ofW (cc := cX9_paint) (maxL := 8) (ret := (some .int)) (by decide) rfl ?_
  intro p e s m args below meth c s₁ B hml hv
  obtain ⟨rfl, hsz, hP, hK, hD0⟩ := hv
  have hx := B.exec
  have hb := B.bytes
  have hr := B.returns
  have hts := atoms_spec (ws := wsX9_paint) B.pre
  have hown : s.vm.findClass RX9 = some m.cls := findClass_of_methodNamed B.named
  have hlocks := B.notSynchronized
  subst hsz
  have hD := wl_self hD0 s.heap.size
  have hA : ∀ q : Nat, s.heap.size ≤ q → iA N ad s.heap.size q := fun q h => Or.inr h
  have hS : va_S (iA N ad s.heap.size) s.heap s.heap [] := va_S.rf
  have hP : va_P G.1 vwB (wl N ad C) s.heap := hP
  have hl := lv_entry ([.ref (ad mo), .int (nI x), .int (nI y), .int (nI tx), .int (nI ty), .int co]) (n := 8) (Nat.le_of_ble_eq_true rfl)
  rw [lg_entry_eq]
  generalize (lg_sl ([.ref (ad mo), .int (nI x), .int (nI y), .int (nI tx), .int (nI ty), .int co]) ++ List.replicate (8 - (lg_sl ([.ref (ad mo), .int (nI x), .int (nI y), .int (nI tx), .int (nI ty), .int co])).length) Slot.unset).toArray = ls at hl ⊢
  have hl : lv_has ls 8 [(0, .ref (ad mo)), (1, .int (nI x)), (2, .int (nI y)), (3, .int (nI tx)), (4, .int (nI ty)), (5, .int co)] := hl
  obtain ⟨hN, gm0, gm1, gm2, gm3, gm4, gm5, gm6⟩ := id hmod
  refine lv_aload_n hx hb dX9_paint_0 rfl (lv_at hl 0 rfl) ?_
  refine lv_iconst (v := nI 0) hx hb dX9_paint_1 (by decide) ?_
  refine iw_put (ty := .int) hx hb hts iu_X9_paint_9 tyX9 tyX9_ok nmX9 hown hK hP hD hS (by omega) (gm0) rfl 0 (by decide) (hts _ il_X9_paint_33) (fun _ h9 => h9) rfl (by decide +kernel) rfl rfl (Nat.le_of_ble_eq_true rfl) rfl dX9_paint_2 (fun H locs hP hD hS => ?_)
  refine lv_iload_n hx hb dX9_paint_5 rfl (lv_at hl 1 rfl) ?_
  refine lv_iload_n hx hb dX9_paint_6 rfl (lv_at hl 2 rfl) ?_
  refine iw_pi (va_runS (As := [.int (nI x), .int (nI y)]) (rest := []) ⟨hx, hb, hml, hown, hts⟩ (kX9_isPlace l (nI x) (nI y)) (va_cwS 2 hts gX9_paint_X9_isPlace rfl rfl rfl (by decide +kernel) ⟨Nat.le_of_ble_eq_true rfl, Nat.le_of_ble_eq_true rfl⟩) ⟨fun a U g mk q => q, fun U hU hW => ⟨rfl, trivial⟩⟩ rfl rfl hl.1 rfl (lv_room (Nat.le_of_ble_eq_true rfl)) dX9_paint_7 ⟨Nat.le_of_ble_eq_true rfl, Nat.le_of_ble_eq_true rfl⟩) hP hS (fun r8 u8 H locs hw8 hP hS => ?_)
  refine lv_asI hw8 ?_
  refine lv_asI (y := nI 1) (by rw [isPl_ok (by omega) (by omega)]; rfl) ?_
  refine lv_if_eq (tgt := 22) hx hb dX9_paint_10 (by decide) (fun c9 => absurd c9 (by decide)) (fun _ => ?_)
  refine lv_iload_n hx hb dX9_paint_13 rfl (lv_at hl 3 rfl) ?_
  refine lv_iload hx hb dX9_paint_14 (lv_at hl 4 rfl) ?_
  refine iw_pi (va_runS (As := [.int (nI tx), .int (nI ty)]) (rest := []) ⟨hx, hb, hml, hown, hts⟩ (kX9_isPlace l (nI tx) (nI ty)) (va_cwS 2 hts gX9_paint_X9_isPlace rfl rfl rfl (by decide +kernel) ⟨Nat.le_of_ble_eq_true rfl, Nat.le_of_ble_eq_true rfl⟩) ⟨fun a U g mk q => q, fun U hU hW => ⟨rfl, trivial⟩⟩ rfl rfl hl.1 rfl (lv_room (Nat.le_of_ble_eq_true rfl)) dX9_paint_16 ⟨Nat.le_of_ble_eq_true rfl, Nat.le_of_ble_eq_true rfl⟩) hP hS (fun r8 u8 H locs hw8 hP hS => ?_)
  refine lv_asI hw8 ?_
  refine lv_asI (y := nI 1) (by rw [isPl_ok (by omega) (by omega)]; rfl) ?_
  refine lv_if_ne (tgt := 28) hx hb dX9_paint_19 (by decide) (fun _ => ?_) (fun c9 => absurd c9 (by decide))
  refine lv_iload_n hx hb dX9_paint_28 rfl (lv_at hl 3 rfl) ?_
  refine lv_iload_n hx hb dX9_paint_29 rfl (lv_at hl 1 rfl) ?_
  refine lv_icmp_lt (tgt := 50) hx hb dX9_paint_30 (by decide) (fun c9 => absurd c9 (nI_nlt (by omega) (by omega))) (fun _ => ?_)
  refine lv_iload hx hb dX9_paint_33 (lv_at hl 4 rfl) ?_
  refine lv_iload_n hx hb dX9_paint_35 rfl (lv_at hl 2 rfl) ?_
  refine lv_icmp_lt (tgt := 50) hx hb dX9_paint_36 (by decide) (fun c9 => absurd c9 (nI_nlt (by omega) (by omega))) (fun _ => ?_)
  refine lv_iload hx hb dX9_paint_39 (lv_at hl 5 rfl) ?_
  refine lv_iconst (v := nI 0) hx hb dX9_paint_41 (by decide) ?_
  refine lv_ldc hx hb hown (hts _ il_X9_paint_55) dX9_paint_42 ?_
  refine lv_asI (y := nI 16777215) (by decide) ?_
  refine iw_pi (va_runS (As := [.int co, .int (nI 0), .int (nI 16777215)]) (rest := []) ⟨hx, hb, hml, hown, hts⟩ (kX9_in l (co) (nI 0) (nI 16777215)) (va_cwS 3 hts gX9_paint_X9_in rfl rfl rfl (by decide +kernel) ⟨Nat.le_of_ble_eq_true rfl, Nat.le_of_ble_eq_true rfl⟩) ⟨fun a U g mk q => q, fun U hU hW => ⟨rfl, trivial⟩⟩ rfl rfl hl.1 rfl (lv_room (Nat.le_of_ble_eq_true rfl)) dX9_paint_44 ⟨Nat.le_of_ble_eq_true rfl, Nat.le_of_ble_eq_true rfl⟩) hP hS (fun r8 u8 H locs hw8 hP hS => ?_)
  refine lv_asI hw8 ?_
  refine lv_asI (y := nI 0) (inB_lo h) ?_
  refine lv_if_ne (tgt := 56) hx hb dX9_paint_47 (by decide) (fun c9 => absurd (by decide) c9) (fun _ => ?_)
  refine lv_aload_n hx hb dX9_paint_50 rfl (lv_at hl 0 rfl) ?_
  refine lv_iconst (v := nI 2) hx hb dX9_paint_51 (by decide) ?_
  refine iw_i (va_runV (As := [.int (nI 2)]) (rest := []) ⟨hx, hb, hml, hown, hts⟩ (kX9_no l G N ad _ mo (by omega) (nI 0) (nI 2) (va_us _ _ _) _) (cwV 1 hts gX9_paint_X9_no rfl rfl rfl (by decide +kernel) ⟨Nat.le_of_ble_eq_true rfl, Nat.le_of_ble_eq_true rfl⟩) (iPV hK hP hD (by omega) (va_us _ _ _) rfl [.int (nI 2)]) rfl rfl hl.1 rfl (lv_room (Nat.le_of_ble_eq_true rfl)) dX9_paint_52 ⟨Nat.le_of_ble_eq_true rfl, Nat.le_of_ble_eq_true rfl⟩) hD hS hA (fun r8 u8 H locs hw8 hP hD hS => ?_)
  obtain ⟨hr8, hu8⟩ := hw8
  refine lv_asI hr8 ?_
  rw [hu8] at hP hD
  rw [va_uu _ _ _ _] at hP hD
  exact W.iret (v := (nI 0)) hx hb hr (fun t ht hW => ⟨⟨_, _, rfl, ⟨rfl, ⟨_, va_us _ _ _⟩, sameM_up (sameM_rf) _ (by omega) (by omega)⟩, iB_of ht hP⟩, hS.F ht⟩) hS.2.2 dX9_paint_55
abbrev rmX9_lamp : Room := { frames := 1, cells := 0, slots := 0, locals := 22 }
set_option maxRecDepth 20000 in
theorem il_X9_lamp_33 : (Cond.fieldLink RX9 33 "BayerGateModel" "thrown" "I") ∈ wsX9_lamp := by decide +kernel
set_option maxRecDepth 20000 in
theorem iu_X9_lamp_9 : ∀ w ∈ u_ws RX9 TX9 8, w ∈ wsX9_lamp := by decide +kernel
set_option maxHeartbeats 4000000 in
set_option maxRecDepth 100000 in
theorem kX9_lamp_1 (l : Launch) (G : iG) (N : Nat) (ad : Nat → Nat) (C : Nat → va_E) (mo dz : Nat) (th : Int32) (hmod : Mod G N ad C mo dz th) (r1 g1 b1 : Int32) (h : r1 < nI 1 ∨ nI 16 < r1) (sz : Nat) : Met l yX9_lamp wsX9_lamp rmX9_lamp (iPre G N ad C sz [.ref (ad mo), .int r1, .int g1, .int b1]) (va_Qi (fun (r : Int32) (u : Nat → va_E) => r = nI 0 ∧ Thr ad u mo (nI 1) ∧ sameM C u mo) (iB G N ad) (iA N ad sz)) 0 0 (iA N ad sz) := by
  refine Met.ofW (cc := cX9_lamp) (maxL := 5) (ret := (some .int)) (by decide) rfl ?_
  intro p e s m args below meth c s₁ B hml hv
  obtain ⟨rfl, hsz, hP, hK, hD0⟩ := hv
  have hx := B.exec
  have hb := B.bytes
  have hr := B.returns
  have hts := atoms_spec (ws := wsX9_lamp) B.pre
  have hown : s.vm.findClass RX9 = some m.cls := findClass_of_methodNamed B.named
  have hlocks := B.notSynchronized
  subst hsz
  have hD := wl_self hD0 s.heap.size
  have hA : ∀ q : Nat, s.heap.size ≤ q → iA N ad s.heap.size q := fun q h => Or.inr h
  have hS : va_S (iA N ad s.heap.size) s.heap s.heap [] := va_S.rf
  have hP : va_P G.1 vwB (wl N ad C) s.heap := hP
  have hl := lv_entry ([.ref (ad mo), .int r1, .int g1, .int b1]) (n := 5) (Nat.le_of_ble_eq_true rfl)
  rw [lg_entry_eq]
  generalize (lg_sl ([.ref (ad mo), .int r1, .int g1, .int b1]) ++ List.replicate (5 - (lg_sl ([.ref (ad mo), .int r1, .int g1, .int b1])).length) Slot.unset).toArray = ls at hl ⊢
  have hl : lv_has ls 5 [(0, .ref (ad mo)), (1, .int r1), (2, .int g1), (3, .int b1)] := hl
  obtain ⟨hN, gm0, gm1, gm2, gm3, gm4, gm5, gm6⟩ := id hmod
  refine lv_aload_n hx hb dX9_lamp_0 rfl (lv_at hl 0 rfl) ?_
  refine lv_iconst (v := nI 0) hx hb dX9_lamp_1 (by decide) ?_
  refine iw_put (ty := .int) hx hb hts iu_X9_lamp_9 tyX9 tyX9_ok nmX9 hown hK hP hD hS (by omega) (gm0) rfl 0 (by decide) (hts _ il_X9_lamp_33) (fun _ h9 => h9) rfl (by decide +kernel) rfl rfl (Nat.le_of_ble_eq_true rfl) rfl dX9_lamp_2 (fun H locs hP hD hS => ?_)
  refine lv_iload_n hx hb dX9_lamp_5 rfl (lv_at hl 1 rfl) ?_
  refine lv_iconst (v := nI 1) hx hb dX9_lamp_6 (by decide) ?_
  refine lv_bipush (v := nI 16) hx hb dX9_lamp_7 (by decide) ?_
  refine iw_pi (va_runS (As := [.int r1, .int (nI 1), .int (nI 16)]) (rest := []) ⟨hx, hb, hml, hown, hts⟩ (kX9_in l (r1) (nI 1) (nI 16)) (va_cwS 3 hts gX9_lamp_X9_in rfl rfl rfl (by decide +kernel) ⟨Nat.le_of_ble_eq_true rfl, Nat.le_of_ble_eq_true rfl⟩) ⟨fun a U g mk q => q, fun U hU hW => ⟨rfl, trivial⟩⟩ rfl rfl hl.1 rfl (lv_room (Nat.le_of_ble_eq_true rfl)) dX9_lamp_9 ⟨Nat.le_of_ble_eq_true rfl, Nat.le_of_ble_eq_true rfl⟩) hP hS (fun r8 u8 H locs hw8 hP hS => ?_)
  refine lv_asI hw8 ?_
  refine lv_asI (y := nI 0) (inB_lo h) ?_
  refine lv_if_eq (tgt := 35) hx hb dX9_lamp_12 (by decide) (fun _ => ?_) (fun c9 => absurd (by decide) c9)
  refine lv_aload_n hx hb dX9_lamp_35 rfl (lv_at hl 0 rfl) ?_
  refine lv_iconst (v := nI 1) hx hb dX9_lamp_36 (by decide) ?_
  refine iw_i (va_runV (As := [.int (nI 1)]) (rest := []) ⟨hx, hb, hml, hown, hts⟩ (kX9_no l G N ad _ mo (by omega) (nI 0) (nI 1) (va_us _ _ _) _) (cwV 1 hts gX9_lamp_X9_no rfl rfl rfl (by decide +kernel) ⟨Nat.le_of_ble_eq_true rfl, Nat.le_of_ble_eq_true rfl⟩) (iPV hK hP hD (by omega) (va_us _ _ _) rfl [.int (nI 1)]) rfl rfl hl.1 rfl (lv_room (Nat.le_of_ble_eq_true rfl)) dX9_lamp_37 ⟨Nat.le_of_ble_eq_true rfl, Nat.le_of_ble_eq_true rfl⟩) hD hS hA (fun r8 u8 H locs hw8 hP hD hS => ?_)
  obtain ⟨hr8, hu8⟩ := hw8
  refine lv_asI hr8 ?_
  rw [hu8] at hP hD
  rw [va_uu _ _ _ _] at hP hD
  exact W.iret (v := (nI 0)) hx hb hr (fun t ht hW => ⟨⟨_, _, rfl, ⟨rfl, ⟨_, va_us _ _ _⟩, sameM_up (sameM_rf) _ (by omega) (by omega)⟩, iB_of ht hP⟩, hS.F ht⟩) hS.2.2 dX9_lamp_40
set_option maxHeartbeats 4000000 in
set_option maxRecDepth 100000 in
theorem kX9_lamp_2 (l : Launch) (G : iG) (N : Nat) (ad : Nat → Nat) (C : Nat → va_E) (mo dz : Nat) (th : Int32) (hmod : Mod G N ad C mo dz th) (r1 : Nat) (hr1 : 0 < r1 ∧ r1 < 17) (g1 b1 : Int32) (h : g1 < nI 1 ∨ nI 16 < g1) (sz : Nat) : Met l yX9_lamp wsX9_lamp rmX9_lamp (iPre G N ad C sz [.ref (ad mo), .int (nI r1), .int g1, .int b1]) (va_Qi (fun (r : Int32) (u : Nat → va_E) => r = nI 0 ∧ Thr ad u mo (nI 1) ∧ sameM C u mo) (iB G N ad) (iA N ad sz)) 0 0 (iA N ad sz) := by
  refine Met.ofW (cc := cX9_lamp) (maxL := 5) (ret := (some .int)) (by decide) rfl ?_
  intro p e s m args below meth c s₁ B hml hv
  obtain ⟨rfl, hsz, hP, hK, hD0⟩ := hv
  have hx := B.exec
  have hb := B.bytes
  have hr := B.returns
  have hts := atoms_spec (ws := wsX9_lamp) B.pre
  have hown : s.vm.findClass RX9 = some m.cls := findClass_of_methodNamed B.named
  have hlocks := B.notSynchronized
  subst hsz
  have hD := wl_self hD0 s.heap.size
  have hA : ∀ q : Nat, s.heap.size ≤ q → iA N ad s.heap.size q := fun q h => Or.inr h
  have hS : va_S (iA N ad s.heap.size) s.heap s.heap [] := va_S.rf
  have hP : va_P G.1 vwB (wl N ad C) s.heap := hP
  have hl := lv_entry ([.ref (ad mo), .int (nI r1), .int g1, .int b1]) (n := 5) (Nat.le_of_ble_eq_true rfl)
  rw [lg_entry_eq]
  generalize (lg_sl ([.ref (ad mo), .int (nI r1), .int g1, .int b1]) ++ List.replicate (5 - (lg_sl ([.ref (ad mo), .int (nI r1), .int g1, .int b1])).length) Slot.unset).toArray = ls at hl ⊢
  have hl : lv_has ls 5 [(0, .ref (ad mo)), (1, .int (nI r1)), (2, .int g1), (3, .int b1)] := hl
  obtain ⟨hN, gm0, gm1, gm2, gm3, gm4, gm5, gm6⟩ := id hmod
  refine lv_aload_n hx hb dX9_lamp_0 rfl (lv_at hl 0 rfl) ?_
  refine lv_iconst (v := nI 0) hx hb dX9_lamp_1 (by decide) ?_
  refine iw_put (ty := .int) hx hb hts iu_X9_lamp_9 tyX9 tyX9_ok nmX9 hown hK hP hD hS (by omega) (gm0) rfl 0 (by decide) (hts _ il_X9_lamp_33) (fun _ h9 => h9) rfl (by decide +kernel) rfl rfl (Nat.le_of_ble_eq_true rfl) rfl dX9_lamp_2 (fun H locs hP hD hS => ?_)
  refine lv_iload_n hx hb dX9_lamp_5 rfl (lv_at hl 1 rfl) ?_
  refine lv_iconst (v := nI 1) hx hb dX9_lamp_6 (by decide) ?_
  refine lv_bipush (v := nI 16) hx hb dX9_lamp_7 (by decide) ?_
  refine iw_pi (va_runS (As := [.int (nI r1), .int (nI 1), .int (nI 16)]) (rest := []) ⟨hx, hb, hml, hown, hts⟩ (kX9_in l (nI r1) (nI 1) (nI 16)) (va_cwS 3 hts gX9_lamp_X9_in rfl rfl rfl (by decide +kernel) ⟨Nat.le_of_ble_eq_true rfl, Nat.le_of_ble_eq_true rfl⟩) ⟨fun a U g mk q => q, fun U hU hW => ⟨rfl, trivial⟩⟩ rfl rfl hl.1 rfl (lv_room (Nat.le_of_ble_eq_true rfl)) dX9_lamp_9 ⟨Nat.le_of_ble_eq_true rfl, Nat.le_of_ble_eq_true rfl⟩) hP hS (fun r8 u8 H locs hw8 hP hS => ?_)
  refine lv_asI hw8 ?_
  refine lv_asI (y := nI 1) (inB_in (nI_nlt (by omega) (by omega)) (nI_le (by omega) (by omega))) ?_
  refine lv_if_eq (tgt := 35) hx hb dX9_lamp_12 (by decide) (fun c9 => absurd c9 (by decide)) (fun _ => ?_)
  refine lv_iload_n hx hb dX9_lamp_15 rfl (lv_at hl 2 rfl) ?_
  refine lv_iconst (v := nI 1) hx hb dX9_lamp_16 (by decide) ?_
  refine lv_bipush (v := nI 16) hx hb dX9_lamp_17 (by decide) ?_
  refine iw_pi (va_runS (As := [.int g1, .int (nI 1), .int (nI 16)]) (rest := []) ⟨hx, hb, hml, hown, hts⟩ (kX9_in l (g1) (nI 1) (nI 16)) (va_cwS 3 hts gX9_lamp_X9_in rfl rfl rfl (by decide +kernel) ⟨Nat.le_of_ble_eq_true rfl, Nat.le_of_ble_eq_true rfl⟩) ⟨fun a U g mk q => q, fun U hU hW => ⟨rfl, trivial⟩⟩ rfl rfl hl.1 rfl (lv_room (Nat.le_of_ble_eq_true rfl)) dX9_lamp_19 ⟨Nat.le_of_ble_eq_true rfl, Nat.le_of_ble_eq_true rfl⟩) hP hS (fun r8 u8 H locs hw8 hP hS => ?_)
  refine lv_asI hw8 ?_
  refine lv_asI (y := nI 0) (inB_lo h) ?_
  refine lv_if_eq (tgt := 35) hx hb dX9_lamp_22 (by decide) (fun _ => ?_) (fun c9 => absurd (by decide) c9)
  refine lv_aload_n hx hb dX9_lamp_35 rfl (lv_at hl 0 rfl) ?_
  refine lv_iconst (v := nI 1) hx hb dX9_lamp_36 (by decide) ?_
  refine iw_i (va_runV (As := [.int (nI 1)]) (rest := []) ⟨hx, hb, hml, hown, hts⟩ (kX9_no l G N ad _ mo (by omega) (nI 0) (nI 1) (va_us _ _ _) _) (cwV 1 hts gX9_lamp_X9_no rfl rfl rfl (by decide +kernel) ⟨Nat.le_of_ble_eq_true rfl, Nat.le_of_ble_eq_true rfl⟩) (iPV hK hP hD (by omega) (va_us _ _ _) rfl [.int (nI 1)]) rfl rfl hl.1 rfl (lv_room (Nat.le_of_ble_eq_true rfl)) dX9_lamp_37 ⟨Nat.le_of_ble_eq_true rfl, Nat.le_of_ble_eq_true rfl⟩) hD hS hA (fun r8 u8 H locs hw8 hP hD hS => ?_)
  obtain ⟨hr8, hu8⟩ := hw8
  refine lv_asI hr8 ?_
  rw [hu8] at hP hD
  rw [va_uu _ _ _ _] at hP hD
  exact W.iret (v := (nI 0)) hx hb hr (fun t ht hW => ⟨⟨_, _, rfl, ⟨rfl, ⟨_, va_us _ _ _⟩, sameM_up (sameM_rf) _ (by omega) (by omega)⟩, iB_of ht hP⟩, hS.F ht⟩) hS.2.2 dX9_lamp_40
set_option maxHeartbeats 4000000 in
set_option maxRecDepth 100000 in
theorem kX9_lamp_3 (l : Launch) (G : iG) (N : Nat) (ad : Nat → Nat) (C : Nat → va_E) (mo dz : Nat) (th : Int32) (hmod : Mod G N ad C mo dz th) (r1 g1 : Nat) (hr1 : 0 < r1 ∧ r1 < 17) (hg1 : 0 < g1 ∧ g1 < 17) (b1 : Int32) (h : b1 < nI 1 ∨ nI 16 < b1) (sz : Nat) : Met l yX9_lamp wsX9_lamp rmX9_lamp (iPre G N ad C sz [.ref (ad mo), .int (nI r1), .int (nI g1), .int b1]) (va_Qi (fun (r : Int32) (u : Nat → va_E) => r = nI 0 ∧ Thr ad u mo (nI 1) ∧ sameM C u mo) (iB G N ad) (iA N ad sz)) 0 0 (iA N ad sz) := by
  refine Met.ofW (cc := cX9_lamp) (maxL := 5) (ret := (some .int)) (by decide) rfl ?_
  intro p e s m args below meth c s₁ B hml hv
  obtain ⟨rfl, hsz, hP, hK, hD0⟩ := hv
  have hx := B.exec
  have hb := B.bytes
  have hr := B.returns
  have hts := atoms_spec (ws := wsX9_lamp) B.pre
  have hown : s.vm.findClass RX9 = some m.cls := findClass_of_methodNamed B.named
  have hlocks := B.notSynchronized
  subst hsz
  have hD := wl_self hD0 s.heap.size
  have hA : ∀ q : Nat, s.heap.size ≤ q → iA N ad s.heap.size q := fun q h => Or.inr h
  have hS : va_S (iA N ad s.heap.size) s.heap s.heap [] := va_S.rf
  have hP : va_P G.1 vwB (wl N ad C) s.heap := hP
  have hl := lv_entry ([.ref (ad mo), .int (nI r1), .int (nI g1), .int b1]) (n := 5) (Nat.le_of_ble_eq_true rfl)
  rw [lg_entry_eq]
  generalize (lg_sl ([.ref (ad mo), .int (nI r1), .int (nI g1), .int b1]) ++ List.replicate (5 - (lg_sl ([.ref (ad mo), .int (nI r1), .int (nI g1), .int b1])).length) Slot.unset).toArray = ls at hl ⊢
  have hl : lv_has ls 5 [(0, .ref (ad mo)), (1, .int (nI r1)), (2, .int (nI g1)), (3, .int b1)] := hl
  obtain ⟨hN, gm0, gm1, gm2, gm3, gm4, gm5, gm6⟩ := id hmod
  refine lv_aload_n hx hb dX9_lamp_0 rfl (lv_at hl 0 rfl) ?_
  refine lv_iconst (v := nI 0) hx hb dX9_lamp_1 (by decide) ?_
  refine iw_put (ty := .int) hx hb hts iu_X9_lamp_9 tyX9 tyX9_ok nmX9 hown hK hP hD hS (by omega) (gm0) rfl 0 (by decide) (hts _ il_X9_lamp_33) (fun _ h9 => h9) rfl (by decide +kernel) rfl rfl (Nat.le_of_ble_eq_true rfl) rfl dX9_lamp_2 (fun H locs hP hD hS => ?_)
  refine lv_iload_n hx hb dX9_lamp_5 rfl (lv_at hl 1 rfl) ?_
  refine lv_iconst (v := nI 1) hx hb dX9_lamp_6 (by decide) ?_
  refine lv_bipush (v := nI 16) hx hb dX9_lamp_7 (by decide) ?_
  refine iw_pi (va_runS (As := [.int (nI r1), .int (nI 1), .int (nI 16)]) (rest := []) ⟨hx, hb, hml, hown, hts⟩ (kX9_in l (nI r1) (nI 1) (nI 16)) (va_cwS 3 hts gX9_lamp_X9_in rfl rfl rfl (by decide +kernel) ⟨Nat.le_of_ble_eq_true rfl, Nat.le_of_ble_eq_true rfl⟩) ⟨fun a U g mk q => q, fun U hU hW => ⟨rfl, trivial⟩⟩ rfl rfl hl.1 rfl (lv_room (Nat.le_of_ble_eq_true rfl)) dX9_lamp_9 ⟨Nat.le_of_ble_eq_true rfl, Nat.le_of_ble_eq_true rfl⟩) hP hS (fun r8 u8 H locs hw8 hP hS => ?_)
  refine lv_asI hw8 ?_
  refine lv_asI (y := nI 1) (inB_in (nI_nlt (by omega) (by omega)) (nI_le (by omega) (by omega))) ?_
  refine lv_if_eq (tgt := 35) hx hb dX9_lamp_12 (by decide) (fun c9 => absurd c9 (by decide)) (fun _ => ?_)
  refine lv_iload_n hx hb dX9_lamp_15 rfl (lv_at hl 2 rfl) ?_
  refine lv_iconst (v := nI 1) hx hb dX9_lamp_16 (by decide) ?_
  refine lv_bipush (v := nI 16) hx hb dX9_lamp_17 (by decide) ?_
  refine iw_pi (va_runS (As := [.int (nI g1), .int (nI 1), .int (nI 16)]) (rest := []) ⟨hx, hb, hml, hown, hts⟩ (kX9_in l (nI g1) (nI 1) (nI 16)) (va_cwS 3 hts gX9_lamp_X9_in rfl rfl rfl (by decide +kernel) ⟨Nat.le_of_ble_eq_true rfl, Nat.le_of_ble_eq_true rfl⟩) ⟨fun a U g mk q => q, fun U hU hW => ⟨rfl, trivial⟩⟩ rfl rfl hl.1 rfl (lv_room (Nat.le_of_ble_eq_true rfl)) dX9_lamp_19 ⟨Nat.le_of_ble_eq_true rfl, Nat.le_of_ble_eq_true rfl⟩) hP hS (fun r8 u8 H locs hw8 hP hS => ?_)
  refine lv_asI hw8 ?_
  refine lv_asI (y := nI 1) (inB_in (nI_nlt (by omega) (by omega)) (nI_le (by omega) (by omega))) ?_
  refine lv_if_eq (tgt := 35) hx hb dX9_lamp_22 (by decide) (fun c9 => absurd c9 (by decide)) (fun _ => ?_)
  refine lv_iload_n hx hb dX9_lamp_25 rfl (lv_at hl 3 rfl) ?_
  refine lv_iconst (v := nI 1) hx hb dX9_lamp_26 (by decide) ?_
  refine lv_bipush (v := nI 16) hx hb dX9_lamp_27 (by decide) ?_
  refine iw_pi (va_runS (As := [.int b1, .int (nI 1), .int (nI 16)]) (rest := []) ⟨hx, hb, hml, hown, hts⟩ (kX9_in l (b1) (nI 1) (nI 16)) (va_cwS 3 hts gX9_lamp_X9_in rfl rfl rfl (by decide +kernel) ⟨Nat.le_of_ble_eq_true rfl, Nat.le_of_ble_eq_true rfl⟩) ⟨fun a U g mk q => q, fun U hU hW => ⟨rfl, trivial⟩⟩ rfl rfl hl.1 rfl (lv_room (Nat.le_of_ble_eq_true rfl)) dX9_lamp_29 ⟨Nat.le_of_ble_eq_true rfl, Nat.le_of_ble_eq_true rfl⟩) hP hS (fun r8 u8 H locs hw8 hP hS => ?_)
  refine lv_asI hw8 ?_
  refine lv_asI (y := nI 0) (inB_lo h) ?_
  refine lv_if_ne (tgt := 41) hx hb dX9_lamp_32 (by decide) (fun c9 => absurd (by decide) c9) (fun _ => ?_)
  refine lv_aload_n hx hb dX9_lamp_35 rfl (lv_at hl 0 rfl) ?_
  refine lv_iconst (v := nI 1) hx hb dX9_lamp_36 (by decide) ?_
  refine iw_i (va_runV (As := [.int (nI 1)]) (rest := []) ⟨hx, hb, hml, hown, hts⟩ (kX9_no l G N ad _ mo (by omega) (nI 0) (nI 1) (va_us _ _ _) _) (cwV 1 hts gX9_lamp_X9_no rfl rfl rfl (by decide +kernel) ⟨Nat.le_of_ble_eq_true rfl, Nat.le_of_ble_eq_true rfl⟩) (iPV hK hP hD (by omega) (va_us _ _ _) rfl [.int (nI 1)]) rfl rfl hl.1 rfl (lv_room (Nat.le_of_ble_eq_true rfl)) dX9_lamp_37 ⟨Nat.le_of_ble_eq_true rfl, Nat.le_of_ble_eq_true rfl⟩) hD hS hA (fun r8 u8 H locs hw8 hP hD hS => ?_)
  obtain ⟨hr8, hu8⟩ := hw8
  refine lv_asI hr8 ?_
  rw [hu8] at hP hD
  rw [va_uu _ _ _ _] at hP hD
  exact W.iret (v := (nI 0)) hx hb hr (fun t ht hW => ⟨⟨_, _, rfl, ⟨rfl, ⟨_, va_us _ _ _⟩, sameM_up (sameM_rf) _ (by omega) (by omega)⟩, iB_of ht hP⟩, hS.F ht⟩) hS.2.2 dX9_lamp_40
set_option maxRecDepth 20000 in
theorem il_X9_lamp_13 : (Cond.fieldLink RX9 13 "BayerGateModel" "quarters" "[I") ∈ wsX9_lamp := by decide +kernel
set_option maxHeartbeats 4000000 in
set_option maxRecDepth 100000 in
theorem kX9_lamp (l : Launch) (G : iG) (N : Nat) (ad : Nat → Nat) (C : Nat → va_E) (mo dz : Nat) (th : Int32) (hmod : Mod G N ad C mo dz th) (r1 g1 b1 : Nat) (hr1 : 0 < r1 ∧ r1 < 17) (hg1 : 0 < g1 ∧ g1 < 17) (hb1 : 0 < b1 ∧ b1 < 17) (sz : Nat) : Met l yX9_lamp wsX9_lamp rmX9_lamp (iPre G N ad C sz [.ref (ad mo), .int (nI r1), .int (nI g1), .int (nI b1)]) (va_Qi (fun (r : Int32) (u : Nat → va_E) => r = nI 4 ∧ Thr ad u mo (nI 0) ∧ sameM C u mo) (iB G N ad) (iA N ad sz)) 0 0 (iA N ad sz) := by
  refine Met.ofW (cc := cX9_lamp) (maxL := 5) (ret := (some .int)) (by decide) rfl ?_
  intro p e s m args below meth c s₁ B hml hv
  obtain ⟨rfl, hsz, hP, hK, hD0⟩ := hv
  have hx := B.exec
  have hb := B.bytes
  have hr := B.returns
  have hts := atoms_spec (ws := wsX9_lamp) B.pre
  have hown : s.vm.findClass RX9 = some m.cls := findClass_of_methodNamed B.named
  have hlocks := B.notSynchronized
  subst hsz
  have hD := wl_self hD0 s.heap.size
  have hA : ∀ q : Nat, s.heap.size ≤ q → iA N ad s.heap.size q := fun q h => Or.inr h
  have hS : va_S (iA N ad s.heap.size) s.heap s.heap [] := va_S.rf
  have hP : va_P G.1 vwB (wl N ad C) s.heap := hP
  have hl := lv_entry ([.ref (ad mo), .int (nI r1), .int (nI g1), .int (nI b1)]) (n := 5) (Nat.le_of_ble_eq_true rfl)
  rw [lg_entry_eq]
  generalize (lg_sl ([.ref (ad mo), .int (nI r1), .int (nI g1), .int (nI b1)]) ++ List.replicate (5 - (lg_sl ([.ref (ad mo), .int (nI r1), .int (nI g1), .int (nI b1)])).length) Slot.unset).toArray = ls at hl ⊢
  have hl : lv_has ls 5 [(0, .ref (ad mo)), (1, .int (nI r1)), (2, .int (nI g1)), (3, .int (nI b1))] := hl
  obtain ⟨hN, gm0, gm1, gm2, gm3, gm4, gm5, gm6⟩ := id hmod
  refine lv_aload_n hx hb dX9_lamp_0 rfl (lv_at hl 0 rfl) ?_
  refine lv_iconst (v := nI 0) hx hb dX9_lamp_1 (by decide) ?_
  refine iw_put (ty := .int) hx hb hts iu_X9_lamp_9 tyX9 tyX9_ok nmX9 hown hK hP hD hS (by omega) (gm0) rfl 0 (by decide) (hts _ il_X9_lamp_33) (fun _ h9 => h9) rfl (by decide +kernel) rfl rfl (Nat.le_of_ble_eq_true rfl) rfl dX9_lamp_2 (fun H locs hP hD hS => ?_)
  refine lv_iload_n hx hb dX9_lamp_5 rfl (lv_at hl 1 rfl) ?_
  refine lv_iconst (v := nI 1) hx hb dX9_lamp_6 (by decide) ?_
  refine lv_bipush (v := nI 16) hx hb dX9_lamp_7 (by decide) ?_
  refine iw_pi (va_runS (As := [.int (nI r1), .int (nI 1), .int (nI 16)]) (rest := []) ⟨hx, hb, hml, hown, hts⟩ (kX9_in l (nI r1) (nI 1) (nI 16)) (va_cwS 3 hts gX9_lamp_X9_in rfl rfl rfl (by decide +kernel) ⟨Nat.le_of_ble_eq_true rfl, Nat.le_of_ble_eq_true rfl⟩) ⟨fun a U g mk q => q, fun U hU hW => ⟨rfl, trivial⟩⟩ rfl rfl hl.1 rfl (lv_room (Nat.le_of_ble_eq_true rfl)) dX9_lamp_9 ⟨Nat.le_of_ble_eq_true rfl, Nat.le_of_ble_eq_true rfl⟩) hP hS (fun r8 u8 H locs hw8 hP hS => ?_)
  refine lv_asI hw8 ?_
  refine lv_asI (y := nI 1) (inB_in (nI_nlt (by omega) (by omega)) (nI_le (by omega) (by omega))) ?_
  refine lv_if_eq (tgt := 35) hx hb dX9_lamp_12 (by decide) (fun c9 => absurd c9 (by decide)) (fun _ => ?_)
  refine lv_iload_n hx hb dX9_lamp_15 rfl (lv_at hl 2 rfl) ?_
  refine lv_iconst (v := nI 1) hx hb dX9_lamp_16 (by decide) ?_
  refine lv_bipush (v := nI 16) hx hb dX9_lamp_17 (by decide) ?_
  refine iw_pi (va_runS (As := [.int (nI g1), .int (nI 1), .int (nI 16)]) (rest := []) ⟨hx, hb, hml, hown, hts⟩ (kX9_in l (nI g1) (nI 1) (nI 16)) (va_cwS 3 hts gX9_lamp_X9_in rfl rfl rfl (by decide +kernel) ⟨Nat.le_of_ble_eq_true rfl, Nat.le_of_ble_eq_true rfl⟩) ⟨fun a U g mk q => q, fun U hU hW => ⟨rfl, trivial⟩⟩ rfl rfl hl.1 rfl (lv_room (Nat.le_of_ble_eq_true rfl)) dX9_lamp_19 ⟨Nat.le_of_ble_eq_true rfl, Nat.le_of_ble_eq_true rfl⟩) hP hS (fun r8 u8 H locs hw8 hP hS => ?_)
  refine lv_asI hw8 ?_
  refine lv_asI (y := nI 1) (inB_in (nI_nlt (by omega) (by omega)) (nI_le (by omega) (by omega))) ?_
  refine lv_if_eq (tgt := 35) hx hb dX9_lamp_22 (by decide) (fun c9 => absurd c9 (by decide)) (fun _ => ?_)
  refine lv_iload_n hx hb dX9_lamp_25 rfl (lv_at hl 3 rfl) ?_
  refine lv_iconst (v := nI 1) hx hb dX9_lamp_26 (by decide) ?_
  refine lv_bipush (v := nI 16) hx hb dX9_lamp_27 (by decide) ?_
  refine iw_pi (va_runS (As := [.int (nI b1), .int (nI 1), .int (nI 16)]) (rest := []) ⟨hx, hb, hml, hown, hts⟩ (kX9_in l (nI b1) (nI 1) (nI 16)) (va_cwS 3 hts gX9_lamp_X9_in rfl rfl rfl (by decide +kernel) ⟨Nat.le_of_ble_eq_true rfl, Nat.le_of_ble_eq_true rfl⟩) ⟨fun a U g mk q => q, fun U hU hW => ⟨rfl, trivial⟩⟩ rfl rfl hl.1 rfl (lv_room (Nat.le_of_ble_eq_true rfl)) dX9_lamp_29 ⟨Nat.le_of_ble_eq_true rfl, Nat.le_of_ble_eq_true rfl⟩) hP hS (fun r8 u8 H locs hw8 hP hS => ?_)
  refine lv_asI hw8 ?_
  refine lv_asI (y := nI 1) (inB_in (nI_nlt (by omega) (by omega)) (nI_le (by omega) (by omega))) ?_
  refine lv_if_ne (tgt := 41) hx hb dX9_lamp_32 (by decide) (fun _ => ?_) (fun c9 => absurd c9 (by decide))
  refine lv_aload_n hx hb dX9_lamp_41 rfl (lv_at hl 0 rfl) ?_
  refine iw_get hx hb hts iu_X9_lamp_9 hown hK hP (by omega) (va_us _ _ _) rfl 2 (by decide) (hts _ il_X9_lamp_13) (fun _ h9 => h9) rfl dX9_lamp_42 ?_
  refine lv_iconst (v := nI 1) hx hb dX9_lamp_45 (by decide) ?_
  refine iw_iald (v := nI 4) hx hb hK hP (by omega) ((va_un _ _ (by omega)).trans (gm2)) (vp_in_nI (show 1 < 3 by omega) (by omega)) (rfl) dX9_lamp_46 ?_
  refine lv_istore (lv' := [(4, .int (nI 4)), (0, .ref (ad mo)), (1, .int (nI r1)), (2, .int (nI g1)), (3, .int (nI b1))]) hx hb dX9_lamp_47 hl (by decide) rfl (fun ls hl => ?_)
  refine lv_aload_n hx hb dX9_lamp_49 rfl (lv_at hl 1 rfl) ?_
  refine iw_get hx hb hts iu_X9_lamp_9 hown hK hP (by omega) (va_us _ _ _) rfl 2 (by decide) (hts _ il_X9_lamp_13) (fun _ h9 => h9) rfl dX9_lamp_50 ?_
  refine lv_iconst (v := nI 0) hx hb dX9_lamp_53 (by decide) ?_
  refine lv_iload_n hx hb dX9_lamp_54 rfl (lv_at hl 2 rfl) ?_
  refine iw_iast hx hb hK hP hD hS (by omega) ((va_un _ _ (by omega)).trans (gm2)) (vp_in_nI (show 0 < 3 by omega) (by omega)) (nI_clamp (by omega)) dX9_lamp_55 (fun H locs hP hD hS => ?_)
  refine lv_aload_n hx hb dX9_lamp_56 rfl (lv_at hl 1 rfl) ?_
  refine iw_get hx hb hts iu_X9_lamp_9 hown hK hP (by omega) ((va_un _ _ (by omega)).trans (va_us _ _ _)) rfl 2 (by decide) (hts _ il_X9_lamp_13) (fun _ h9 => h9) rfl dX9_lamp_57 ?_
  refine lv_iconst (v := nI 1) hx hb dX9_lamp_60 (by decide) ?_
  refine lv_iload_n hx hb dX9_lamp_61 rfl (lv_at hl 3 rfl) ?_
  refine iw_iast hx hb hK hP hD hS (by omega) (va_us _ _ _) (vp_in_nI (show 1 < 3 by omega) (by omega)) (nI_clamp (by omega)) dX9_lamp_62 (fun H locs hP hD hS => ?_)
  rw [va_uu _ _ _ _] at hP hD
  refine lv_aload_n hx hb dX9_lamp_63 rfl (lv_at hl 1 rfl) ?_
  refine iw_get hx hb hts iu_X9_lamp_9 hown hK hP (by omega) ((va_un _ _ (by omega)).trans (va_us _ _ _)) rfl 2 (by decide) (hts _ il_X9_lamp_13) (fun _ h9 => h9) rfl dX9_lamp_64 ?_
  refine lv_iconst (v := nI 2) hx hb dX9_lamp_67 (by decide) ?_
  refine lv_iload_n hx hb dX9_lamp_68 rfl (lv_at hl 4 rfl) ?_
  refine iw_iast hx hb hK hP hD hS (by omega) (va_us _ _ _) (vp_in_nI (show 2 < 3 by omega) (by omega)) (nI_clamp (by omega)) dX9_lamp_69 (fun H locs hP hD hS => ?_)
  rw [va_uu _ _ _ _] at hP hD
  refine lv_iload hx hb dX9_lamp_70 (lv_at hl 0 rfl) ?_
  exact W.iret (v := (nI 4)) hx hb hr (fun t ht hW => ⟨⟨_, _, rfl, ⟨rfl, ⟨_, (va_un _ _ (by omega)).trans (va_us _ _ _)⟩, sameM_up (sameM_up (sameM_rf) _ (by omega) (by omega)) _ (by omega) (by omega)⟩, iB_of ht hP⟩, hS.F ht⟩) hS.2.2 dX9_lamp_72
abbrev rmX9_spoil : Room := { frames := 2, cells := 0, slots := 0, locals := 43 }
set_option maxRecDepth 20000 in
theorem il_X9_spoil_33 : (Cond.fieldLink RX9 33 "BayerGateModel" "thrown" "I") ∈ wsX9_spoil := by decide +kernel
set_option maxRecDepth 20000 in
theorem iu_X9_spoil_9 : ∀ w ∈ u_ws RX9 TX9 8, w ∈ wsX9_spoil := by decide +kernel
set_option maxHeartbeats 4000000 in
set_option maxRecDepth 100000 in
theorem kX9_spoil_1 (l : Launch) (G : iG) (N : Nat) (ad : Nat → Nat) (C : Nat → va_E) (mo dz : Nat) (th : Int32) (hmod : Mod G N ad C mo dz th) (x y v : Int32) (h : isPl x y = false) (sz : Nat) : Met l yX9_spoil wsX9_spoil rmX9_spoil (iPre G N ad C sz [.ref (ad mo), .int x, .int y, .int v]) (va_Qi (fun (r : Int32) (u : Nat → va_E) => r = nI 0 ∧ Thr ad u mo (nI 1) ∧ sameM C u mo) (iB G N ad) (iA N ad sz)) 0 0 (iA N ad sz) := by
  refine Met.ofW (cc := cX9_spoil) (maxL := 5) (ret := (some .int)) (by decide) rfl ?_
  intro p e s m args below meth c s₁ B hml hv
  obtain ⟨rfl, hsz, hP, hK, hD0⟩ := hv
  have hx := B.exec
  have hb := B.bytes
  have hr := B.returns
  have hts := atoms_spec (ws := wsX9_spoil) B.pre
  have hown : s.vm.findClass RX9 = some m.cls := findClass_of_methodNamed B.named
  have hlocks := B.notSynchronized
  subst hsz
  have hD := wl_self hD0 s.heap.size
  have hA : ∀ q : Nat, s.heap.size ≤ q → iA N ad s.heap.size q := fun q h => Or.inr h
  have hS : va_S (iA N ad s.heap.size) s.heap s.heap [] := va_S.rf
  have hP : va_P G.1 vwB (wl N ad C) s.heap := hP
  have hl := lv_entry ([.ref (ad mo), .int x, .int y, .int v]) (n := 5) (Nat.le_of_ble_eq_true rfl)
  rw [lg_entry_eq]
  generalize (lg_sl ([.ref (ad mo), .int x, .int y, .int v]) ++ List.replicate (5 - (lg_sl ([.ref (ad mo), .int x, .int y, .int v])).length) Slot.unset).toArray = ls at hl ⊢
  have hl : lv_has ls 5 [(0, .ref (ad mo)), (1, .int x), (2, .int y), (3, .int v)] := hl
  obtain ⟨hN, gm0, gm1, gm2, gm3, gm4, gm5, gm6⟩ := id hmod
  refine lv_aload_n hx hb dX9_spoil_0 rfl (lv_at hl 0 rfl) ?_
  refine lv_iconst (v := nI 0) hx hb dX9_spoil_1 (by decide) ?_
  refine iw_put (ty := .int) hx hb hts iu_X9_spoil_9 tyX9 tyX9_ok nmX9 hown hK hP hD hS (by omega) (gm0) rfl 0 (by decide) (hts _ il_X9_spoil_33) (fun _ h9 => h9) rfl (by decide +kernel) rfl rfl (Nat.le_of_ble_eq_true rfl) rfl dX9_spoil_2 (fun H locs hP hD hS => ?_)
  refine lv_iload_n hx hb dX9_spoil_5 rfl (lv_at hl 1 rfl) ?_
  refine lv_iload_n hx hb dX9_spoil_6 rfl (lv_at hl 2 rfl) ?_
  refine iw_pi (va_runS (As := [.int x, .int y]) (rest := []) ⟨hx, hb, hml, hown, hts⟩ (kX9_isPlace l (x) (y)) (va_cwS 2 hts gX9_spoil_X9_isPlace rfl rfl rfl (by decide +kernel) ⟨Nat.le_of_ble_eq_true rfl, Nat.le_of_ble_eq_true rfl⟩) ⟨fun a U g mk q => q, fun U hU hW => ⟨rfl, trivial⟩⟩ rfl rfl hl.1 rfl (lv_room (Nat.le_of_ble_eq_true rfl)) dX9_spoil_7 ⟨Nat.le_of_ble_eq_true rfl, Nat.le_of_ble_eq_true rfl⟩) hP hS (fun r8 u8 H locs hw8 hP hS => ?_)
  refine lv_asI hw8 ?_
  refine lv_asI (y := nI 0) (by rw [h]; rfl) ?_
  refine lv_if_ne (tgt := 19) hx hb dX9_spoil_10 (by decide) (fun c9 => absurd (by decide) c9) (fun _ => ?_)
  refine lv_aload_n hx hb dX9_spoil_13 rfl (lv_at hl 0 rfl) ?_
  refine lv_iconst (v := nI 1) hx hb dX9_spoil_14 (by decide) ?_
  refine iw_i (va_runV (As := [.int (nI 1)]) (rest := []) ⟨hx, hb, hml, hown, hts⟩ (kX9_no l G N ad _ mo (by omega) (nI 0) (nI 1) (va_us _ _ _) _) (cwV 1 hts gX9_spoil_X9_no rfl rfl rfl (by decide +kernel) ⟨Nat.le_of_ble_eq_true rfl, Nat.le_of_ble_eq_true rfl⟩) (iPV hK hP hD (by omega) (va_us _ _ _) rfl [.int (nI 1)]) rfl rfl hl.1 rfl (lv_room (Nat.le_of_ble_eq_true rfl)) dX9_spoil_15 ⟨Nat.le_of_ble_eq_true rfl, Nat.le_of_ble_eq_true rfl⟩) hD hS hA (fun r8 u8 H locs hw8 hP hD hS => ?_)
  obtain ⟨hr8, hu8⟩ := hw8
  refine lv_asI hr8 ?_
  rw [hu8] at hP hD
  rw [va_uu _ _ _ _] at hP hD
  exact W.iret (v := (nI 0)) hx hb hr (fun t ht hW => ⟨⟨_, _, rfl, ⟨rfl, ⟨_, va_us _ _ _⟩, sameM_up (sameM_rf) _ (by omega) (by omega)⟩, iB_of ht hP⟩, hS.F ht⟩) hS.2.2 dX9_spoil_18
set_option maxHeartbeats 4000000 in
set_option maxRecDepth 100000 in
theorem kX9_spoil_2 (l : Launch) (G : iG) (N : Nat) (ad : Nat → Nat) (C : Nat → va_E) (mo dz : Nat) (th : Int32) (hmod : Mod G N ad C mo dz th) (x y : Nat) (hx8 : x < 8) (hy8 : y < 8) (v : Int32) (h : v < nI 0 ∨ nI 2 < v) (sz : Nat) : Met l yX9_spoil wsX9_spoil rmX9_spoil (iPre G N ad C sz [.ref (ad mo), .int (nI x), .int (nI y), .int v]) (va_Qi (fun (r : Int32) (u : Nat → va_E) => r = nI 0 ∧ Thr ad u mo (nI 2) ∧ sameM C u mo) (iB G N ad) (iA N ad sz)) 0 0 (iA N ad sz) := by
  refine Met.ofW (cc := cX9_spoil) (maxL := 5) (ret := (some .int)) (by decide) rfl ?_
  intro p e s m args below meth c s₁ B hml hv
  obtain ⟨rfl, hsz, hP, hK, hD0⟩ := hv
  have hx := B.exec
  have hb := B.bytes
  have hr := B.returns
  have hts := atoms_spec (ws := wsX9_spoil) B.pre
  have hown : s.vm.findClass RX9 = some m.cls := findClass_of_methodNamed B.named
  have hlocks := B.notSynchronized
  subst hsz
  have hD := wl_self hD0 s.heap.size
  have hA : ∀ q : Nat, s.heap.size ≤ q → iA N ad s.heap.size q := fun q h => Or.inr h
  have hS : va_S (iA N ad s.heap.size) s.heap s.heap [] := va_S.rf
  have hP : va_P G.1 vwB (wl N ad C) s.heap := hP
  have hl := lv_entry ([.ref (ad mo), .int (nI x), .int (nI y), .int v]) (n := 5) (Nat.le_of_ble_eq_true rfl)
  rw [lg_entry_eq]
  generalize (lg_sl ([.ref (ad mo), .int (nI x), .int (nI y), .int v]) ++ List.replicate (5 - (lg_sl ([.ref (ad mo), .int (nI x), .int (nI y), .int v])).length) Slot.unset).toArray = ls at hl ⊢
  have hl : lv_has ls 5 [(0, .ref (ad mo)), (1, .int (nI x)), (2, .int (nI y)), (3, .int v)] := hl
  obtain ⟨hN, gm0, gm1, gm2, gm3, gm4, gm5, gm6⟩ := id hmod
  refine lv_aload_n hx hb dX9_spoil_0 rfl (lv_at hl 0 rfl) ?_
  refine lv_iconst (v := nI 0) hx hb dX9_spoil_1 (by decide) ?_
  refine iw_put (ty := .int) hx hb hts iu_X9_spoil_9 tyX9 tyX9_ok nmX9 hown hK hP hD hS (by omega) (gm0) rfl 0 (by decide) (hts _ il_X9_spoil_33) (fun _ h9 => h9) rfl (by decide +kernel) rfl rfl (Nat.le_of_ble_eq_true rfl) rfl dX9_spoil_2 (fun H locs hP hD hS => ?_)
  refine lv_iload_n hx hb dX9_spoil_5 rfl (lv_at hl 1 rfl) ?_
  refine lv_iload_n hx hb dX9_spoil_6 rfl (lv_at hl 2 rfl) ?_
  refine iw_pi (va_runS (As := [.int (nI x), .int (nI y)]) (rest := []) ⟨hx, hb, hml, hown, hts⟩ (kX9_isPlace l (nI x) (nI y)) (va_cwS 2 hts gX9_spoil_X9_isPlace rfl rfl rfl (by decide +kernel) ⟨Nat.le_of_ble_eq_true rfl, Nat.le_of_ble_eq_true rfl⟩) ⟨fun a U g mk q => q, fun U hU hW => ⟨rfl, trivial⟩⟩ rfl rfl hl.1 rfl (lv_room (Nat.le_of_ble_eq_true rfl)) dX9_spoil_7 ⟨Nat.le_of_ble_eq_true rfl, Nat.le_of_ble_eq_true rfl⟩) hP hS (fun r8 u8 H locs hw8 hP hS => ?_)
  refine lv_asI hw8 ?_
  refine lv_asI (y := nI 1) (by rw [isPl_ok (by omega) (by omega)]; rfl) ?_
  refine lv_if_ne (tgt := 19) hx hb dX9_spoil_10 (by decide) (fun _ => ?_) (fun c9 => absurd c9 (by decide))
  refine lv_iload_n hx hb dX9_spoil_19 rfl (lv_at hl 3 rfl) ?_
  refine lv_iconst (v := nI 0) hx hb dX9_spoil_20 (by decide) ?_
  refine lv_iconst (v := nI 2) hx hb dX9_spoil_21 (by decide) ?_
  refine iw_pi (va_runS (As := [.int v, .int (nI 0), .int (nI 2)]) (rest := []) ⟨hx, hb, hml, hown, hts⟩ (kX9_in l (v) (nI 0) (nI 2)) (va_cwS 3 hts gX9_spoil_X9_in rfl rfl rfl (by decide +kernel) ⟨Nat.le_of_ble_eq_true rfl, Nat.le_of_ble_eq_true rfl⟩) ⟨fun a U g mk q => q, fun U hU hW => ⟨rfl, trivial⟩⟩ rfl rfl hl.1 rfl (lv_room (Nat.le_of_ble_eq_true rfl)) dX9_spoil_22 ⟨Nat.le_of_ble_eq_true rfl, Nat.le_of_ble_eq_true rfl⟩) hP hS (fun r8 u8 H locs hw8 hP hS => ?_)
  refine lv_asI hw8 ?_
  refine lv_asI (y := nI 0) (inB_lo h) ?_
  refine lv_if_ne (tgt := 34) hx hb dX9_spoil_25 (by decide) (fun c9 => absurd (by decide) c9) (fun _ => ?_)
  refine lv_aload_n hx hb dX9_spoil_28 rfl (lv_at hl 0 rfl) ?_
  refine lv_iconst (v := nI 2) hx hb dX9_spoil_29 (by decide) ?_
  refine iw_i (va_runV (As := [.int (nI 2)]) (rest := []) ⟨hx, hb, hml, hown, hts⟩ (kX9_no l G N ad _ mo (by omega) (nI 0) (nI 2) (va_us _ _ _) _) (cwV 1 hts gX9_spoil_X9_no rfl rfl rfl (by decide +kernel) ⟨Nat.le_of_ble_eq_true rfl, Nat.le_of_ble_eq_true rfl⟩) (iPV hK hP hD (by omega) (va_us _ _ _) rfl [.int (nI 2)]) rfl rfl hl.1 rfl (lv_room (Nat.le_of_ble_eq_true rfl)) dX9_spoil_30 ⟨Nat.le_of_ble_eq_true rfl, Nat.le_of_ble_eq_true rfl⟩) hD hS hA (fun r8 u8 H locs hw8 hP hD hS => ?_)
  obtain ⟨hr8, hu8⟩ := hw8
  refine lv_asI hr8 ?_
  rw [hu8] at hP hD
  rw [va_uu _ _ _ _] at hP hD
  exact W.iret (v := (nI 0)) hx hb hr (fun t ht hW => ⟨⟨_, _, rfl, ⟨rfl, ⟨_, va_us _ _ _⟩, sameM_up (sameM_rf) _ (by omega) (by omega)⟩, iB_of ht hP⟩, hS.F ht⟩) hS.2.2 dX9_spoil_33
set_option maxRecDepth 20000 in
theorem il_X9_spoil_16 : (Cond.fieldLink RX9 16 "BayerGateModel" "how" "[I") ∈ wsX9_spoil := by decide +kernel
set_option maxHeartbeats 4000000 in
set_option maxRecDepth 100000 in
theorem kX9_spoil (l : Launch) (G : iG) (N : Nat) (ad : Nat → Nat) (C : Nat → va_E) (mo dz : Nat) (th : Int32) (hmod : Mod G N ad C mo dz th) (x y : Nat) (hx8 : x < 8) (hy8 : y < 8) (v : Nat) (hv3 : v < 3) (sz : Nat) : Met l yX9_spoil wsX9_spoil rmX9_spoil (iPre G N ad C sz [.ref (ad mo), .int (nI x), .int (nI y), .int (nI v)]) (va_Qi (fun (r : Int32) (u : Nat → va_E) => r = nI 0 ∧ Thr ad u mo (nI 0) ∧ sameM C u mo) (iB G N ad) (iA N ad sz)) 0 0 (iA N ad sz) := by
  refine Met.ofW (cc := cX9_spoil) (maxL := 5) (ret := (some .int)) (by decide) rfl ?_
  intro p e s m args below meth c s₁ B hml hv
  obtain ⟨rfl, hsz, hP, hK, hD0⟩ := hv
  have hx := B.exec
  have hb := B.bytes
  have hr := B.returns
  have hts := atoms_spec (ws := wsX9_spoil) B.pre
  have hown : s.vm.findClass RX9 = some m.cls := findClass_of_methodNamed B.named
  have hlocks := B.notSynchronized
  subst hsz
  have hD := wl_self hD0 s.heap.size
  have hA : ∀ q : Nat, s.heap.size ≤ q → iA N ad s.heap.size q := fun q h => Or.inr h
  have hS : va_S (iA N ad s.heap.size) s.heap s.heap [] := va_S.rf
  have hP : va_P G.1 vwB (wl N ad C) s.heap := hP
  have hl := lv_entry ([.ref (ad mo), .int (nI x), .int (nI y), .int (nI v)]) (n := 5) (Nat.le_of_ble_eq_true rfl)
  rw [lg_entry_eq]
  generalize (lg_sl ([.ref (ad mo), .int (nI x), .int (nI y), .int (nI v)]) ++ List.replicate (5 - (lg_sl ([.ref (ad mo), .int (nI x), .int (nI y), .int (nI v)])).length) Slot.unset).toArray = ls at hl ⊢
  have hl : lv_has ls 5 [(0, .ref (ad mo)), (1, .int (nI x)), (2, .int (nI y)), (3, .int (nI v))] := hl
  obtain ⟨hN, gm0, gm1, gm2, gm3, gm4, gm5, gm6⟩ := id hmod
  refine lv_aload_n hx hb dX9_spoil_0 rfl (lv_at hl 0 rfl) ?_
  refine lv_iconst (v := nI 0) hx hb dX9_spoil_1 (by decide) ?_
  refine iw_put (ty := .int) hx hb hts iu_X9_spoil_9 tyX9 tyX9_ok nmX9 hown hK hP hD hS (by omega) (gm0) rfl 0 (by decide) (hts _ il_X9_spoil_33) (fun _ h9 => h9) rfl (by decide +kernel) rfl rfl (Nat.le_of_ble_eq_true rfl) rfl dX9_spoil_2 (fun H locs hP hD hS => ?_)
  refine lv_iload_n hx hb dX9_spoil_5 rfl (lv_at hl 1 rfl) ?_
  refine lv_iload_n hx hb dX9_spoil_6 rfl (lv_at hl 2 rfl) ?_
  refine iw_pi (va_runS (As := [.int (nI x), .int (nI y)]) (rest := []) ⟨hx, hb, hml, hown, hts⟩ (kX9_isPlace l (nI x) (nI y)) (va_cwS 2 hts gX9_spoil_X9_isPlace rfl rfl rfl (by decide +kernel) ⟨Nat.le_of_ble_eq_true rfl, Nat.le_of_ble_eq_true rfl⟩) ⟨fun a U g mk q => q, fun U hU hW => ⟨rfl, trivial⟩⟩ rfl rfl hl.1 rfl (lv_room (Nat.le_of_ble_eq_true rfl)) dX9_spoil_7 ⟨Nat.le_of_ble_eq_true rfl, Nat.le_of_ble_eq_true rfl⟩) hP hS (fun r8 u8 H locs hw8 hP hS => ?_)
  refine lv_asI hw8 ?_
  refine lv_asI (y := nI 1) (by rw [isPl_ok (by omega) (by omega)]; rfl) ?_
  refine lv_if_ne (tgt := 19) hx hb dX9_spoil_10 (by decide) (fun _ => ?_) (fun c9 => absurd c9 (by decide))
  refine lv_iload_n hx hb dX9_spoil_19 rfl (lv_at hl 3 rfl) ?_
  refine lv_iconst (v := nI 0) hx hb dX9_spoil_20 (by decide) ?_
  refine lv_iconst (v := nI 2) hx hb dX9_spoil_21 (by decide) ?_
  refine iw_pi (va_runS (As := [.int (nI v), .int (nI 0), .int (nI 2)]) (rest := []) ⟨hx, hb, hml, hown, hts⟩ (kX9_in l (nI v) (nI 0) (nI 2)) (va_cwS 3 hts gX9_spoil_X9_in rfl rfl rfl (by decide +kernel) ⟨Nat.le_of_ble_eq_true rfl, Nat.le_of_ble_eq_true rfl⟩) ⟨fun a U g mk q => q, fun U hU hW => ⟨rfl, trivial⟩⟩ rfl rfl hl.1 rfl (lv_room (Nat.le_of_ble_eq_true rfl)) dX9_spoil_22 ⟨Nat.le_of_ble_eq_true rfl, Nat.le_of_ble_eq_true rfl⟩) hP hS (fun r8 u8 H locs hw8 hP hS => ?_)
  refine lv_asI hw8 ?_
  refine lv_asI (y := nI 1) (inB_in (nI_nlt (by omega) (by omega)) (nI_le (by omega) (by omega))) ?_
  refine lv_if_ne (tgt := 34) hx hb dX9_spoil_25 (by decide) (fun _ => ?_) (fun c9 => absurd c9 (by decide))
  refine lv_aload_n hx hb dX9_spoil_34 rfl (lv_at hl 0 rfl) ?_
  refine iw_get hx hb hts iu_X9_spoil_9 hown hK hP (by omega) (va_us _ _ _) rfl 3 (by decide) (hts _ il_X9_spoil_16) (fun _ h9 => h9) rfl dX9_spoil_35 ?_
  refine lv_iload_n hx hb dX9_spoil_38 rfl (lv_at hl 1 rfl) ?_
  refine lv_iload_n hx hb dX9_spoil_39 rfl (lv_at hl 2 rfl) ?_
  refine iw_pi (va_runS (As := [.int (nI x), .int (nI y)]) (rest := [.ref (ad (mo + 3))]) ⟨hx, hb, hml, hown, hts⟩ (kX9_at l (x) (y)) (va_cwS 2 hts gX9_spoil_X9_at rfl rfl rfl (by decide +kernel) ⟨Nat.le_of_ble_eq_true rfl, Nat.le_of_ble_eq_true rfl⟩) ⟨fun a U g mk q => q, fun U hU hW => ⟨rfl, trivial⟩⟩ rfl rfl hl.1 rfl (lv_room (Nat.le_of_ble_eq_true rfl)) dX9_spoil_40 ⟨Nat.le_of_ble_eq_true rfl, Nat.le_of_ble_eq_true rfl⟩) hP hS (fun r8 u8 H locs hw8 hP hS => ?_)
  refine lv_asI hw8 ?_
  refine iw_iald (v := nI 0) hx hb hK hP (by omega) ((va_un _ _ (by omega)).trans (gm3)) (vp_in_nI (show 8 * y + x < 64 by omega) (by omega)) (rfl) dX9_spoil_43 ?_
  refine lv_istore (lv' := [(4, .int (nI 0)), (0, .ref (ad mo)), (1, .int (nI x)), (2, .int (nI y)), (3, .int (nI v))]) hx hb dX9_spoil_44 hl (by decide) rfl (fun ls hl => ?_)
  refine lv_aload_n hx hb dX9_spoil_46 rfl (lv_at hl 1 rfl) ?_
  refine iw_get hx hb hts iu_X9_spoil_9 hown hK hP (by omega) (va_us _ _ _) rfl 3 (by decide) (hts _ il_X9_spoil_16) (fun _ h9 => h9) rfl dX9_spoil_47 ?_
  refine lv_iload_n hx hb dX9_spoil_50 rfl (lv_at hl 2 rfl) ?_
  refine lv_iload_n hx hb dX9_spoil_51 rfl (lv_at hl 3 rfl) ?_
  refine iw_pi (va_runS (As := [.int (nI x), .int (nI y)]) (rest := [.ref (ad (mo + 3))]) ⟨hx, hb, hml, hown, hts⟩ (kX9_at l (x) (y)) (va_cwS 2 hts gX9_spoil_X9_at rfl rfl rfl (by decide +kernel) ⟨Nat.le_of_ble_eq_true rfl, Nat.le_of_ble_eq_true rfl⟩) ⟨fun a U g mk q => q, fun U hU hW => ⟨rfl, trivial⟩⟩ rfl rfl hl.1 rfl (lv_room (Nat.le_of_ble_eq_true rfl)) dX9_spoil_52 ⟨Nat.le_of_ble_eq_true rfl, Nat.le_of_ble_eq_true rfl⟩) hP hS (fun r8 u8 H locs hw8 hP hS => ?_)
  refine lv_asI hw8 ?_
  refine lv_iload_n hx hb dX9_spoil_55 rfl (lv_at hl 4 rfl) ?_
  refine iw_iast hx hb hK hP hD hS (by omega) ((va_un _ _ (by omega)).trans (gm3)) (vp_in_nI (show 8 * y + x < 64 by omega) (by omega)) (nI_clamp (by omega)) dX9_spoil_56 (fun H locs hP hD hS => ?_)
  refine lv_iload hx hb dX9_spoil_57 (lv_at hl 0 rfl) ?_
  exact W.iret (v := (nI 0)) hx hb hr (fun t ht hW => ⟨⟨_, _, rfl, ⟨rfl, ⟨_, (va_un _ _ (by omega)).trans (va_us _ _ _)⟩, sameM_up (sameM_up (sameM_rf) _ (by omega) (by omega)) _ (by omega) (by omega)⟩, iB_of ht hP⟩, hS.F ht⟩) hS.2.2 dX9_spoil_59
abbrev rmX9_map : Room := { frames := 2, cells := 0, slots := 0, locals := 43 }
set_option maxRecDepth 20000 in
theorem il_X9_map_33 : (Cond.fieldLink RX9 33 "BayerGateModel" "thrown" "I") ∈ wsX9_map := by decide +kernel
set_option maxRecDepth 20000 in
theorem iu_X9_map_9 : ∀ w ∈ u_ws RX9 TX9 8, w ∈ wsX9_map := by decide +kernel
set_option maxHeartbeats 4000000 in
set_option maxRecDepth 100000 in
theorem kX9_map_1 (l : Launch) (G : iG) (N : Nat) (ad : Nat → Nat) (C : Nat → va_E) (mo dz : Nat) (th : Int32) (hmod : Mod G N ad C mo dz th) (x y b1 : Int32) (h : isPl x y = false) (sz : Nat) : Met l yX9_map wsX9_map rmX9_map (iPre G N ad C sz [.ref (ad mo), .int x, .int y, .int b1]) (va_Qi (fun (r : Int32) (u : Nat → va_E) => r = nI 0 ∧ Thr ad u mo (nI 1) ∧ sameM C u mo) (iB G N ad) (iA N ad sz)) 0 0 (iA N ad sz) := by
  refine Met.ofW (cc := cX9_map) (maxL := 4) (ret := (some .int)) (by decide) rfl ?_
  intro p e s m args below meth c s₁ B hml hv
  obtain ⟨rfl, hsz, hP, hK, hD0⟩ := hv
  have hx := B.exec
  have hb := B.bytes
  have hr := B.returns
  have hts := atoms_spec (ws := wsX9_map) B.pre
  have hown : s.vm.findClass RX9 = some m.cls := findClass_of_methodNamed B.named
  have hlocks := B.notSynchronized
  subst hsz
  have hD := wl_self hD0 s.heap.size
  have hA : ∀ q : Nat, s.heap.size ≤ q → iA N ad s.heap.size q := fun q h => Or.inr h
  have hS : va_S (iA N ad s.heap.size) s.heap s.heap [] := va_S.rf
  have hP : va_P G.1 vwB (wl N ad C) s.heap := hP
  have hl := lv_entry ([.ref (ad mo), .int x, .int y, .int b1]) (n := 4) (Nat.le_of_ble_eq_true rfl)
  rw [lg_entry_eq]
  generalize (lg_sl ([.ref (ad mo), .int x, .int y, .int b1]) ++ List.replicate (4 - (lg_sl ([.ref (ad mo), .int x, .int y, .int b1])).length) Slot.unset).toArray = ls at hl ⊢
  have hl : lv_has ls 4 [(0, .ref (ad mo)), (1, .int x), (2, .int y), (3, .int b1)] := hl
  obtain ⟨hN, gm0, gm1, gm2, gm3, gm4, gm5, gm6⟩ := id hmod
  refine lv_aload_n hx hb dX9_map_0 rfl (lv_at hl 0 rfl) ?_
  refine lv_iconst (v := nI 0) hx hb dX9_map_1 (by decide) ?_
  refine iw_put (ty := .int) hx hb hts iu_X9_map_9 tyX9 tyX9_ok nmX9 hown hK hP hD hS (by omega) (gm0) rfl 0 (by decide) (hts _ il_X9_map_33) (fun _ h9 => h9) rfl (by decide +kernel) rfl rfl (Nat.le_of_ble_eq_true rfl) rfl dX9_map_2 (fun H locs hP hD hS => ?_)
  refine lv_iload_n hx hb dX9_map_5 rfl (lv_at hl 1 rfl) ?_
  refine lv_iload_n hx hb dX9_map_6 rfl (lv_at hl 2 rfl) ?_
  refine iw_pi (va_runS (As := [.int x, .int y]) (rest := []) ⟨hx, hb, hml, hown, hts⟩ (kX9_isPlace l (x) (y)) (va_cwS 2 hts gX9_map_X9_isPlace rfl rfl rfl (by decide +kernel) ⟨Nat.le_of_ble_eq_true rfl, Nat.le_of_ble_eq_true rfl⟩) ⟨fun a U g mk q => q, fun U hU hW => ⟨rfl, trivial⟩⟩ rfl rfl hl.1 rfl (lv_room (Nat.le_of_ble_eq_true rfl)) dX9_map_7 ⟨Nat.le_of_ble_eq_true rfl, Nat.le_of_ble_eq_true rfl⟩) hP hS (fun r8 u8 H locs hw8 hP hS => ?_)
  refine lv_asI hw8 ?_
  refine lv_asI (y := nI 0) (by rw [h]; rfl) ?_
  refine lv_if_ne (tgt := 19) hx hb dX9_map_10 (by decide) (fun c9 => absurd (by decide) c9) (fun _ => ?_)
  refine lv_aload_n hx hb dX9_map_13 rfl (lv_at hl 0 rfl) ?_
  refine lv_iconst (v := nI 1) hx hb dX9_map_14 (by decide) ?_
  refine iw_i (va_runV (As := [.int (nI 1)]) (rest := []) ⟨hx, hb, hml, hown, hts⟩ (kX9_no l G N ad _ mo (by omega) (nI 0) (nI 1) (va_us _ _ _) _) (cwV 1 hts gX9_map_X9_no rfl rfl rfl (by decide +kernel) ⟨Nat.le_of_ble_eq_true rfl, Nat.le_of_ble_eq_true rfl⟩) (iPV hK hP hD (by omega) (va_us _ _ _) rfl [.int (nI 1)]) rfl rfl hl.1 rfl (lv_room (Nat.le_of_ble_eq_true rfl)) dX9_map_15 ⟨Nat.le_of_ble_eq_true rfl, Nat.le_of_ble_eq_true rfl⟩) hD hS hA (fun r8 u8 H locs hw8 hP hD hS => ?_)
  obtain ⟨hr8, hu8⟩ := hw8
  refine lv_asI hr8 ?_
  rw [hu8] at hP hD
  rw [va_uu _ _ _ _] at hP hD
  exact W.iret (v := (nI 0)) hx hb hr (fun t ht hW => ⟨⟨_, _, rfl, ⟨rfl, ⟨_, va_us _ _ _⟩, sameM_up (sameM_rf) _ (by omega) (by omega)⟩, iB_of ht hP⟩, hS.F ht⟩) hS.2.2 dX9_map_18
set_option maxRecDepth 20000 in
theorem il_X9_map_19 : (Cond.fieldLink RX9 19 "BayerGateModel" "isMapped" "[Z") ∈ wsX9_map := by decide +kernel
set_option maxHeartbeats 4000000 in
set_option maxRecDepth 100000 in
theorem kX9_map (l : Launch) (G : iG) (N : Nat) (ad : Nat → Nat) (C : Nat → va_E) (mo dz : Nat) (th : Int32) (hmod : Mod G N ad C mo dz th) (x y : Nat) (hx8 : x < 8) (hy8 : y < 8) (b1 : Bool) (sz : Nat) : Met l yX9_map wsX9_map rmX9_map (iPre G N ad C sz [.ref (ad mo), .int (nI x), .int (nI y), .int (if b1 then nI 1 else nI 0)]) (va_Qi (fun (r : Int32) (u : Nat → va_E) => r = nI (ctN (va_up (fun _ => false) (8 * y + x) b1) 64) ∧ Thr ad u mo (nI 0) ∧ sameM C u mo) (iB G N ad) (iA N ad sz)) 0 0 (iA N ad sz) := by
  refine Met.ofW (cc := cX9_map) (maxL := 4) (ret := (some .int)) (by decide) rfl ?_
  intro p e s m args below meth c s₁ B hml hv
  obtain ⟨rfl, hsz, hP, hK, hD0⟩ := hv
  have hx := B.exec
  have hb := B.bytes
  have hr := B.returns
  have hts := atoms_spec (ws := wsX9_map) B.pre
  have hown : s.vm.findClass RX9 = some m.cls := findClass_of_methodNamed B.named
  have hlocks := B.notSynchronized
  subst hsz
  have hD := wl_self hD0 s.heap.size
  have hA : ∀ q : Nat, s.heap.size ≤ q → iA N ad s.heap.size q := fun q h => Or.inr h
  have hS : va_S (iA N ad s.heap.size) s.heap s.heap [] := va_S.rf
  have hP : va_P G.1 vwB (wl N ad C) s.heap := hP
  have hl := lv_entry ([.ref (ad mo), .int (nI x), .int (nI y), .int (if b1 then nI 1 else nI 0)]) (n := 4) (Nat.le_of_ble_eq_true rfl)
  rw [lg_entry_eq]
  generalize (lg_sl ([.ref (ad mo), .int (nI x), .int (nI y), .int (if b1 then nI 1 else nI 0)]) ++ List.replicate (4 - (lg_sl ([.ref (ad mo), .int (nI x), .int (nI y), .int (if b1 then nI 1 else nI 0)])).length) Slot.unset).toArray = ls at hl ⊢
  have hl : lv_has ls 4 [(0, .ref (ad mo)), (1, .int (nI x)), (2, .int (nI y)), (3, .int (if b1 then nI 1 else nI 0))] := hl
  obtain ⟨hN, gm0, gm1, gm2, gm3, gm4, gm5, gm6⟩ := id hmod
  refine lv_aload_n hx hb dX9_map_0 rfl (lv_at hl 0 rfl) ?_
  refine lv_iconst (v := nI 0) hx hb dX9_map_1 (by decide) ?_
  refine iw_put (ty := .int) hx hb hts iu_X9_map_9 tyX9 tyX9_ok nmX9 hown hK hP hD hS (by omega) (gm0) rfl 0 (by decide) (hts _ il_X9_map_33) (fun _ h9 => h9) rfl (by decide +kernel) rfl rfl (Nat.le_of_ble_eq_true rfl) rfl dX9_map_2 (fun H locs hP hD hS => ?_)
  refine lv_iload_n hx hb dX9_map_5 rfl (lv_at hl 1 rfl) ?_
  refine lv_iload_n hx hb dX9_map_6 rfl (lv_at hl 2 rfl) ?_
  refine iw_pi (va_runS (As := [.int (nI x), .int (nI y)]) (rest := []) ⟨hx, hb, hml, hown, hts⟩ (kX9_isPlace l (nI x) (nI y)) (va_cwS 2 hts gX9_map_X9_isPlace rfl rfl rfl (by decide +kernel) ⟨Nat.le_of_ble_eq_true rfl, Nat.le_of_ble_eq_true rfl⟩) ⟨fun a U g mk q => q, fun U hU hW => ⟨rfl, trivial⟩⟩ rfl rfl hl.1 rfl (lv_room (Nat.le_of_ble_eq_true rfl)) dX9_map_7 ⟨Nat.le_of_ble_eq_true rfl, Nat.le_of_ble_eq_true rfl⟩) hP hS (fun r8 u8 H locs hw8 hP hS => ?_)
  refine lv_asI hw8 ?_
  refine lv_asI (y := nI 1) (by rw [isPl_ok (by omega) (by omega)]; rfl) ?_
  refine lv_if_ne (tgt := 19) hx hb dX9_map_10 (by decide) (fun _ => ?_) (fun c9 => absurd c9 (by decide))
  refine lv_aload_n hx hb dX9_map_19 rfl (lv_at hl 0 rfl) ?_
  refine iw_get hx hb hts iu_X9_map_9 hown hK hP (by omega) (va_us _ _ _) rfl 4 (by decide) (hts _ il_X9_map_19) (fun _ h9 => h9) rfl dX9_map_20 ?_
  refine lv_iload_n hx hb dX9_map_23 rfl (lv_at hl 1 rfl) ?_
  refine lv_iload_n hx hb dX9_map_24 rfl (lv_at hl 2 rfl) ?_
  refine iw_pi (va_runS (As := [.int (nI x), .int (nI y)]) (rest := [.ref (ad (mo + 4))]) ⟨hx, hb, hml, hown, hts⟩ (kX9_at l (x) (y)) (va_cwS 2 hts gX9_map_X9_at rfl rfl rfl (by decide +kernel) ⟨Nat.le_of_ble_eq_true rfl, Nat.le_of_ble_eq_true rfl⟩) ⟨fun a U g mk q => q, fun U hU hW => ⟨rfl, trivial⟩⟩ rfl rfl hl.1 rfl (lv_room (Nat.le_of_ble_eq_true rfl)) dX9_map_25 ⟨Nat.le_of_ble_eq_true rfl, Nat.le_of_ble_eq_true rfl⟩) hP hS (fun r8 u8 H locs hw8 hP hS => ?_)
  refine lv_asI hw8 ?_
  refine lv_iload_n hx hb dX9_map_28 rfl (lv_at hl 3 rfl) ?_
  refine iw_zast (y := (if b1 then nI 1 else nI 0)) hx hb hK hP hD hS (by omega) ((va_un _ _ (by omega)).trans (gm4)) (vp_in_nI (show 8 * y + x < 64 by omega) (by omega)) (nI_clamp (by omega)) (bI_vp b1) dX9_map_29 (fun H locs hP hD hS => ?_)
  rw [show upd (fun _ => nI 0) (8 * y + x) (if b1 then nI 1 else nI 0) = bI (va_up (fun _ => false) (8 * y + x) b1) from by rw [← bI_f, bI_up]] at hP hD
  refine lv_aload_n hx hb dX9_map_30 rfl (lv_at hl 0 rfl) ?_
  refine iw_i (va_runV (As := []) (rest := []) ⟨hx, hb, hml, hown, hts⟩ (kX9_mapped l G N ad _ mo (mo + 4) (va_up (fun _ => false) (8 * y + x) b1) _ _ _ _ _ _ _ (by omega) (by omega) ((va_un _ _ (by omega)).trans (va_us _ _ _)) (va_us _ _ _) _) (cwV 0 hts gX9_map_X9_mapped rfl rfl rfl (by decide +kernel) ⟨Nat.le_of_ble_eq_true rfl, Nat.le_of_ble_eq_true rfl⟩) (iPV hK hP hD (by omega) ((va_un _ _ (by omega)).trans (va_us _ _ _)) rfl []) rfl rfl hl.1 rfl (lv_room (Nat.le_of_ble_eq_true rfl)) dX9_map_31 ⟨Nat.le_of_ble_eq_true rfl, Nat.le_of_ble_eq_true rfl⟩) hD hS hA (fun r8 u8 H locs hw8 hP hD hS => ?_)
  obtain ⟨hr8, hu8⟩ := hw8
  refine lv_asI hr8 ?_
  rw [hu8] at hP hD
  exact W.iret (v := (nI (ctN (va_up (fun _ => false) (8 * y + x) b1) 64))) hx hb hr (fun t ht hW => ⟨⟨_, _, rfl, ⟨rfl, ⟨_, (va_un _ _ (by omega)).trans (va_us _ _ _)⟩, sameM_up (sameM_up (sameM_rf) _ (by omega) (by omega)) _ (by omega) (by omega)⟩, iB_of ht hP⟩, hS.F ht⟩) hS.2.2 dX9_map_34
abbrev rmX9_edit : Room := { frames := 2, cells := 0, slots := 0, locals := 43 }
set_option maxRecDepth 20000 in
theorem il_X9_edit_33 : (Cond.fieldLink RX9 33 "BayerGateModel" "thrown" "I") ∈ wsX9_edit := by decide +kernel
set_option maxRecDepth 20000 in
theorem iu_X9_edit_9 : ∀ w ∈ u_ws RX9 TX9 8, w ∈ wsX9_edit := by decide +kernel
set_option maxHeartbeats 4000000 in
set_option maxRecDepth 100000 in
theorem kX9_edit (l : Launch) (G : iG) (N : Nat) (ad : Nat → Nat) (C : Nat → va_E) (mo dz : Nat) (th : Int32) (hmod : Mod G N ad C mo dz th) (k y0 y1 : Int32) (sz : Nat) : Met l yX9_edit wsX9_edit rmX9_edit (iPreV G N ad C sz [.ref (ad mo), .int k, .int y0, .int y1]) (va_Qi (fun (r : Int32) (u : Nat → va_E) => r = nI 0 ∧ Thr ad u mo (nI 1) ∧ sameM C u mo) (iB G N ad) (iA N ad sz)) 0 0 (iA N ad sz) := by
  refine Met.ofW (cc := cX9_edit) (maxL := 6) (ret := (some .int)) (by decide) rfl ?_
  intro p e s m args below meth c s₁ B hml hv
  obtain ⟨rfl, ⟨hsz, hP, hK, hD0⟩, hV⟩ := hv
  have hx := B.exec
  have hb := B.bytes
  have hr := B.returns
  have hts := atoms_spec (ws := wsX9_edit) B.pre
  have hown : s.vm.findClass RX9 = some m.cls := findClass_of_methodNamed B.named
  have hlocks := B.notSynchronized
  subst hsz
  have hD := wl_self hD0 s.heap.size
  have hA : ∀ q : Nat, s.heap.size ≤ q → iA N ad s.heap.size q := fun q h => Or.inr h
  have hS : va_S (iA N ad s.heap.size) s.heap s.heap [] := va_S.rf
  have hP : va_P G.1 vwB (wl N ad C) s.heap := hP
  have hl := lv_entry ([.ref (ad mo), .int k, .int y0, .int y1]) (n := 6) (Nat.le_of_ble_eq_true rfl)
  rw [lg_entry_eq]
  generalize (lg_sl ([.ref (ad mo), .int k, .int y0, .int y1]) ++ List.replicate (6 - (lg_sl ([.ref (ad mo), .int k, .int y0, .int y1])).length) Slot.unset).toArray = ls at hl ⊢
  have hl : lv_has ls 6 [(0, .ref (ad mo)), (1, .int k), (2, .int y0), (3, .int y1)] := hl
  obtain ⟨hN, gm0, gm1, gm2, gm3, gm4, gm5, gm6⟩ := id hmod
  refine lv_aload_n hx hb dX9_edit_0 rfl (lv_at hl 0 rfl) ?_
  refine lv_iconst (v := nI 0) hx hb dX9_edit_1 (by decide) ?_
  refine iw_put (ty := .int) hx hb hts iu_X9_edit_9 tyX9 tyX9_ok nmX9 hown hK hP hD hS (by omega) (gm0) rfl 0 (by decide) (hts _ il_X9_edit_33) (fun _ h9 => h9) rfl (by decide +kernel) rfl rfl (Nat.le_of_ble_eq_true rfl) rfl dX9_edit_2 (fun H locs hP hD hS => ?_)
  refine lv_aload_n hx hb dX9_edit_5 rfl (lv_at hl 0 rfl) ?_
  refine lv_iload_n hx hb dX9_edit_6 rfl (lv_at hl 1 rfl) ?_
  refine iw_i (va_runV (As := [.int k]) (rest := []) ⟨hx, hb, hml, hown, hts⟩ (kX9_isFrame l G N ad _ mo dz (nI 0) (by omega) (va_us _ _ _) ((va_un _ _ (by omega)).trans (gm5)) (k) _) (cwV 1 hts gX9_edit_X9_isFrame rfl rfl rfl (by decide +kernel) ⟨Nat.le_of_ble_eq_true rfl, Nat.le_of_ble_eq_true rfl⟩) (iPVV hK hV hP hD (by omega) (va_us _ _ _) rfl [.int k]) rfl rfl hl.1 rfl (lv_room (Nat.le_of_ble_eq_true rfl)) dX9_edit_7 ⟨Nat.le_of_ble_eq_true rfl, Nat.le_of_ble_eq_true rfl⟩) hD hS hA (fun r8 u8 H locs hw8 hP hD hS => ?_)
  obtain ⟨hr8, hu8⟩ := hw8
  refine lv_asI hr8 ?_
  rw [hu8] at hP hD
  refine lv_if_ne (tgt := 19) hx hb dX9_edit_10 (by decide) (fun c9 => absurd (by decide) c9) (fun _ => ?_)
  refine lv_aload_n hx hb dX9_edit_13 rfl (lv_at hl 0 rfl) ?_
  refine lv_iconst (v := nI 1) hx hb dX9_edit_14 (by decide) ?_
  refine iw_i (va_runV (As := [.int (nI 1)]) (rest := []) ⟨hx, hb, hml, hown, hts⟩ (kX9_no l G N ad _ mo (by omega) (nI 0) (nI 1) (va_us _ _ _) _) (cwV 1 hts gX9_edit_X9_no rfl rfl rfl (by decide +kernel) ⟨Nat.le_of_ble_eq_true rfl, Nat.le_of_ble_eq_true rfl⟩) (iPV hK hP hD (by omega) (va_us _ _ _) rfl [.int (nI 1)]) rfl rfl hl.1 rfl (lv_room (Nat.le_of_ble_eq_true rfl)) dX9_edit_15 ⟨Nat.le_of_ble_eq_true rfl, Nat.le_of_ble_eq_true rfl⟩) hD hS hA (fun r8 u8 H locs hw8 hP hD hS => ?_)
  obtain ⟨hr8, hu8⟩ := hw8
  refine lv_asI hr8 ?_
  rw [hu8] at hP hD
  rw [va_uu _ _ _ _] at hP hD
  exact W.iret (v := (nI 0)) hx hb hr (fun t ht hW => ⟨⟨_, _, rfl, ⟨rfl, ⟨_, va_us _ _ _⟩, sameM_up (sameM_rf) _ (by omega) (by omega)⟩, iB_of ht hP⟩, hS.F ht⟩) hS.2.2 dX9_edit_18
abbrev rmX9_undo : Room := { frames := 2, cells := 0, slots := 0, locals := 43 }
set_option maxRecDepth 20000 in
theorem il_X9_undo_33 : (Cond.fieldLink RX9 33 "BayerGateModel" "thrown" "I") ∈ wsX9_undo := by decide +kernel
set_option maxRecDepth 20000 in
theorem iu_X9_undo_9 : ∀ w ∈ u_ws RX9 TX9 8, w ∈ wsX9_undo := by decide +kernel
set_option maxHeartbeats 4000000 in
set_option maxRecDepth 100000 in
theorem kX9_undo (l : Launch) (G : iG) (N : Nat) (ad : Nat → Nat) (C : Nat → va_E) (mo dz : Nat) (th : Int32) (hmod : Mod G N ad C mo dz th) (k : Int32) (sz : Nat) : Met l yX9_undo wsX9_undo rmX9_undo (iPreV G N ad C sz [.ref (ad mo), .int k]) (va_Qi (fun (r : Int32) (u : Nat → va_E) => r = nI 0 ∧ Thr ad u mo (nI 1) ∧ sameM C u mo) (iB G N ad) (iA N ad sz)) 0 0 (iA N ad sz) := by
  refine Met.ofW (cc := cX9_undo) (maxL := 3) (ret := (some .int)) (by decide) rfl ?_
  intro p e s m args below meth c s₁ B hml hv
  obtain ⟨rfl, ⟨hsz, hP, hK, hD0⟩, hV⟩ := hv
  have hx := B.exec
  have hb := B.bytes
  have hr := B.returns
  have hts := atoms_spec (ws := wsX9_undo) B.pre
  have hown : s.vm.findClass RX9 = some m.cls := findClass_of_methodNamed B.named
  have hlocks := B.notSynchronized
  subst hsz
  have hD := wl_self hD0 s.heap.size
  have hA : ∀ q : Nat, s.heap.size ≤ q → iA N ad s.heap.size q := fun q h => Or.inr h
  have hS : va_S (iA N ad s.heap.size) s.heap s.heap [] := va_S.rf
  have hP : va_P G.1 vwB (wl N ad C) s.heap := hP
  have hl := lv_entry ([.ref (ad mo), .int k]) (n := 3) (Nat.le_of_ble_eq_true rfl)
  rw [lg_entry_eq]
  generalize (lg_sl ([.ref (ad mo), .int k]) ++ List.replicate (3 - (lg_sl ([.ref (ad mo), .int k])).length) Slot.unset).toArray = ls at hl ⊢
  have hl : lv_has ls 3 [(0, .ref (ad mo)), (1, .int k)] := hl
  obtain ⟨hN, gm0, gm1, gm2, gm3, gm4, gm5, gm6⟩ := id hmod
  refine lv_aload_n hx hb dX9_undo_0 rfl (lv_at hl 0 rfl) ?_
  refine lv_iconst (v := nI 0) hx hb dX9_undo_1 (by decide) ?_
  refine iw_put (ty := .int) hx hb hts iu_X9_undo_9 tyX9 tyX9_ok nmX9 hown hK hP hD hS (by omega) (gm0) rfl 0 (by decide) (hts _ il_X9_undo_33) (fun _ h9 => h9) rfl (by decide +kernel) rfl rfl (Nat.le_of_ble_eq_true rfl) rfl dX9_undo_2 (fun H locs hP hD hS => ?_)
  refine lv_aload_n hx hb dX9_undo_5 rfl (lv_at hl 0 rfl) ?_
  refine lv_iload_n hx hb dX9_undo_6 rfl (lv_at hl 1 rfl) ?_
  refine iw_i (va_runV (As := [.int k]) (rest := []) ⟨hx, hb, hml, hown, hts⟩ (kX9_isFrame l G N ad _ mo dz (nI 0) (by omega) (va_us _ _ _) ((va_un _ _ (by omega)).trans (gm5)) (k) _) (cwV 1 hts gX9_undo_X9_isFrame rfl rfl rfl (by decide +kernel) ⟨Nat.le_of_ble_eq_true rfl, Nat.le_of_ble_eq_true rfl⟩) (iPVV hK hV hP hD (by omega) (va_us _ _ _) rfl [.int k]) rfl rfl hl.1 rfl (lv_room (Nat.le_of_ble_eq_true rfl)) dX9_undo_7 ⟨Nat.le_of_ble_eq_true rfl, Nat.le_of_ble_eq_true rfl⟩) hD hS hA (fun r8 u8 H locs hw8 hP hD hS => ?_)
  obtain ⟨hr8, hu8⟩ := hw8
  refine lv_asI hr8 ?_
  rw [hu8] at hP hD
  refine lv_if_ne (tgt := 19) hx hb dX9_undo_10 (by decide) (fun c9 => absurd (by decide) c9) (fun _ => ?_)
  refine lv_aload_n hx hb dX9_undo_13 rfl (lv_at hl 0 rfl) ?_
  refine lv_iconst (v := nI 1) hx hb dX9_undo_14 (by decide) ?_
  refine iw_i (va_runV (As := [.int (nI 1)]) (rest := []) ⟨hx, hb, hml, hown, hts⟩ (kX9_no l G N ad _ mo (by omega) (nI 0) (nI 1) (va_us _ _ _) _) (cwV 1 hts gX9_undo_X9_no rfl rfl rfl (by decide +kernel) ⟨Nat.le_of_ble_eq_true rfl, Nat.le_of_ble_eq_true rfl⟩) (iPV hK hP hD (by omega) (va_us _ _ _) rfl [.int (nI 1)]) rfl rfl hl.1 rfl (lv_room (Nat.le_of_ble_eq_true rfl)) dX9_undo_15 ⟨Nat.le_of_ble_eq_true rfl, Nat.le_of_ble_eq_true rfl⟩) hD hS hA (fun r8 u8 H locs hw8 hP hD hS => ?_)
  obtain ⟨hr8, hu8⟩ := hw8
  refine lv_asI hr8 ?_
  rw [hu8] at hP hD
  rw [va_uu _ _ _ _] at hP hD
  exact W.iret (v := (nI 0)) hx hb hr (fun t ht hW => ⟨⟨_, _, rfl, ⟨rfl, ⟨_, va_us _ _ _⟩, sameM_up (sameM_rf) _ (by omega) (by omega)⟩, iB_of ht hP⟩, hS.F ht⟩) hS.2.2 dX9_undo_18
abbrev rmX9_save : Room := { frames := 2, cells := 0, slots := 0, locals := 43 }
set_option maxRecDepth 20000 in
theorem il_X9_save_33 : (Cond.fieldLink RX9 33 "BayerGateModel" "thrown" "I") ∈ wsX9_save := by decide +kernel
set_option maxRecDepth 20000 in
theorem iu_X9_save_9 : ∀ w ∈ u_ws RX9 TX9 8, w ∈ wsX9_save := by decide +kernel
set_option maxHeartbeats 4000000 in
set_option maxRecDepth 100000 in
theorem kX9_save (l : Launch) (G : iG) (N : Nat) (ad : Nat → Nat) (C : Nat → va_E) (mo dz : Nat) (th : Int32) (hmod : Mod G N ad C mo dz th) (k : Int32) (sz : Nat) : Met l yX9_save wsX9_save rmX9_save (iPreV G N ad C sz [.ref (ad mo), .int k]) (va_Qi (fun (r : Int32) (u : Nat → va_E) => r = nI 0 ∧ Thr ad u mo (nI 1) ∧ sameM C u mo) (iB G N ad) (iA N ad sz)) 0 0 (iA N ad sz) := by
  refine Met.ofW (cc := cX9_save) (maxL := 5) (ret := (some .int)) (by decide) rfl ?_
  intro p e s m args below meth c s₁ B hml hv
  obtain ⟨rfl, ⟨hsz, hP, hK, hD0⟩, hV⟩ := hv
  have hx := B.exec
  have hb := B.bytes
  have hr := B.returns
  have hts := atoms_spec (ws := wsX9_save) B.pre
  have hown : s.vm.findClass RX9 = some m.cls := findClass_of_methodNamed B.named
  have hlocks := B.notSynchronized
  subst hsz
  have hD := wl_self hD0 s.heap.size
  have hA : ∀ q : Nat, s.heap.size ≤ q → iA N ad s.heap.size q := fun q h => Or.inr h
  have hS : va_S (iA N ad s.heap.size) s.heap s.heap [] := va_S.rf
  have hP : va_P G.1 vwB (wl N ad C) s.heap := hP
  have hl := lv_entry ([.ref (ad mo), .int k]) (n := 5) (Nat.le_of_ble_eq_true rfl)
  rw [lg_entry_eq]
  generalize (lg_sl ([.ref (ad mo), .int k]) ++ List.replicate (5 - (lg_sl ([.ref (ad mo), .int k])).length) Slot.unset).toArray = ls at hl ⊢
  have hl : lv_has ls 5 [(0, .ref (ad mo)), (1, .int k)] := hl
  obtain ⟨hN, gm0, gm1, gm2, gm3, gm4, gm5, gm6⟩ := id hmod
  refine lv_aload_n hx hb dX9_save_0 rfl (lv_at hl 0 rfl) ?_
  refine lv_iconst (v := nI 0) hx hb dX9_save_1 (by decide) ?_
  refine iw_put (ty := .int) hx hb hts iu_X9_save_9 tyX9 tyX9_ok nmX9 hown hK hP hD hS (by omega) (gm0) rfl 0 (by decide) (hts _ il_X9_save_33) (fun _ h9 => h9) rfl (by decide +kernel) rfl rfl (Nat.le_of_ble_eq_true rfl) rfl dX9_save_2 (fun H locs hP hD hS => ?_)
  refine lv_aload_n hx hb dX9_save_5 rfl (lv_at hl 0 rfl) ?_
  refine lv_iload_n hx hb dX9_save_6 rfl (lv_at hl 1 rfl) ?_
  refine iw_i (va_runV (As := [.int k]) (rest := []) ⟨hx, hb, hml, hown, hts⟩ (kX9_isFrame l G N ad _ mo dz (nI 0) (by omega) (va_us _ _ _) ((va_un _ _ (by omega)).trans (gm5)) (k) _) (cwV 1 hts gX9_save_X9_isFrame rfl rfl rfl (by decide +kernel) ⟨Nat.le_of_ble_eq_true rfl, Nat.le_of_ble_eq_true rfl⟩) (iPVV hK hV hP hD (by omega) (va_us _ _ _) rfl [.int k]) rfl rfl hl.1 rfl (lv_room (Nat.le_of_ble_eq_true rfl)) dX9_save_7 ⟨Nat.le_of_ble_eq_true rfl, Nat.le_of_ble_eq_true rfl⟩) hD hS hA (fun r8 u8 H locs hw8 hP hD hS => ?_)
  obtain ⟨hr8, hu8⟩ := hw8
  refine lv_asI hr8 ?_
  rw [hu8] at hP hD
  refine lv_if_ne (tgt := 19) hx hb dX9_save_10 (by decide) (fun c9 => absurd (by decide) c9) (fun _ => ?_)
  refine lv_aload_n hx hb dX9_save_13 rfl (lv_at hl 0 rfl) ?_
  refine lv_iconst (v := nI 1) hx hb dX9_save_14 (by decide) ?_
  refine iw_i (va_runV (As := [.int (nI 1)]) (rest := []) ⟨hx, hb, hml, hown, hts⟩ (kX9_no l G N ad _ mo (by omega) (nI 0) (nI 1) (va_us _ _ _) _) (cwV 1 hts gX9_save_X9_no rfl rfl rfl (by decide +kernel) ⟨Nat.le_of_ble_eq_true rfl, Nat.le_of_ble_eq_true rfl⟩) (iPV hK hP hD (by omega) (va_us _ _ _) rfl [.int (nI 1)]) rfl rfl hl.1 rfl (lv_room (Nat.le_of_ble_eq_true rfl)) dX9_save_15 ⟨Nat.le_of_ble_eq_true rfl, Nat.le_of_ble_eq_true rfl⟩) hD hS hA (fun r8 u8 H locs hw8 hP hD hS => ?_)
  obtain ⟨hr8, hu8⟩ := hw8
  refine lv_asI hr8 ?_
  rw [hu8] at hP hD
  rw [va_uu _ _ _ _] at hP hD
  exact W.iret (v := (nI 0)) hx hb hr (fun t ht hW => ⟨⟨_, _, rfl, ⟨rfl, ⟨_, va_us _ _ _⟩, sameM_up (sameM_rf) _ (by omega) (by omega)⟩, iB_of ht hP⟩, hS.F ht⟩) hS.2.2 dX9_save_18
abbrev rmX9_raw : Room := { frames := 2, cells := 0, slots := 0, locals := 43 }
set_option maxRecDepth 20000 in
theorem il_X9_raw_33 : (Cond.fieldLink RX9 33 "BayerGateModel" "thrown" "I") ∈ wsX9_raw := by decide +kernel
set_option maxRecDepth 20000 in
theorem iu_X9_raw_9 : ∀ w ∈ u_ws RX9 TX9 8, w ∈ wsX9_raw := by decide +kernel
set_option maxHeartbeats 4000000 in
set_option maxRecDepth 100000 in
theorem kX9_raw (l : Launch) (G : iG) (N : Nat) (ad : Nat → Nat) (C : Nat → va_E) (mo dz : Nat) (th : Int32) (hmod : Mod G N ad C mo dz th) (k y0 y1 : Int32) (sz : Nat) : Met l yX9_raw wsX9_raw rmX9_raw (iPreV G N ad C sz [.ref (ad mo), .int k, .int y0, .int y1]) (va_Qi (fun (r : Int32) (u : Nat → va_E) => r = nI 0 ∧ Thr ad u mo (nI 1) ∧ sameM C u mo) (iB G N ad) (iA N ad sz)) 0 0 (iA N ad sz) := by
  refine Met.ofW (cc := cX9_raw) (maxL := 4) (ret := (some .int)) (by decide) rfl ?_
  intro p e s m args below meth c s₁ B hml hv
  obtain ⟨rfl, ⟨hsz, hP, hK, hD0⟩, hV⟩ := hv
  have hx := B.exec
  have hb := B.bytes
  have hr := B.returns
  have hts := atoms_spec (ws := wsX9_raw) B.pre
  have hown : s.vm.findClass RX9 = some m.cls := findClass_of_methodNamed B.named
  have hlocks := B.notSynchronized
  subst hsz
  have hD := wl_self hD0 s.heap.size
  have hA : ∀ q : Nat, s.heap.size ≤ q → iA N ad s.heap.size q := fun q h => Or.inr h
  have hS : va_S (iA N ad s.heap.size) s.heap s.heap [] := va_S.rf
  have hP : va_P G.1 vwB (wl N ad C) s.heap := hP
  have hl := lv_entry ([.ref (ad mo), .int k, .int y0, .int y1]) (n := 4) (Nat.le_of_ble_eq_true rfl)
  rw [lg_entry_eq]
  generalize (lg_sl ([.ref (ad mo), .int k, .int y0, .int y1]) ++ List.replicate (4 - (lg_sl ([.ref (ad mo), .int k, .int y0, .int y1])).length) Slot.unset).toArray = ls at hl ⊢
  have hl : lv_has ls 4 [(0, .ref (ad mo)), (1, .int k), (2, .int y0), (3, .int y1)] := hl
  obtain ⟨hN, gm0, gm1, gm2, gm3, gm4, gm5, gm6⟩ := id hmod
  refine lv_aload_n hx hb dX9_raw_0 rfl (lv_at hl 0 rfl) ?_
  refine lv_iconst (v := nI 0) hx hb dX9_raw_1 (by decide) ?_
  refine iw_put (ty := .int) hx hb hts iu_X9_raw_9 tyX9 tyX9_ok nmX9 hown hK hP hD hS (by omega) (gm0) rfl 0 (by decide) (hts _ il_X9_raw_33) (fun _ h9 => h9) rfl (by decide +kernel) rfl rfl (Nat.le_of_ble_eq_true rfl) rfl dX9_raw_2 (fun H locs hP hD hS => ?_)
  refine lv_aload_n hx hb dX9_raw_5 rfl (lv_at hl 0 rfl) ?_
  refine lv_iload_n hx hb dX9_raw_6 rfl (lv_at hl 1 rfl) ?_
  refine iw_i (va_runV (As := [.int k]) (rest := []) ⟨hx, hb, hml, hown, hts⟩ (kX9_isFrame l G N ad _ mo dz (nI 0) (by omega) (va_us _ _ _) ((va_un _ _ (by omega)).trans (gm5)) (k) _) (cwV 1 hts gX9_raw_X9_isFrame rfl rfl rfl (by decide +kernel) ⟨Nat.le_of_ble_eq_true rfl, Nat.le_of_ble_eq_true rfl⟩) (iPVV hK hV hP hD (by omega) (va_us _ _ _) rfl [.int k]) rfl rfl hl.1 rfl (lv_room (Nat.le_of_ble_eq_true rfl)) dX9_raw_7 ⟨Nat.le_of_ble_eq_true rfl, Nat.le_of_ble_eq_true rfl⟩) hD hS hA (fun r8 u8 H locs hw8 hP hD hS => ?_)
  obtain ⟨hr8, hu8⟩ := hw8
  refine lv_asI hr8 ?_
  rw [hu8] at hP hD
  refine lv_if_eq (tgt := 21) hx hb dX9_raw_10 (by decide) (fun _ => ?_) (fun c9 => absurd (by decide) c9)
  refine lv_aload_n hx hb dX9_raw_21 rfl (lv_at hl 0 rfl) ?_
  refine lv_iconst (v := nI 1) hx hb dX9_raw_22 (by decide) ?_
  refine iw_i (va_runV (As := [.int (nI 1)]) (rest := []) ⟨hx, hb, hml, hown, hts⟩ (kX9_no l G N ad _ mo (by omega) (nI 0) (nI 1) (va_us _ _ _) _) (cwV 1 hts gX9_raw_X9_no rfl rfl rfl (by decide +kernel) ⟨Nat.le_of_ble_eq_true rfl, Nat.le_of_ble_eq_true rfl⟩) (iPV hK hP hD (by omega) (va_us _ _ _) rfl [.int (nI 1)]) rfl rfl hl.1 rfl (lv_room (Nat.le_of_ble_eq_true rfl)) dX9_raw_23 ⟨Nat.le_of_ble_eq_true rfl, Nat.le_of_ble_eq_true rfl⟩) hD hS hA (fun r8 u8 H locs hw8 hP hD hS => ?_)
  obtain ⟨hr8, hu8⟩ := hw8
  refine lv_asI hr8 ?_
  rw [hu8] at hP hD
  rw [va_uu _ _ _ _] at hP hD
  exact W.iret (v := (nI 0)) hx hb hr (fun t ht hW => ⟨⟨_, _, rfl, ⟨rfl, ⟨_, va_us _ _ _⟩, sameM_up (sameM_rf) _ (by omega) (by omega)⟩, iB_of ht hP⟩, hS.F ht⟩) hS.2.2 dX9_raw_26
abbrev rmX9_word_ : Room := { frames := 2, cells := 0, slots := 0, locals := 43 }
set_option maxRecDepth 20000 in
theorem il_X9_word__33 : (Cond.fieldLink RX9 33 "BayerGateModel" "thrown" "I") ∈ wsX9_word_ := by decide +kernel
set_option maxRecDepth 20000 in
theorem iu_X9_word__9 : ∀ w ∈ u_ws RX9 TX9 8, w ∈ wsX9_word_ := by decide +kernel
set_option maxHeartbeats 4000000 in
set_option maxRecDepth 100000 in
theorem kX9_word_ (l : Launch) (G : iG) (N : Nat) (ad : Nat → Nat) (C : Nat → va_E) (mo dz : Nat) (th : Int32) (hmod : Mod G N ad C mo dz th) (k : Int32) (sz : Nat) : Met l yX9_word_ wsX9_word_ rmX9_word_ (iPreV G N ad C sz [.ref (ad mo), .int k]) (va_Qi (fun (r : Int32) (u : Nat → va_E) => r = nI 0 ∧ Thr ad u mo (nI 1) ∧ sameM C u mo) (iB G N ad) (iA N ad sz)) 0 0 (iA N ad sz) := by
  refine Met.ofW (cc := cX9_word_) (maxL := 2) (ret := (some .int)) (by decide) rfl ?_
  intro p e s m args below meth c s₁ B hml hv
  obtain ⟨rfl, ⟨hsz, hP, hK, hD0⟩, hV⟩ := hv
  have hx := B.exec
  have hb := B.bytes
  have hr := B.returns
  have hts := atoms_spec (ws := wsX9_word_) B.pre
  have hown : s.vm.findClass RX9 = some m.cls := findClass_of_methodNamed B.named
  have hlocks := B.notSynchronized
  subst hsz
  have hD := wl_self hD0 s.heap.size
  have hA : ∀ q : Nat, s.heap.size ≤ q → iA N ad s.heap.size q := fun q h => Or.inr h
  have hS : va_S (iA N ad s.heap.size) s.heap s.heap [] := va_S.rf
  have hP : va_P G.1 vwB (wl N ad C) s.heap := hP
  have hl := lv_entry ([.ref (ad mo), .int k]) (n := 2) (Nat.le_of_ble_eq_true rfl)
  rw [lg_entry_eq]
  generalize (lg_sl ([.ref (ad mo), .int k]) ++ List.replicate (2 - (lg_sl ([.ref (ad mo), .int k])).length) Slot.unset).toArray = ls at hl ⊢
  have hl : lv_has ls 2 [(0, .ref (ad mo)), (1, .int k)] := hl
  obtain ⟨hN, gm0, gm1, gm2, gm3, gm4, gm5, gm6⟩ := id hmod
  refine lv_aload_n hx hb dX9_word__0 rfl (lv_at hl 0 rfl) ?_
  refine lv_iconst (v := nI 0) hx hb dX9_word__1 (by decide) ?_
  refine iw_put (ty := .int) hx hb hts iu_X9_word__9 tyX9 tyX9_ok nmX9 hown hK hP hD hS (by omega) (gm0) rfl 0 (by decide) (hts _ il_X9_word__33) (fun _ h9 => h9) rfl (by decide +kernel) rfl rfl (Nat.le_of_ble_eq_true rfl) rfl dX9_word__2 (fun H locs hP hD hS => ?_)
  refine lv_aload_n hx hb dX9_word__5 rfl (lv_at hl 0 rfl) ?_
  refine lv_iload_n hx hb dX9_word__6 rfl (lv_at hl 1 rfl) ?_
  refine iw_i (va_runV (As := [.int k]) (rest := []) ⟨hx, hb, hml, hown, hts⟩ (kX9_isFrame l G N ad _ mo dz (nI 0) (by omega) (va_us _ _ _) ((va_un _ _ (by omega)).trans (gm5)) (k) _) (cwV 1 hts gX9_word__X9_isFrame rfl rfl rfl (by decide +kernel) ⟨Nat.le_of_ble_eq_true rfl, Nat.le_of_ble_eq_true rfl⟩) (iPVV hK hV hP hD (by omega) (va_us _ _ _) rfl [.int k]) rfl rfl hl.1 rfl (lv_room (Nat.le_of_ble_eq_true rfl)) dX9_word__7 ⟨Nat.le_of_ble_eq_true rfl, Nat.le_of_ble_eq_true rfl⟩) hD hS hA (fun r8 u8 H locs hw8 hP hD hS => ?_)
  obtain ⟨hr8, hu8⟩ := hw8
  refine lv_asI hr8 ?_
  rw [hu8] at hP hD
  refine lv_if_ne (tgt := 19) hx hb dX9_word__10 (by decide) (fun c9 => absurd (by decide) c9) (fun _ => ?_)
  refine lv_aload_n hx hb dX9_word__13 rfl (lv_at hl 0 rfl) ?_
  refine lv_iconst (v := nI 1) hx hb dX9_word__14 (by decide) ?_
  refine iw_i (va_runV (As := [.int (nI 1)]) (rest := []) ⟨hx, hb, hml, hown, hts⟩ (kX9_no l G N ad _ mo (by omega) (nI 0) (nI 1) (va_us _ _ _) _) (cwV 1 hts gX9_word__X9_no rfl rfl rfl (by decide +kernel) ⟨Nat.le_of_ble_eq_true rfl, Nat.le_of_ble_eq_true rfl⟩) (iPV hK hP hD (by omega) (va_us _ _ _) rfl [.int (nI 1)]) rfl rfl hl.1 rfl (lv_room (Nat.le_of_ble_eq_true rfl)) dX9_word__15 ⟨Nat.le_of_ble_eq_true rfl, Nat.le_of_ble_eq_true rfl⟩) hD hS hA (fun r8 u8 H locs hw8 hP hD hS => ?_)
  obtain ⟨hr8, hu8⟩ := hw8
  refine lv_asI hr8 ?_
  rw [hu8] at hP hD
  rw [va_uu _ _ _ _] at hP hD
  exact W.iret (v := (nI 0)) hx hb hr (fun t ht hW => ⟨⟨_, _, rfl, ⟨rfl, ⟨_, va_us _ _ _⟩, sameM_up (sameM_rf) _ (by omega) (by omega)⟩, iB_of ht hP⟩, hS.F ht⟩) hS.2.2 dX9_word__18
abbrev rmX9_ofFrame : Room := { frames := 2, cells := 0, slots := 0, locals := 43 }
set_option maxRecDepth 20000 in
theorem il_X9_ofFrame_33 : (Cond.fieldLink RX9 33 "BayerGateModel" "thrown" "I") ∈ wsX9_ofFrame := by decide +kernel
set_option maxRecDepth 20000 in
theorem iu_X9_ofFrame_9 : ∀ w ∈ u_ws RX9 TX9 8, w ∈ wsX9_ofFrame := by decide +kernel
set_option maxHeartbeats 4000000 in
set_option maxRecDepth 100000 in
theorem kX9_ofFrame (l : Launch) (G : iG) (N : Nat) (ad : Nat → Nat) (C : Nat → va_E) (mo dz : Nat) (th : Int32) (hmod : Mod G N ad C mo dz th) (k y0 : Int32) (sz : Nat) : Met l yX9_ofFrame wsX9_ofFrame rmX9_ofFrame (iPreV G N ad C sz [.ref (ad mo), .int k, .int y0]) (va_Qi (fun (r : Int32) (u : Nat → va_E) => r = nI 0 ∧ Thr ad u mo (nI 1) ∧ sameM C u mo) (iB G N ad) (iA N ad sz)) 0 0 (iA N ad sz) := by
  refine Met.ofW (cc := cX9_ofFrame) (maxL := 3) (ret := (some .int)) (by decide) rfl ?_
  intro p e s m args below meth c s₁ B hml hv
  obtain ⟨rfl, ⟨hsz, hP, hK, hD0⟩, hV⟩ := hv
  have hx := B.exec
  have hb := B.bytes
  have hr := B.returns
  have hts := atoms_spec (ws := wsX9_ofFrame) B.pre
  have hown : s.vm.findClass RX9 = some m.cls := findClass_of_methodNamed B.named
  have hlocks := B.notSynchronized
  subst hsz
  have hD := wl_self hD0 s.heap.size
  have hA : ∀ q : Nat, s.heap.size ≤ q → iA N ad s.heap.size q := fun q h => Or.inr h
  have hS : va_S (iA N ad s.heap.size) s.heap s.heap [] := va_S.rf
  have hP : va_P G.1 vwB (wl N ad C) s.heap := hP
  have hl := lv_entry ([.ref (ad mo), .int k, .int y0]) (n := 3) (Nat.le_of_ble_eq_true rfl)
  rw [lg_entry_eq]
  generalize (lg_sl ([.ref (ad mo), .int k, .int y0]) ++ List.replicate (3 - (lg_sl ([.ref (ad mo), .int k, .int y0])).length) Slot.unset).toArray = ls at hl ⊢
  have hl : lv_has ls 3 [(0, .ref (ad mo)), (1, .int k), (2, .int y0)] := hl
  obtain ⟨hN, gm0, gm1, gm2, gm3, gm4, gm5, gm6⟩ := id hmod
  refine lv_aload_n hx hb dX9_ofFrame_0 rfl (lv_at hl 0 rfl) ?_
  refine lv_iconst (v := nI 0) hx hb dX9_ofFrame_1 (by decide) ?_
  refine iw_put (ty := .int) hx hb hts iu_X9_ofFrame_9 tyX9 tyX9_ok nmX9 hown hK hP hD hS (by omega) (gm0) rfl 0 (by decide) (hts _ il_X9_ofFrame_33) (fun _ h9 => h9) rfl (by decide +kernel) rfl rfl (Nat.le_of_ble_eq_true rfl) rfl dX9_ofFrame_2 (fun H locs hP hD hS => ?_)
  refine lv_aload_n hx hb dX9_ofFrame_5 rfl (lv_at hl 0 rfl) ?_
  refine lv_iload_n hx hb dX9_ofFrame_6 rfl (lv_at hl 1 rfl) ?_
  refine iw_i (va_runV (As := [.int k]) (rest := []) ⟨hx, hb, hml, hown, hts⟩ (kX9_isFrame l G N ad _ mo dz (nI 0) (by omega) (va_us _ _ _) ((va_un _ _ (by omega)).trans (gm5)) (k) _) (cwV 1 hts gX9_ofFrame_X9_isFrame rfl rfl rfl (by decide +kernel) ⟨Nat.le_of_ble_eq_true rfl, Nat.le_of_ble_eq_true rfl⟩) (iPVV hK hV hP hD (by omega) (va_us _ _ _) rfl [.int k]) rfl rfl hl.1 rfl (lv_room (Nat.le_of_ble_eq_true rfl)) dX9_ofFrame_7 ⟨Nat.le_of_ble_eq_true rfl, Nat.le_of_ble_eq_true rfl⟩) hD hS hA (fun r8 u8 H locs hw8 hP hD hS => ?_)
  obtain ⟨hr8, hu8⟩ := hw8
  refine lv_asI hr8 ?_
  rw [hu8] at hP hD
  refine lv_if_ne (tgt := 19) hx hb dX9_ofFrame_10 (by decide) (fun c9 => absurd (by decide) c9) (fun _ => ?_)
  refine lv_aload_n hx hb dX9_ofFrame_13 rfl (lv_at hl 0 rfl) ?_
  refine lv_iconst (v := nI 1) hx hb dX9_ofFrame_14 (by decide) ?_
  refine iw_i (va_runV (As := [.int (nI 1)]) (rest := []) ⟨hx, hb, hml, hown, hts⟩ (kX9_no l G N ad _ mo (by omega) (nI 0) (nI 1) (va_us _ _ _) _) (cwV 1 hts gX9_ofFrame_X9_no rfl rfl rfl (by decide +kernel) ⟨Nat.le_of_ble_eq_true rfl, Nat.le_of_ble_eq_true rfl⟩) (iPV hK hP hD (by omega) (va_us _ _ _) rfl [.int (nI 1)]) rfl rfl hl.1 rfl (lv_room (Nat.le_of_ble_eq_true rfl)) dX9_ofFrame_15 ⟨Nat.le_of_ble_eq_true rfl, Nat.le_of_ble_eq_true rfl⟩) hD hS hA (fun r8 u8 H locs hw8 hP hD hS => ?_)
  obtain ⟨hr8, hu8⟩ := hw8
  refine lv_asI hr8 ?_
  rw [hu8] at hP hD
  rw [va_uu _ _ _ _] at hP hD
  exact W.iret (v := (nI 0)) hx hb hr (fun t ht hW => ⟨⟨_, _, rfl, ⟨rfl, ⟨_, va_us _ _ _⟩, sameM_up (sameM_rf) _ (by omega) (by omega)⟩, iB_of ht hP⟩, hS.F ht⟩) hS.2.2 dX9_ofFrame_18
abbrev rmX9_ofEdit : Room := { frames := 2, cells := 0, slots := 0, locals := 43 }
set_option maxRecDepth 20000 in
theorem il_X9_ofEdit_33 : (Cond.fieldLink RX9 33 "BayerGateModel" "thrown" "I") ∈ wsX9_ofEdit := by decide +kernel
set_option maxRecDepth 20000 in
theorem iu_X9_ofEdit_9 : ∀ w ∈ u_ws RX9 TX9 8, w ∈ wsX9_ofEdit := by decide +kernel
set_option maxHeartbeats 4000000 in
set_option maxRecDepth 100000 in
theorem kX9_ofEdit (l : Launch) (G : iG) (N : Nat) (ad : Nat → Nat) (C : Nat → va_E) (mo dz : Nat) (th : Int32) (hmod : Mod G N ad C mo dz th) (k y0 y1 : Int32) (sz : Nat) : Met l yX9_ofEdit wsX9_ofEdit rmX9_ofEdit (iPreV G N ad C sz [.ref (ad mo), .int k, .int y0, .int y1]) (va_Qi (fun (r : Int32) (u : Nat → va_E) => r = nI 0 ∧ Thr ad u mo (nI 1) ∧ sameM C u mo) (iB G N ad) (iA N ad sz)) 0 0 (iA N ad sz) := by
  refine Met.ofW (cc := cX9_ofEdit) (maxL := 4) (ret := (some .int)) (by decide) rfl ?_
  intro p e s m args below meth c s₁ B hml hv
  obtain ⟨rfl, ⟨hsz, hP, hK, hD0⟩, hV⟩ := hv
  have hx := B.exec
  have hb := B.bytes
  have hr := B.returns
  have hts := atoms_spec (ws := wsX9_ofEdit) B.pre
  have hown : s.vm.findClass RX9 = some m.cls := findClass_of_methodNamed B.named
  have hlocks := B.notSynchronized
  subst hsz
  have hD := wl_self hD0 s.heap.size
  have hA : ∀ q : Nat, s.heap.size ≤ q → iA N ad s.heap.size q := fun q h => Or.inr h
  have hS : va_S (iA N ad s.heap.size) s.heap s.heap [] := va_S.rf
  have hP : va_P G.1 vwB (wl N ad C) s.heap := hP
  have hl := lv_entry ([.ref (ad mo), .int k, .int y0, .int y1]) (n := 4) (Nat.le_of_ble_eq_true rfl)
  rw [lg_entry_eq]
  generalize (lg_sl ([.ref (ad mo), .int k, .int y0, .int y1]) ++ List.replicate (4 - (lg_sl ([.ref (ad mo), .int k, .int y0, .int y1])).length) Slot.unset).toArray = ls at hl ⊢
  have hl : lv_has ls 4 [(0, .ref (ad mo)), (1, .int k), (2, .int y0), (3, .int y1)] := hl
  obtain ⟨hN, gm0, gm1, gm2, gm3, gm4, gm5, gm6⟩ := id hmod
  refine lv_aload_n hx hb dX9_ofEdit_0 rfl (lv_at hl 0 rfl) ?_
  refine lv_iconst (v := nI 0) hx hb dX9_ofEdit_1 (by decide) ?_
  refine iw_put (ty := .int) hx hb hts iu_X9_ofEdit_9 tyX9 tyX9_ok nmX9 hown hK hP hD hS (by omega) (gm0) rfl 0 (by decide) (hts _ il_X9_ofEdit_33) (fun _ h9 => h9) rfl (by decide +kernel) rfl rfl (Nat.le_of_ble_eq_true rfl) rfl dX9_ofEdit_2 (fun H locs hP hD hS => ?_)
  refine lv_aload_n hx hb dX9_ofEdit_5 rfl (lv_at hl 0 rfl) ?_
  refine lv_iload_n hx hb dX9_ofEdit_6 rfl (lv_at hl 1 rfl) ?_
  refine iw_i (va_runV (As := [.int k]) (rest := []) ⟨hx, hb, hml, hown, hts⟩ (kX9_isFrame l G N ad _ mo dz (nI 0) (by omega) (va_us _ _ _) ((va_un _ _ (by omega)).trans (gm5)) (k) _) (cwV 1 hts gX9_ofEdit_X9_isFrame rfl rfl rfl (by decide +kernel) ⟨Nat.le_of_ble_eq_true rfl, Nat.le_of_ble_eq_true rfl⟩) (iPVV hK hV hP hD (by omega) (va_us _ _ _) rfl [.int k]) rfl rfl hl.1 rfl (lv_room (Nat.le_of_ble_eq_true rfl)) dX9_ofEdit_7 ⟨Nat.le_of_ble_eq_true rfl, Nat.le_of_ble_eq_true rfl⟩) hD hS hA (fun r8 u8 H locs hw8 hP hD hS => ?_)
  obtain ⟨hr8, hu8⟩ := hw8
  refine lv_asI hr8 ?_
  rw [hu8] at hP hD
  refine lv_if_eq (tgt := 44) hx hb dX9_ofEdit_10 (by decide) (fun _ => ?_) (fun c9 => absurd (by decide) c9)
  refine lv_aload_n hx hb dX9_ofEdit_44 rfl (lv_at hl 0 rfl) ?_
  refine lv_iconst (v := nI 1) hx hb dX9_ofEdit_45 (by decide) ?_
  refine iw_i (va_runV (As := [.int (nI 1)]) (rest := []) ⟨hx, hb, hml, hown, hts⟩ (kX9_no l G N ad _ mo (by omega) (nI 0) (nI 1) (va_us _ _ _) _) (cwV 1 hts gX9_ofEdit_X9_no rfl rfl rfl (by decide +kernel) ⟨Nat.le_of_ble_eq_true rfl, Nat.le_of_ble_eq_true rfl⟩) (iPV hK hP hD (by omega) (va_us _ _ _) rfl [.int (nI 1)]) rfl rfl hl.1 rfl (lv_room (Nat.le_of_ble_eq_true rfl)) dX9_ofEdit_46 ⟨Nat.le_of_ble_eq_true rfl, Nat.le_of_ble_eq_true rfl⟩) hD hS hA (fun r8 u8 H locs hw8 hP hD hS => ?_)
  obtain ⟨hr8, hu8⟩ := hw8
  refine lv_asI hr8 ?_
  rw [hu8] at hP hD
  rw [va_uu _ _ _ _] at hP hD
  exact W.iret (v := (nI 0)) hx hb hr (fun t ht hW => ⟨⟨_, _, rfl, ⟨rfl, ⟨_, va_us _ _ _⟩, sameM_up (sameM_rf) _ (by omega) (by omega)⟩, iB_of ht hP⟩, hS.F ht⟩) hS.2.2 dX9_ofEdit_49
abbrev rmX9_bestWhite : Room := { frames := 2, cells := 0, slots := 0, locals := 43 }
set_option maxRecDepth 20000 in
theorem il_X9_bestWhite_33 : (Cond.fieldLink RX9 33 "BayerGateModel" "thrown" "I") ∈ wsX9_bestWhite := by decide +kernel
set_option maxRecDepth 20000 in
theorem iu_X9_bestWhite_9 : ∀ w ∈ u_ws RX9 TX9 8, w ∈ wsX9_bestWhite := by decide +kernel
set_option maxHeartbeats 4000000 in
set_option maxRecDepth 100000 in
theorem kX9_bestWhite (l : Launch) (G : iG) (N : Nat) (ad : Nat → Nat) (C : Nat → va_E) (mo dz : Nat) (th : Int32) (hmod : Mod G N ad C mo dz th) (k y0 : Int32) (sz : Nat) : Met l yX9_bestWhite wsX9_bestWhite rmX9_bestWhite (iPreV G N ad C sz [.ref (ad mo), .int k, .int y0]) (va_Qi (fun (r : Int32) (u : Nat → va_E) => r = nI 0 ∧ Thr ad u mo (nI 1) ∧ sameM C u mo) (iB G N ad) (iA N ad sz)) 0 0 (iA N ad sz) := by
  refine Met.ofW (cc := cX9_bestWhite) (maxL := 12) (ret := (some .int)) (by decide) rfl ?_
  intro p e s m args below meth c s₁ B hml hv
  obtain ⟨rfl, ⟨hsz, hP, hK, hD0⟩, hV⟩ := hv
  have hx := B.exec
  have hb := B.bytes
  have hr := B.returns
  have hts := atoms_spec (ws := wsX9_bestWhite) B.pre
  have hown : s.vm.findClass RX9 = some m.cls := findClass_of_methodNamed B.named
  have hlocks := B.notSynchronized
  subst hsz
  have hD := wl_self hD0 s.heap.size
  have hA : ∀ q : Nat, s.heap.size ≤ q → iA N ad s.heap.size q := fun q h => Or.inr h
  have hS : va_S (iA N ad s.heap.size) s.heap s.heap [] := va_S.rf
  have hP : va_P G.1 vwB (wl N ad C) s.heap := hP
  have hl := lv_entry ([.ref (ad mo), .int k, .int y0]) (n := 12) (Nat.le_of_ble_eq_true rfl)
  rw [lg_entry_eq]
  generalize (lg_sl ([.ref (ad mo), .int k, .int y0]) ++ List.replicate (12 - (lg_sl ([.ref (ad mo), .int k, .int y0])).length) Slot.unset).toArray = ls at hl ⊢
  have hl : lv_has ls 12 [(0, .ref (ad mo)), (1, .int k), (2, .int y0)] := hl
  obtain ⟨hN, gm0, gm1, gm2, gm3, gm4, gm5, gm6⟩ := id hmod
  refine lv_aload_n hx hb dX9_bestWhite_0 rfl (lv_at hl 0 rfl) ?_
  refine lv_iconst (v := nI 0) hx hb dX9_bestWhite_1 (by decide) ?_
  refine iw_put (ty := .int) hx hb hts iu_X9_bestWhite_9 tyX9 tyX9_ok nmX9 hown hK hP hD hS (by omega) (gm0) rfl 0 (by decide) (hts _ il_X9_bestWhite_33) (fun _ h9 => h9) rfl (by decide +kernel) rfl rfl (Nat.le_of_ble_eq_true rfl) rfl dX9_bestWhite_2 (fun H locs hP hD hS => ?_)
  refine lv_aload_n hx hb dX9_bestWhite_5 rfl (lv_at hl 0 rfl) ?_
  refine lv_iload_n hx hb dX9_bestWhite_6 rfl (lv_at hl 1 rfl) ?_
  refine iw_i (va_runV (As := [.int k]) (rest := []) ⟨hx, hb, hml, hown, hts⟩ (kX9_isFrame l G N ad _ mo dz (nI 0) (by omega) (va_us _ _ _) ((va_un _ _ (by omega)).trans (gm5)) (k) _) (cwV 1 hts gX9_bestWhite_X9_isFrame rfl rfl rfl (by decide +kernel) ⟨Nat.le_of_ble_eq_true rfl, Nat.le_of_ble_eq_true rfl⟩) (iPVV hK hV hP hD (by omega) (va_us _ _ _) rfl [.int k]) rfl rfl hl.1 rfl (lv_room (Nat.le_of_ble_eq_true rfl)) dX9_bestWhite_7 ⟨Nat.le_of_ble_eq_true rfl, Nat.le_of_ble_eq_true rfl⟩) hD hS hA (fun r8 u8 H locs hw8 hP hD hS => ?_)
  obtain ⟨hr8, hu8⟩ := hw8
  refine lv_asI hr8 ?_
  rw [hu8] at hP hD
  refine lv_if_ne (tgt := 19) hx hb dX9_bestWhite_10 (by decide) (fun c9 => absurd (by decide) c9) (fun _ => ?_)
  refine lv_aload_n hx hb dX9_bestWhite_13 rfl (lv_at hl 0 rfl) ?_
  refine lv_iconst (v := nI 1) hx hb dX9_bestWhite_14 (by decide) ?_
  refine iw_i (va_runV (As := [.int (nI 1)]) (rest := []) ⟨hx, hb, hml, hown, hts⟩ (kX9_no l G N ad _ mo (by omega) (nI 0) (nI 1) (va_us _ _ _) _) (cwV 1 hts gX9_bestWhite_X9_no rfl rfl rfl (by decide +kernel) ⟨Nat.le_of_ble_eq_true rfl, Nat.le_of_ble_eq_true rfl⟩) (iPV hK hP hD (by omega) (va_us _ _ _) rfl [.int (nI 1)]) rfl rfl hl.1 rfl (lv_room (Nat.le_of_ble_eq_true rfl)) dX9_bestWhite_15 ⟨Nat.le_of_ble_eq_true rfl, Nat.le_of_ble_eq_true rfl⟩) hD hS hA (fun r8 u8 H locs hw8 hP hD hS => ?_)
  obtain ⟨hr8, hu8⟩ := hw8
  refine lv_asI hr8 ?_
  rw [hu8] at hP hD
  rw [va_uu _ _ _ _] at hP hD
  exact W.iret (v := (nI 0)) hx hb hr (fun t ht hW => ⟨⟨_, _, rfl, ⟨rfl, ⟨_, va_us _ _ _⟩, sameM_up (sameM_rf) _ (by omega) (by omega)⟩, iB_of ht hP⟩, hS.F ht⟩) hS.2.2 dX9_bestWhite_18
abbrev rmX9_zone : Room := { frames := 2, cells := 0, slots := 0, locals := 43 }
set_option maxRecDepth 20000 in
theorem il_X9_zone_33 : (Cond.fieldLink RX9 33 "BayerGateModel" "thrown" "I") ∈ wsX9_zone := by decide +kernel
set_option maxRecDepth 20000 in
theorem iu_X9_zone_9 : ∀ w ∈ u_ws RX9 TX9 8, w ∈ wsX9_zone := by decide +kernel
set_option maxHeartbeats 4000000 in
set_option maxRecDepth 100000 in
theorem kX9_zone (l : Launch) (G : iG) (N : Nat) (ad : Nat → Nat) (C : Nat → va_E) (mo dz : Nat) (th : Int32) (hmod : Mod G N ad C mo dz th) (k y0 : Int32) (sz : Nat) : Met l yX9_zone wsX9_zone rmX9_zone (iPreV G N ad C sz [.ref (ad mo), .int k, .int y0]) (va_Qd (fun (r : UInt64) (u : Nat → va_E) => r = FP.i2d (nI 0) ∧ Thr ad u mo (nI 1) ∧ sameM C u mo) (iB G N ad) (iA N ad sz)) 0 0 (iA N ad sz) := by
  refine Met.ofW (cc := cX9_zone) (maxL := 3) (ret := (some .double)) (by decide) rfl ?_
  intro p e s m args below meth c s₁ B hml hv
  obtain ⟨rfl, ⟨hsz, hP, hK, hD0⟩, hV⟩ := hv
  have hx := B.exec
  have hb := B.bytes
  have hr := B.returns
  have hts := atoms_spec (ws := wsX9_zone) B.pre
  have hown : s.vm.findClass RX9 = some m.cls := findClass_of_methodNamed B.named
  have hlocks := B.notSynchronized
  subst hsz
  have hD := wl_self hD0 s.heap.size
  have hA : ∀ q : Nat, s.heap.size ≤ q → iA N ad s.heap.size q := fun q h => Or.inr h
  have hS : va_S (iA N ad s.heap.size) s.heap s.heap [] := va_S.rf
  have hP : va_P G.1 vwB (wl N ad C) s.heap := hP
  have hl := lv_entry ([.ref (ad mo), .int k, .int y0]) (n := 3) (Nat.le_of_ble_eq_true rfl)
  rw [lg_entry_eq]
  generalize (lg_sl ([.ref (ad mo), .int k, .int y0]) ++ List.replicate (3 - (lg_sl ([.ref (ad mo), .int k, .int y0])).length) Slot.unset).toArray = ls at hl ⊢
  have hl : lv_has ls 3 [(0, .ref (ad mo)), (1, .int k), (2, .int y0)] := hl
  obtain ⟨hN, gm0, gm1, gm2, gm3, gm4, gm5, gm6⟩ := id hmod
  refine lv_aload_n hx hb dX9_zone_0 rfl (lv_at hl 0 rfl) ?_
  refine lv_iconst (v := nI 0) hx hb dX9_zone_1 (by decide) ?_
  refine iw_put (ty := .int) hx hb hts iu_X9_zone_9 tyX9 tyX9_ok nmX9 hown hK hP hD hS (by omega) (gm0) rfl 0 (by decide) (hts _ il_X9_zone_33) (fun _ h9 => h9) rfl (by decide +kernel) rfl rfl (Nat.le_of_ble_eq_true rfl) rfl dX9_zone_2 (fun H locs hP hD hS => ?_)
  refine lv_aload_n hx hb dX9_zone_5 rfl (lv_at hl 0 rfl) ?_
  refine lv_iload_n hx hb dX9_zone_6 rfl (lv_at hl 1 rfl) ?_
  refine iw_i (va_runV (As := [.int k]) (rest := []) ⟨hx, hb, hml, hown, hts⟩ (kX9_isFrame l G N ad _ mo dz (nI 0) (by omega) (va_us _ _ _) ((va_un _ _ (by omega)).trans (gm5)) (k) _) (cwV 1 hts gX9_zone_X9_isFrame rfl rfl rfl (by decide +kernel) ⟨Nat.le_of_ble_eq_true rfl, Nat.le_of_ble_eq_true rfl⟩) (iPVV hK hV hP hD (by omega) (va_us _ _ _) rfl [.int k]) rfl rfl hl.1 rfl (lv_room (Nat.le_of_ble_eq_true rfl)) dX9_zone_7 ⟨Nat.le_of_ble_eq_true rfl, Nat.le_of_ble_eq_true rfl⟩) hD hS hA (fun r8 u8 H locs hw8 hP hD hS => ?_)
  obtain ⟨hr8, hu8⟩ := hw8
  refine lv_asI hr8 ?_
  rw [hu8] at hP hD
  refine lv_if_eq (tgt := 22) hx hb dX9_zone_10 (by decide) (fun _ => ?_) (fun c9 => absurd (by decide) c9)
  refine lv_aload_n hx hb dX9_zone_22 rfl (lv_at hl 0 rfl) ?_
  refine lv_iconst (v := nI 1) hx hb dX9_zone_23 (by decide) ?_
  refine iw_i (va_runV (As := [.int (nI 1)]) (rest := []) ⟨hx, hb, hml, hown, hts⟩ (kX9_no l G N ad _ mo (by omega) (nI 0) (nI 1) (va_us _ _ _) _) (cwV 1 hts gX9_zone_X9_no rfl rfl rfl (by decide +kernel) ⟨Nat.le_of_ble_eq_true rfl, Nat.le_of_ble_eq_true rfl⟩) (iPV hK hP hD (by omega) (va_us _ _ _) rfl [.int (nI 1)]) rfl rfl hl.1 rfl (lv_room (Nat.le_of_ble_eq_true rfl)) dX9_zone_24 ⟨Nat.le_of_ble_eq_true rfl, Nat.le_of_ble_eq_true rfl⟩) hD hS hA (fun r8 u8 H locs hw8 hP hD hS => ?_)
  obtain ⟨hr8, hu8⟩ := hw8
  refine lv_asI hr8 ?_
  rw [hu8] at hP hD
  rw [va_uu _ _ _ _] at hP hD
  refine lv_i2d hx hb dX9_zone_27 ?_
  exact W.dret (v := (FP.i2d (nI 0))) hx hb hr (fun t ht hW => ⟨⟨_, _, rfl, ⟨rfl, ⟨_, va_us _ _ _⟩, sameM_up (sameM_rf) _ (by omega) (by omega)⟩, iB_of ht hP⟩, hS.F ht⟩) hS.2.2 dX9_zone_28
abbrev rmX9_meter : Room := { frames := 2, cells := 0, slots := 0, locals := 43 }
set_option maxRecDepth 20000 in
theorem il_X9_meter_33 : (Cond.fieldLink RX9 33 "BayerGateModel" "thrown" "I") ∈ wsX9_meter := by decide +kernel
set_option maxRecDepth 20000 in
theorem iu_X9_meter_9 : ∀ w ∈ u_ws RX9 TX9 8, w ∈ wsX9_meter := by decide +kernel
set_option maxHeartbeats 4000000 in
set_option maxRecDepth 100000 in
theorem kX9_meter (l : Launch) (G : iG) (N : Nat) (ad : Nat → Nat) (C : Nat → va_E) (mo dz : Nat) (th : Int32) (hmod : Mod G N ad C mo dz th) (k : Int32) (sz : Nat) : Met l yX9_meter wsX9_meter rmX9_meter (iPreV G N ad C sz [.ref (ad mo), .int k]) (va_Qd (fun (r : UInt64) (u : Nat → va_E) => r = FP.i2d (nI 0) ∧ Thr ad u mo (nI 1) ∧ sameM C u mo) (iB G N ad) (iA N ad sz)) 0 0 (iA N ad sz) := by
  refine Met.ofW (cc := cX9_meter) (maxL := 2) (ret := (some .double)) (by decide) rfl ?_
  intro p e s m args below meth c s₁ B hml hv
  obtain ⟨rfl, ⟨hsz, hP, hK, hD0⟩, hV⟩ := hv
  have hx := B.exec
  have hb := B.bytes
  have hr := B.returns
  have hts := atoms_spec (ws := wsX9_meter) B.pre
  have hown : s.vm.findClass RX9 = some m.cls := findClass_of_methodNamed B.named
  have hlocks := B.notSynchronized
  subst hsz
  have hD := wl_self hD0 s.heap.size
  have hA : ∀ q : Nat, s.heap.size ≤ q → iA N ad s.heap.size q := fun q h => Or.inr h
  have hS : va_S (iA N ad s.heap.size) s.heap s.heap [] := va_S.rf
  have hP : va_P G.1 vwB (wl N ad C) s.heap := hP
  have hl := lv_entry ([.ref (ad mo), .int k]) (n := 2) (Nat.le_of_ble_eq_true rfl)
  rw [lg_entry_eq]
  generalize (lg_sl ([.ref (ad mo), .int k]) ++ List.replicate (2 - (lg_sl ([.ref (ad mo), .int k])).length) Slot.unset).toArray = ls at hl ⊢
  have hl : lv_has ls 2 [(0, .ref (ad mo)), (1, .int k)] := hl
  obtain ⟨hN, gm0, gm1, gm2, gm3, gm4, gm5, gm6⟩ := id hmod
  refine lv_aload_n hx hb dX9_meter_0 rfl (lv_at hl 0 rfl) ?_
  refine lv_iconst (v := nI 0) hx hb dX9_meter_1 (by decide) ?_
  refine iw_put (ty := .int) hx hb hts iu_X9_meter_9 tyX9 tyX9_ok nmX9 hown hK hP hD hS (by omega) (gm0) rfl 0 (by decide) (hts _ il_X9_meter_33) (fun _ h9 => h9) rfl (by decide +kernel) rfl rfl (Nat.le_of_ble_eq_true rfl) rfl dX9_meter_2 (fun H locs hP hD hS => ?_)
  refine lv_aload_n hx hb dX9_meter_5 rfl (lv_at hl 0 rfl) ?_
  refine lv_iload_n hx hb dX9_meter_6 rfl (lv_at hl 1 rfl) ?_
  refine iw_i (va_runV (As := [.int k]) (rest := []) ⟨hx, hb, hml, hown, hts⟩ (kX9_isFrame l G N ad _ mo dz (nI 0) (by omega) (va_us _ _ _) ((va_un _ _ (by omega)).trans (gm5)) (k) _) (cwV 1 hts gX9_meter_X9_isFrame rfl rfl rfl (by decide +kernel) ⟨Nat.le_of_ble_eq_true rfl, Nat.le_of_ble_eq_true rfl⟩) (iPVV hK hV hP hD (by omega) (va_us _ _ _) rfl [.int k]) rfl rfl hl.1 rfl (lv_room (Nat.le_of_ble_eq_true rfl)) dX9_meter_7 ⟨Nat.le_of_ble_eq_true rfl, Nat.le_of_ble_eq_true rfl⟩) hD hS hA (fun r8 u8 H locs hw8 hP hD hS => ?_)
  obtain ⟨hr8, hu8⟩ := hw8
  refine lv_asI hr8 ?_
  rw [hu8] at hP hD
  refine lv_if_ne (tgt := 20) hx hb dX9_meter_10 (by decide) (fun c9 => absurd (by decide) c9) (fun _ => ?_)
  refine lv_aload_n hx hb dX9_meter_13 rfl (lv_at hl 0 rfl) ?_
  refine lv_iconst (v := nI 1) hx hb dX9_meter_14 (by decide) ?_
  refine iw_i (va_runV (As := [.int (nI 1)]) (rest := []) ⟨hx, hb, hml, hown, hts⟩ (kX9_no l G N ad _ mo (by omega) (nI 0) (nI 1) (va_us _ _ _) _) (cwV 1 hts gX9_meter_X9_no rfl rfl rfl (by decide +kernel) ⟨Nat.le_of_ble_eq_true rfl, Nat.le_of_ble_eq_true rfl⟩) (iPV hK hP hD (by omega) (va_us _ _ _) rfl [.int (nI 1)]) rfl rfl hl.1 rfl (lv_room (Nat.le_of_ble_eq_true rfl)) dX9_meter_15 ⟨Nat.le_of_ble_eq_true rfl, Nat.le_of_ble_eq_true rfl⟩) hD hS hA (fun r8 u8 H locs hw8 hP hD hS => ?_)
  obtain ⟨hr8, hu8⟩ := hw8
  refine lv_asI hr8 ?_
  rw [hu8] at hP hD
  rw [va_uu _ _ _ _] at hP hD
  refine lv_i2d hx hb dX9_meter_18 ?_
  exact W.dret (v := (FP.i2d (nI 0))) hx hb hr (fun t ht hW => ⟨⟨_, _, rfl, ⟨rfl, ⟨_, va_us _ _ _⟩, sameM_up (sameM_rf) _ (by omega) (by omega)⟩, iB_of ht hP⟩, hS.F ht⟩) hS.2.2 dX9_meter_19
abbrev rmX9_apart : Room := { frames := 2, cells := 0, slots := 0, locals := 43 }
set_option maxRecDepth 20000 in
theorem il_X9_apart_33 : (Cond.fieldLink RX9 33 "BayerGateModel" "thrown" "I") ∈ wsX9_apart := by decide +kernel
set_option maxRecDepth 20000 in
theorem iu_X9_apart_9 : ∀ w ∈ u_ws RX9 TX9 8, w ∈ wsX9_apart := by decide +kernel
set_option maxHeartbeats 4000000 in
set_option maxRecDepth 100000 in
theorem kX9_apart (l : Launch) (G : iG) (N : Nat) (ad : Nat → Nat) (C : Nat → va_E) (mo dz : Nat) (th : Int32) (hmod : Mod G N ad C mo dz th) (k y0 : Int32) (sz : Nat) : Met l yX9_apart wsX9_apart rmX9_apart (iPreV G N ad C sz [.ref (ad mo), .int k, .int y0]) (va_Qd (fun (r : UInt64) (u : Nat → va_E) => r = FP.i2d (nI 0) ∧ Thr ad u mo (nI 1) ∧ sameM C u mo) (iB G N ad) (iA N ad sz)) 0 0 (iA N ad sz) := by
  refine Met.ofW (cc := cX9_apart) (maxL := 7) (ret := (some .double)) (by decide) rfl ?_
  intro p e s m args below meth c s₁ B hml hv
  obtain ⟨rfl, ⟨hsz, hP, hK, hD0⟩, hV⟩ := hv
  have hx := B.exec
  have hb := B.bytes
  have hr := B.returns
  have hts := atoms_spec (ws := wsX9_apart) B.pre
  have hown : s.vm.findClass RX9 = some m.cls := findClass_of_methodNamed B.named
  have hlocks := B.notSynchronized
  subst hsz
  have hD := wl_self hD0 s.heap.size
  have hA : ∀ q : Nat, s.heap.size ≤ q → iA N ad s.heap.size q := fun q h => Or.inr h
  have hS : va_S (iA N ad s.heap.size) s.heap s.heap [] := va_S.rf
  have hP : va_P G.1 vwB (wl N ad C) s.heap := hP
  have hl := lv_entry ([.ref (ad mo), .int k, .int y0]) (n := 7) (Nat.le_of_ble_eq_true rfl)
  rw [lg_entry_eq]
  generalize (lg_sl ([.ref (ad mo), .int k, .int y0]) ++ List.replicate (7 - (lg_sl ([.ref (ad mo), .int k, .int y0])).length) Slot.unset).toArray = ls at hl ⊢
  have hl : lv_has ls 7 [(0, .ref (ad mo)), (1, .int k), (2, .int y0)] := hl
  obtain ⟨hN, gm0, gm1, gm2, gm3, gm4, gm5, gm6⟩ := id hmod
  refine lv_aload_n hx hb dX9_apart_0 rfl (lv_at hl 0 rfl) ?_
  refine lv_iconst (v := nI 0) hx hb dX9_apart_1 (by decide) ?_
  refine iw_put (ty := .int) hx hb hts iu_X9_apart_9 tyX9 tyX9_ok nmX9 hown hK hP hD hS (by omega) (gm0) rfl 0 (by decide) (hts _ il_X9_apart_33) (fun _ h9 => h9) rfl (by decide +kernel) rfl rfl (Nat.le_of_ble_eq_true rfl) rfl dX9_apart_2 (fun H locs hP hD hS => ?_)
  refine lv_aload_n hx hb dX9_apart_5 rfl (lv_at hl 0 rfl) ?_
  refine lv_iload_n hx hb dX9_apart_6 rfl (lv_at hl 1 rfl) ?_
  refine iw_i (va_runV (As := [.int k]) (rest := []) ⟨hx, hb, hml, hown, hts⟩ (kX9_isFrame l G N ad _ mo dz (nI 0) (by omega) (va_us _ _ _) ((va_un _ _ (by omega)).trans (gm5)) (k) _) (cwV 1 hts gX9_apart_X9_isFrame rfl rfl rfl (by decide +kernel) ⟨Nat.le_of_ble_eq_true rfl, Nat.le_of_ble_eq_true rfl⟩) (iPVV hK hV hP hD (by omega) (va_us _ _ _) rfl [.int k]) rfl rfl hl.1 rfl (lv_room (Nat.le_of_ble_eq_true rfl)) dX9_apart_7 ⟨Nat.le_of_ble_eq_true rfl, Nat.le_of_ble_eq_true rfl⟩) hD hS hA (fun r8 u8 H locs hw8 hP hD hS => ?_)
  obtain ⟨hr8, hu8⟩ := hw8
  refine lv_asI hr8 ?_
  rw [hu8] at hP hD
  refine lv_if_eq (tgt := 21) hx hb dX9_apart_10 (by decide) (fun _ => ?_) (fun c9 => absurd (by decide) c9)
  refine lv_aload_n hx hb dX9_apart_21 rfl (lv_at hl 0 rfl) ?_
  refine lv_iconst (v := nI 1) hx hb dX9_apart_22 (by decide) ?_
  refine iw_i (va_runV (As := [.int (nI 1)]) (rest := []) ⟨hx, hb, hml, hown, hts⟩ (kX9_no l G N ad _ mo (by omega) (nI 0) (nI 1) (va_us _ _ _) _) (cwV 1 hts gX9_apart_X9_no rfl rfl rfl (by decide +kernel) ⟨Nat.le_of_ble_eq_true rfl, Nat.le_of_ble_eq_true rfl⟩) (iPV hK hP hD (by omega) (va_us _ _ _) rfl [.int (nI 1)]) rfl rfl hl.1 rfl (lv_room (Nat.le_of_ble_eq_true rfl)) dX9_apart_23 ⟨Nat.le_of_ble_eq_true rfl, Nat.le_of_ble_eq_true rfl⟩) hD hS hA (fun r8 u8 H locs hw8 hP hD hS => ?_)
  obtain ⟨hr8, hu8⟩ := hw8
  refine lv_asI hr8 ?_
  rw [hu8] at hP hD
  rw [va_uu _ _ _ _] at hP hD
  refine lv_i2d hx hb dX9_apart_26 ?_
  exact W.dret (v := (FP.i2d (nI 0))) hx hb hr (fun t ht hW => ⟨⟨_, _, rfl, ⟨rfl, ⟨_, va_us _ _ _⟩, sameM_up (sameM_rf) _ (by omega) (by omega)⟩, iB_of ht hP⟩, hS.F ht⟩) hS.2.2 dX9_apart_27
abbrev rmX9_picture__ : Room := { frames := 2, cells := 0, slots := 0, locals := 43 }
set_option maxRecDepth 20000 in
theorem il_X9_picture___33 : (Cond.fieldLink RX9 33 "BayerGateModel" "thrown" "I") ∈ wsX9_picture__ := by decide +kernel
set_option maxRecDepth 20000 in
theorem iu_X9_picture___9 : ∀ w ∈ u_ws RX9 TX9 8, w ∈ wsX9_picture__ := by decide +kernel
set_option maxHeartbeats 4000000 in
set_option maxRecDepth 100000 in
theorem kX9_picture__ (l : Launch) (G : iG) (N : Nat) (ad : Nat → Nat) (C : Nat → va_E) (mo dz : Nat) (th : Int32) (hmod : Mod G N ad C mo dz th) (k y0 y1 y2 : Int32) (sz : Nat) : Met l yX9_picture__ wsX9_picture__ rmX9_picture__ (iPreV G N ad C sz [.ref (ad mo), .int k, .int y0, .int y1, .int y2]) (va_Qd (fun (r : UInt64) (u : Nat → va_E) => r = FP.i2d (nI 0) ∧ Thr ad u mo (nI 1) ∧ sameM C u mo) (iB G N ad) (iA N ad sz)) 0 0 (iA N ad sz) := by
  refine Met.ofW (cc := cX9_picture__) (maxL := 5) (ret := (some .double)) (by decide) rfl ?_
  intro p e s m args below meth c s₁ B hml hv
  obtain ⟨rfl, ⟨hsz, hP, hK, hD0⟩, hV⟩ := hv
  have hx := B.exec
  have hb := B.bytes
  have hr := B.returns
  have hts := atoms_spec (ws := wsX9_picture__) B.pre
  have hown : s.vm.findClass RX9 = some m.cls := findClass_of_methodNamed B.named
  have hlocks := B.notSynchronized
  subst hsz
  have hD := wl_self hD0 s.heap.size
  have hA : ∀ q : Nat, s.heap.size ≤ q → iA N ad s.heap.size q := fun q h => Or.inr h
  have hS : va_S (iA N ad s.heap.size) s.heap s.heap [] := va_S.rf
  have hP : va_P G.1 vwB (wl N ad C) s.heap := hP
  have hl := lv_entry ([.ref (ad mo), .int k, .int y0, .int y1, .int y2]) (n := 5) (Nat.le_of_ble_eq_true rfl)
  rw [lg_entry_eq]
  generalize (lg_sl ([.ref (ad mo), .int k, .int y0, .int y1, .int y2]) ++ List.replicate (5 - (lg_sl ([.ref (ad mo), .int k, .int y0, .int y1, .int y2])).length) Slot.unset).toArray = ls at hl ⊢
  have hl : lv_has ls 5 [(0, .ref (ad mo)), (1, .int k), (2, .int y0), (3, .int y1), (4, .int y2)] := hl
  obtain ⟨hN, gm0, gm1, gm2, gm3, gm4, gm5, gm6⟩ := id hmod
  refine lv_aload_n hx hb dX9_picture___0 rfl (lv_at hl 0 rfl) ?_
  refine lv_iconst (v := nI 0) hx hb dX9_picture___1 (by decide) ?_
  refine iw_put (ty := .int) hx hb hts iu_X9_picture___9 tyX9 tyX9_ok nmX9 hown hK hP hD hS (by omega) (gm0) rfl 0 (by decide) (hts _ il_X9_picture___33) (fun _ h9 => h9) rfl (by decide +kernel) rfl rfl (Nat.le_of_ble_eq_true rfl) rfl dX9_picture___2 (fun H locs hP hD hS => ?_)
  refine lv_aload_n hx hb dX9_picture___5 rfl (lv_at hl 0 rfl) ?_
  refine lv_iload_n hx hb dX9_picture___6 rfl (lv_at hl 1 rfl) ?_
  refine iw_i (va_runV (As := [.int k]) (rest := []) ⟨hx, hb, hml, hown, hts⟩ (kX9_isFrame l G N ad _ mo dz (nI 0) (by omega) (va_us _ _ _) ((va_un _ _ (by omega)).trans (gm5)) (k) _) (cwV 1 hts gX9_picture___X9_isFrame rfl rfl rfl (by decide +kernel) ⟨Nat.le_of_ble_eq_true rfl, Nat.le_of_ble_eq_true rfl⟩) (iPVV hK hV hP hD (by omega) (va_us _ _ _) rfl [.int k]) rfl rfl hl.1 rfl (lv_room (Nat.le_of_ble_eq_true rfl)) dX9_picture___7 ⟨Nat.le_of_ble_eq_true rfl, Nat.le_of_ble_eq_true rfl⟩) hD hS hA (fun r8 u8 H locs hw8 hP hD hS => ?_)
  obtain ⟨hr8, hu8⟩ := hw8
  refine lv_asI hr8 ?_
  rw [hu8] at hP hD
  refine lv_if_eq (tgt := 21) hx hb dX9_picture___10 (by decide) (fun _ => ?_) (fun c9 => absurd (by decide) c9)
  refine lv_aload_n hx hb dX9_picture___21 rfl (lv_at hl 0 rfl) ?_
  refine lv_iconst (v := nI 1) hx hb dX9_picture___22 (by decide) ?_
  refine iw_i (va_runV (As := [.int (nI 1)]) (rest := []) ⟨hx, hb, hml, hown, hts⟩ (kX9_no l G N ad _ mo (by omega) (nI 0) (nI 1) (va_us _ _ _) _) (cwV 1 hts gX9_picture___X9_no rfl rfl rfl (by decide +kernel) ⟨Nat.le_of_ble_eq_true rfl, Nat.le_of_ble_eq_true rfl⟩) (iPV hK hP hD (by omega) (va_us _ _ _) rfl [.int (nI 1)]) rfl rfl hl.1 rfl (lv_room (Nat.le_of_ble_eq_true rfl)) dX9_picture___23 ⟨Nat.le_of_ble_eq_true rfl, Nat.le_of_ble_eq_true rfl⟩) hD hS hA (fun r8 u8 H locs hw8 hP hD hS => ?_)
  obtain ⟨hr8, hu8⟩ := hw8
  refine lv_asI hr8 ?_
  rw [hu8] at hP hD
  rw [va_uu _ _ _ _] at hP hD
  refine lv_i2d hx hb dX9_picture___26 ?_
  exact W.dret (v := (FP.i2d (nI 0))) hx hb hr (fun t ht hW => ⟨⟨_, _, rfl, ⟨rfl, ⟨_, va_us _ _ _⟩, sameM_up (sameM_rf) _ (by omega) (by omega)⟩, iB_of ht hP⟩, hS.F ht⟩) hS.2.2 dX9_picture___27
theorem sh0 : nI 1 <<< (nI 0 &&& 31) = nI 1 := by decide
theorem m10 : nI 1 - nI 1 = nI 0 := by decide
abbrev rmX9_merge : Room := { frames := 1, cells := 0, slots := 0, locals := 22 }
set_option maxRecDepth 20000 in
theorem il_X9_merge_33 : (Cond.fieldLink RX9 33 "BayerGateModel" "thrown" "I") ∈ wsX9_merge := by decide +kernel
set_option maxRecDepth 20000 in
theorem iu_X9_merge_9 : ∀ w ∈ u_ws RX9 TX9 8, w ∈ wsX9_merge := by decide +kernel
set_option maxRecDepth 20000 in
theorem il_X9_merge_26 : (Cond.fieldLink RX9 26 "BayerGateModel" "frames" "Ljava/util/List;") ∈ wsX9_merge := by decide +kernel
set_option maxHeartbeats 4000000 in
set_option maxRecDepth 100000 in
theorem kX9_merge (l : Launch) (G : iG) (N : Nat) (ad : Nat → Nat) (C : Nat → va_E) (mo dz : Nat) (th : Int32) (hmod : Mod G N ad C mo dz th) (fs li : Int32) (sz : Nat) : Met l yX9_merge wsX9_merge rmX9_merge (iPreV G N ad C sz [.ref (ad mo), .int fs, .int li]) (va_Qi (fun (r : Int32) (u : Nat → va_E) => r = nI 0 ∧ Thr ad u mo (nI 1) ∧ sameM C u mo) (iB G N ad) (iA N ad sz)) 0 0 (iA N ad sz) := by
  refine Met.ofW (cc := cX9_merge) (maxL := 13) (ret := (some .int)) (by decide) rfl ?_
  intro p e s m args below meth c s₁ B hml hv
  obtain ⟨rfl, ⟨hsz, hP, hK, hD0⟩, hV⟩ := hv
  have hx := B.exec
  have hb := B.bytes
  have hr := B.returns
  have hts := atoms_spec (ws := wsX9_merge) B.pre
  have hown : s.vm.findClass RX9 = some m.cls := findClass_of_methodNamed B.named
  have hlocks := B.notSynchronized
  subst hsz
  have hD := wl_self hD0 s.heap.size
  have hA : ∀ q : Nat, s.heap.size ≤ q → iA N ad s.heap.size q := fun q h => Or.inr h
  have hS : va_S (iA N ad s.heap.size) s.heap s.heap [] := va_S.rf
  have hP : va_P G.1 vwB (wl N ad C) s.heap := hP
  have hl := lv_entry ([.ref (ad mo), .int fs, .int li]) (n := 13) (Nat.le_of_ble_eq_true rfl)
  rw [lg_entry_eq]
  generalize (lg_sl ([.ref (ad mo), .int fs, .int li]) ++ List.replicate (13 - (lg_sl ([.ref (ad mo), .int fs, .int li])).length) Slot.unset).toArray = ls at hl ⊢
  have hl : lv_has ls 13 [(0, .ref (ad mo)), (1, .int fs), (2, .int li)] := hl
  obtain ⟨hN, gm0, gm1, gm2, gm3, gm4, gm5, gm6⟩ := id hmod
  refine lv_aload_n hx hb dX9_merge_0 rfl (lv_at hl 0 rfl) ?_
  refine lv_iconst (v := nI 0) hx hb dX9_merge_1 (by decide) ?_
  refine iw_put (ty := .int) hx hb hts iu_X9_merge_9 tyX9 tyX9_ok nmX9 hown hK hP hD hS (by omega) (gm0) rfl 0 (by decide) (hts _ il_X9_merge_33) (fun _ h9 => h9) rfl (by decide +kernel) rfl rfl (Nat.le_of_ble_eq_true rfl) rfl dX9_merge_2 (fun H locs hP hD hS => ?_)
  refine lv_iconst (v := nI 0) hx hb dX9_merge_5 (by decide) ?_
  refine lv_istore_n (lv' := [(3, .int (nI 0)), (0, .ref (ad mo)), (1, .int fs), (2, .int li)]) hx hb dX9_merge_6 rfl hl (by decide) rfl (fun ls hl => ?_)
  refine lv_iconst (v := -nI 1) hx hb dX9_merge_7 (by decide) ?_
  refine lv_istore (lv' := [(4, .int (-nI 1)), (3, .int (nI 0)), (0, .ref (ad mo)), (1, .int fs), (2, .int li)]) hx hb dX9_merge_8 hl (by decide) rfl (fun ls hl => ?_)
  refine lv_aload_n hx hb dX9_merge_10 rfl (lv_at hl 2 rfl) ?_
  refine iw_get hx hb hts iu_X9_merge_9 hown hK hP (by omega) (va_us _ _ _) rfl 6 (by decide) (hts _ il_X9_merge_26) (fun _ h9 => h9) rfl dX9_merge_11 ?_
  refine iw5_i (va_runF (hK.1.1 10 _ rfl).2 (As := []) (rest := []) ⟨hx, hb, hml, hown, hts⟩ (kJx4a65c_size_8abf5 l G N ad _ (by omega) ((va_un _ _ (by omega)).trans (gm5)) _) (va_cwF 0 hts gX9_merge_Jx4a65c_size_8abf5_f41Jx4a65c rfl rfl rfl (vx_fSize hV) (by decide +kernel) ⟨Nat.le_of_ble_eq_true rfl, Nat.le_of_ble_eq_true rfl⟩) (iPV hK hP hD (by omega) ((va_un _ _ (by omega)).trans (gm5)) rfl []) rfl rfl hl.1 rfl (lv_room (Nat.le_of_ble_eq_true rfl)) dX9_merge_14 ⟨Nat.le_of_ble_eq_true rfl, Nat.le_of_ble_eq_true rfl⟩) hD hS hA (fun r8 u8 H locs hw8 hP hD hS => ?_)
  obtain ⟨hr8, hu8⟩ := hw8
  refine lv_asI hr8 ?_
  rw [hu8] at hP hD
  refine lv_iconst (v := nI 1) hx hb dX9_merge_19 (by decide) ?_
  refine lv_isub hx hb dX9_merge_20 ?_
  refine lv_istore (lv' := [(5, .int ((nI 0) - (nI 1))), (4, .int (-nI 1)), (3, .int (nI 0)), (0, .ref (ad mo)), (1, .int fs), (2, .int li)]) hx hb dX9_merge_21 hl (by decide) rfl (fun ls hl => ?_)
  refine lv_iload hx hb dX9_merge_23 (lv_at hl 0 rfl) ?_
  refine lv_if_lt (tgt := 53) hx hb dX9_merge_25 (by decide) (fun _ => ?_) (fun c9 => absurd ((by decide)) c9)
  refine lv_iload_n hx hb dX9_merge_53 rfl (lv_at hl 4 rfl) ?_
  refine lv_iconst (v := nI 0) hx hb dX9_merge_54 (by decide) ?_
  refine lv_iconst (v := nI 1) hx hb dX9_merge_55 (by decide) ?_
  refine lv_aload_n hx hb dX9_merge_56 rfl (lv_at hl 3 rfl) ?_
  refine iw_get hx hb hts iu_X9_merge_9 hown hK hP (by omega) (va_us _ _ _) rfl 6 (by decide) (hts _ il_X9_merge_26) (fun _ h9 => h9) rfl dX9_merge_57 ?_
  refine iw5_i (va_runF (hK.1.1 10 _ rfl).2 (As := []) (rest := [.int (nI 1), .int (nI 0), .int fs]) ⟨hx, hb, hml, hown, hts⟩ (kJx4a65c_size_8abf5 l G N ad _ (by omega) ((va_un _ _ (by omega)).trans (gm5)) _) (va_cwF 0 hts gX9_merge_Jx4a65c_size_8abf5_f41Jx4a65c rfl rfl rfl (vx_fSize hV) (by decide +kernel) ⟨Nat.le_of_ble_eq_true rfl, Nat.le_of_ble_eq_true rfl⟩) (iPV hK hP hD (by omega) ((va_un _ _ (by omega)).trans (gm5)) rfl []) rfl rfl hl.1 rfl (lv_room (Nat.le_of_ble_eq_true rfl)) dX9_merge_60 ⟨Nat.le_of_ble_eq_true rfl, Nat.le_of_ble_eq_true rfl⟩) hD hS hA (fun r8 u8 H locs hw8 hP hD hS => ?_)
  obtain ⟨hr8, hu8⟩ := hw8
  refine lv_asI hr8 ?_
  rw [hu8] at hP hD
  refine lv_ishl hx hb dX9_merge_65 ?_
  refine lv_asI (y := nI 1) sh0 ?_
  refine lv_iconst (v := nI 1) hx hb dX9_merge_66 (by decide) ?_
  refine lv_isub hx hb dX9_merge_67 ?_
  refine lv_asI (y := nI 0) m10 ?_
  refine iw_pi (va_runS (As := [.int fs, .int (nI 0), .int (nI 0)]) (rest := []) ⟨hx, hb, hml, hown, hts⟩ (kX9_in l (fs) (nI 0) (nI 0)) (va_cwS 3 hts gX9_merge_X9_in rfl rfl rfl (by decide +kernel) ⟨Nat.le_of_ble_eq_true rfl, Nat.le_of_ble_eq_true rfl⟩) ⟨fun a U g mk q => q, fun U hU hW => ⟨rfl, trivial⟩⟩ rfl rfl hl.1 rfl (lv_room (Nat.le_of_ble_eq_true rfl)) dX9_merge_68 ⟨Nat.le_of_ble_eq_true rfl, Nat.le_of_ble_eq_true rfl⟩) hP hS (fun r8 u8 H locs hw8 hP hS => ?_)
  refine lv_asI hw8 ?_
  refine lv_if_eq (tgt := 90) hx hb dX9_merge_71 (by decide) (fun c71 => ?_) (fun c71 => ?_)
  · refine lv_aload_n hx hb dX9_merge_90 rfl (lv_at hl 3 rfl) ?_
    refine lv_iconst (v := nI 1) hx hb dX9_merge_91 (by decide) ?_
    refine iw_i (va_runV (As := [.int (nI 1)]) (rest := []) ⟨hx, hb, hml, hown, hts⟩ (kX9_no l G N ad _ mo (by omega) (nI 0) (nI 1) (va_us _ _ _) _) (cwV 1 hts gX9_merge_X9_no rfl rfl rfl (by decide +kernel) ⟨Nat.le_of_ble_eq_true rfl, Nat.le_of_ble_eq_true rfl⟩) (iPV hK hP hD (by omega) (va_us _ _ _) rfl [.int (nI 1)]) rfl rfl hl.1 rfl (lv_room (Nat.le_of_ble_eq_true rfl)) dX9_merge_92 ⟨Nat.le_of_ble_eq_true rfl, Nat.le_of_ble_eq_true rfl⟩) hD hS hA (fun r8 u8 H locs hw8 hP hD hS => ?_)
    obtain ⟨hr8, hu8⟩ := hw8
    refine lv_asI hr8 ?_
    rw [hu8] at hP hD
    rw [va_uu _ _ _ _] at hP hD
    exact W.iret (v := (nI 0)) hx hb hr (fun t ht hW => ⟨⟨_, _, rfl, ⟨rfl, ⟨_, va_us _ _ _⟩, sameM_up (sameM_rf) _ (by omega) (by omega)⟩, iB_of ht hP⟩, hS.F ht⟩) hS.2.2 dX9_merge_95
  · refine lv_iload_n hx hb dX9_merge_74 rfl (lv_at hl 2 rfl) ?_
    refine lv_iconst (v := nI 2) hx hb dX9_merge_75 (by decide) ?_
    refine lv_icmp_lt (tgt := 90) hx hb dX9_merge_76 (by decide) (fun _ => ?_) (fun c9 => absurd (by decide) c9)
    refine lv_aload_n hx hb dX9_merge_90 rfl (lv_at hl 3 rfl) ?_
    refine lv_iconst (v := nI 1) hx hb dX9_merge_91 (by decide) ?_
    refine iw_i (va_runV (As := [.int (nI 1)]) (rest := []) ⟨hx, hb, hml, hown, hts⟩ (kX9_no l G N ad _ mo (by omega) (nI 0) (nI 1) (va_us _ _ _) _) (cwV 1 hts gX9_merge_X9_no rfl rfl rfl (by decide +kernel) ⟨Nat.le_of_ble_eq_true rfl, Nat.le_of_ble_eq_true rfl⟩) (iPV hK hP hD (by omega) (va_us _ _ _) rfl [.int (nI 1)]) rfl rfl hl.1 rfl (lv_room (Nat.le_of_ble_eq_true rfl)) dX9_merge_92 ⟨Nat.le_of_ble_eq_true rfl, Nat.le_of_ble_eq_true rfl⟩) hD hS hA (fun r8 u8 H locs hw8 hP hD hS => ?_)
    obtain ⟨hr8, hu8⟩ := hw8
    refine lv_asI hr8 ?_
    rw [hu8] at hP hD
    rw [va_uu _ _ _ _] at hP hD
    exact W.iret (v := (nI 0)) hx hb hr (fun t ht hW => ⟨⟨_, _, rfl, ⟨rfl, ⟨_, va_us _ _ _⟩, sameM_up (sameM_rf) _ (by omega) (by omega)⟩, iB_of ht hP⟩, hS.F ht⟩) hS.2.2 dX9_merge_95
abbrev rmX9_ofFile : Room := { frames := 1, cells := 0, slots := 0, locals := 22 }
set_option maxRecDepth 20000 in
theorem il_X9_ofFile_33 : (Cond.fieldLink RX9 33 "BayerGateModel" "thrown" "I") ∈ wsX9_ofFile := by decide +kernel
set_option maxRecDepth 20000 in
theorem iu_X9_ofFile_9 : ∀ w ∈ u_ws RX9 TX9 8, w ∈ wsX9_ofFile := by decide +kernel
set_option maxRecDepth 20000 in
theorem il_X9_ofFile_30 : (Cond.fieldLink RX9 30 "BayerGateModel" "files" "Ljava/util/List;") ∈ wsX9_ofFile := by decide +kernel
set_option maxHeartbeats 4000000 in
set_option maxRecDepth 100000 in
theorem kX9_ofFile (l : Launch) (G : iG) (N : Nat) (ad : Nat → Nat) (C : Nat → va_E) (mo dz : Nat) (th : Int32) (hmod : Mod G N ad C mo dz th) (k y0 : Int32) (sz : Nat) : Met l yX9_ofFile wsX9_ofFile rmX9_ofFile (iPreV G N ad C sz [.ref (ad mo), .int k, .int y0]) (va_Qi (fun (r : Int32) (u : Nat → va_E) => r = nI 0 ∧ Thr ad u mo (nI 1) ∧ sameM C u mo) (iB G N ad) (iA N ad sz)) 0 0 (iA N ad sz) := by
  refine Met.ofW (cc := cX9_ofFile) (maxL := 3) (ret := (some .int)) (by decide) rfl ?_
  intro p e s m args below meth c s₁ B hml hv
  obtain ⟨rfl, ⟨hsz, hP, hK, hD0⟩, hV⟩ := hv
  have hx := B.exec
  have hb := B.bytes
  have hr := B.returns
  have hts := atoms_spec (ws := wsX9_ofFile) B.pre
  have hown : s.vm.findClass RX9 = some m.cls := findClass_of_methodNamed B.named
  have hlocks := B.notSynchronized
  subst hsz
  have hD := wl_self hD0 s.heap.size
  have hA : ∀ q : Nat, s.heap.size ≤ q → iA N ad s.heap.size q := fun q h => Or.inr h
  have hS : va_S (iA N ad s.heap.size) s.heap s.heap [] := va_S.rf
  have hP : va_P G.1 vwB (wl N ad C) s.heap := hP
  have hl := lv_entry ([.ref (ad mo), .int k, .int y0]) (n := 3) (Nat.le_of_ble_eq_true rfl)
  rw [lg_entry_eq]
  generalize (lg_sl ([.ref (ad mo), .int k, .int y0]) ++ List.replicate (3 - (lg_sl ([.ref (ad mo), .int k, .int y0])).length) Slot.unset).toArray = ls at hl ⊢
  have hl : lv_has ls 3 [(0, .ref (ad mo)), (1, .int k), (2, .int y0)] := hl
  obtain ⟨hN, gm0, gm1, gm2, gm3, gm4, gm5, gm6⟩ := id hmod
  refine lv_aload_n hx hb dX9_ofFile_0 rfl (lv_at hl 0 rfl) ?_
  refine lv_iconst (v := nI 0) hx hb dX9_ofFile_1 (by decide) ?_
  refine iw_put (ty := .int) hx hb hts iu_X9_ofFile_9 tyX9 tyX9_ok nmX9 hown hK hP hD hS (by omega) (gm0) rfl 0 (by decide) (hts _ il_X9_ofFile_33) (fun _ h9 => h9) rfl (by decide +kernel) rfl rfl (Nat.le_of_ble_eq_true rfl) rfl dX9_ofFile_2 (fun H locs hP hD hS => ?_)
  refine lv_iload_n hx hb dX9_ofFile_5 rfl (lv_at hl 1 rfl) ?_
  refine lv_iconst (v := nI 0) hx hb dX9_ofFile_6 (by decide) ?_
  refine lv_aload_n hx hb dX9_ofFile_7 rfl (lv_at hl 0 rfl) ?_
  refine iw_get hx hb hts iu_X9_ofFile_9 hown hK hP (by omega) (va_us _ _ _) rfl 7 (by decide) (hts _ il_X9_ofFile_30) (fun _ h9 => h9) rfl dX9_ofFile_8 ?_
  refine iw5_i (va_runF (hK.1.1 10 _ rfl).2 (As := []) (rest := [.int (nI 0), .int k]) ⟨hx, hb, hml, hown, hts⟩ (kJx4a65c_size_8abf5 l G N ad _ (by omega) ((va_un _ _ (by omega)).trans (gm6)) _) (va_cwF 0 hts gX9_ofFile_Jx4a65c_size_8abf5_f41Jx4a65c rfl rfl rfl (vx_fSize hV) (by decide +kernel) ⟨Nat.le_of_ble_eq_true rfl, Nat.le_of_ble_eq_true rfl⟩) (iPV hK hP hD (by omega) ((va_un _ _ (by omega)).trans (gm6)) rfl []) rfl rfl hl.1 rfl (lv_room (Nat.le_of_ble_eq_true rfl)) dX9_ofFile_11 ⟨Nat.le_of_ble_eq_true rfl, Nat.le_of_ble_eq_true rfl⟩) hD hS hA (fun r8 u8 H locs hw8 hP hD hS => ?_)
  obtain ⟨hr8, hu8⟩ := hw8
  refine lv_asI hr8 ?_
  rw [hu8] at hP hD
  refine lv_iconst (v := nI 1) hx hb dX9_ofFile_16 (by decide) ?_
  refine lv_isub hx hb dX9_ofFile_17 ?_
  refine iw_pi (va_runS (As := [.int k, .int (nI 0), .int ((nI 0) - (nI 1))]) (rest := []) ⟨hx, hb, hml, hown, hts⟩ (kX9_in l (k) (nI 0) ((nI 0) - (nI 1))) (va_cwS 3 hts gX9_ofFile_X9_in rfl rfl rfl (by decide +kernel) ⟨Nat.le_of_ble_eq_true rfl, Nat.le_of_ble_eq_true rfl⟩) ⟨fun a U g mk q => q, fun U hU hW => ⟨rfl, trivial⟩⟩ rfl rfl hl.1 rfl (lv_room (Nat.le_of_ble_eq_true rfl)) dX9_ofFile_18 ⟨Nat.le_of_ble_eq_true rfl, Nat.le_of_ble_eq_true rfl⟩) hP hS (fun r8 u8 H locs hw8 hP hS => ?_)
  refine lv_asI hw8 ?_
  refine lv_asI (y := nI 0) (inB_no k) ?_
  refine lv_if_ne (tgt := 30) hx hb dX9_ofFile_21 (by decide) (fun c9 => absurd (by decide) c9) (fun _ => ?_)
  refine lv_aload_n hx hb dX9_ofFile_24 rfl (lv_at hl 0 rfl) ?_
  refine lv_iconst (v := nI 1) hx hb dX9_ofFile_25 (by decide) ?_
  refine iw_i (va_runV (As := [.int (nI 1)]) (rest := []) ⟨hx, hb, hml, hown, hts⟩ (kX9_no l G N ad _ mo (by omega) (nI 0) (nI 1) (va_us _ _ _) _) (cwV 1 hts gX9_ofFile_X9_no rfl rfl rfl (by decide +kernel) ⟨Nat.le_of_ble_eq_true rfl, Nat.le_of_ble_eq_true rfl⟩) (iPV hK hP hD (by omega) (va_us _ _ _) rfl [.int (nI 1)]) rfl rfl hl.1 rfl (lv_room (Nat.le_of_ble_eq_true rfl)) dX9_ofFile_26 ⟨Nat.le_of_ble_eq_true rfl, Nat.le_of_ble_eq_true rfl⟩) hD hS hA (fun r8 u8 H locs hw8 hP hD hS => ?_)
  obtain ⟨hr8, hu8⟩ := hw8
  refine lv_asI hr8 ?_
  rw [hu8] at hP hD
  rw [va_uu _ _ _ _] at hP hD
  exact W.iret (v := (nI 0)) hx hb hr (fun t ht hW => ⟨⟨_, _, rfl, ⟨rfl, ⟨_, va_us _ _ _⟩, sameM_up (sameM_rf) _ (by omega) (by omega)⟩, iB_of ht hP⟩, hS.F ht⟩) hS.2.2 dX9_ofFile_29
abbrev rmX9_take : Room := { frames := 1, cells := 0, slots := 0, locals := 22 }
set_option maxRecDepth 20000 in
theorem il_X9_take_33 : (Cond.fieldLink RX9 33 "BayerGateModel" "thrown" "I") ∈ wsX9_take := by decide +kernel
set_option maxRecDepth 20000 in
theorem iu_X9_take_9 : ∀ w ∈ u_ws RX9 TX9 8, w ∈ wsX9_take := by decide +kernel
set_option maxHeartbeats 4000000 in
set_option maxRecDepth 100000 in
theorem kX9_take_1 (l : Launch) (G : iG) (N : Nat) (ad : Nat → Nat) (C : Nat → va_E) (mo dz : Nat) (th : Int32) (hmod : Mod G N ad C mo dz th) (t1 g1 : Int32) (h : t1 < nI 1 ∨ nI 64 < t1) (sz : Nat) : Met l yX9_take wsX9_take rmX9_take (iPre G N ad C sz [.ref (ad mo), .int t1, .int g1]) (va_Qi (fun (r : Int32) (u : Nat → va_E) => r = nI 0 ∧ Thr ad u mo (nI 1) ∧ sameM C u mo) (iB G N ad) (iA N ad sz)) 0 0 (iA N ad sz) := by
  refine Met.ofW (cc := cX9_take) (maxL := 3) (ret := (some .int)) (by decide) rfl ?_
  intro p e s m args below meth c s₁ B hml hv
  obtain ⟨rfl, hsz, hP, hK, hD0⟩ := hv
  have hx := B.exec
  have hb := B.bytes
  have hr := B.returns
  have hts := atoms_spec (ws := wsX9_take) B.pre
  have hown : s.vm.findClass RX9 = some m.cls := findClass_of_methodNamed B.named
  have hlocks := B.notSynchronized
  subst hsz
  have hD := wl_self hD0 s.heap.size
  have hA : ∀ q : Nat, s.heap.size ≤ q → iA N ad s.heap.size q := fun q h => Or.inr h
  have hS : va_S (iA N ad s.heap.size) s.heap s.heap [] := va_S.rf
  have hP : va_P G.1 vwB (wl N ad C) s.heap := hP
  have hl := lv_entry ([.ref (ad mo), .int t1, .int g1]) (n := 3) (Nat.le_of_ble_eq_true rfl)
  rw [lg_entry_eq]
  generalize (lg_sl ([.ref (ad mo), .int t1, .int g1]) ++ List.replicate (3 - (lg_sl ([.ref (ad mo), .int t1, .int g1])).length) Slot.unset).toArray = ls at hl ⊢
  have hl : lv_has ls 3 [(0, .ref (ad mo)), (1, .int t1), (2, .int g1)] := hl
  obtain ⟨hN, gm0, gm1, gm2, gm3, gm4, gm5, gm6⟩ := id hmod
  refine lv_aload_n hx hb dX9_take_0 rfl (lv_at hl 0 rfl) ?_
  refine lv_iconst (v := nI 0) hx hb dX9_take_1 (by decide) ?_
  refine iw_put (ty := .int) hx hb hts iu_X9_take_9 tyX9 tyX9_ok nmX9 hown hK hP hD hS (by omega) (gm0) rfl 0 (by decide) (hts _ il_X9_take_33) (fun _ h9 => h9) rfl (by decide +kernel) rfl rfl (Nat.le_of_ble_eq_true rfl) rfl dX9_take_2 (fun H locs hP hD hS => ?_)
  refine lv_iload_n hx hb dX9_take_5 rfl (lv_at hl 1 rfl) ?_
  refine lv_iconst (v := nI 1) hx hb dX9_take_6 (by decide) ?_
  refine lv_bipush (v := nI 64) hx hb dX9_take_7 (by decide) ?_
  refine iw_pi (va_runS (As := [.int t1, .int (nI 1), .int (nI 64)]) (rest := []) ⟨hx, hb, hml, hown, hts⟩ (kX9_in l (t1) (nI 1) (nI 64)) (va_cwS 3 hts gX9_take_X9_in rfl rfl rfl (by decide +kernel) ⟨Nat.le_of_ble_eq_true rfl, Nat.le_of_ble_eq_true rfl⟩) ⟨fun a U g mk q => q, fun U hU hW => ⟨rfl, trivial⟩⟩ rfl rfl hl.1 rfl (lv_room (Nat.le_of_ble_eq_true rfl)) dX9_take_9 ⟨Nat.le_of_ble_eq_true rfl, Nat.le_of_ble_eq_true rfl⟩) hP hS (fun r8 u8 H locs hw8 hP hS => ?_)
  refine lv_asI hw8 ?_
  refine lv_asI (y := nI 0) (inB_lo h) ?_
  refine lv_if_eq (tgt := 25) hx hb dX9_take_12 (by decide) (fun _ => ?_) (fun c9 => absurd (by decide) c9)
  refine lv_aload_n hx hb dX9_take_25 rfl (lv_at hl 0 rfl) ?_
  refine lv_iconst (v := nI 1) hx hb dX9_take_26 (by decide) ?_
  refine iw_i (va_runV (As := [.int (nI 1)]) (rest := []) ⟨hx, hb, hml, hown, hts⟩ (kX9_no l G N ad _ mo (by omega) (nI 0) (nI 1) (va_us _ _ _) _) (cwV 1 hts gX9_take_X9_no rfl rfl rfl (by decide +kernel) ⟨Nat.le_of_ble_eq_true rfl, Nat.le_of_ble_eq_true rfl⟩) (iPV hK hP hD (by omega) (va_us _ _ _) rfl [.int (nI 1)]) rfl rfl hl.1 rfl (lv_room (Nat.le_of_ble_eq_true rfl)) dX9_take_27 ⟨Nat.le_of_ble_eq_true rfl, Nat.le_of_ble_eq_true rfl⟩) hD hS hA (fun r8 u8 H locs hw8 hP hD hS => ?_)
  obtain ⟨hr8, hu8⟩ := hw8
  refine lv_asI hr8 ?_
  rw [hu8] at hP hD
  rw [va_uu _ _ _ _] at hP hD
  exact W.iret (v := (nI 0)) hx hb hr (fun t ht hW => ⟨⟨_, _, rfl, ⟨rfl, ⟨_, va_us _ _ _⟩, sameM_up (sameM_rf) _ (by omega) (by omega)⟩, iB_of ht hP⟩, hS.F ht⟩) hS.2.2 dX9_take_30
set_option maxHeartbeats 4000000 in
set_option maxRecDepth 100000 in
theorem kX9_take_2 (l : Launch) (G : iG) (N : Nat) (ad : Nat → Nat) (C : Nat → va_E) (mo dz : Nat) (th : Int32) (hmod : Mod G N ad C mo dz th) (t1 : Nat) (ht : 0 < t1 ∧ t1 < 65) (g1 : Int32) (h : g1 < nI 1 ∨ nI 8 < g1) (sz : Nat) : Met l yX9_take wsX9_take rmX9_take (iPre G N ad C sz [.ref (ad mo), .int (nI t1), .int g1]) (va_Qi (fun (r : Int32) (u : Nat → va_E) => r = nI 0 ∧ Thr ad u mo (nI 1) ∧ sameM C u mo) (iB G N ad) (iA N ad sz)) 0 0 (iA N ad sz) := by
  refine Met.ofW (cc := cX9_take) (maxL := 3) (ret := (some .int)) (by decide) rfl ?_
  intro p e s m args below meth c s₁ B hml hv
  obtain ⟨rfl, hsz, hP, hK, hD0⟩ := hv
  have hx := B.exec
  have hb := B.bytes
  have hr := B.returns
  have hts := atoms_spec (ws := wsX9_take) B.pre
  have hown : s.vm.findClass RX9 = some m.cls := findClass_of_methodNamed B.named
  have hlocks := B.notSynchronized
  subst hsz
  have hD := wl_self hD0 s.heap.size
  have hA : ∀ q : Nat, s.heap.size ≤ q → iA N ad s.heap.size q := fun q h => Or.inr h
  have hS : va_S (iA N ad s.heap.size) s.heap s.heap [] := va_S.rf
  have hP : va_P G.1 vwB (wl N ad C) s.heap := hP
  have hl := lv_entry ([.ref (ad mo), .int (nI t1), .int g1]) (n := 3) (Nat.le_of_ble_eq_true rfl)
  rw [lg_entry_eq]
  generalize (lg_sl ([.ref (ad mo), .int (nI t1), .int g1]) ++ List.replicate (3 - (lg_sl ([.ref (ad mo), .int (nI t1), .int g1])).length) Slot.unset).toArray = ls at hl ⊢
  have hl : lv_has ls 3 [(0, .ref (ad mo)), (1, .int (nI t1)), (2, .int g1)] := hl
  obtain ⟨hN, gm0, gm1, gm2, gm3, gm4, gm5, gm6⟩ := id hmod
  refine lv_aload_n hx hb dX9_take_0 rfl (lv_at hl 0 rfl) ?_
  refine lv_iconst (v := nI 0) hx hb dX9_take_1 (by decide) ?_
  refine iw_put (ty := .int) hx hb hts iu_X9_take_9 tyX9 tyX9_ok nmX9 hown hK hP hD hS (by omega) (gm0) rfl 0 (by decide) (hts _ il_X9_take_33) (fun _ h9 => h9) rfl (by decide +kernel) rfl rfl (Nat.le_of_ble_eq_true rfl) rfl dX9_take_2 (fun H locs hP hD hS => ?_)
  refine lv_iload_n hx hb dX9_take_5 rfl (lv_at hl 1 rfl) ?_
  refine lv_iconst (v := nI 1) hx hb dX9_take_6 (by decide) ?_
  refine lv_bipush (v := nI 64) hx hb dX9_take_7 (by decide) ?_
  refine iw_pi (va_runS (As := [.int (nI t1), .int (nI 1), .int (nI 64)]) (rest := []) ⟨hx, hb, hml, hown, hts⟩ (kX9_in l (nI t1) (nI 1) (nI 64)) (va_cwS 3 hts gX9_take_X9_in rfl rfl rfl (by decide +kernel) ⟨Nat.le_of_ble_eq_true rfl, Nat.le_of_ble_eq_true rfl⟩) ⟨fun a U g mk q => q, fun U hU hW => ⟨rfl, trivial⟩⟩ rfl rfl hl.1 rfl (lv_room (Nat.le_of_ble_eq_true rfl)) dX9_take_9 ⟨Nat.le_of_ble_eq_true rfl, Nat.le_of_ble_eq_true rfl⟩) hP hS (fun r8 u8 H locs hw8 hP hS => ?_)
  refine lv_asI hw8 ?_
  refine lv_asI (y := nI 1) (inB_in (nI_nlt (by omega) (by omega)) (nI_le (by omega) (by omega))) ?_
  refine lv_if_eq (tgt := 25) hx hb dX9_take_12 (by decide) (fun c9 => absurd c9 (by decide)) (fun _ => ?_)
  refine lv_iload_n hx hb dX9_take_15 rfl (lv_at hl 2 rfl) ?_
  refine lv_iconst (v := nI 1) hx hb dX9_take_16 (by decide) ?_
  refine lv_bipush (v := nI 8) hx hb dX9_take_17 (by decide) ?_
  refine iw_pi (va_runS (As := [.int g1, .int (nI 1), .int (nI 8)]) (rest := []) ⟨hx, hb, hml, hown, hts⟩ (kX9_in l (g1) (nI 1) (nI 8)) (va_cwS 3 hts gX9_take_X9_in rfl rfl rfl (by decide +kernel) ⟨Nat.le_of_ble_eq_true rfl, Nat.le_of_ble_eq_true rfl⟩) ⟨fun a U g mk q => q, fun U hU hW => ⟨rfl, trivial⟩⟩ rfl rfl hl.1 rfl (lv_room (Nat.le_of_ble_eq_true rfl)) dX9_take_19 ⟨Nat.le_of_ble_eq_true rfl, Nat.le_of_ble_eq_true rfl⟩) hP hS (fun r8 u8 H locs hw8 hP hS => ?_)
  refine lv_asI hw8 ?_
  refine lv_asI (y := nI 0) (inB_lo h) ?_
  refine lv_if_ne (tgt := 31) hx hb dX9_take_22 (by decide) (fun c9 => absurd (by decide) c9) (fun _ => ?_)
  refine lv_aload_n hx hb dX9_take_25 rfl (lv_at hl 0 rfl) ?_
  refine lv_iconst (v := nI 1) hx hb dX9_take_26 (by decide) ?_
  refine iw_i (va_runV (As := [.int (nI 1)]) (rest := []) ⟨hx, hb, hml, hown, hts⟩ (kX9_no l G N ad _ mo (by omega) (nI 0) (nI 1) (va_us _ _ _) _) (cwV 1 hts gX9_take_X9_no rfl rfl rfl (by decide +kernel) ⟨Nat.le_of_ble_eq_true rfl, Nat.le_of_ble_eq_true rfl⟩) (iPV hK hP hD (by omega) (va_us _ _ _) rfl [.int (nI 1)]) rfl rfl hl.1 rfl (lv_room (Nat.le_of_ble_eq_true rfl)) dX9_take_27 ⟨Nat.le_of_ble_eq_true rfl, Nat.le_of_ble_eq_true rfl⟩) hD hS hA (fun r8 u8 H locs hw8 hP hD hS => ?_)
  obtain ⟨hr8, hu8⟩ := hw8
  refine lv_asI hr8 ?_
  rw [hu8] at hP hD
  rw [va_uu _ _ _ _] at hP hD
  exact W.iret (v := (nI 0)) hx hb hr (fun t ht hW => ⟨⟨_, _, rfl, ⟨rfl, ⟨_, va_us _ _ _⟩, sameM_up (sameM_rf) _ (by omega) (by omega)⟩, iB_of ht hP⟩, hS.F ht⟩) hS.2.2 dX9_take_30
abbrev rmX9_wouldClip : Room := { frames := 1, cells := 0, slots := 0, locals := 22 }
set_option maxRecDepth 20000 in
theorem il_X9_wouldClip_33 : (Cond.fieldLink RX9 33 "BayerGateModel" "thrown" "I") ∈ wsX9_wouldClip := by decide +kernel
set_option maxRecDepth 20000 in
theorem iu_X9_wouldClip_9 : ∀ w ∈ u_ws RX9 TX9 8, w ∈ wsX9_wouldClip := by decide +kernel
set_option maxHeartbeats 4000000 in
set_option maxRecDepth 100000 in
theorem kX9_wouldClip_1 (l : Launch) (G : iG) (N : Nat) (ad : Nat → Nat) (C : Nat → va_E) (mo dz : Nat) (th : Int32) (hmod : Mod G N ad C mo dz th) (t1 g1 : Int32) (h : t1 < nI 1 ∨ nI 64 < t1) (sz : Nat) : Met l yX9_wouldClip wsX9_wouldClip rmX9_wouldClip (iPre G N ad C sz [.ref (ad mo), .int t1, .int g1]) (va_Qi (fun (r : Int32) (u : Nat → va_E) => r = nI 0 ∧ Thr ad u mo (nI 1) ∧ sameM C u mo) (iB G N ad) (iA N ad sz)) 0 0 (iA N ad sz) := by
  refine Met.ofW (cc := cX9_wouldClip) (maxL := 3) (ret := (some .int)) (by decide) rfl ?_
  intro p e s m args below meth c s₁ B hml hv
  obtain ⟨rfl, hsz, hP, hK, hD0⟩ := hv
  have hx := B.exec
  have hb := B.bytes
  have hr := B.returns
  have hts := atoms_spec (ws := wsX9_wouldClip) B.pre
  have hown : s.vm.findClass RX9 = some m.cls := findClass_of_methodNamed B.named
  have hlocks := B.notSynchronized
  subst hsz
  have hD := wl_self hD0 s.heap.size
  have hA : ∀ q : Nat, s.heap.size ≤ q → iA N ad s.heap.size q := fun q h => Or.inr h
  have hS : va_S (iA N ad s.heap.size) s.heap s.heap [] := va_S.rf
  have hP : va_P G.1 vwB (wl N ad C) s.heap := hP
  have hl := lv_entry ([.ref (ad mo), .int t1, .int g1]) (n := 3) (Nat.le_of_ble_eq_true rfl)
  rw [lg_entry_eq]
  generalize (lg_sl ([.ref (ad mo), .int t1, .int g1]) ++ List.replicate (3 - (lg_sl ([.ref (ad mo), .int t1, .int g1])).length) Slot.unset).toArray = ls at hl ⊢
  have hl : lv_has ls 3 [(0, .ref (ad mo)), (1, .int t1), (2, .int g1)] := hl
  obtain ⟨hN, gm0, gm1, gm2, gm3, gm4, gm5, gm6⟩ := id hmod
  refine lv_aload_n hx hb dX9_wouldClip_0 rfl (lv_at hl 0 rfl) ?_
  refine lv_iconst (v := nI 0) hx hb dX9_wouldClip_1 (by decide) ?_
  refine iw_put (ty := .int) hx hb hts iu_X9_wouldClip_9 tyX9 tyX9_ok nmX9 hown hK hP hD hS (by omega) (gm0) rfl 0 (by decide) (hts _ il_X9_wouldClip_33) (fun _ h9 => h9) rfl (by decide +kernel) rfl rfl (Nat.le_of_ble_eq_true rfl) rfl dX9_wouldClip_2 (fun H locs hP hD hS => ?_)
  refine lv_iload_n hx hb dX9_wouldClip_5 rfl (lv_at hl 1 rfl) ?_
  refine lv_iconst (v := nI 1) hx hb dX9_wouldClip_6 (by decide) ?_
  refine lv_bipush (v := nI 64) hx hb dX9_wouldClip_7 (by decide) ?_
  refine iw_pi (va_runS (As := [.int t1, .int (nI 1), .int (nI 64)]) (rest := []) ⟨hx, hb, hml, hown, hts⟩ (kX9_in l (t1) (nI 1) (nI 64)) (va_cwS 3 hts gX9_wouldClip_X9_in rfl rfl rfl (by decide +kernel) ⟨Nat.le_of_ble_eq_true rfl, Nat.le_of_ble_eq_true rfl⟩) ⟨fun a U g mk q => q, fun U hU hW => ⟨rfl, trivial⟩⟩ rfl rfl hl.1 rfl (lv_room (Nat.le_of_ble_eq_true rfl)) dX9_wouldClip_9 ⟨Nat.le_of_ble_eq_true rfl, Nat.le_of_ble_eq_true rfl⟩) hP hS (fun r8 u8 H locs hw8 hP hS => ?_)
  refine lv_asI hw8 ?_
  refine lv_asI (y := nI 0) (inB_lo h) ?_
  refine lv_if_eq (tgt := 25) hx hb dX9_wouldClip_12 (by decide) (fun _ => ?_) (fun c9 => absurd (by decide) c9)
  refine lv_aload_n hx hb dX9_wouldClip_25 rfl (lv_at hl 0 rfl) ?_
  refine lv_iconst (v := nI 1) hx hb dX9_wouldClip_26 (by decide) ?_
  refine iw_i (va_runV (As := [.int (nI 1)]) (rest := []) ⟨hx, hb, hml, hown, hts⟩ (kX9_no l G N ad _ mo (by omega) (nI 0) (nI 1) (va_us _ _ _) _) (cwV 1 hts gX9_wouldClip_X9_no rfl rfl rfl (by decide +kernel) ⟨Nat.le_of_ble_eq_true rfl, Nat.le_of_ble_eq_true rfl⟩) (iPV hK hP hD (by omega) (va_us _ _ _) rfl [.int (nI 1)]) rfl rfl hl.1 rfl (lv_room (Nat.le_of_ble_eq_true rfl)) dX9_wouldClip_27 ⟨Nat.le_of_ble_eq_true rfl, Nat.le_of_ble_eq_true rfl⟩) hD hS hA (fun r8 u8 H locs hw8 hP hD hS => ?_)
  obtain ⟨hr8, hu8⟩ := hw8
  refine lv_asI hr8 ?_
  rw [hu8] at hP hD
  rw [va_uu _ _ _ _] at hP hD
  exact W.iret (v := (nI 0)) hx hb hr (fun t ht hW => ⟨⟨_, _, rfl, ⟨rfl, ⟨_, va_us _ _ _⟩, sameM_up (sameM_rf) _ (by omega) (by omega)⟩, iB_of ht hP⟩, hS.F ht⟩) hS.2.2 dX9_wouldClip_30
set_option maxHeartbeats 4000000 in
set_option maxRecDepth 100000 in
theorem kX9_wouldClip_2 (l : Launch) (G : iG) (N : Nat) (ad : Nat → Nat) (C : Nat → va_E) (mo dz : Nat) (th : Int32) (hmod : Mod G N ad C mo dz th) (t1 : Nat) (ht : 0 < t1 ∧ t1 < 65) (g1 : Int32) (h : g1 < nI 1 ∨ nI 8 < g1) (sz : Nat) : Met l yX9_wouldClip wsX9_wouldClip rmX9_wouldClip (iPre G N ad C sz [.ref (ad mo), .int (nI t1), .int g1]) (va_Qi (fun (r : Int32) (u : Nat → va_E) => r = nI 0 ∧ Thr ad u mo (nI 1) ∧ sameM C u mo) (iB G N ad) (iA N ad sz)) 0 0 (iA N ad sz) := by
  refine Met.ofW (cc := cX9_wouldClip) (maxL := 3) (ret := (some .int)) (by decide) rfl ?_
  intro p e s m args below meth c s₁ B hml hv
  obtain ⟨rfl, hsz, hP, hK, hD0⟩ := hv
  have hx := B.exec
  have hb := B.bytes
  have hr := B.returns
  have hts := atoms_spec (ws := wsX9_wouldClip) B.pre
  have hown : s.vm.findClass RX9 = some m.cls := findClass_of_methodNamed B.named
  have hlocks := B.notSynchronized
  subst hsz
  have hD := wl_self hD0 s.heap.size
  have hA : ∀ q : Nat, s.heap.size ≤ q → iA N ad s.heap.size q := fun q h => Or.inr h
  have hS : va_S (iA N ad s.heap.size) s.heap s.heap [] := va_S.rf
  have hP : va_P G.1 vwB (wl N ad C) s.heap := hP
  have hl := lv_entry ([.ref (ad mo), .int (nI t1), .int g1]) (n := 3) (Nat.le_of_ble_eq_true rfl)
  rw [lg_entry_eq]
  generalize (lg_sl ([.ref (ad mo), .int (nI t1), .int g1]) ++ List.replicate (3 - (lg_sl ([.ref (ad mo), .int (nI t1), .int g1])).length) Slot.unset).toArray = ls at hl ⊢
  have hl : lv_has ls 3 [(0, .ref (ad mo)), (1, .int (nI t1)), (2, .int g1)] := hl
  obtain ⟨hN, gm0, gm1, gm2, gm3, gm4, gm5, gm6⟩ := id hmod
  refine lv_aload_n hx hb dX9_wouldClip_0 rfl (lv_at hl 0 rfl) ?_
  refine lv_iconst (v := nI 0) hx hb dX9_wouldClip_1 (by decide) ?_
  refine iw_put (ty := .int) hx hb hts iu_X9_wouldClip_9 tyX9 tyX9_ok nmX9 hown hK hP hD hS (by omega) (gm0) rfl 0 (by decide) (hts _ il_X9_wouldClip_33) (fun _ h9 => h9) rfl (by decide +kernel) rfl rfl (Nat.le_of_ble_eq_true rfl) rfl dX9_wouldClip_2 (fun H locs hP hD hS => ?_)
  refine lv_iload_n hx hb dX9_wouldClip_5 rfl (lv_at hl 1 rfl) ?_
  refine lv_iconst (v := nI 1) hx hb dX9_wouldClip_6 (by decide) ?_
  refine lv_bipush (v := nI 64) hx hb dX9_wouldClip_7 (by decide) ?_
  refine iw_pi (va_runS (As := [.int (nI t1), .int (nI 1), .int (nI 64)]) (rest := []) ⟨hx, hb, hml, hown, hts⟩ (kX9_in l (nI t1) (nI 1) (nI 64)) (va_cwS 3 hts gX9_wouldClip_X9_in rfl rfl rfl (by decide +kernel) ⟨Nat.le_of_ble_eq_true rfl, Nat.le_of_ble_eq_true rfl⟩) ⟨fun a U g mk q => q, fun U hU hW => ⟨rfl, trivial⟩⟩ rfl rfl hl.1 rfl (lv_room (Nat.le_of_ble_eq_true rfl)) dX9_wouldClip_9 ⟨Nat.le_of_ble_eq_true rfl, Nat.le_of_ble_eq_true rfl⟩) hP hS (fun r8 u8 H locs hw8 hP hS => ?_)
  refine lv_asI hw8 ?_
  refine lv_asI (y := nI 1) (inB_in (nI_nlt (by omega) (by omega)) (nI_le (by omega) (by omega))) ?_
  refine lv_if_eq (tgt := 25) hx hb dX9_wouldClip_12 (by decide) (fun c9 => absurd c9 (by decide)) (fun _ => ?_)
  refine lv_iload_n hx hb dX9_wouldClip_15 rfl (lv_at hl 2 rfl) ?_
  refine lv_iconst (v := nI 1) hx hb dX9_wouldClip_16 (by decide) ?_
  refine lv_bipush (v := nI 8) hx hb dX9_wouldClip_17 (by decide) ?_
  refine iw_pi (va_runS (As := [.int g1, .int (nI 1), .int (nI 8)]) (rest := []) ⟨hx, hb, hml, hown, hts⟩ (kX9_in l (g1) (nI 1) (nI 8)) (va_cwS 3 hts gX9_wouldClip_X9_in rfl rfl rfl (by decide +kernel) ⟨Nat.le_of_ble_eq_true rfl, Nat.le_of_ble_eq_true rfl⟩) ⟨fun a U g mk q => q, fun U hU hW => ⟨rfl, trivial⟩⟩ rfl rfl hl.1 rfl (lv_room (Nat.le_of_ble_eq_true rfl)) dX9_wouldClip_19 ⟨Nat.le_of_ble_eq_true rfl, Nat.le_of_ble_eq_true rfl⟩) hP hS (fun r8 u8 H locs hw8 hP hS => ?_)
  refine lv_asI hw8 ?_
  refine lv_asI (y := nI 0) (inB_lo h) ?_
  refine lv_if_ne (tgt := 31) hx hb dX9_wouldClip_22 (by decide) (fun c9 => absurd (by decide) c9) (fun _ => ?_)
  refine lv_aload_n hx hb dX9_wouldClip_25 rfl (lv_at hl 0 rfl) ?_
  refine lv_iconst (v := nI 1) hx hb dX9_wouldClip_26 (by decide) ?_
  refine iw_i (va_runV (As := [.int (nI 1)]) (rest := []) ⟨hx, hb, hml, hown, hts⟩ (kX9_no l G N ad _ mo (by omega) (nI 0) (nI 1) (va_us _ _ _) _) (cwV 1 hts gX9_wouldClip_X9_no rfl rfl rfl (by decide +kernel) ⟨Nat.le_of_ble_eq_true rfl, Nat.le_of_ble_eq_true rfl⟩) (iPV hK hP hD (by omega) (va_us _ _ _) rfl [.int (nI 1)]) rfl rfl hl.1 rfl (lv_room (Nat.le_of_ble_eq_true rfl)) dX9_wouldClip_27 ⟨Nat.le_of_ble_eq_true rfl, Nat.le_of_ble_eq_true rfl⟩) hD hS hA (fun r8 u8 H locs hw8 hP hD hS => ?_)
  obtain ⟨hr8, hu8⟩ := hw8
  refine lv_asI hr8 ?_
  rw [hu8] at hP hD
  rw [va_uu _ _ _ _] at hP hD
  exact W.iret (v := (nI 0)) hx hb hr (fun t ht hW => ⟨⟨_, _, rfl, ⟨rfl, ⟨_, va_us _ _ _⟩, sameM_up (sameM_rf) _ (by omega) (by omega)⟩, iB_of ht hP⟩, hS.F ht⟩) hS.2.2 dX9_wouldClip_30
abbrev rmX9_many : Room := { frames := 1, cells := 0, slots := 0, locals := 22 }
set_option maxRecDepth 20000 in
theorem il_X9_many_33 : (Cond.fieldLink RX9 33 "BayerGateModel" "thrown" "I") ∈ wsX9_many := by decide +kernel
set_option maxRecDepth 20000 in
theorem iu_X9_many_9 : ∀ w ∈ u_ws RX9 TX9 8, w ∈ wsX9_many := by decide +kernel
set_option maxHeartbeats 4000000 in
set_option maxRecDepth 100000 in
theorem kX9_many_1 (l : Launch) (G : iG) (N : Nat) (ad : Nat → Nat) (C : Nat → va_E) (mo dz : Nat) (th : Int32) (hmod : Mod G N ad C mo dz th) (v : Int32) (h : v < nI 0 ∨ nI 6 < v) (sz : Nat) : Met l yX9_many wsX9_many rmX9_many (iPre G N ad C sz [.ref (ad mo), .int v]) (va_Qi (fun (r : Int32) (u : Nat → va_E) => r = nI 0 ∧ Thr ad u mo (nI 1) ∧ sameM C u mo) (iB G N ad) (iA N ad sz)) 0 0 (iA N ad sz) := by
  refine Met.ofW (cc := cX9_many) (maxL := 2) (ret := (some .int)) (by decide) rfl ?_
  intro p e s m args below meth c s₁ B hml hv
  obtain ⟨rfl, hsz, hP, hK, hD0⟩ := hv
  have hx := B.exec
  have hb := B.bytes
  have hr := B.returns
  have hts := atoms_spec (ws := wsX9_many) B.pre
  have hown : s.vm.findClass RX9 = some m.cls := findClass_of_methodNamed B.named
  have hlocks := B.notSynchronized
  subst hsz
  have hD := wl_self hD0 s.heap.size
  have hA : ∀ q : Nat, s.heap.size ≤ q → iA N ad s.heap.size q := fun q h => Or.inr h
  have hS : va_S (iA N ad s.heap.size) s.heap s.heap [] := va_S.rf
  have hP : va_P G.1 vwB (wl N ad C) s.heap := hP
  have hl := lv_entry ([.ref (ad mo), .int v]) (n := 2) (Nat.le_of_ble_eq_true rfl)
  rw [lg_entry_eq]
  generalize (lg_sl ([.ref (ad mo), .int v]) ++ List.replicate (2 - (lg_sl ([.ref (ad mo), .int v])).length) Slot.unset).toArray = ls at hl ⊢
  have hl : lv_has ls 2 [(0, .ref (ad mo)), (1, .int v)] := hl
  obtain ⟨hN, gm0, gm1, gm2, gm3, gm4, gm5, gm6⟩ := id hmod
  refine lv_aload_n hx hb dX9_many_0 rfl (lv_at hl 0 rfl) ?_
  refine lv_iconst (v := nI 0) hx hb dX9_many_1 (by decide) ?_
  refine iw_put (ty := .int) hx hb hts iu_X9_many_9 tyX9 tyX9_ok nmX9 hown hK hP hD hS (by omega) (gm0) rfl 0 (by decide) (hts _ il_X9_many_33) (fun _ h9 => h9) rfl (by decide +kernel) rfl rfl (Nat.le_of_ble_eq_true rfl) rfl dX9_many_2 (fun H locs hP hD hS => ?_)
  refine lv_iload_n hx hb dX9_many_5 rfl (lv_at hl 1 rfl) ?_
  refine lv_iconst (v := nI 0) hx hb dX9_many_6 (by decide) ?_
  refine lv_bipush (v := nI 6) hx hb dX9_many_7 (by decide) ?_
  refine iw_pi (va_runS (As := [.int v, .int (nI 0), .int (nI 6)]) (rest := []) ⟨hx, hb, hml, hown, hts⟩ (kX9_in l (v) (nI 0) (nI 6)) (va_cwS 3 hts gX9_many_X9_in rfl rfl rfl (by decide +kernel) ⟨Nat.le_of_ble_eq_true rfl, Nat.le_of_ble_eq_true rfl⟩) ⟨fun a U g mk q => q, fun U hU hW => ⟨rfl, trivial⟩⟩ rfl rfl hl.1 rfl (lv_room (Nat.le_of_ble_eq_true rfl)) dX9_many_9 ⟨Nat.le_of_ble_eq_true rfl, Nat.le_of_ble_eq_true rfl⟩) hP hS (fun r8 u8 H locs hw8 hP hS => ?_)
  refine lv_asI hw8 ?_
  refine lv_asI (y := nI 0) (inB_lo h) ?_
  refine lv_if_ne (tgt := 21) hx hb dX9_many_12 (by decide) (fun c9 => absurd (by decide) c9) (fun _ => ?_)
  refine lv_aload_n hx hb dX9_many_15 rfl (lv_at hl 0 rfl) ?_
  refine lv_iconst (v := nI 1) hx hb dX9_many_16 (by decide) ?_
  refine iw_i (va_runV (As := [.int (nI 1)]) (rest := []) ⟨hx, hb, hml, hown, hts⟩ (kX9_no l G N ad _ mo (by omega) (nI 0) (nI 1) (va_us _ _ _) _) (cwV 1 hts gX9_many_X9_no rfl rfl rfl (by decide +kernel) ⟨Nat.le_of_ble_eq_true rfl, Nat.le_of_ble_eq_true rfl⟩) (iPV hK hP hD (by omega) (va_us _ _ _) rfl [.int (nI 1)]) rfl rfl hl.1 rfl (lv_room (Nat.le_of_ble_eq_true rfl)) dX9_many_17 ⟨Nat.le_of_ble_eq_true rfl, Nat.le_of_ble_eq_true rfl⟩) hD hS hA (fun r8 u8 H locs hw8 hP hD hS => ?_)
  obtain ⟨hr8, hu8⟩ := hw8
  refine lv_asI hr8 ?_
  rw [hu8] at hP hD
  rw [va_uu _ _ _ _] at hP hD
  exact W.iret (v := (nI 0)) hx hb hr (fun t ht hW => ⟨⟨_, _, rfl, ⟨rfl, ⟨_, va_us _ _ _⟩, sameM_up (sameM_rf) _ (by omega) (by omega)⟩, iB_of ht hP⟩, hS.F ht⟩) hS.2.2 dX9_many_20
abbrev rmX9_bestTake : Room := { frames := 1, cells := 0, slots := 0, locals := 22 }
set_option maxRecDepth 20000 in
theorem il_X9_bestTake_33 : (Cond.fieldLink RX9 33 "BayerGateModel" "thrown" "I") ∈ wsX9_bestTake := by decide +kernel
set_option maxRecDepth 20000 in
theorem iu_X9_bestTake_9 : ∀ w ∈ u_ws RX9 TX9 8, w ∈ wsX9_bestTake := by decide +kernel
set_option maxHeartbeats 4000000 in
set_option maxRecDepth 100000 in
theorem kX9_bestTake_1 (l : Launch) (G : iG) (N : Nat) (ad : Nat → Nat) (C : Nat → va_E) (mo dz : Nat) (th : Int32) (hmod : Mod G N ad C mo dz th) (v : Int32) (h : v < nI 0 ∨ nI 255 < v) (sz : Nat) : Met l yX9_bestTake wsX9_bestTake rmX9_bestTake (iPre G N ad C sz [.ref (ad mo), .int v]) (va_Qi (fun (r : Int32) (u : Nat → va_E) => r = nI 0 ∧ Thr ad u mo (nI 1) ∧ sameM C u mo) (iB G N ad) (iA N ad sz)) 0 0 (iA N ad sz) := by
  refine Met.ofW (cc := cX9_bestTake) (maxL := 9) (ret := (some .int)) (by decide) rfl ?_
  intro p e s m args below meth c s₁ B hml hv
  obtain ⟨rfl, hsz, hP, hK, hD0⟩ := hv
  have hx := B.exec
  have hb := B.bytes
  have hr := B.returns
  have hts := atoms_spec (ws := wsX9_bestTake) B.pre
  have hown : s.vm.findClass RX9 = some m.cls := findClass_of_methodNamed B.named
  have hlocks := B.notSynchronized
  subst hsz
  have hD := wl_self hD0 s.heap.size
  have hA : ∀ q : Nat, s.heap.size ≤ q → iA N ad s.heap.size q := fun q h => Or.inr h
  have hS : va_S (iA N ad s.heap.size) s.heap s.heap [] := va_S.rf
  have hP : va_P G.1 vwB (wl N ad C) s.heap := hP
  have hl := lv_entry ([.ref (ad mo), .int v]) (n := 9) (Nat.le_of_ble_eq_true rfl)
  rw [lg_entry_eq]
  generalize (lg_sl ([.ref (ad mo), .int v]) ++ List.replicate (9 - (lg_sl ([.ref (ad mo), .int v])).length) Slot.unset).toArray = ls at hl ⊢
  have hl : lv_has ls 9 [(0, .ref (ad mo)), (1, .int v)] := hl
  obtain ⟨hN, gm0, gm1, gm2, gm3, gm4, gm5, gm6⟩ := id hmod
  refine lv_aload_n hx hb dX9_bestTake_0 rfl (lv_at hl 0 rfl) ?_
  refine lv_iconst (v := nI 0) hx hb dX9_bestTake_1 (by decide) ?_
  refine iw_put (ty := .int) hx hb hts iu_X9_bestTake_9 tyX9 tyX9_ok nmX9 hown hK hP hD hS (by omega) (gm0) rfl 0 (by decide) (hts _ il_X9_bestTake_33) (fun _ h9 => h9) rfl (by decide +kernel) rfl rfl (Nat.le_of_ble_eq_true rfl) rfl dX9_bestTake_2 (fun H locs hP hD hS => ?_)
  refine lv_iload_n hx hb dX9_bestTake_5 rfl (lv_at hl 1 rfl) ?_
  refine lv_iconst (v := nI 0) hx hb dX9_bestTake_6 (by decide) ?_
  refine lv_sipush (v := nI 255) hx hb dX9_bestTake_7 (by decide) ?_
  refine iw_pi (va_runS (As := [.int v, .int (nI 0), .int (nI 255)]) (rest := []) ⟨hx, hb, hml, hown, hts⟩ (kX9_in l (v) (nI 0) (nI 255)) (va_cwS 3 hts gX9_bestTake_X9_in rfl rfl rfl (by decide +kernel) ⟨Nat.le_of_ble_eq_true rfl, Nat.le_of_ble_eq_true rfl⟩) ⟨fun a U g mk q => q, fun U hU hW => ⟨rfl, trivial⟩⟩ rfl rfl hl.1 rfl (lv_room (Nat.le_of_ble_eq_true rfl)) dX9_bestTake_10 ⟨Nat.le_of_ble_eq_true rfl, Nat.le_of_ble_eq_true rfl⟩) hP hS (fun r8 u8 H locs hw8 hP hS => ?_)
  refine lv_asI hw8 ?_
  refine lv_asI (y := nI 0) (inB_lo h) ?_
  refine lv_if_ne (tgt := 22) hx hb dX9_bestTake_13 (by decide) (fun c9 => absurd (by decide) c9) (fun _ => ?_)
  refine lv_aload_n hx hb dX9_bestTake_16 rfl (lv_at hl 0 rfl) ?_
  refine lv_iconst (v := nI 1) hx hb dX9_bestTake_17 (by decide) ?_
  refine iw_i (va_runV (As := [.int (nI 1)]) (rest := []) ⟨hx, hb, hml, hown, hts⟩ (kX9_no l G N ad _ mo (by omega) (nI 0) (nI 1) (va_us _ _ _) _) (cwV 1 hts gX9_bestTake_X9_no rfl rfl rfl (by decide +kernel) ⟨Nat.le_of_ble_eq_true rfl, Nat.le_of_ble_eq_true rfl⟩) (iPV hK hP hD (by omega) (va_us _ _ _) rfl [.int (nI 1)]) rfl rfl hl.1 rfl (lv_room (Nat.le_of_ble_eq_true rfl)) dX9_bestTake_18 ⟨Nat.le_of_ble_eq_true rfl, Nat.le_of_ble_eq_true rfl⟩) hD hS hA (fun r8 u8 H locs hw8 hP hD hS => ?_)
  obtain ⟨hr8, hu8⟩ := hw8
  refine lv_asI hr8 ?_
  rw [hu8] at hP hD
  rw [va_uu _ _ _ _] at hP hD
  exact W.iret (v := (nI 0)) hx hb hr (fun t ht hW => ⟨⟨_, _, rfl, ⟨rfl, ⟨_, va_us _ _ _⟩, sameM_up (sameM_rf) _ (by omega) (by omega)⟩, iB_of ht hP⟩, hS.F ht⟩) hS.2.2 dX9_bestTake_21
abbrev rmX9_ofPlace : Room := { frames := 2, cells := 0, slots := 0, locals := 43 }
set_option maxRecDepth 20000 in
theorem il_X9_ofPlace_33 : (Cond.fieldLink RX9 33 "BayerGateModel" "thrown" "I") ∈ wsX9_ofPlace := by decide +kernel
set_option maxRecDepth 20000 in
theorem iu_X9_ofPlace_9 : ∀ w ∈ u_ws RX9 TX9 8, w ∈ wsX9_ofPlace := by decide +kernel
set_option maxHeartbeats 4000000 in
set_option maxRecDepth 100000 in
theorem kX9_ofPlace_1 (l : Launch) (G : iG) (N : Nat) (ad : Nat → Nat) (C : Nat → va_E) (mo dz : Nat) (th : Int32) (hmod : Mod G N ad C mo dz th) (x y v : Int32) (h : isPl x y = false) (sz : Nat) : Met l yX9_ofPlace wsX9_ofPlace rmX9_ofPlace (iPre G N ad C sz [.ref (ad mo), .int x, .int y, .int v]) (va_Qi (fun (r : Int32) (u : Nat → va_E) => r = nI 0 ∧ Thr ad u mo (nI 1) ∧ sameM C u mo) (iB G N ad) (iA N ad sz)) 0 0 (iA N ad sz) := by
  refine Met.ofW (cc := cX9_ofPlace) (maxL := 6) (ret := (some .int)) (by decide) rfl ?_
  intro p e s m args below meth c s₁ B hml hv
  obtain ⟨rfl, hsz, hP, hK, hD0⟩ := hv
  have hx := B.exec
  have hb := B.bytes
  have hr := B.returns
  have hts := atoms_spec (ws := wsX9_ofPlace) B.pre
  have hown : s.vm.findClass RX9 = some m.cls := findClass_of_methodNamed B.named
  have hlocks := B.notSynchronized
  subst hsz
  have hD := wl_self hD0 s.heap.size
  have hA : ∀ q : Nat, s.heap.size ≤ q → iA N ad s.heap.size q := fun q h => Or.inr h
  have hS : va_S (iA N ad s.heap.size) s.heap s.heap [] := va_S.rf
  have hP : va_P G.1 vwB (wl N ad C) s.heap := hP
  have hl := lv_entry ([.ref (ad mo), .int x, .int y, .int v]) (n := 6) (Nat.le_of_ble_eq_true rfl)
  rw [lg_entry_eq]
  generalize (lg_sl ([.ref (ad mo), .int x, .int y, .int v]) ++ List.replicate (6 - (lg_sl ([.ref (ad mo), .int x, .int y, .int v])).length) Slot.unset).toArray = ls at hl ⊢
  have hl : lv_has ls 6 [(0, .ref (ad mo)), (1, .int x), (2, .int y), (3, .int v)] := hl
  obtain ⟨hN, gm0, gm1, gm2, gm3, gm4, gm5, gm6⟩ := id hmod
  refine lv_aload_n hx hb dX9_ofPlace_0 rfl (lv_at hl 0 rfl) ?_
  refine lv_iconst (v := nI 0) hx hb dX9_ofPlace_1 (by decide) ?_
  refine iw_put (ty := .int) hx hb hts iu_X9_ofPlace_9 tyX9 tyX9_ok nmX9 hown hK hP hD hS (by omega) (gm0) rfl 0 (by decide) (hts _ il_X9_ofPlace_33) (fun _ h9 => h9) rfl (by decide +kernel) rfl rfl (Nat.le_of_ble_eq_true rfl) rfl dX9_ofPlace_2 (fun H locs hP hD hS => ?_)
  refine lv_iload_n hx hb dX9_ofPlace_5 rfl (lv_at hl 1 rfl) ?_
  refine lv_iload_n hx hb dX9_ofPlace_6 rfl (lv_at hl 2 rfl) ?_
  refine iw_pi (va_runS (As := [.int x, .int y]) (rest := []) ⟨hx, hb, hml, hown, hts⟩ (kX9_isPlace l (x) (y)) (va_cwS 2 hts gX9_ofPlace_X9_isPlace rfl rfl rfl (by decide +kernel) ⟨Nat.le_of_ble_eq_true rfl, Nat.le_of_ble_eq_true rfl⟩) ⟨fun a U g mk q => q, fun U hU hW => ⟨rfl, trivial⟩⟩ rfl rfl hl.1 rfl (lv_room (Nat.le_of_ble_eq_true rfl)) dX9_ofPlace_7 ⟨Nat.le_of_ble_eq_true rfl, Nat.le_of_ble_eq_true rfl⟩) hP hS (fun r8 u8 H locs hw8 hP hS => ?_)
  refine lv_asI hw8 ?_
  refine lv_asI (y := nI 0) (by rw [h]; rfl) ?_
  refine lv_if_ne (tgt := 19) hx hb dX9_ofPlace_10 (by decide) (fun c9 => absurd (by decide) c9) (fun _ => ?_)
  refine lv_aload_n hx hb dX9_ofPlace_13 rfl (lv_at hl 0 rfl) ?_
  refine lv_iconst (v := nI 1) hx hb dX9_ofPlace_14 (by decide) ?_
  refine iw_i (va_runV (As := [.int (nI 1)]) (rest := []) ⟨hx, hb, hml, hown, hts⟩ (kX9_no l G N ad _ mo (by omega) (nI 0) (nI 1) (va_us _ _ _) _) (cwV 1 hts gX9_ofPlace_X9_no rfl rfl rfl (by decide +kernel) ⟨Nat.le_of_ble_eq_true rfl, Nat.le_of_ble_eq_true rfl⟩) (iPV hK hP hD (by omega) (va_us _ _ _) rfl [.int (nI 1)]) rfl rfl hl.1 rfl (lv_room (Nat.le_of_ble_eq_true rfl)) dX9_ofPlace_15 ⟨Nat.le_of_ble_eq_true rfl, Nat.le_of_ble_eq_true rfl⟩) hD hS hA (fun r8 u8 H locs hw8 hP hD hS => ?_)
  obtain ⟨hr8, hu8⟩ := hw8
  refine lv_asI hr8 ?_
  rw [hu8] at hP hD
  rw [va_uu _ _ _ _] at hP hD
  exact W.iret (v := (nI 0)) hx hb hr (fun t ht hW => ⟨⟨_, _, rfl, ⟨rfl, ⟨_, va_us _ _ _⟩, sameM_up (sameM_rf) _ (by omega) (by omega)⟩, iB_of ht hP⟩, hS.F ht⟩) hS.2.2 dX9_ofPlace_18
set_option maxHeartbeats 4000000 in
set_option maxRecDepth 100000 in
theorem kX9_ofPlace_2 (l : Launch) (G : iG) (N : Nat) (ad : Nat → Nat) (C : Nat → va_E) (mo dz : Nat) (th : Int32) (hmod : Mod G N ad C mo dz th) (x y : Nat) (hx8 : x < 8) (hy8 : y < 8) (v : Int32) (h : v < nI 0 ∨ nI 5 < v) (sz : Nat) : Met l yX9_ofPlace wsX9_ofPlace rmX9_ofPlace (iPre G N ad C sz [.ref (ad mo), .int (nI x), .int (nI y), .int v]) (va_Qi (fun (r : Int32) (u : Nat → va_E) => r = nI 0 ∧ Thr ad u mo (nI 2) ∧ sameM C u mo) (iB G N ad) (iA N ad sz)) 0 0 (iA N ad sz) := by
  refine Met.ofW (cc := cX9_ofPlace) (maxL := 6) (ret := (some .int)) (by decide) rfl ?_
  intro p e s m args below meth c s₁ B hml hv
  obtain ⟨rfl, hsz, hP, hK, hD0⟩ := hv
  have hx := B.exec
  have hb := B.bytes
  have hr := B.returns
  have hts := atoms_spec (ws := wsX9_ofPlace) B.pre
  have hown : s.vm.findClass RX9 = some m.cls := findClass_of_methodNamed B.named
  have hlocks := B.notSynchronized
  subst hsz
  have hD := wl_self hD0 s.heap.size
  have hA : ∀ q : Nat, s.heap.size ≤ q → iA N ad s.heap.size q := fun q h => Or.inr h
  have hS : va_S (iA N ad s.heap.size) s.heap s.heap [] := va_S.rf
  have hP : va_P G.1 vwB (wl N ad C) s.heap := hP
  have hl := lv_entry ([.ref (ad mo), .int (nI x), .int (nI y), .int v]) (n := 6) (Nat.le_of_ble_eq_true rfl)
  rw [lg_entry_eq]
  generalize (lg_sl ([.ref (ad mo), .int (nI x), .int (nI y), .int v]) ++ List.replicate (6 - (lg_sl ([.ref (ad mo), .int (nI x), .int (nI y), .int v])).length) Slot.unset).toArray = ls at hl ⊢
  have hl : lv_has ls 6 [(0, .ref (ad mo)), (1, .int (nI x)), (2, .int (nI y)), (3, .int v)] := hl
  obtain ⟨hN, gm0, gm1, gm2, gm3, gm4, gm5, gm6⟩ := id hmod
  refine lv_aload_n hx hb dX9_ofPlace_0 rfl (lv_at hl 0 rfl) ?_
  refine lv_iconst (v := nI 0) hx hb dX9_ofPlace_1 (by decide) ?_
  refine iw_put (ty := .int) hx hb hts iu_X9_ofPlace_9 tyX9 tyX9_ok nmX9 hown hK hP hD hS (by omega) (gm0) rfl 0 (by decide) (hts _ il_X9_ofPlace_33) (fun _ h9 => h9) rfl (by decide +kernel) rfl rfl (Nat.le_of_ble_eq_true rfl) rfl dX9_ofPlace_2 (fun H locs hP hD hS => ?_)
  refine lv_iload_n hx hb dX9_ofPlace_5 rfl (lv_at hl 1 rfl) ?_
  refine lv_iload_n hx hb dX9_ofPlace_6 rfl (lv_at hl 2 rfl) ?_
  refine iw_pi (va_runS (As := [.int (nI x), .int (nI y)]) (rest := []) ⟨hx, hb, hml, hown, hts⟩ (kX9_isPlace l (nI x) (nI y)) (va_cwS 2 hts gX9_ofPlace_X9_isPlace rfl rfl rfl (by decide +kernel) ⟨Nat.le_of_ble_eq_true rfl, Nat.le_of_ble_eq_true rfl⟩) ⟨fun a U g mk q => q, fun U hU hW => ⟨rfl, trivial⟩⟩ rfl rfl hl.1 rfl (lv_room (Nat.le_of_ble_eq_true rfl)) dX9_ofPlace_7 ⟨Nat.le_of_ble_eq_true rfl, Nat.le_of_ble_eq_true rfl⟩) hP hS (fun r8 u8 H locs hw8 hP hS => ?_)
  refine lv_asI hw8 ?_
  refine lv_asI (y := nI 1) (by rw [isPl_ok (by omega) (by omega)]; rfl) ?_
  refine lv_if_ne (tgt := 19) hx hb dX9_ofPlace_10 (by decide) (fun _ => ?_) (fun c9 => absurd c9 (by decide))
  refine lv_iload_n hx hb dX9_ofPlace_19 rfl (lv_at hl 3 rfl) ?_
  refine lv_iconst (v := nI 0) hx hb dX9_ofPlace_20 (by decide) ?_
  refine lv_iconst (v := nI 5) hx hb dX9_ofPlace_21 (by decide) ?_
  refine iw_pi (va_runS (As := [.int v, .int (nI 0), .int (nI 5)]) (rest := []) ⟨hx, hb, hml, hown, hts⟩ (kX9_in l (v) (nI 0) (nI 5)) (va_cwS 3 hts gX9_ofPlace_X9_in rfl rfl rfl (by decide +kernel) ⟨Nat.le_of_ble_eq_true rfl, Nat.le_of_ble_eq_true rfl⟩) ⟨fun a U g mk q => q, fun U hU hW => ⟨rfl, trivial⟩⟩ rfl rfl hl.1 rfl (lv_room (Nat.le_of_ble_eq_true rfl)) dX9_ofPlace_22 ⟨Nat.le_of_ble_eq_true rfl, Nat.le_of_ble_eq_true rfl⟩) hP hS (fun r8 u8 H locs hw8 hP hS => ?_)
  refine lv_asI hw8 ?_
  refine lv_asI (y := nI 0) (inB_lo h) ?_
  refine lv_if_ne (tgt := 34) hx hb dX9_ofPlace_25 (by decide) (fun c9 => absurd (by decide) c9) (fun _ => ?_)
  refine lv_aload_n hx hb dX9_ofPlace_28 rfl (lv_at hl 0 rfl) ?_
  refine lv_iconst (v := nI 2) hx hb dX9_ofPlace_29 (by decide) ?_
  refine iw_i (va_runV (As := [.int (nI 2)]) (rest := []) ⟨hx, hb, hml, hown, hts⟩ (kX9_no l G N ad _ mo (by omega) (nI 0) (nI 2) (va_us _ _ _) _) (cwV 1 hts gX9_ofPlace_X9_no rfl rfl rfl (by decide +kernel) ⟨Nat.le_of_ble_eq_true rfl, Nat.le_of_ble_eq_true rfl⟩) (iPV hK hP hD (by omega) (va_us _ _ _) rfl [.int (nI 2)]) rfl rfl hl.1 rfl (lv_room (Nat.le_of_ble_eq_true rfl)) dX9_ofPlace_30 ⟨Nat.le_of_ble_eq_true rfl, Nat.le_of_ble_eq_true rfl⟩) hD hS hA (fun r8 u8 H locs hw8 hP hD hS => ?_)
  obtain ⟨hr8, hu8⟩ := hw8
  refine lv_asI hr8 ?_
  rw [hu8] at hP hD
  rw [va_uu _ _ _ _] at hP hD
  exact W.iret (v := (nI 0)) hx hb hr (fun t ht hW => ⟨⟨_, _, rfl, ⟨rfl, ⟨_, va_us _ _ _⟩, sameM_up (sameM_rf) _ (by omega) (by omega)⟩, iB_of ht hP⟩, hS.F ht⟩) hS.2.2 dX9_ofPlace_33
