set_option maxRecDepth 20000 in
theorem ggL_paint_X6_paint : GoodIn wsL_paint wsX6_paint := goodIn_ca (goodIn_ca (goodIn_r _ [7, 8, 9, 10, 11, 12, 13, 6, 14, 15, 16, 17, 18, 19, 20, 21, 22, 23, 24, 25, 26, 27, 28, 29, 30, 31, 32, 33, 34, 35, 36, 37, 38, 39, 40, 41, 42, 43] (by decide +kernel) (by decide +kernel)) (goodIn_sub (fun _ h => List.mem_cons_of_mem _ (List.mem_append_left _ (List.mem_append_right _ h))) (by decide +kernel))) (goodIn_sub (fun _ h => List.mem_cons_of_mem _ (List.mem_append_right _ h)) (by decide +kernel))
set_option maxRecDepth 20000 in
theorem gL_paint_X6_paint : GoodIn wsL_paint (wsV RL 7 RX6 yX6_paint wsX6_paint) := goodIn_app (goodIn_of _ (by decide +kernel)) ggL_paint_X6_paint
set_option maxRecDepth 20000 in
theorem ggL_lamp_X6_lamp : GoodIn wsL_lamp wsX6_lamp := goodIn_ca (goodIn_r _ [6, 7, 8, 9, 5, 10, 11, 12, 13, 14, 15, 16, 17, 18, 19, 20, 21, 22, 23, 24, 25, 26, 27, 28, 29, 30, 31, 32, 33, 34, 35, 36] (by decide +kernel) (by decide +kernel)) (goodIn_sub (fun _ h => List.mem_cons_of_mem _ (List.mem_append_right _ h)) (by decide +kernel))
set_option maxRecDepth 20000 in
theorem gL_lamp_X6_lamp : GoodIn wsL_lamp (wsV RL 17 RX6 yX6_lamp wsX6_lamp) := goodIn_app (goodIn_of _ (by decide +kernel)) ggL_lamp_X6_lamp
set_option maxRecDepth 20000 in
theorem ggL_spoil_X6_spoil : GoodIn wsL_spoil wsX6_spoil := goodIn_ca (goodIn_ca (goodIn_r _ [7, 8, 9, 10, 6, 11, 12, 13, 14, 15, 16, 17, 18, 19, 20, 21, 22, 23, 24, 25, 26, 27, 28, 29, 30, 31, 32, 33, 34, 35, 36, 37, 38, 39, 40, 41, 42, 43, 44, 45, 46] (by decide +kernel) (by decide +kernel)) (goodIn_sub (fun _ h => List.mem_cons_of_mem _ (List.mem_append_left _ (List.mem_append_right _ h))) (by decide +kernel))) (goodIn_sub (fun _ h => List.mem_cons_of_mem _ (List.mem_append_right _ h)) (by decide +kernel))
set_option maxRecDepth 20000 in
theorem gL_spoil_X6_spoil : GoodIn wsL_spoil (wsV RL 21 RX6 yX6_spoil wsX6_spoil) := goodIn_app (goodIn_of _ (by decide +kernel)) ggL_spoil_X6_spoil
set_option maxRecDepth 20000 in
theorem ggL_map_X6_map : GoodIn wsL_map wsX6_map := goodIn_ca (goodIn_r _ [6, 7, 8, 9, 5, 10, 11, 12, 13, 14, 15, 16, 17, 18, 19, 20, 21, 22, 23, 24, 25, 26, 27, 28, 29, 30, 31, 32, 33, 34, 35, 36, 37, 38, 39, 40] (by decide +kernel) (by decide +kernel)) (goodIn_sub (fun _ h => List.mem_cons_of_mem _ (List.mem_append_right _ h)) (by decide +kernel))
set_option maxRecDepth 20000 in
theorem gL_map_X6_map : GoodIn wsL_map (wsV RL 24 RX6 yX6_map wsX6_map) := goodIn_app (goodIn_of _ (by decide +kernel)) ggL_map_X6_map
set_option maxRecDepth 20000 in
theorem ggL_take_X6_take : GoodIn wsL_take wsX6_take := goodIn_ca (goodIn_ca (goodIn_r _ [7, 8, 9, 10, 11, 12, 13, 6, 14, 15, 16, 17, 18, 19, 20, 21, 22, 23, 24, 25, 26, 27, 28, 29, 30, 31, 32, 33, 34, 35, 36, 37, 38, 39, 40, 41, 42, 43, 44, 45, 46, 47, 48, 49, 50, 51, 52, 53, 54, 55, 56, 57, 58, 59, 60, 61, 62, 63, 64, 65, 66, 67, 68, 69, 70, 71, 72, 73, 74, 75, 76, 77, 78, 79, 80, 81] (by decide +kernel) (by decide +kernel)) (goodIn_sub (fun _ h => List.mem_cons_of_mem _ (List.mem_append_left _ (List.mem_append_right _ h))) (by decide +kernel))) (goodIn_sub (fun _ h => List.mem_cons_of_mem _ (List.mem_append_right _ h)) (by decide +kernel))
set_option maxRecDepth 20000 in
theorem gL_take_X6_take : GoodIn wsL_take (wsV RL 28 RX6 yX6_take wsX6_take) := goodIn_app (goodIn_of _ (by decide +kernel)) ggL_take_X6_take
set_option maxRecDepth 20000 in
theorem ggL_wouldClip_X6_wouldClip : GoodIn wsL_wouldClip wsX6_wouldClip := goodIn_ca (goodIn_r _ [6, 7, 8, 9, 10, 11, 5, 12, 13, 14, 15, 16, 17, 18, 19, 20, 21, 22, 23, 24, 25, 26, 27, 28, 29, 30, 31, 32, 33, 34, 35, 36, 37, 38, 39, 40, 41, 42, 43, 44, 45, 46, 47, 48, 49, 50, 51, 52, 53, 54, 55, 56, 57, 58, 59, 60, 61, 62, 63, 64, 65, 66, 67, 68, 69, 70, 71, 72, 73, 74, 75, 76] (by decide +kernel) (by decide +kernel)) (goodIn_sub (fun _ h => List.mem_cons_of_mem _ (List.mem_append_right _ h)) (by decide +kernel))
set_option maxRecDepth 20000 in
theorem gL_wouldClip_X6_wouldClip : GoodIn wsL_wouldClip (wsV RL 83 RX6 yX6_wouldClip wsX6_wouldClip) := goodIn_app (goodIn_of _ (by decide +kernel)) ggL_wouldClip_X6_wouldClip
set_option maxRecDepth 20000 in
theorem ggL_merge_X6_merge : GoodIn wsL_merge wsX6_merge := goodIn_ca (goodIn_ca (goodIn_r _ [7, 8, 9, 10, 11, 12, 13, 6, 14, 15, 16, 17, 18, 19, 20, 21, 22, 23, 24, 25, 26, 27, 28, 29, 30, 31, 32, 33, 34, 35, 36, 37, 38, 39, 40, 41, 42, 43, 44, 45, 46, 47, 48, 49, 50, 51, 52, 53, 54, 55] (by decide +kernel) (by decide +kernel)) (goodIn_sub (fun _ h => List.mem_cons_of_mem _ (List.mem_append_left _ (List.mem_append_right _ h))) (by decide +kernel))) (goodIn_sub (fun _ h => List.mem_cons_of_mem _ (List.mem_append_right _ h)) (by decide +kernel))
set_option maxRecDepth 20000 in
theorem gL_merge_X6_merge : GoodIn wsL_merge (wsV RL 34 RX6 yX6_merge wsX6_merge) := goodIn_app (goodIn_of _ (by decide +kernel)) ggL_merge_X6_merge
set_option maxRecDepth 20000 in
theorem ggL_edit_X6_edit : GoodIn wsL_edit wsX6_edit := goodIn_ca (goodIn_ca (goodIn_ca (goodIn_r _ [8, 9, 10, 11, 12, 7, 13, 14, 15, 16, 17, 18, 19, 20, 21, 22, 23, 24, 25, 26, 27, 28, 29, 30, 31, 32, 33, 34, 35, 36, 37, 38, 39, 40, 41, 42, 43, 44, 45, 46, 47, 48, 49, 50, 51, 52, 53, 54, 55, 56, 57, 58, 59, 60, 61] (by decide +kernel) (by decide +kernel)) (goodIn_sub (fun _ h => List.mem_cons_of_mem _ (List.mem_append_left _ (List.mem_append_left _ (List.mem_append_right _ h)))) (by decide +kernel))) (goodIn_sub (fun _ h => List.mem_cons_of_mem _ (List.mem_append_left _ (List.mem_append_right _ h))) (by decide +kernel))) (goodIn_sub (fun _ h => List.mem_cons_of_mem _ (List.mem_append_right _ h)) (by decide +kernel))
set_option maxRecDepth 20000 in
theorem gL_edit_X6_edit : GoodIn wsL_edit (wsV RL 37 RX6 yX6_edit wsX6_edit) := goodIn_app (goodIn_of _ (by decide +kernel)) ggL_edit_X6_edit
set_option maxRecDepth 20000 in
theorem ggL_undo_X6_undo : GoodIn wsL_undo wsX6_undo := goodIn_ca (goodIn_r _ [6, 7, 8, 9, 10, 5, 11, 12, 13, 14, 15, 16, 17, 18, 19, 20, 21, 22, 23, 24, 25, 26, 27, 28, 29, 30, 31, 32, 33, 34, 35, 36, 37, 38] (by decide +kernel) (by decide +kernel)) (goodIn_sub (fun _ h => List.mem_cons_of_mem _ (List.mem_append_right _ h)) (by decide +kernel))
set_option maxRecDepth 20000 in
theorem gL_undo_X6_undo : GoodIn wsL_undo (wsV RL 40 RX6 yX6_undo wsX6_undo) := goodIn_app (goodIn_of _ (by decide +kernel)) ggL_undo_X6_undo
set_option maxRecDepth 20000 in
theorem ggL_save_X6_save : GoodIn wsL_save wsX6_save := goodIn_ca (goodIn_ca (goodIn_r _ [7, 8, 9, 10, 11, 12, 13, 6, 14, 15, 16, 17, 18, 19, 20, 21, 22, 23, 24, 25, 26, 27, 28, 29, 30, 31, 32, 33, 34, 35, 36, 37, 38, 39, 40, 41, 42, 43, 44, 45, 46, 47, 48, 49, 50, 51, 52, 53, 54, 55, 56, 57, 58, 59, 60, 61, 62] (by decide +kernel) (by decide +kernel)) (goodIn_sub (fun _ h => List.mem_cons_of_mem _ (List.mem_append_left _ (List.mem_append_right _ h))) (by decide +kernel))) (goodIn_sub (fun _ h => List.mem_cons_of_mem _ (List.mem_append_right _ h)) (by decide +kernel))
set_option maxRecDepth 20000 in
theorem gL_save_X6_save : GoodIn wsL_save (wsV RL 44 RX6 yX6_save wsX6_save) := goodIn_app (goodIn_of _ (by decide +kernel)) ggL_save_X6_save
set_option maxRecDepth 20000 in
theorem ggL_raw_X6_raw : GoodIn wsL_raw wsX6_raw := goodIn_ca (goodIn_r _ [6, 7, 8, 9, 10, 5, 11, 12, 13, 14, 15, 16, 17, 18, 19, 20, 21, 22, 23, 24, 25, 26, 27, 28, 29, 30, 31, 32, 33, 34, 35, 36, 37] (by decide +kernel) (by decide +kernel)) (goodIn_sub (fun _ h => List.mem_cons_of_mem _ (List.mem_append_right _ h)) (by decide +kernel))
set_option maxRecDepth 20000 in
theorem gL_raw_X6_raw : GoodIn wsL_raw (wsV RL 47 RX6 yX6_raw wsX6_raw) := goodIn_app (goodIn_of _ (by decide +kernel)) ggL_raw_X6_raw
set_option maxRecDepth 20000 in
theorem ggL_picture_X6_picture : GoodIn wsL_picture wsX6_picture := goodIn_ca (goodIn_ca (goodIn_r _ [7, 8, 9, 10, 11, 6, 12, 13, 14, 15, 16, 17, 18, 19, 20, 21, 22, 23, 24, 25, 26, 27, 28, 29, 30, 31, 32, 33, 34, 35, 36, 37, 38, 39, 40, 41, 42, 43, 44, 45, 46, 47, 48, 49, 50, 51, 52, 53, 54, 55, 56, 57, 58, 59, 60, 61, 62, 63, 64, 65, 66, 67, 68, 69, 70, 71, 72, 73, 74, 75, 76, 77, 78, 79, 80, 81, 82, 83, 84, 85, 86, 87, 88, 89, 90, 91, 92, 93, 94, 95, 96, 97, 98, 99, 100, 101, 102, 103, 104, 105, 106, 107, 108, 109, 110, 111, 112, 113, 114, 115, 116, 117, 118, 119, 120, 121, 122, 123, 124, 125, 126] (by decide +kernel) (by decide +kernel)) (goodIn_sub (fun _ h => List.mem_cons_of_mem _ (List.mem_append_left _ (List.mem_append_right _ h))) (by decide +kernel))) (goodIn_sub (fun _ h => List.mem_cons_of_mem _ (List.mem_append_right _ h)) (by decide +kernel))
set_option maxRecDepth 20000 in
theorem gL_picture_X6_picture : GoodIn wsL_picture (wsV RL 50 RX6 yX6_picture wsX6_picture) := goodIn_app (goodIn_of _ (by decide +kernel)) ggL_picture_X6_picture
set_option maxRecDepth 20000 in
theorem ggL_word_X6_word : GoodIn wsL_word wsX6_word := goodIn_ca (goodIn_r _ [6, 7, 8, 9, 10, 5, 11, 12, 13, 14, 15, 16, 17, 18, 19, 20, 21, 22, 23, 24, 25, 26, 27, 28, 29, 30, 31, 32, 33, 34, 35, 36, 37, 38, 39, 40, 41, 42, 43, 44, 45, 46, 47, 48, 49, 50, 51, 52, 53, 54, 55, 56, 57, 58, 59, 60, 61, 62, 63, 64, 65, 66, 67, 68, 69, 70, 71, 72, 73, 74, 75, 76, 77, 78, 79, 80, 81, 82, 83, 84, 85, 86, 87, 88, 89, 90, 91, 92, 93, 94, 95, 96, 97, 98, 99, 100, 101, 102, 103, 104, 105, 106, 107, 108, 109, 110, 111, 112, 113, 114, 115, 116, 117, 118] (by decide +kernel) (by decide +kernel)) (goodIn_sub (fun _ h => List.mem_cons_of_mem _ (List.mem_append_right _ h)) (by decide +kernel))
set_option maxRecDepth 20000 in
theorem gL_word_X6_word : GoodIn wsL_word (wsV RL 54 RX6 yX6_word wsX6_word) := goodIn_app (goodIn_of _ (by decide +kernel)) ggL_word_X6_word
set_option maxRecDepth 20000 in
theorem ggL_ofFrame_X6_ofFrame : GoodIn wsL_ofFrame wsX6_ofFrame := goodIn_ca (goodIn_ca (goodIn_r _ [7, 8, 9, 10, 11, 6, 12, 13, 14, 15, 16, 17, 18, 19, 20, 21, 22, 23, 24, 25, 26, 27, 28, 29, 30, 31, 32, 33, 34, 35, 36, 37, 38, 39, 40, 41, 42, 43, 44, 45, 46, 47, 48, 49, 50, 51, 52, 53, 54, 55, 56, 57, 58, 59, 60, 61, 62, 63, 64, 65, 66, 67, 68, 69, 70, 71, 72, 73, 74, 75, 76, 77, 78, 79, 80, 81, 82, 83, 84] (by decide +kernel) (by decide +kernel)) (goodIn_sub (fun _ h => List.mem_cons_of_mem _ (List.mem_append_left _ (List.mem_append_right _ h))) (by decide +kernel))) (goodIn_sub (fun _ h => List.mem_cons_of_mem _ (List.mem_append_right _ h)) (by decide +kernel))
set_option maxRecDepth 20000 in
theorem gL_ofFrame_X6_ofFrame : GoodIn wsL_ofFrame (wsV RL 57 RX6 yX6_ofFrame wsX6_ofFrame) := goodIn_app (goodIn_of _ (by decide +kernel)) ggL_ofFrame_X6_ofFrame
set_option maxRecDepth 20000 in
theorem ggL_ofEdit_X6_ofEdit : GoodIn wsL_ofEdit wsX6_ofEdit := goodIn_ca (goodIn_ca (goodIn_r _ [7, 8, 9, 10, 11, 6, 12, 13, 14, 15, 16, 17, 18, 19, 20, 21, 22, 23, 24, 25, 26, 27, 28, 29, 30, 31, 32, 33, 34, 35, 36, 37, 38, 39, 40, 41, 42, 43, 44, 45, 46] (by decide +kernel) (by decide +kernel)) (goodIn_sub (fun _ h => List.mem_cons_of_mem _ (List.mem_append_left _ (List.mem_append_right _ h))) (by decide +kernel))) (goodIn_sub (fun _ h => List.mem_cons_of_mem _ (List.mem_append_right _ h)) (by decide +kernel))
set_option maxRecDepth 20000 in
theorem gL_ofEdit_X6_ofEdit : GoodIn wsL_ofEdit (wsV RL 60 RX6 yX6_ofEdit wsX6_ofEdit) := goodIn_app (goodIn_of _ (by decide +kernel)) ggL_ofEdit_X6_ofEdit
set_option maxRecDepth 20000 in
theorem ggL_zone_X6_zone : GoodIn wsL_zone wsX6_zone := goodIn_ca (goodIn_r _ [6, 7, 8, 9, 10, 5, 11, 12, 13, 14, 15, 16, 17, 18, 19, 20, 21, 22, 23, 24, 25, 26, 27, 28, 29, 30, 31, 32, 33, 34, 35, 36, 37, 38, 39, 40, 41, 42] (by decide +kernel) (by decide +kernel)) (goodIn_sub (fun _ h => List.mem_cons_of_mem _ (List.mem_append_right _ h)) (by decide +kernel))
set_option maxRecDepth 20000 in
theorem gL_zone_X6_zone : GoodIn wsL_zone (wsV RL 63 RX6 yX6_zone wsX6_zone) := goodIn_app (goodIn_of _ (by decide +kernel)) ggL_zone_X6_zone
set_option maxRecDepth 20000 in
theorem ggL_meter_X6_meter : GoodIn wsL_meter wsX6_meter := goodIn_ca (goodIn_r _ [6, 7, 8, 9, 10, 5, 11, 12, 13, 14, 15, 16, 17, 18, 19, 20, 21, 22, 23, 24, 25, 26, 27, 28, 29, 30, 31, 32, 33, 34, 35, 36, 37, 38, 39, 40, 41, 42, 43, 44] (by decide +kernel) (by decide +kernel)) (goodIn_sub (fun _ h => List.mem_cons_of_mem _ (List.mem_append_right _ h)) (by decide +kernel))
set_option maxRecDepth 20000 in
theorem gL_meter_X6_meter : GoodIn wsL_meter (wsV RL 67 RX6 yX6_meter wsX6_meter) := goodIn_app (goodIn_of _ (by decide +kernel)) ggL_meter_X6_meter
set_option maxRecDepth 20000 in
theorem ggL_apart_X6_apart : GoodIn wsL_apart wsX6_apart := goodIn_ca (goodIn_r _ [6, 7, 8, 9, 10, 11, 5, 12, 13, 14, 15, 16, 17, 18, 19, 20, 21, 22, 23, 24, 25, 26, 27, 28, 29, 30, 31, 32, 33, 34, 35, 36, 37, 38, 39, 40, 41, 42, 43, 44, 45, 46, 47, 48, 49, 50, 51, 52, 53, 54, 55, 56, 57, 58, 59, 60, 61, 62, 63, 64, 65, 66, 67, 68, 69, 70, 71, 72, 73, 74, 75, 76, 77, 78, 79, 80, 81, 82, 83, 84, 85, 86, 87, 88, 89, 90, 91, 92, 93, 94, 95, 96, 97, 98, 99, 100, 101, 102, 103, 104, 105, 106, 107, 108, 109, 110, 111, 112, 113, 114, 115, 116, 117, 118, 119] (by decide +kernel) (by decide +kernel)) (goodIn_sub (fun _ h => List.mem_cons_of_mem _ (List.mem_append_right _ h)) (by decide +kernel))
set_option maxRecDepth 20000 in
theorem gL_apart_X6_apart : GoodIn wsL_apart (wsV RL 80 RX6 yX6_apart wsX6_apart) := goodIn_app (goodIn_of _ (by decide +kernel)) ggL_apart_X6_apart
set_option maxRecDepth 20000 in
theorem ggL_bestWhite_X6_bestWhite : GoodIn wsL_bestWhite wsX6_bestWhite := goodIn_ca (goodIn_ca (goodIn_r _ [7, 8, 9, 10, 11, 12, 13, 14, 15, 16, 17, 18, 6, 19, 20, 21, 22, 23, 24, 25, 26, 27, 28, 29, 30, 31, 32, 33, 34, 35, 36, 37, 38, 39, 40, 41, 42, 43, 44, 45, 46, 47, 48, 49, 50, 51, 52, 53, 54, 55, 56, 57, 58, 59, 60, 61, 62, 63, 64, 65, 66, 67, 68, 69, 70, 71, 72, 73, 74, 75, 76, 77, 78, 79, 80, 81, 82, 83, 84, 85, 86, 87, 88, 89, 90, 91, 92, 93, 94, 95, 96, 97, 98, 99, 100, 101, 102, 103, 104, 105, 106, 107, 108, 109, 110, 111, 112, 113, 114, 115, 116, 117, 118, 119, 120, 121, 122, 123, 124, 125, 126, 127] (by decide +kernel) (by decide +kernel)) (goodIn_sub (fun _ h => List.mem_cons_of_mem _ (List.mem_append_left _ (List.mem_append_right _ h))) (by decide +kernel))) (goodIn_sub (fun _ h => List.mem_cons_of_mem _ (List.mem_append_right _ h)) (by decide +kernel))
set_option maxRecDepth 20000 in
theorem gL_bestWhite_X6_bestWhite : GoodIn wsL_bestWhite (wsV RL 89 RX6 yX6_bestWhite wsX6_bestWhite) := goodIn_app (goodIn_of _ (by decide +kernel)) ggL_bestWhite_X6_bestWhite
set_option maxRecDepth 20000 in
theorem ggL_ofFile_X6_ofFile : GoodIn wsL_ofFile wsX6_ofFile := goodIn_ca (goodIn_ca (goodIn_r _ [7, 8, 9, 10, 11, 6, 12, 13, 14, 15, 16, 17, 18, 19, 20, 21, 22, 23, 24, 25, 26, 27, 28, 29, 30, 31, 32, 33, 34, 35, 36, 37, 38, 39, 40, 41, 42, 43, 44, 45, 46, 47, 48, 49, 50, 51, 52, 53, 54, 55, 56, 57, 58, 59, 60, 61, 62, 63, 64, 65, 66, 67, 68, 69, 70, 71, 72, 73, 74, 75, 76, 77, 78, 79, 80, 81, 82, 83, 84, 85, 86, 87, 88, 89, 90, 91, 92, 93, 94, 95, 96, 97, 98, 99, 100, 101, 102, 103, 104, 105, 106, 107, 108, 109, 110, 111, 112, 113, 114, 115, 116, 117, 118, 119, 120, 121, 122, 123, 124, 125, 126, 127, 128] (by decide +kernel) (by decide +kernel)) (goodIn_sub (fun _ h => List.mem_cons_of_mem _ (List.mem_append_left _ (List.mem_append_right _ h))) (by decide +kernel))) (goodIn_sub (fun _ h => List.mem_cons_of_mem _ (List.mem_append_right _ h)) (by decide +kernel))
set_option maxRecDepth 20000 in
theorem gL_ofFile_X6_ofFile : GoodIn wsL_ofFile (wsV RL 71 RX6 yX6_ofFile wsX6_ofFile) := goodIn_app (goodIn_of _ (by decide +kernel)) ggL_ofFile_X6_ofFile
set_option maxRecDepth 20000 in
theorem ggL_ofPlace_X6_ofPlace : GoodIn wsL_ofPlace wsX6_ofPlace := goodIn_ca (goodIn_ca (goodIn_r _ [7, 8, 9, 10, 11, 6, 12, 13, 14, 15, 16, 17, 18, 19, 20, 21, 22, 23, 24, 25, 26, 27, 28, 29, 30, 31, 32, 33, 34, 35, 36, 37, 38, 39, 40, 41, 42, 43, 44, 45, 46, 47, 48, 49, 50, 51, 52, 53, 54, 55, 56, 57, 58, 59, 60] (by decide +kernel) (by decide +kernel)) (goodIn_sub (fun _ h => List.mem_cons_of_mem _ (List.mem_append_left _ (List.mem_append_right _ h))) (by decide +kernel))) (goodIn_sub (fun _ h => List.mem_cons_of_mem _ (List.mem_append_right _ h)) (by decide +kernel))
set_option maxRecDepth 20000 in
theorem gL_ofPlace_X6_ofPlace : GoodIn wsL_ofPlace (wsV RL 74 RX6 yX6_ofPlace wsX6_ofPlace) := goodIn_app (goodIn_of _ (by decide +kernel)) ggL_ofPlace_X6_ofPlace
set_option maxRecDepth 20000 in
theorem ggL_many_X6_many : GoodIn wsL_many wsX6_many := goodIn_ca (goodIn_r _ [6, 7, 8, 9, 10, 11, 5, 12, 13, 14, 15, 16, 17, 18, 19, 20, 21, 22, 23, 24, 25, 26, 27, 28, 29, 30, 31, 32, 33, 34, 35, 36, 37, 38, 39, 40, 41, 42, 43, 44, 45, 46, 47, 48, 49, 50, 51, 52, 53, 54, 55, 56] (by decide +kernel) (by decide +kernel)) (goodIn_sub (fun _ h => List.mem_cons_of_mem _ (List.mem_append_right _ h)) (by decide +kernel))
set_option maxRecDepth 20000 in
theorem gL_many_X6_many : GoodIn wsL_many (wsV RL 77 RX6 yX6_many wsX6_many) := goodIn_app (goodIn_of _ (by decide +kernel)) ggL_many_X6_many
set_option maxRecDepth 20000 in
theorem ggL_bestTake_X6_bestTake : GoodIn wsL_bestTake wsX6_bestTake := goodIn_ca (goodIn_r _ [6, 7, 8, 9, 10, 11, 5, 12, 13, 14, 15, 16, 17, 18, 19, 20, 21, 22, 23, 24, 25, 26, 27, 28, 29, 30, 31, 32, 33, 34, 35, 36, 37, 38, 39, 40, 41, 42, 43, 44, 45, 46, 47, 48, 49, 50, 51, 52, 53, 54, 55, 56, 57, 58, 59, 60, 61, 62, 63, 64, 65, 66, 67, 68, 69, 70, 71, 72, 73, 74, 75, 76, 77, 78, 79] (by decide +kernel) (by decide +kernel)) (goodIn_sub (fun _ h => List.mem_cons_of_mem _ (List.mem_append_right _ h)) (by decide +kernel))
set_option maxRecDepth 20000 in
theorem gL_bestTake_X6_bestTake : GoodIn wsL_bestTake (wsV RL 86 RX6 yX6_bestTake wsX6_bestTake) := goodIn_app (goodIn_of _ (by decide +kernel)) ggL_bestTake_X6_bestTake
/-! THE LAW'S OWN STATICS -/
abbrev xN : String → State → State → Prop := vx_X (fun _ : Unit => False) (fun _ _ _ => False) (fun _ => False)
def OutL (G : iG) (C u : Nat → va_E) (o lo : Nat) (v : Int64) : Prop := (∃ f : Nat → Int64, u lo = la G 1 f ∧ f 0 = v) ∧ ∀ j, (j < o ∨ o + 74 ≤ j) → j ≠ lo → u j = C j
section IWL
variable {p : Program} {l : Launch} {e : Env} {R : Room} {s : State} {m : MethodId} {args : Array Value} {below : List Frame} {meth : Method} {c : Code} {H : Heap} {locs : List Loc} {cells slots : Nat} {Q : State → Prop}
variable {pc : Nat} {ls : Array Slot} {rest st0 : List Value} {a : Array Value} {A : Nat → Prop} {H0 : Heap} {G : iG} {N : Nat} {ad : Nat → Nat} {C : Nat → va_E}
theorem iw_last {cc : ByteArray} (hexec : p.tables.exec = Jvm.exec) (hb : c.code = cc) (hK : KB G s) (hP : va_P G.1 vwB (wl N ad C) H) (hD : va_D A (wl N ad C)) (hS : va_S A H0 H locs) {j n : Nat} {f : Nat → Int64} (hj : j < N) (hc : C j = la G n f) {i : Int32} {x : Int64} {k : Nat} (hin : vp_in i n) (hk : i.toNatClampNeg = k) (hdg : decode cc pc = .ok (.lastore, 1))
    (kk : ∀ (H1 : Heap) (locs1 : List Loc), va_P G.1 vwB (wl N ad (va_up C j (la G n (vp_updL f k x)))) H1 → va_D A (wl N ad (va_up C j (la G n (vp_updL f k x)))) → va_S A H0 H1 locs1 → W p l e R s m args below meth c H1 locs1 cells slots Q (F0 m (pc + 1) ls rest)) : W p l e R s m args below meth c H locs cells slots Q (F0 m pc ls (.long x :: .int i :: .ref (ad j) :: rest)) := by
  subst hk
  exact va_last hexec hb hK.1 hP hD hS j 6 (wl_get hj hc) rfl hin hdg (fun H1 locs1 h1 h2 h3 => kk H1 locs1 (by rw [← wl_set hj]; exact h1) (by rw [← wl_set hj]; exact h2) h3)
theorem iw_lald {cc : ByteArray} (hexec : p.tables.exec = Jvm.exec) (hb : c.code = cc) (hK : KB G s) (hP : va_P G.1 vwB (wl N ad C) H) {j n : Nat} {f : Nat → Int64} (hj : j < N) (hc : C j = la G n f) {i : Int32} {v : Int64} (hin : vp_in i n) (hv : f i.toNatClampNeg = v) (hdg : decode cc pc = .ok (.laload, 1))
    (kk : W p l e R s m args below meth c H locs cells slots Q (F0 m (pc + 1) ls (.long v :: rest))) : W p l e R s m args below meth c H locs cells slots Q (F0 m pc ls (.int i :: .ref (ad j) :: rest)) := by
  subst hv
  exact va_lald hexec hb hK.1 hP j 6 (wl_get hj hc) rfl hin hdg kk
theorem lv_lcmpE {cc : ByteArray} (hexec : p.tables.exec = Jvm.exec) (hb : c.code = cc) {x : Int64} (hdg : decode cc pc = .ok (.lcmp, 1))
    (k : W p l e R s m args below meth c H locs cells slots Q (F0 m (pc + 1) ls (.int 0 :: rest))) : W p l e R s m args below meth c H locs cells slots Q (F0 m pc ls (.long x :: .long x :: rest)) := by
  intro T hT X
  obtain ⟨t, a, b⟩ := k T hT X
  refine ⟨t, ?_, b⟩
  have hdg : decode c.code pc = .ok (.lcmp, 1) := by rw [hb]; exact hdg
  exact X.lcmpEq hexec hdg _ a
/-- the start of a static of the law -/
theorem iPSX {B : Nat → Prop} (hK : KB G s) (hV : VX s) (hZ : ZT B s s.heap) (hS : va_S B s.heap H locs) (hB : ∀ q, s.heap.size ≤ q → B q) (hP : va_P G.1 vwB (wl N ad C) H) (hD : va_D A (wl N ad C)) (As : List Value) : PreS s H (iPreX G N ad C H.size As) As := ⟨iblindX, fun U hU hW => ⟨rfl, ⟨⟨by rw [hU], by rw [hU]; exact hP, KB_warm hW hK, hD.weaken (fun _ _ _ _ => trivial)⟩, VX_warm hW hV⟩, by rw [hU]; exact hZ.fit hW (fun a h1 h2 => hS.2.1 a h1 h2) (fun q h => hB q (Nat.le_trans hS.1 h))⟩⟩
end IWL
abbrev rL_paint_x : Room := { frames := 8, cells := 1, slots := 6, locals := 139 }
set_option maxRecDepth 20000 in
theorem il_L_paint_cl13 : (Cond.classLink RL 13 "java/lang/IndexOutOfBoundsException") ∈ wsL_paint := by decide +kernel
set_option maxHeartbeats 4000000 in
set_option maxRecDepth 100000 in
theorem wL_paint_1 (l : Launch) (hst : l.stackTraces = false) (G : iG) (N : Nat) (ad : Nat → Nat) (C : Nat → va_E) (o : Nat) (S : St) (hcam : Cam G N ad C o S) (lo : Nat) (x y tx ty co : Int32) (h : isPl x y = false) (sz : Nat) : vx_Met l yL_paint wsL_paint rL_paint_x (iPreX G N ad C sz [.ref (ad o), .int x, .int y, .int tx, .int ty, .int co, .ref (ad lo)]) (va_Qi (fun (r : Int32) (u : Nat → va_E) => r = nI 1 ∧ u = C) (iB G N ad) (iA N ad sz)) xN 1 6 (iA N ad sz) := by
  refine vx_ofWH (cc := cL_paint) (maxL := 8) (ret := (some .int)) (hh := [(0, 16, 19, 13), (0, 16, 23, 15)]) (by decide) rfl ?_
  intro p e s m args below meth c s₁ B hml hv
  obtain ⟨rfl, ⟨⟨hsz, hP, hK, hD⟩, hV⟩, hZ⟩ := hv
  have hx := B.exec
  have hb := B.bytes
  have hr := B.returns
  have hts := atoms_spec (ws := wsL_paint) B.pre
  have htab : c.exceptionTable.toList = [⟨0, 16, 19, 13⟩, ⟨0, 16, 23, 15⟩] := vx_table (x := yL_paint) B (hts (.codeWith yL_paint cL_paint 8 (some .int) [(0, 16, 19, 13), (0, 16, 23, 15)]) List.mem_cons_self)
  have hown : s.vm.findClass RL = some m.cls := findClass_of_methodNamed B.named
  have hlocks := B.notSynchronized
  subst hsz
  have hD := wl_self hD s.heap.size
  have hA : ∀ q : Nat, s.heap.size ≤ q → iA N ad s.heap.size q := fun q h => Or.inr h
  have hS : va_S (iA N ad s.heap.size) s.heap s.heap [] := va_S.rf
  have hP : va_P G.1 vwB (wl N ad C) s.heap := hP
  refine vx_ret ?_
  have hl := lv_entry ([.ref (ad o), .int x, .int y, .int tx, .int ty, .int co, .ref (ad lo)]) (n := 8) (Nat.le_of_ble_eq_true rfl)
  rw [lg_entry_eq]
  generalize (lg_sl ([.ref (ad o), .int x, .int y, .int tx, .int ty, .int co, .ref (ad lo)]) ++ List.replicate (8 - (lg_sl ([.ref (ad o), .int x, .int y, .int tx, .int ty, .int co, .ref (ad lo)])).length) Slot.unset).toArray = ls at hl ⊢
  have hl : lv_has ls 8 [(0, .ref (ad o)), (1, .int x), (2, .int y), (3, .int tx), (4, .int ty), (5, .int co), (6, .ref (ad lo))] := hl
  obtain ⟨hN, ⟨ok1, ok2, ok3, ok4, ok5, ok6, ok7, ok8, ok9⟩, h0, ⟨s1, s2, s3⟩, ⟨e1, e2, e3⟩, h7, h8, ⟨TF, tr1, tr2, tr3, tr4, tr5⟩, ⟨TD, dv1, dv2, dv3⟩, ⟨TC, cv1, cv2, cv3⟩, hfr, hfi⟩ := id hcam
  refine lv_aload hx hb dL_paint_0 (lv_at hl 6 rfl) ?_
  refine lv_iconst (v := nI 0) hx hb dL_paint_2 (by decide) ?_
  refine lv_aload_n hx hb dL_paint_3 rfl (lv_at hl 0 rfl) ?_
  refine lv_iload_n hx hb dL_paint_4 rfl (lv_at hl 1 rfl) ?_
  refine lv_iload_n hx hb dL_paint_5 rfl (lv_at hl 2 rfl) ?_
  refine lv_iload_n hx hb dL_paint_6 rfl (lv_at hl 3 rfl) ?_
  refine lv_iload hx hb dL_paint_7 (lv_at hl 4 rfl) ?_
  refine lv_iload hx hb dL_paint_9 (lv_at hl 5 rfl) ?_
  refine vx_calli (vx_runV (As := [.int x, .int y, .int tx, .int ty, .int co]) (rest := [.int (nI 0), .ref (ad lo)]) ⟨hx, hb, hml, hown, hts⟩ (xX6_paint_1 l hst G N ad _ o S hcam x y tx ty co h _) (cwV 5 hts gL_paint_X6_paint rfl rfl rfl (by decide +kernel) ⟨Nat.le_of_ble_eq_true rfl, Nat.le_of_ble_eq_true rfl⟩) (xPV hK hV hZ (va_S.rf (A := fun q : Nat => s.heap.size ≤ q) (H0 := s.heap)) (fun q h => h) hP hD (by omega) (h0) rfl [.int x, .int y, .int tx, .int ty, .int co]) rfl rfl hl.1 rfl (lv_room (Nat.le_of_ble_eq_true rfl)) dL_paint_11 ⟨Nat.le_of_ble_eq_true rfl, Nat.le_of_ble_eq_true rfl⟩) hS (fun q h1 h2 => absurd h1 (Nat.not_lt.mpr h2)) (fun q h => hA q (Nat.le_trans hS.1 h)) (fun q h1 h2 => absurd h1 (Nat.not_lt.mpr h2)) (fun E ce q9 u t H1 locs1 ht hvm hpx hBX hz1 hk1 hS hcell hv9 hcl => ?_) (fun r u t H1 locs1 ht hvm hw => hw.elim)
  have hBX : E = _ := hBX
  subst hBX
  have hP := hP.kept (fun k q hq => hk1 _ ((hP k q hq).lt) (Nat.not_le.mpr ((hP k q hq).lt)))
  refine vx_catch (own := RL) (name := "java/lang/IndexOutOfBoundsException") hown ([] : List ExceptionTableEntry) ⟨0, 16, 19, 13⟩ [⟨0, 16, 23, 15⟩] htab (fun z hz => absurd hz List.not_mem_nil) (by decide) (by decide) (hts _ il_L_paint_cl13) (va_Nw.use rfl (vx_cIO hV)) hcell hv9 hcl ?_
  refine W.eq (g2 := F0 m 19 ls [.ref q9]) rfl ?_
  refine lv_astore (lv' := [(7, .ref q9), (0, .ref (ad o)), (1, .int x), (2, .int y), (3, .int tx), (4, .int ty), (5, .int co), (6, .ref (ad lo))]) hx hb dL_paint_19 hl (by decide) rfl (fun ls hl => ?_)
  refine lv_iconst (v := nI 1) hx hb dL_paint_21 (by decide) ?_
  exact W.iret (v := nI 1) hx hb hr (fun t ht hW => ⟨⟨_, C, rfl, ⟨rfl, rfl⟩, iB_of ht hP⟩, hS.F ht⟩) hS.2.2 dL_paint_22
set_option maxHeartbeats 4000000 in
set_option maxRecDepth 100000 in
theorem wL_paint_2 (l : Launch) (hst : l.stackTraces = false) (G : iG) (N : Nat) (ad : Nat → Nat) (C : Nat → va_E) (o : Nat) (S : St) (hcam : Cam G N ad C o S) (lo : Nat) (x y : Nat) (hx8 : x < 8) (hy8 : y < 8) (tx ty co : Int32) (h : isPl tx ty = false) (sz : Nat) : vx_Met l yL_paint wsL_paint rL_paint_x (iPreX G N ad C sz [.ref (ad o), .int (nI x), .int (nI y), .int tx, .int ty, .int co, .ref (ad lo)]) (va_Qi (fun (r : Int32) (u : Nat → va_E) => r = nI 1 ∧ u = C) (iB G N ad) (iA N ad sz)) xN 1 6 (iA N ad sz) := by
  refine vx_ofWH (cc := cL_paint) (maxL := 8) (ret := (some .int)) (hh := [(0, 16, 19, 13), (0, 16, 23, 15)]) (by decide) rfl ?_
  intro p e s m args below meth c s₁ B hml hv
  obtain ⟨rfl, ⟨⟨hsz, hP, hK, hD⟩, hV⟩, hZ⟩ := hv
  have hx := B.exec
  have hb := B.bytes
  have hr := B.returns
  have hts := atoms_spec (ws := wsL_paint) B.pre
  have htab : c.exceptionTable.toList = [⟨0, 16, 19, 13⟩, ⟨0, 16, 23, 15⟩] := vx_table (x := yL_paint) B (hts (.codeWith yL_paint cL_paint 8 (some .int) [(0, 16, 19, 13), (0, 16, 23, 15)]) List.mem_cons_self)
  have hown : s.vm.findClass RL = some m.cls := findClass_of_methodNamed B.named
  have hlocks := B.notSynchronized
  subst hsz
  have hD := wl_self hD s.heap.size
  have hA : ∀ q : Nat, s.heap.size ≤ q → iA N ad s.heap.size q := fun q h => Or.inr h
  have hS : va_S (iA N ad s.heap.size) s.heap s.heap [] := va_S.rf
  have hP : va_P G.1 vwB (wl N ad C) s.heap := hP
  refine vx_ret ?_
  have hl := lv_entry ([.ref (ad o), .int (nI x), .int (nI y), .int tx, .int ty, .int co, .ref (ad lo)]) (n := 8) (Nat.le_of_ble_eq_true rfl)
  rw [lg_entry_eq]
  generalize (lg_sl ([.ref (ad o), .int (nI x), .int (nI y), .int tx, .int ty, .int co, .ref (ad lo)]) ++ List.replicate (8 - (lg_sl ([.ref (ad o), .int (nI x), .int (nI y), .int tx, .int ty, .int co, .ref (ad lo)])).length) Slot.unset).toArray = ls at hl ⊢
  have hl : lv_has ls 8 [(0, .ref (ad o)), (1, .int (nI x)), (2, .int (nI y)), (3, .int tx), (4, .int ty), (5, .int co), (6, .ref (ad lo))] := hl
  obtain ⟨hN, ⟨ok1, ok2, ok3, ok4, ok5, ok6, ok7, ok8, ok9⟩, h0, ⟨s1, s2, s3⟩, ⟨e1, e2, e3⟩, h7, h8, ⟨TF, tr1, tr2, tr3, tr4, tr5⟩, ⟨TD, dv1, dv2, dv3⟩, ⟨TC, cv1, cv2, cv3⟩, hfr, hfi⟩ := id hcam
  refine lv_aload hx hb dL_paint_0 (lv_at hl 6 rfl) ?_
  refine lv_iconst (v := nI 0) hx hb dL_paint_2 (by decide) ?_
  refine lv_aload_n hx hb dL_paint_3 rfl (lv_at hl 0 rfl) ?_
  refine lv_iload_n hx hb dL_paint_4 rfl (lv_at hl 1 rfl) ?_
  refine lv_iload_n hx hb dL_paint_5 rfl (lv_at hl 2 rfl) ?_
  refine lv_iload_n hx hb dL_paint_6 rfl (lv_at hl 3 rfl) ?_
  refine lv_iload hx hb dL_paint_7 (lv_at hl 4 rfl) ?_
  refine lv_iload hx hb dL_paint_9 (lv_at hl 5 rfl) ?_
  refine vx_calli (vx_runV (As := [.int (nI x), .int (nI y), .int tx, .int ty, .int co]) (rest := [.int (nI 0), .ref (ad lo)]) ⟨hx, hb, hml, hown, hts⟩ (xX6_paint_2 l hst G N ad _ o S hcam x y hx8 hy8 tx ty co h _) (cwV 5 hts gL_paint_X6_paint rfl rfl rfl (by decide +kernel) ⟨Nat.le_of_ble_eq_true rfl, Nat.le_of_ble_eq_true rfl⟩) (xPV hK hV hZ (va_S.rf (A := fun q : Nat => s.heap.size ≤ q) (H0 := s.heap)) (fun q h => h) hP hD (by omega) (h0) rfl [.int (nI x), .int (nI y), .int tx, .int ty, .int co]) rfl rfl hl.1 rfl (lv_room (Nat.le_of_ble_eq_true rfl)) dL_paint_11 ⟨Nat.le_of_ble_eq_true rfl, Nat.le_of_ble_eq_true rfl⟩) hS (fun q h1 h2 => absurd h1 (Nat.not_lt.mpr h2)) (fun q h => hA q (Nat.le_trans hS.1 h)) (fun q h1 h2 => absurd h1 (Nat.not_lt.mpr h2)) (fun E ce q9 u t H1 locs1 ht hvm hpx hBX hz1 hk1 hS hcell hv9 hcl => ?_) (fun r u t H1 locs1 ht hvm hw => hw.elim)
  have hBX : E = _ := hBX
  subst hBX
  have hP := hP.kept (fun k q hq => hk1 _ ((hP k q hq).lt) (Nat.not_le.mpr ((hP k q hq).lt)))
  refine vx_catch (own := RL) (name := "java/lang/IndexOutOfBoundsException") hown ([] : List ExceptionTableEntry) ⟨0, 16, 19, 13⟩ [⟨0, 16, 23, 15⟩] htab (fun z hz => absurd hz List.not_mem_nil) (by decide) (by decide) (hts _ il_L_paint_cl13) (va_Nw.use rfl (vx_cIO hV)) hcell hv9 hcl ?_
  refine W.eq (g2 := F0 m 19 ls [.ref q9]) rfl ?_
  refine lv_astore (lv' := [(7, .ref q9), (0, .ref (ad o)), (1, .int (nI x)), (2, .int (nI y)), (3, .int tx), (4, .int ty), (5, .int co), (6, .ref (ad lo))]) hx hb dL_paint_19 hl (by decide) rfl (fun ls hl => ?_)
  refine lv_iconst (v := nI 1) hx hb dL_paint_21 (by decide) ?_
  exact W.iret (v := nI 1) hx hb hr (fun t ht hW => ⟨⟨_, C, rfl, ⟨rfl, rfl⟩, iB_of ht hP⟩, hS.F ht⟩) hS.2.2 dL_paint_22
set_option maxRecDepth 20000 in
theorem il_L_paint_cl15 : (Cond.classLink RL 15 "java/lang/IllegalArgumentException") ∈ wsL_paint := by decide +kernel
set_option maxHeartbeats 4000000 in
set_option maxRecDepth 100000 in
theorem wL_paint_3 (l : Launch) (hst : l.stackTraces = false) (G : iG) (N : Nat) (ad : Nat → Nat) (C : Nat → va_E) (o : Nat) (S : St) (hcam : Cam G N ad C o S) (lo : Nat) (x y tx ty : Nat) (hx8 : x < 8) (hy8 : y < 8) (htx : tx < 8) (hty : ty < 8) (co : Int32) (h : tx < x) (sz : Nat) : vx_Met l yL_paint wsL_paint rL_paint_x (iPreX G N ad C sz [.ref (ad o), .int (nI x), .int (nI y), .int (nI tx), .int (nI ty), .int co, .ref (ad lo)]) (va_Qi (fun (r : Int32) (u : Nat → va_E) => r = nI 2 ∧ u = C) (iB G N ad) (iA N ad sz)) xN 1 6 (iA N ad sz) := by
  refine vx_ofWH (cc := cL_paint) (maxL := 8) (ret := (some .int)) (hh := [(0, 16, 19, 13), (0, 16, 23, 15)]) (by decide) rfl ?_
  intro p e s m args below meth c s₁ B hml hv
  obtain ⟨rfl, ⟨⟨hsz, hP, hK, hD⟩, hV⟩, hZ⟩ := hv
  have hx := B.exec
  have hb := B.bytes
  have hr := B.returns
  have hts := atoms_spec (ws := wsL_paint) B.pre
  have htab : c.exceptionTable.toList = [⟨0, 16, 19, 13⟩, ⟨0, 16, 23, 15⟩] := vx_table (x := yL_paint) B (hts (.codeWith yL_paint cL_paint 8 (some .int) [(0, 16, 19, 13), (0, 16, 23, 15)]) List.mem_cons_self)
  have hown : s.vm.findClass RL = some m.cls := findClass_of_methodNamed B.named
  have hlocks := B.notSynchronized
  subst hsz
  have hD := wl_self hD s.heap.size
  have hA : ∀ q : Nat, s.heap.size ≤ q → iA N ad s.heap.size q := fun q h => Or.inr h
  have hS : va_S (iA N ad s.heap.size) s.heap s.heap [] := va_S.rf
  have hP : va_P G.1 vwB (wl N ad C) s.heap := hP
  refine vx_ret ?_
  have hl := lv_entry ([.ref (ad o), .int (nI x), .int (nI y), .int (nI tx), .int (nI ty), .int co, .ref (ad lo)]) (n := 8) (Nat.le_of_ble_eq_true rfl)
  rw [lg_entry_eq]
  generalize (lg_sl ([.ref (ad o), .int (nI x), .int (nI y), .int (nI tx), .int (nI ty), .int co, .ref (ad lo)]) ++ List.replicate (8 - (lg_sl ([.ref (ad o), .int (nI x), .int (nI y), .int (nI tx), .int (nI ty), .int co, .ref (ad lo)])).length) Slot.unset).toArray = ls at hl ⊢
  have hl : lv_has ls 8 [(0, .ref (ad o)), (1, .int (nI x)), (2, .int (nI y)), (3, .int (nI tx)), (4, .int (nI ty)), (5, .int co), (6, .ref (ad lo))] := hl
  obtain ⟨hN, ⟨ok1, ok2, ok3, ok4, ok5, ok6, ok7, ok8, ok9⟩, h0, ⟨s1, s2, s3⟩, ⟨e1, e2, e3⟩, h7, h8, ⟨TF, tr1, tr2, tr3, tr4, tr5⟩, ⟨TD, dv1, dv2, dv3⟩, ⟨TC, cv1, cv2, cv3⟩, hfr, hfi⟩ := id hcam
  refine lv_aload hx hb dL_paint_0 (lv_at hl 6 rfl) ?_
  refine lv_iconst (v := nI 0) hx hb dL_paint_2 (by decide) ?_
  refine lv_aload_n hx hb dL_paint_3 rfl (lv_at hl 0 rfl) ?_
  refine lv_iload_n hx hb dL_paint_4 rfl (lv_at hl 1 rfl) ?_
  refine lv_iload_n hx hb dL_paint_5 rfl (lv_at hl 2 rfl) ?_
  refine lv_iload_n hx hb dL_paint_6 rfl (lv_at hl 3 rfl) ?_
  refine lv_iload hx hb dL_paint_7 (lv_at hl 4 rfl) ?_
  refine lv_iload hx hb dL_paint_9 (lv_at hl 5 rfl) ?_
  refine vx_calli (vx_runV (As := [.int (nI x), .int (nI y), .int (nI tx), .int (nI ty), .int co]) (rest := [.int (nI 0), .ref (ad lo)]) ⟨hx, hb, hml, hown, hts⟩ (xX6_paint_3 l hst G N ad _ o S hcam x y tx ty hx8 hy8 htx hty co h _) (cwV 5 hts gL_paint_X6_paint rfl rfl rfl (by decide +kernel) ⟨Nat.le_of_ble_eq_true rfl, Nat.le_of_ble_eq_true rfl⟩) (xPV hK hV hZ (va_S.rf (A := fun q : Nat => s.heap.size ≤ q) (H0 := s.heap)) (fun q h => h) hP hD (by omega) (h0) rfl [.int (nI x), .int (nI y), .int (nI tx), .int (nI ty), .int co]) rfl rfl hl.1 rfl (lv_room (Nat.le_of_ble_eq_true rfl)) dL_paint_11 ⟨Nat.le_of_ble_eq_true rfl, Nat.le_of_ble_eq_true rfl⟩) hS (fun q h1 h2 => absurd h1 (Nat.not_lt.mpr h2)) (fun q h => hA q (Nat.le_trans hS.1 h)) (fun q h1 h2 => absurd h1 (Nat.not_lt.mpr h2)) (fun E ce q9 u t H1 locs1 ht hvm hpx hBX hz1 hk1 hS hcell hv9 hcl => ?_) (fun r u t H1 locs1 ht hvm hw => hw.elim)
  have hBX : E = _ := hBX
  subst hBX
  have hP := hP.kept (fun k q hq => hk1 _ ((hP k q hq).lt) (Nat.not_le.mpr ((hP k q hq).lt)))
  refine vx_catch (own := RL) (name := "java/lang/IllegalArgumentException") hown ([⟨0, 16, 19, 13⟩] : List ExceptionTableEntry) ⟨0, 16, 23, 15⟩ [] htab (fun z hz => by rcases List.mem_singleton.mp hz with rfl; exact Or.inr ⟨by decide, _, hts _ il_L_paint_cl13, vx_nAO hV⟩) (by decide) (by decide) (hts _ il_L_paint_cl15) (va_Nw.use rfl (vx_cIA hV)) hcell hv9 hcl ?_
  refine W.eq (g2 := F0 m 23 ls [.ref q9]) rfl ?_
  refine lv_astore (lv' := [(7, .ref q9), (0, .ref (ad o)), (1, .int (nI x)), (2, .int (nI y)), (3, .int (nI tx)), (4, .int (nI ty)), (5, .int co), (6, .ref (ad lo))]) hx hb dL_paint_23 hl (by decide) rfl (fun ls hl => ?_)
  refine lv_iconst (v := nI 2) hx hb dL_paint_25 (by decide) ?_
  exact W.iret (v := nI 2) hx hb hr (fun t ht hW => ⟨⟨_, C, rfl, ⟨rfl, rfl⟩, iB_of ht hP⟩, hS.F ht⟩) hS.2.2 dL_paint_26
set_option maxHeartbeats 4000000 in
set_option maxRecDepth 100000 in
theorem wL_paint_4 (l : Launch) (hst : l.stackTraces = false) (G : iG) (N : Nat) (ad : Nat → Nat) (C : Nat → va_E) (o : Nat) (S : St) (hcam : Cam G N ad C o S) (lo : Nat) (x y tx ty : Nat) (hx8 : x < 8) (hy8 : y < 8) (htx : tx < 8) (hty : ty < 8) (co : Int32) (h1 : x ≤ tx) (h : ty < y) (sz : Nat) : vx_Met l yL_paint wsL_paint rL_paint_x (iPreX G N ad C sz [.ref (ad o), .int (nI x), .int (nI y), .int (nI tx), .int (nI ty), .int co, .ref (ad lo)]) (va_Qi (fun (r : Int32) (u : Nat → va_E) => r = nI 2 ∧ u = C) (iB G N ad) (iA N ad sz)) xN 1 6 (iA N ad sz) := by
  refine vx_ofWH (cc := cL_paint) (maxL := 8) (ret := (some .int)) (hh := [(0, 16, 19, 13), (0, 16, 23, 15)]) (by decide) rfl ?_
  intro p e s m args below meth c s₁ B hml hv
  obtain ⟨rfl, ⟨⟨hsz, hP, hK, hD⟩, hV⟩, hZ⟩ := hv
  have hx := B.exec
  have hb := B.bytes
  have hr := B.returns
  have hts := atoms_spec (ws := wsL_paint) B.pre
  have htab : c.exceptionTable.toList = [⟨0, 16, 19, 13⟩, ⟨0, 16, 23, 15⟩] := vx_table (x := yL_paint) B (hts (.codeWith yL_paint cL_paint 8 (some .int) [(0, 16, 19, 13), (0, 16, 23, 15)]) List.mem_cons_self)
  have hown : s.vm.findClass RL = some m.cls := findClass_of_methodNamed B.named
  have hlocks := B.notSynchronized
  subst hsz
  have hD := wl_self hD s.heap.size
  have hA : ∀ q : Nat, s.heap.size ≤ q → iA N ad s.heap.size q := fun q h => Or.inr h
  have hS : va_S (iA N ad s.heap.size) s.heap s.heap [] := va_S.rf
  have hP : va_P G.1 vwB (wl N ad C) s.heap := hP
  refine vx_ret ?_
  have hl := lv_entry ([.ref (ad o), .int (nI x), .int (nI y), .int (nI tx), .int (nI ty), .int co, .ref (ad lo)]) (n := 8) (Nat.le_of_ble_eq_true rfl)
  rw [lg_entry_eq]
  generalize (lg_sl ([.ref (ad o), .int (nI x), .int (nI y), .int (nI tx), .int (nI ty), .int co, .ref (ad lo)]) ++ List.replicate (8 - (lg_sl ([.ref (ad o), .int (nI x), .int (nI y), .int (nI tx), .int (nI ty), .int co, .ref (ad lo)])).length) Slot.unset).toArray = ls at hl ⊢
  have hl : lv_has ls 8 [(0, .ref (ad o)), (1, .int (nI x)), (2, .int (nI y)), (3, .int (nI tx)), (4, .int (nI ty)), (5, .int co), (6, .ref (ad lo))] := hl
  obtain ⟨hN, ⟨ok1, ok2, ok3, ok4, ok5, ok6, ok7, ok8, ok9⟩, h0, ⟨s1, s2, s3⟩, ⟨e1, e2, e3⟩, h7, h8, ⟨TF, tr1, tr2, tr3, tr4, tr5⟩, ⟨TD, dv1, dv2, dv3⟩, ⟨TC, cv1, cv2, cv3⟩, hfr, hfi⟩ := id hcam
  refine lv_aload hx hb dL_paint_0 (lv_at hl 6 rfl) ?_
  refine lv_iconst (v := nI 0) hx hb dL_paint_2 (by decide) ?_
  refine lv_aload_n hx hb dL_paint_3 rfl (lv_at hl 0 rfl) ?_
  refine lv_iload_n hx hb dL_paint_4 rfl (lv_at hl 1 rfl) ?_
  refine lv_iload_n hx hb dL_paint_5 rfl (lv_at hl 2 rfl) ?_
  refine lv_iload_n hx hb dL_paint_6 rfl (lv_at hl 3 rfl) ?_
  refine lv_iload hx hb dL_paint_7 (lv_at hl 4 rfl) ?_
  refine lv_iload hx hb dL_paint_9 (lv_at hl 5 rfl) ?_
  refine vx_calli (vx_runV (As := [.int (nI x), .int (nI y), .int (nI tx), .int (nI ty), .int co]) (rest := [.int (nI 0), .ref (ad lo)]) ⟨hx, hb, hml, hown, hts⟩ (xX6_paint_4 l hst G N ad _ o S hcam x y tx ty hx8 hy8 htx hty co h1 h _) (cwV 5 hts gL_paint_X6_paint rfl rfl rfl (by decide +kernel) ⟨Nat.le_of_ble_eq_true rfl, Nat.le_of_ble_eq_true rfl⟩) (xPV hK hV hZ (va_S.rf (A := fun q : Nat => s.heap.size ≤ q) (H0 := s.heap)) (fun q h => h) hP hD (by omega) (h0) rfl [.int (nI x), .int (nI y), .int (nI tx), .int (nI ty), .int co]) rfl rfl hl.1 rfl (lv_room (Nat.le_of_ble_eq_true rfl)) dL_paint_11 ⟨Nat.le_of_ble_eq_true rfl, Nat.le_of_ble_eq_true rfl⟩) hS (fun q h1 h2 => absurd h1 (Nat.not_lt.mpr h2)) (fun q h => hA q (Nat.le_trans hS.1 h)) (fun q h1 h2 => absurd h1 (Nat.not_lt.mpr h2)) (fun E ce q9 u t H1 locs1 ht hvm hpx hBX hz1 hk1 hS hcell hv9 hcl => ?_) (fun r u t H1 locs1 ht hvm hw => hw.elim)
  have hBX : E = _ := hBX
  subst hBX
  have hP := hP.kept (fun k q hq => hk1 _ ((hP k q hq).lt) (Nat.not_le.mpr ((hP k q hq).lt)))
  refine vx_catch (own := RL) (name := "java/lang/IllegalArgumentException") hown ([⟨0, 16, 19, 13⟩] : List ExceptionTableEntry) ⟨0, 16, 23, 15⟩ [] htab (fun z hz => by rcases List.mem_singleton.mp hz with rfl; exact Or.inr ⟨by decide, _, hts _ il_L_paint_cl13, vx_nAO hV⟩) (by decide) (by decide) (hts _ il_L_paint_cl15) (va_Nw.use rfl (vx_cIA hV)) hcell hv9 hcl ?_
  refine W.eq (g2 := F0 m 23 ls [.ref q9]) rfl ?_
  refine lv_astore (lv' := [(7, .ref q9), (0, .ref (ad o)), (1, .int (nI x)), (2, .int (nI y)), (3, .int (nI tx)), (4, .int (nI ty)), (5, .int co), (6, .ref (ad lo))]) hx hb dL_paint_23 hl (by decide) rfl (fun ls hl => ?_)
  refine lv_iconst (v := nI 2) hx hb dL_paint_25 (by decide) ?_
  exact W.iret (v := nI 2) hx hb hr (fun t ht hW => ⟨⟨_, C, rfl, ⟨rfl, rfl⟩, iB_of ht hP⟩, hS.F ht⟩) hS.2.2 dL_paint_26
set_option maxHeartbeats 4000000 in
set_option maxRecDepth 100000 in
theorem wL_paint_5 (l : Launch) (hst : l.stackTraces = false) (G : iG) (N : Nat) (ad : Nat → Nat) (C : Nat → va_E) (o : Nat) (S : St) (hcam : Cam G N ad C o S) (lo : Nat) (x y tx ty : Nat) (hx8 : x < 8) (hy8 : y < 8) (htx : tx < 8) (hty : ty < 8) (co : Int32) (h1 : x ≤ tx) (h2 : y ≤ ty) (h : co < nI 0 ∨ nI 16777215 < co) (sz : Nat) : vx_Met l yL_paint wsL_paint rL_paint_x (iPreX G N ad C sz [.ref (ad o), .int (nI x), .int (nI y), .int (nI tx), .int (nI ty), .int co, .ref (ad lo)]) (va_Qi (fun (r : Int32) (u : Nat → va_E) => r = nI 2 ∧ u = C) (iB G N ad) (iA N ad sz)) xN 1 6 (iA N ad sz) := by
  refine vx_ofWH (cc := cL_paint) (maxL := 8) (ret := (some .int)) (hh := [(0, 16, 19, 13), (0, 16, 23, 15)]) (by decide) rfl ?_
  intro p e s m args below meth c s₁ B hml hv
  obtain ⟨rfl, ⟨⟨hsz, hP, hK, hD⟩, hV⟩, hZ⟩ := hv
  have hx := B.exec
  have hb := B.bytes
  have hr := B.returns
  have hts := atoms_spec (ws := wsL_paint) B.pre
  have htab : c.exceptionTable.toList = [⟨0, 16, 19, 13⟩, ⟨0, 16, 23, 15⟩] := vx_table (x := yL_paint) B (hts (.codeWith yL_paint cL_paint 8 (some .int) [(0, 16, 19, 13), (0, 16, 23, 15)]) List.mem_cons_self)
  have hown : s.vm.findClass RL = some m.cls := findClass_of_methodNamed B.named
  have hlocks := B.notSynchronized
  subst hsz
  have hD := wl_self hD s.heap.size
  have hA : ∀ q : Nat, s.heap.size ≤ q → iA N ad s.heap.size q := fun q h => Or.inr h
  have hS : va_S (iA N ad s.heap.size) s.heap s.heap [] := va_S.rf
  have hP : va_P G.1 vwB (wl N ad C) s.heap := hP
  refine vx_ret ?_
  have hl := lv_entry ([.ref (ad o), .int (nI x), .int (nI y), .int (nI tx), .int (nI ty), .int co, .ref (ad lo)]) (n := 8) (Nat.le_of_ble_eq_true rfl)
  rw [lg_entry_eq]
  generalize (lg_sl ([.ref (ad o), .int (nI x), .int (nI y), .int (nI tx), .int (nI ty), .int co, .ref (ad lo)]) ++ List.replicate (8 - (lg_sl ([.ref (ad o), .int (nI x), .int (nI y), .int (nI tx), .int (nI ty), .int co, .ref (ad lo)])).length) Slot.unset).toArray = ls at hl ⊢
  have hl : lv_has ls 8 [(0, .ref (ad o)), (1, .int (nI x)), (2, .int (nI y)), (3, .int (nI tx)), (4, .int (nI ty)), (5, .int co), (6, .ref (ad lo))] := hl
  obtain ⟨hN, ⟨ok1, ok2, ok3, ok4, ok5, ok6, ok7, ok8, ok9⟩, h0, ⟨s1, s2, s3⟩, ⟨e1, e2, e3⟩, h7, h8, ⟨TF, tr1, tr2, tr3, tr4, tr5⟩, ⟨TD, dv1, dv2, dv3⟩, ⟨TC, cv1, cv2, cv3⟩, hfr, hfi⟩ := id hcam
  refine lv_aload hx hb dL_paint_0 (lv_at hl 6 rfl) ?_
  refine lv_iconst (v := nI 0) hx hb dL_paint_2 (by decide) ?_
  refine lv_aload_n hx hb dL_paint_3 rfl (lv_at hl 0 rfl) ?_
  refine lv_iload_n hx hb dL_paint_4 rfl (lv_at hl 1 rfl) ?_
  refine lv_iload_n hx hb dL_paint_5 rfl (lv_at hl 2 rfl) ?_
  refine lv_iload_n hx hb dL_paint_6 rfl (lv_at hl 3 rfl) ?_
  refine lv_iload hx hb dL_paint_7 (lv_at hl 4 rfl) ?_
  refine lv_iload hx hb dL_paint_9 (lv_at hl 5 rfl) ?_
  refine vx_calli (vx_runV (As := [.int (nI x), .int (nI y), .int (nI tx), .int (nI ty), .int co]) (rest := [.int (nI 0), .ref (ad lo)]) ⟨hx, hb, hml, hown, hts⟩ (xX6_paint_5 l hst G N ad _ o S hcam x y tx ty hx8 hy8 htx hty co h1 h2 h _) (cwV 5 hts gL_paint_X6_paint rfl rfl rfl (by decide +kernel) ⟨Nat.le_of_ble_eq_true rfl, Nat.le_of_ble_eq_true rfl⟩) (xPV hK hV hZ (va_S.rf (A := fun q : Nat => s.heap.size ≤ q) (H0 := s.heap)) (fun q h => h) hP hD (by omega) (h0) rfl [.int (nI x), .int (nI y), .int (nI tx), .int (nI ty), .int co]) rfl rfl hl.1 rfl (lv_room (Nat.le_of_ble_eq_true rfl)) dL_paint_11 ⟨Nat.le_of_ble_eq_true rfl, Nat.le_of_ble_eq_true rfl⟩) hS (fun q h1 h2 => absurd h1 (Nat.not_lt.mpr h2)) (fun q h => hA q (Nat.le_trans hS.1 h)) (fun q h1 h2 => absurd h1 (Nat.not_lt.mpr h2)) (fun E ce q9 u t H1 locs1 ht hvm hpx hBX hz1 hk1 hS hcell hv9 hcl => ?_) (fun r u t H1 locs1 ht hvm hw => hw.elim)
  have hBX : E = _ := hBX
  subst hBX
  have hP := hP.kept (fun k q hq => hk1 _ ((hP k q hq).lt) (Nat.not_le.mpr ((hP k q hq).lt)))
  refine vx_catch (own := RL) (name := "java/lang/IllegalArgumentException") hown ([⟨0, 16, 19, 13⟩] : List ExceptionTableEntry) ⟨0, 16, 23, 15⟩ [] htab (fun z hz => by rcases List.mem_singleton.mp hz with rfl; exact Or.inr ⟨by decide, _, hts _ il_L_paint_cl13, vx_nAO hV⟩) (by decide) (by decide) (hts _ il_L_paint_cl15) (va_Nw.use rfl (vx_cIA hV)) hcell hv9 hcl ?_
  refine W.eq (g2 := F0 m 23 ls [.ref q9]) rfl ?_
  refine lv_astore (lv' := [(7, .ref q9), (0, .ref (ad o)), (1, .int (nI x)), (2, .int (nI y)), (3, .int (nI tx)), (4, .int (nI ty)), (5, .int co), (6, .ref (ad lo))]) hx hb dL_paint_23 hl (by decide) rfl (fun ls hl => ?_)
  refine lv_iconst (v := nI 2) hx hb dL_paint_25 (by decide) ?_
  exact W.iret (v := nI 2) hx hb hr (fun t ht hW => ⟨⟨_, C, rfl, ⟨rfl, rfl⟩, iB_of ht hP⟩, hS.F ht⟩) hS.2.2 dL_paint_26
abbrev rL_paint_v : Room := { frames := 3, cells := 0, slots := 0, locals := 69 }
set_option maxHeartbeats 4000000 in
set_option maxRecDepth 100000 in
theorem wL_paint (l : Launch) (G : iG) (N : Nat) (ad : Nat → Nat) (C : Nat → va_E) (o : Nat) (S : St) (hcam : Cam G N ad C o S) (lo : Nat) (hlo : lo < N) (hlo9 : lo < o ∨ o + 74 ≤ lo) (f0 : Nat → Int64) (glo : C lo = la G 1 f0) (x y tx ty co : Nat) (hxy : x ≤ tx ∧ tx < 8 ∧ y ≤ ty ∧ ty < 8) (hco : co < 16777216) (sz : Nat) : vx_Met l yL_paint wsL_paint rL_paint_v (iPreX G N ad C sz [.ref (ad o), .int (nI x), .int (nI y), .int (nI tx), .int (nI ty), .int (nI co), .ref (ad lo)]) (va_Qi (fun (r : Int32) (u : Nat → va_E) => r = nI 0 ∧ OutL G C u o lo (nI ((tx - x + 1) * (ty - y + 1))).toInt64) (iB G N ad) (iA N ad sz)) xN 0 0 (iA N ad sz) := by
  refine vx_ofWH (cc := cL_paint) (maxL := 8) (ret := (some .int)) (hh := [(0, 16, 19, 13), (0, 16, 23, 15)]) (by decide) rfl ?_
  intro p e s m args below meth c s₁ B hml hv
  obtain ⟨rfl, ⟨⟨hsz, hP, hK, hD⟩, hV⟩, hZ⟩ := hv
  have hx := B.exec
  have hb := B.bytes
  have hr := B.returns
  have hts := atoms_spec (ws := wsL_paint) B.pre
  have htab : c.exceptionTable.toList = [⟨0, 16, 19, 13⟩, ⟨0, 16, 23, 15⟩] := vx_table (x := yL_paint) B (hts (.codeWith yL_paint cL_paint 8 (some .int) [(0, 16, 19, 13), (0, 16, 23, 15)]) List.mem_cons_self)
  have hown : s.vm.findClass RL = some m.cls := findClass_of_methodNamed B.named
  have hlocks := B.notSynchronized
  subst hsz
  have hD := wl_self hD s.heap.size
  have hA : ∀ q : Nat, s.heap.size ≤ q → iA N ad s.heap.size q := fun q h => Or.inr h
  have hS : va_S (iA N ad s.heap.size) s.heap s.heap [] := va_S.rf
  have hP : va_P G.1 vwB (wl N ad C) s.heap := hP
  refine vx_ret ?_
  have hl := lv_entry ([.ref (ad o), .int (nI x), .int (nI y), .int (nI tx), .int (nI ty), .int (nI co), .ref (ad lo)]) (n := 8) (Nat.le_of_ble_eq_true rfl)
  rw [lg_entry_eq]
  generalize (lg_sl ([.ref (ad o), .int (nI x), .int (nI y), .int (nI tx), .int (nI ty), .int (nI co), .ref (ad lo)]) ++ List.replicate (8 - (lg_sl ([.ref (ad o), .int (nI x), .int (nI y), .int (nI tx), .int (nI ty), .int (nI co), .ref (ad lo)])).length) Slot.unset).toArray = ls at hl ⊢
  have hl : lv_has ls 8 [(0, .ref (ad o)), (1, .int (nI x)), (2, .int (nI y)), (3, .int (nI tx)), (4, .int (nI ty)), (5, .int (nI co)), (6, .ref (ad lo))] := hl
  obtain ⟨hN, ⟨ok1, ok2, ok3, ok4, ok5, ok6, ok7, ok8, ok9⟩, h0, ⟨s1, s2, s3⟩, ⟨e1, e2, e3⟩, h7, h8, ⟨TF, tr1, tr2, tr3, tr4, tr5⟩, ⟨TD, dv1, dv2, dv3⟩, ⟨TC, cv1, cv2, cv3⟩, hfr, hfi⟩ := id hcam
  refine lv_aload hx hb dL_paint_0 (lv_at hl 6 rfl) ?_
  refine lv_iconst (v := nI 0) hx hb dL_paint_2 (by decide) ?_
  refine lv_aload_n hx hb dL_paint_3 rfl (lv_at hl 0 rfl) ?_
  refine lv_iload_n hx hb dL_paint_4 rfl (lv_at hl 1 rfl) ?_
  refine lv_iload_n hx hb dL_paint_5 rfl (lv_at hl 2 rfl) ?_
  refine lv_iload_n hx hb dL_paint_6 rfl (lv_at hl 3 rfl) ?_
  refine lv_iload hx hb dL_paint_7 (lv_at hl 4 rfl) ?_
  refine lv_iload hx hb dL_paint_9 (lv_at hl 5 rfl) ?_
  refine iw_i (va_runV (As := [.int (nI x), .int (nI y), .int (nI tx), .int (nI ty), .int (nI co)]) (rest := [.int (nI 0), .ref (ad lo)]) ⟨hx, hb, hml, hown, hts⟩ (kX6_paint l G N ad _ o S hcam x y tx ty co hxy hco _) (cwV 5 hts gL_paint_X6_paint rfl rfl rfl (by decide +kernel) ⟨Nat.le_of_ble_eq_true rfl, Nat.le_of_ble_eq_true rfl⟩) (iPV hK hP hD (by omega) (h0) rfl [.int (nI x), .int (nI y), .int (nI tx), .int (nI ty), .int (nI co)]) rfl rfl hl.1 rfl (lv_room (Nat.le_of_ble_eq_true rfl)) dL_paint_11 ⟨Nat.le_of_ble_eq_true rfl, Nat.le_of_ble_eq_true rfl⟩) hD hS hA (fun r8 u8 H locs hw8 hP hD hS => ?_)
  obtain ⟨hr8, -, hs8⟩ := hw8
  refine lv_asI hr8 ?_
  refine lv_i2l (v := (nI ((tx - x + 1) * (ty - y + 1))).toInt64) hx hb dL_paint_14 rfl ?_
  refine iw_last hx hb hK hP hD hS hlo (((hs8 _ hlo9).trans glo)) (vp_in_nI (show 0 < 1 by omega) (by omega)) (nI_clamp (by omega)) dL_paint_15 (fun H locs hP hD hS => ?_)
  refine lv_goto (tgt := 27) hx hb dL_paint_16 (by decide) ?_
  refine lv_iconst (v := nI 0) hx hb dL_paint_27 (by decide) ?_
  exact W.iret (v := nI 0) hx hb hr (fun t ht hW => ⟨⟨_, _, rfl, ⟨rfl, ⟨_, va_us _ _ _, rfl⟩, fun j h1 h2 => (va_un _ _ h2).trans (hs8 j h1)⟩, iB_of ht hP⟩, hS.F ht⟩) hS.2.2 dL_paint_28
abbrev rL_lamp_x : Room := { frames := 8, cells := 1, slots := 6, locals := 136 }
set_option maxRecDepth 20000 in
theorem il_L_lamp_cl15 : (Cond.classLink RL 15 "java/lang/IllegalArgumentException") ∈ wsL_lamp := by decide +kernel
set_option maxHeartbeats 4000000 in
set_option maxRecDepth 100000 in
theorem wL_lamp_1 (l : Launch) (hst : l.stackTraces = false) (G : iG) (N : Nat) (ad : Nat → Nat) (C : Nat → va_E) (o : Nat) (S : St) (hcam : Cam G N ad C o S) (lo : Nat) (r1 g1 b1 : Int32) (h : r1 < nI 1 ∨ nI 16 < r1) (sz : Nat) : vx_Met l yL_lamp wsL_lamp rL_lamp_x (iPreX G N ad C sz [.ref (ad o), .int r1, .int g1, .int b1, .ref (ad lo)]) (va_Qi (fun (r : Int32) (u : Nat → va_E) => r = nI 1 ∧ u = C) (iB G N ad) (iA N ad sz)) xN 1 6 (iA N ad sz) := by
  refine vx_ofWH (cc := cL_lamp) (maxL := 6) (ret := (some .int)) (hh := [(0, 12, 15, 15)]) (by decide) rfl ?_
  intro p e s m args below meth c s₁ B hml hv
  obtain ⟨rfl, ⟨⟨hsz, hP, hK, hD⟩, hV⟩, hZ⟩ := hv
  have hx := B.exec
  have hb := B.bytes
  have hr := B.returns
  have hts := atoms_spec (ws := wsL_lamp) B.pre
  have htab : c.exceptionTable.toList = [⟨0, 12, 15, 15⟩] := vx_table (x := yL_lamp) B (hts (.codeWith yL_lamp cL_lamp 6 (some .int) [(0, 12, 15, 15)]) List.mem_cons_self)
  have hown : s.vm.findClass RL = some m.cls := findClass_of_methodNamed B.named
  have hlocks := B.notSynchronized
  subst hsz
  have hD := wl_self hD s.heap.size
  have hA : ∀ q : Nat, s.heap.size ≤ q → iA N ad s.heap.size q := fun q h => Or.inr h
  have hS : va_S (iA N ad s.heap.size) s.heap s.heap [] := va_S.rf
  have hP : va_P G.1 vwB (wl N ad C) s.heap := hP
  refine vx_ret ?_
  have hl := lv_entry ([.ref (ad o), .int r1, .int g1, .int b1, .ref (ad lo)]) (n := 6) (Nat.le_of_ble_eq_true rfl)
  rw [lg_entry_eq]
  generalize (lg_sl ([.ref (ad o), .int r1, .int g1, .int b1, .ref (ad lo)]) ++ List.replicate (6 - (lg_sl ([.ref (ad o), .int r1, .int g1, .int b1, .ref (ad lo)])).length) Slot.unset).toArray = ls at hl ⊢
  have hl : lv_has ls 6 [(0, .ref (ad o)), (1, .int r1), (2, .int g1), (3, .int b1), (4, .ref (ad lo))] := hl
  obtain ⟨hN, ⟨ok1, ok2, ok3, ok4, ok5, ok6, ok7, ok8, ok9⟩, h0, ⟨s1, s2, s3⟩, ⟨e1, e2, e3⟩, h7, h8, ⟨TF, tr1, tr2, tr3, tr4, tr5⟩, ⟨TD, dv1, dv2, dv3⟩, ⟨TC, cv1, cv2, cv3⟩, hfr, hfi⟩ := id hcam
  refine lv_aload hx hb dL_lamp_0 (lv_at hl 4 rfl) ?_
  refine lv_iconst (v := nI 0) hx hb dL_lamp_2 (by decide) ?_
  refine lv_aload_n hx hb dL_lamp_3 rfl (lv_at hl 0 rfl) ?_
  refine lv_iload_n hx hb dL_lamp_4 rfl (lv_at hl 1 rfl) ?_
  refine lv_iload_n hx hb dL_lamp_5 rfl (lv_at hl 2 rfl) ?_
  refine lv_iload_n hx hb dL_lamp_6 rfl (lv_at hl 3 rfl) ?_
  refine vx_calli (vx_runV (As := [.int r1, .int g1, .int b1]) (rest := [.int (nI 0), .ref (ad lo)]) ⟨hx, hb, hml, hown, hts⟩ (xX6_lamp_1 l hst G N ad _ o S hcam r1 g1 b1 h _) (cwV 3 hts gL_lamp_X6_lamp rfl rfl rfl (by decide +kernel) ⟨Nat.le_of_ble_eq_true rfl, Nat.le_of_ble_eq_true rfl⟩) (xPV hK hV hZ (va_S.rf (A := fun q : Nat => s.heap.size ≤ q) (H0 := s.heap)) (fun q h => h) hP hD (by omega) (h0) rfl [.int r1, .int g1, .int b1]) rfl rfl hl.1 rfl (lv_room (Nat.le_of_ble_eq_true rfl)) dL_lamp_7 ⟨Nat.le_of_ble_eq_true rfl, Nat.le_of_ble_eq_true rfl⟩) hS (fun q h1 h2 => absurd h1 (Nat.not_lt.mpr h2)) (fun q h => hA q (Nat.le_trans hS.1 h)) (fun q h1 h2 => absurd h1 (Nat.not_lt.mpr h2)) (fun E ce q9 u t H1 locs1 ht hvm hpx hBX hz1 hk1 hS hcell hv9 hcl => ?_) (fun r u t H1 locs1 ht hvm hw => hw.elim)
  have hBX : E = _ := hBX
  subst hBX
  have hP := hP.kept (fun k q hq => hk1 _ ((hP k q hq).lt) (Nat.not_le.mpr ((hP k q hq).lt)))
  refine vx_catch (own := RL) (name := "java/lang/IllegalArgumentException") hown ([] : List ExceptionTableEntry) ⟨0, 12, 15, 15⟩ [] htab (fun z hz => absurd hz List.not_mem_nil) (by decide) (by decide) (hts _ il_L_lamp_cl15) (va_Nw.use rfl (vx_cIA hV)) hcell hv9 hcl ?_
  refine W.eq (g2 := F0 m 15 ls [.ref q9]) rfl ?_
  refine lv_astore (lv' := [(5, .ref q9), (0, .ref (ad o)), (1, .int r1), (2, .int g1), (3, .int b1), (4, .ref (ad lo))]) hx hb dL_lamp_15 hl (by decide) rfl (fun ls hl => ?_)
  refine lv_iconst (v := nI 1) hx hb dL_lamp_17 (by decide) ?_
  exact W.iret (v := nI 1) hx hb hr (fun t ht hW => ⟨⟨_, C, rfl, ⟨rfl, rfl⟩, iB_of ht hP⟩, hS.F ht⟩) hS.2.2 dL_lamp_18
set_option maxHeartbeats 4000000 in
set_option maxRecDepth 100000 in
theorem wL_lamp_2 (l : Launch) (hst : l.stackTraces = false) (G : iG) (N : Nat) (ad : Nat → Nat) (C : Nat → va_E) (o : Nat) (S : St) (hcam : Cam G N ad C o S) (lo : Nat) (r1 : Nat) (hr1 : 0 < r1 ∧ r1 < 17) (g1 b1 : Int32) (h : g1 < nI 1 ∨ nI 16 < g1) (sz : Nat) : vx_Met l yL_lamp wsL_lamp rL_lamp_x (iPreX G N ad C sz [.ref (ad o), .int (nI r1), .int g1, .int b1, .ref (ad lo)]) (va_Qi (fun (r : Int32) (u : Nat → va_E) => r = nI 1 ∧ u = C) (iB G N ad) (iA N ad sz)) xN 1 6 (iA N ad sz) := by
  refine vx_ofWH (cc := cL_lamp) (maxL := 6) (ret := (some .int)) (hh := [(0, 12, 15, 15)]) (by decide) rfl ?_
  intro p e s m args below meth c s₁ B hml hv
  obtain ⟨rfl, ⟨⟨hsz, hP, hK, hD⟩, hV⟩, hZ⟩ := hv
  have hx := B.exec
  have hb := B.bytes
  have hr := B.returns
  have hts := atoms_spec (ws := wsL_lamp) B.pre
  have htab : c.exceptionTable.toList = [⟨0, 12, 15, 15⟩] := vx_table (x := yL_lamp) B (hts (.codeWith yL_lamp cL_lamp 6 (some .int) [(0, 12, 15, 15)]) List.mem_cons_self)
  have hown : s.vm.findClass RL = some m.cls := findClass_of_methodNamed B.named
  have hlocks := B.notSynchronized
  subst hsz
  have hD := wl_self hD s.heap.size
  have hA : ∀ q : Nat, s.heap.size ≤ q → iA N ad s.heap.size q := fun q h => Or.inr h
  have hS : va_S (iA N ad s.heap.size) s.heap s.heap [] := va_S.rf
  have hP : va_P G.1 vwB (wl N ad C) s.heap := hP
  refine vx_ret ?_
  have hl := lv_entry ([.ref (ad o), .int (nI r1), .int g1, .int b1, .ref (ad lo)]) (n := 6) (Nat.le_of_ble_eq_true rfl)
  rw [lg_entry_eq]
  generalize (lg_sl ([.ref (ad o), .int (nI r1), .int g1, .int b1, .ref (ad lo)]) ++ List.replicate (6 - (lg_sl ([.ref (ad o), .int (nI r1), .int g1, .int b1, .ref (ad lo)])).length) Slot.unset).toArray = ls at hl ⊢
  have hl : lv_has ls 6 [(0, .ref (ad o)), (1, .int (nI r1)), (2, .int g1), (3, .int b1), (4, .ref (ad lo))] := hl
  obtain ⟨hN, ⟨ok1, ok2, ok3, ok4, ok5, ok6, ok7, ok8, ok9⟩, h0, ⟨s1, s2, s3⟩, ⟨e1, e2, e3⟩, h7, h8, ⟨TF, tr1, tr2, tr3, tr4, tr5⟩, ⟨TD, dv1, dv2, dv3⟩, ⟨TC, cv1, cv2, cv3⟩, hfr, hfi⟩ := id hcam
  refine lv_aload hx hb dL_lamp_0 (lv_at hl 4 rfl) ?_
  refine lv_iconst (v := nI 0) hx hb dL_lamp_2 (by decide) ?_
  refine lv_aload_n hx hb dL_lamp_3 rfl (lv_at hl 0 rfl) ?_
  refine lv_iload_n hx hb dL_lamp_4 rfl (lv_at hl 1 rfl) ?_
  refine lv_iload_n hx hb dL_lamp_5 rfl (lv_at hl 2 rfl) ?_
  refine lv_iload_n hx hb dL_lamp_6 rfl (lv_at hl 3 rfl) ?_
  refine vx_calli (vx_runV (As := [.int (nI r1), .int g1, .int b1]) (rest := [.int (nI 0), .ref (ad lo)]) ⟨hx, hb, hml, hown, hts⟩ (xX6_lamp_2 l hst G N ad _ o S hcam r1 hr1 g1 b1 h _) (cwV 3 hts gL_lamp_X6_lamp rfl rfl rfl (by decide +kernel) ⟨Nat.le_of_ble_eq_true rfl, Nat.le_of_ble_eq_true rfl⟩) (xPV hK hV hZ (va_S.rf (A := fun q : Nat => s.heap.size ≤ q) (H0 := s.heap)) (fun q h => h) hP hD (by omega) (h0) rfl [.int (nI r1), .int g1, .int b1]) rfl rfl hl.1 rfl (lv_room (Nat.le_of_ble_eq_true rfl)) dL_lamp_7 ⟨Nat.le_of_ble_eq_true rfl, Nat.le_of_ble_eq_true rfl⟩) hS (fun q h1 h2 => absurd h1 (Nat.not_lt.mpr h2)) (fun q h => hA q (Nat.le_trans hS.1 h)) (fun q h1 h2 => absurd h1 (Nat.not_lt.mpr h2)) (fun E ce q9 u t H1 locs1 ht hvm hpx hBX hz1 hk1 hS hcell hv9 hcl => ?_) (fun r u t H1 locs1 ht hvm hw => hw.elim)
  have hBX : E = _ := hBX
  subst hBX
  have hP := hP.kept (fun k q hq => hk1 _ ((hP k q hq).lt) (Nat.not_le.mpr ((hP k q hq).lt)))
  refine vx_catch (own := RL) (name := "java/lang/IllegalArgumentException") hown ([] : List ExceptionTableEntry) ⟨0, 12, 15, 15⟩ [] htab (fun z hz => absurd hz List.not_mem_nil) (by decide) (by decide) (hts _ il_L_lamp_cl15) (va_Nw.use rfl (vx_cIA hV)) hcell hv9 hcl ?_
  refine W.eq (g2 := F0 m 15 ls [.ref q9]) rfl ?_
  refine lv_astore (lv' := [(5, .ref q9), (0, .ref (ad o)), (1, .int (nI r1)), (2, .int g1), (3, .int b1), (4, .ref (ad lo))]) hx hb dL_lamp_15 hl (by decide) rfl (fun ls hl => ?_)
  refine lv_iconst (v := nI 1) hx hb dL_lamp_17 (by decide) ?_
  exact W.iret (v := nI 1) hx hb hr (fun t ht hW => ⟨⟨_, C, rfl, ⟨rfl, rfl⟩, iB_of ht hP⟩, hS.F ht⟩) hS.2.2 dL_lamp_18
set_option maxHeartbeats 4000000 in
set_option maxRecDepth 100000 in
theorem wL_lamp_3 (l : Launch) (hst : l.stackTraces = false) (G : iG) (N : Nat) (ad : Nat → Nat) (C : Nat → va_E) (o : Nat) (S : St) (hcam : Cam G N ad C o S) (lo : Nat) (r1 g1 : Nat) (hr1 : 0 < r1 ∧ r1 < 17) (hg1 : 0 < g1 ∧ g1 < 17) (b1 : Int32) (h : b1 < nI 1 ∨ nI 16 < b1) (sz : Nat) : vx_Met l yL_lamp wsL_lamp rL_lamp_x (iPreX G N ad C sz [.ref (ad o), .int (nI r1), .int (nI g1), .int b1, .ref (ad lo)]) (va_Qi (fun (r : Int32) (u : Nat → va_E) => r = nI 1 ∧ u = C) (iB G N ad) (iA N ad sz)) xN 1 6 (iA N ad sz) := by
  refine vx_ofWH (cc := cL_lamp) (maxL := 6) (ret := (some .int)) (hh := [(0, 12, 15, 15)]) (by decide) rfl ?_
  intro p e s m args below meth c s₁ B hml hv
  obtain ⟨rfl, ⟨⟨hsz, hP, hK, hD⟩, hV⟩, hZ⟩ := hv
  have hx := B.exec
  have hb := B.bytes
  have hr := B.returns
  have hts := atoms_spec (ws := wsL_lamp) B.pre
  have htab : c.exceptionTable.toList = [⟨0, 12, 15, 15⟩] := vx_table (x := yL_lamp) B (hts (.codeWith yL_lamp cL_lamp 6 (some .int) [(0, 12, 15, 15)]) List.mem_cons_self)
  have hown : s.vm.findClass RL = some m.cls := findClass_of_methodNamed B.named
  have hlocks := B.notSynchronized
  subst hsz
  have hD := wl_self hD s.heap.size
  have hA : ∀ q : Nat, s.heap.size ≤ q → iA N ad s.heap.size q := fun q h => Or.inr h
  have hS : va_S (iA N ad s.heap.size) s.heap s.heap [] := va_S.rf
  have hP : va_P G.1 vwB (wl N ad C) s.heap := hP
  refine vx_ret ?_
  have hl := lv_entry ([.ref (ad o), .int (nI r1), .int (nI g1), .int b1, .ref (ad lo)]) (n := 6) (Nat.le_of_ble_eq_true rfl)
  rw [lg_entry_eq]
  generalize (lg_sl ([.ref (ad o), .int (nI r1), .int (nI g1), .int b1, .ref (ad lo)]) ++ List.replicate (6 - (lg_sl ([.ref (ad o), .int (nI r1), .int (nI g1), .int b1, .ref (ad lo)])).length) Slot.unset).toArray = ls at hl ⊢
  have hl : lv_has ls 6 [(0, .ref (ad o)), (1, .int (nI r1)), (2, .int (nI g1)), (3, .int b1), (4, .ref (ad lo))] := hl
  obtain ⟨hN, ⟨ok1, ok2, ok3, ok4, ok5, ok6, ok7, ok8, ok9⟩, h0, ⟨s1, s2, s3⟩, ⟨e1, e2, e3⟩, h7, h8, ⟨TF, tr1, tr2, tr3, tr4, tr5⟩, ⟨TD, dv1, dv2, dv3⟩, ⟨TC, cv1, cv2, cv3⟩, hfr, hfi⟩ := id hcam
  refine lv_aload hx hb dL_lamp_0 (lv_at hl 4 rfl) ?_
  refine lv_iconst (v := nI 0) hx hb dL_lamp_2 (by decide) ?_
  refine lv_aload_n hx hb dL_lamp_3 rfl (lv_at hl 0 rfl) ?_
  refine lv_iload_n hx hb dL_lamp_4 rfl (lv_at hl 1 rfl) ?_
  refine lv_iload_n hx hb dL_lamp_5 rfl (lv_at hl 2 rfl) ?_
  refine lv_iload_n hx hb dL_lamp_6 rfl (lv_at hl 3 rfl) ?_
  refine vx_calli (vx_runV (As := [.int (nI r1), .int (nI g1), .int b1]) (rest := [.int (nI 0), .ref (ad lo)]) ⟨hx, hb, hml, hown, hts⟩ (xX6_lamp_3 l hst G N ad _ o S hcam r1 g1 hr1 hg1 b1 h _) (cwV 3 hts gL_lamp_X6_lamp rfl rfl rfl (by decide +kernel) ⟨Nat.le_of_ble_eq_true rfl, Nat.le_of_ble_eq_true rfl⟩) (xPV hK hV hZ (va_S.rf (A := fun q : Nat => s.heap.size ≤ q) (H0 := s.heap)) (fun q h => h) hP hD (by omega) (h0) rfl [.int (nI r1), .int (nI g1), .int b1]) rfl rfl hl.1 rfl (lv_room (Nat.le_of_ble_eq_true rfl)) dL_lamp_7 ⟨Nat.le_of_ble_eq_true rfl, Nat.le_of_ble_eq_true rfl⟩) hS (fun q h1 h2 => absurd h1 (Nat.not_lt.mpr h2)) (fun q h => hA q (Nat.le_trans hS.1 h)) (fun q h1 h2 => absurd h1 (Nat.not_lt.mpr h2)) (fun E ce q9 u t H1 locs1 ht hvm hpx hBX hz1 hk1 hS hcell hv9 hcl => ?_) (fun r u t H1 locs1 ht hvm hw => hw.elim)
  have hBX : E = _ := hBX
  subst hBX
  have hP := hP.kept (fun k q hq => hk1 _ ((hP k q hq).lt) (Nat.not_le.mpr ((hP k q hq).lt)))
  refine vx_catch (own := RL) (name := "java/lang/IllegalArgumentException") hown ([] : List ExceptionTableEntry) ⟨0, 12, 15, 15⟩ [] htab (fun z hz => absurd hz List.not_mem_nil) (by decide) (by decide) (hts _ il_L_lamp_cl15) (va_Nw.use rfl (vx_cIA hV)) hcell hv9 hcl ?_
  refine W.eq (g2 := F0 m 15 ls [.ref q9]) rfl ?_
  refine lv_astore (lv' := [(5, .ref q9), (0, .ref (ad o)), (1, .int (nI r1)), (2, .int (nI g1)), (3, .int b1), (4, .ref (ad lo))]) hx hb dL_lamp_15 hl (by decide) rfl (fun ls hl => ?_)
  refine lv_iconst (v := nI 1) hx hb dL_lamp_17 (by decide) ?_
  exact W.iret (v := nI 1) hx hb hr (fun t ht hW => ⟨⟨_, C, rfl, ⟨rfl, rfl⟩, iB_of ht hP⟩, hS.F ht⟩) hS.2.2 dL_lamp_18
abbrev rL_lamp_v : Room := { frames := 2, cells := 0, slots := 0, locals := 47 }
set_option maxHeartbeats 4000000 in
set_option maxRecDepth 100000 in
theorem wL_lamp (l : Launch) (G : iG) (N : Nat) (ad : Nat → Nat) (C : Nat → va_E) (o : Nat) (S : St) (hcam : Cam G N ad C o S) (lo : Nat) (hlo : lo < N) (hlo9 : lo < o ∨ o + 74 ≤ lo) (f0 : Nat → Int64) (glo : C lo = la G 1 f0) (r1 g1 b1 : Nat) (hr1 : 0 < r1 ∧ r1 < 17) (hg1 : 0 < g1 ∧ g1 < 17) (hb1 : 0 < b1 ∧ b1 < 17) (sz : Nat) : vx_Met l yL_lamp wsL_lamp rL_lamp_v (iPreX G N ad C sz [.ref (ad o), .int (nI r1), .int (nI g1), .int (nI b1), .ref (ad lo)]) (va_Qi (fun (r : Int32) (u : Nat → va_E) => r = nI 0 ∧ OutL G C u o lo (nI (sGq S)).toInt64) (iB G N ad) (iA N ad sz)) xN 0 0 (iA N ad sz) := by
  refine vx_ofWH (cc := cL_lamp) (maxL := 6) (ret := (some .int)) (hh := [(0, 12, 15, 15)]) (by decide) rfl ?_
  intro p e s m args below meth c s₁ B hml hv
  obtain ⟨rfl, ⟨⟨hsz, hP, hK, hD⟩, hV⟩, hZ⟩ := hv
  have hx := B.exec
  have hb := B.bytes
  have hr := B.returns
  have hts := atoms_spec (ws := wsL_lamp) B.pre
  have htab : c.exceptionTable.toList = [⟨0, 12, 15, 15⟩] := vx_table (x := yL_lamp) B (hts (.codeWith yL_lamp cL_lamp 6 (some .int) [(0, 12, 15, 15)]) List.mem_cons_self)
  have hown : s.vm.findClass RL = some m.cls := findClass_of_methodNamed B.named
  have hlocks := B.notSynchronized
  subst hsz
  have hD := wl_self hD s.heap.size
  have hA : ∀ q : Nat, s.heap.size ≤ q → iA N ad s.heap.size q := fun q h => Or.inr h
  have hS : va_S (iA N ad s.heap.size) s.heap s.heap [] := va_S.rf
  have hP : va_P G.1 vwB (wl N ad C) s.heap := hP
  refine vx_ret ?_
  have hl := lv_entry ([.ref (ad o), .int (nI r1), .int (nI g1), .int (nI b1), .ref (ad lo)]) (n := 6) (Nat.le_of_ble_eq_true rfl)
  rw [lg_entry_eq]
  generalize (lg_sl ([.ref (ad o), .int (nI r1), .int (nI g1), .int (nI b1), .ref (ad lo)]) ++ List.replicate (6 - (lg_sl ([.ref (ad o), .int (nI r1), .int (nI g1), .int (nI b1), .ref (ad lo)])).length) Slot.unset).toArray = ls at hl ⊢
  have hl : lv_has ls 6 [(0, .ref (ad o)), (1, .int (nI r1)), (2, .int (nI g1)), (3, .int (nI b1)), (4, .ref (ad lo))] := hl
  obtain ⟨hN, ⟨ok1, ok2, ok3, ok4, ok5, ok6, ok7, ok8, ok9⟩, h0, ⟨s1, s2, s3⟩, ⟨e1, e2, e3⟩, h7, h8, ⟨TF, tr1, tr2, tr3, tr4, tr5⟩, ⟨TD, dv1, dv2, dv3⟩, ⟨TC, cv1, cv2, cv3⟩, hfr, hfi⟩ := id hcam
  refine lv_aload hx hb dL_lamp_0 (lv_at hl 4 rfl) ?_
  refine lv_iconst (v := nI 0) hx hb dL_lamp_2 (by decide) ?_
  refine lv_aload_n hx hb dL_lamp_3 rfl (lv_at hl 0 rfl) ?_
  refine lv_iload_n hx hb dL_lamp_4 rfl (lv_at hl 1 rfl) ?_
  refine lv_iload_n hx hb dL_lamp_5 rfl (lv_at hl 2 rfl) ?_
  refine lv_iload_n hx hb dL_lamp_6 rfl (lv_at hl 3 rfl) ?_
  refine iw_i (va_runV (As := [.int (nI r1), .int (nI g1), .int (nI b1)]) (rest := [.int (nI 0), .ref (ad lo)]) ⟨hx, hb, hml, hown, hts⟩ (kX6_lamp l G N ad _ o S hcam r1 g1 b1 hr1 hg1 hb1 _) (cwV 3 hts gL_lamp_X6_lamp rfl rfl rfl (by decide +kernel) ⟨Nat.le_of_ble_eq_true rfl, Nat.le_of_ble_eq_true rfl⟩) (iPV hK hP hD (by omega) (h0) rfl [.int (nI r1), .int (nI g1), .int (nI b1)]) rfl rfl hl.1 rfl (lv_room (Nat.le_of_ble_eq_true rfl)) dL_lamp_7 ⟨Nat.le_of_ble_eq_true rfl, Nat.le_of_ble_eq_true rfl⟩) hD hS hA (fun r8 u8 H locs hw8 hP hD hS => ?_)
  obtain ⟨hr8, -, hs8⟩ := hw8
  refine lv_asI hr8 ?_
  refine lv_i2l (v := (nI (sGq S)).toInt64) hx hb dL_lamp_10 rfl ?_
  refine iw_last hx hb hK hP hD hS hlo (((hs8 _ hlo9).trans glo)) (vp_in_nI (show 0 < 1 by omega) (by omega)) (nI_clamp (by omega)) dL_lamp_11 (fun H locs hP hD hS => ?_)
  refine lv_goto (tgt := 19) hx hb dL_lamp_12 (by decide) ?_
  refine lv_iconst (v := nI 0) hx hb dL_lamp_19 (by decide) ?_
  exact W.iret (v := nI 0) hx hb hr (fun t ht hW => ⟨⟨_, _, rfl, ⟨rfl, ⟨_, va_us _ _ _, rfl⟩, fun j h1 h2 => (va_un _ _ h2).trans (hs8 j h1)⟩, iB_of ht hP⟩, hS.F ht⟩) hS.2.2 dL_lamp_20
abbrev rL_spoil_x : Room := { frames := 8, cells := 1, slots := 6, locals := 137 }
set_option maxRecDepth 20000 in
theorem il_L_spoil_cl13 : (Cond.classLink RL 13 "java/lang/IndexOutOfBoundsException") ∈ wsL_spoil := by decide +kernel
set_option maxHeartbeats 4000000 in
set_option maxRecDepth 100000 in
theorem wL_spoil_1 (l : Launch) (hst : l.stackTraces = false) (G : iG) (N : Nat) (ad : Nat → Nat) (C : Nat → va_E) (o : Nat) (S : St) (hcam : Cam G N ad C o S) (lo : Nat) (x y v : Int32) (h : isPl x y = false) (sz : Nat) : vx_Met l yL_spoil wsL_spoil rL_spoil_x (iPreX G N ad C sz [.ref (ad o), .int x, .int y, .int v, .ref (ad lo)]) (va_Qi (fun (r : Int32) (u : Nat → va_E) => r = nI 1 ∧ u = C) (iB G N ad) (iA N ad sz)) xN 1 6 (iA N ad sz) := by
  refine vx_ofWH (cc := cL_spoil) (maxL := 6) (ret := (some .int)) (hh := [(0, 12, 15, 13), (0, 12, 19, 15)]) (by decide) rfl ?_
  intro p e s m args below meth c s₁ B hml hv
  obtain ⟨rfl, ⟨⟨hsz, hP, hK, hD⟩, hV⟩, hZ⟩ := hv
  have hx := B.exec
  have hb := B.bytes
  have hr := B.returns
  have hts := atoms_spec (ws := wsL_spoil) B.pre
  have htab : c.exceptionTable.toList = [⟨0, 12, 15, 13⟩, ⟨0, 12, 19, 15⟩] := vx_table (x := yL_spoil) B (hts (.codeWith yL_spoil cL_spoil 6 (some .int) [(0, 12, 15, 13), (0, 12, 19, 15)]) List.mem_cons_self)
  have hown : s.vm.findClass RL = some m.cls := findClass_of_methodNamed B.named
  have hlocks := B.notSynchronized
  subst hsz
  have hD := wl_self hD s.heap.size
  have hA : ∀ q : Nat, s.heap.size ≤ q → iA N ad s.heap.size q := fun q h => Or.inr h
  have hS : va_S (iA N ad s.heap.size) s.heap s.heap [] := va_S.rf
  have hP : va_P G.1 vwB (wl N ad C) s.heap := hP
  refine vx_ret ?_
  have hl := lv_entry ([.ref (ad o), .int x, .int y, .int v, .ref (ad lo)]) (n := 6) (Nat.le_of_ble_eq_true rfl)
  rw [lg_entry_eq]
  generalize (lg_sl ([.ref (ad o), .int x, .int y, .int v, .ref (ad lo)]) ++ List.replicate (6 - (lg_sl ([.ref (ad o), .int x, .int y, .int v, .ref (ad lo)])).length) Slot.unset).toArray = ls at hl ⊢
  have hl : lv_has ls 6 [(0, .ref (ad o)), (1, .int x), (2, .int y), (3, .int v), (4, .ref (ad lo))] := hl
  obtain ⟨hN, ⟨ok1, ok2, ok3, ok4, ok5, ok6, ok7, ok8, ok9⟩, h0, ⟨s1, s2, s3⟩, ⟨e1, e2, e3⟩, h7, h8, ⟨TF, tr1, tr2, tr3, tr4, tr5⟩, ⟨TD, dv1, dv2, dv3⟩, ⟨TC, cv1, cv2, cv3⟩, hfr, hfi⟩ := id hcam
  refine lv_aload hx hb dL_spoil_0 (lv_at hl 4 rfl) ?_
  refine lv_iconst (v := nI 0) hx hb dL_spoil_2 (by decide) ?_
  refine lv_aload_n hx hb dL_spoil_3 rfl (lv_at hl 0 rfl) ?_
  refine lv_iload_n hx hb dL_spoil_4 rfl (lv_at hl 1 rfl) ?_
  refine lv_iload_n hx hb dL_spoil_5 rfl (lv_at hl 2 rfl) ?_
  refine lv_iload_n hx hb dL_spoil_6 rfl (lv_at hl 3 rfl) ?_
  refine vx_calli (vx_runV (As := [.int x, .int y, .int v]) (rest := [.int (nI 0), .ref (ad lo)]) ⟨hx, hb, hml, hown, hts⟩ (xX6_spoil_1 l hst G N ad _ o S hcam x y v h _) (cwV 3 hts gL_spoil_X6_spoil rfl rfl rfl (by decide +kernel) ⟨Nat.le_of_ble_eq_true rfl, Nat.le_of_ble_eq_true rfl⟩) (xPV hK hV hZ (va_S.rf (A := fun q : Nat => s.heap.size ≤ q) (H0 := s.heap)) (fun q h => h) hP hD (by omega) (h0) rfl [.int x, .int y, .int v]) rfl rfl hl.1 rfl (lv_room (Nat.le_of_ble_eq_true rfl)) dL_spoil_7 ⟨Nat.le_of_ble_eq_true rfl, Nat.le_of_ble_eq_true rfl⟩) hS (fun q h1 h2 => absurd h1 (Nat.not_lt.mpr h2)) (fun q h => hA q (Nat.le_trans hS.1 h)) (fun q h1 h2 => absurd h1 (Nat.not_lt.mpr h2)) (fun E ce q9 u t H1 locs1 ht hvm hpx hBX hz1 hk1 hS hcell hv9 hcl => ?_) (fun r u t H1 locs1 ht hvm hw => hw.elim)
  have hBX : E = _ := hBX
  subst hBX
  have hP := hP.kept (fun k q hq => hk1 _ ((hP k q hq).lt) (Nat.not_le.mpr ((hP k q hq).lt)))
  refine vx_catch (own := RL) (name := "java/lang/IndexOutOfBoundsException") hown ([] : List ExceptionTableEntry) ⟨0, 12, 15, 13⟩ [⟨0, 12, 19, 15⟩] htab (fun z hz => absurd hz List.not_mem_nil) (by decide) (by decide) (hts _ il_L_spoil_cl13) (va_Nw.use rfl (vx_cIO hV)) hcell hv9 hcl ?_
  refine W.eq (g2 := F0 m 15 ls [.ref q9]) rfl ?_
  refine lv_astore (lv' := [(5, .ref q9), (0, .ref (ad o)), (1, .int x), (2, .int y), (3, .int v), (4, .ref (ad lo))]) hx hb dL_spoil_15 hl (by decide) rfl (fun ls hl => ?_)
  refine lv_iconst (v := nI 1) hx hb dL_spoil_17 (by decide) ?_
  exact W.iret (v := nI 1) hx hb hr (fun t ht hW => ⟨⟨_, C, rfl, ⟨rfl, rfl⟩, iB_of ht hP⟩, hS.F ht⟩) hS.2.2 dL_spoil_18
set_option maxRecDepth 20000 in
theorem il_L_spoil_cl15 : (Cond.classLink RL 15 "java/lang/IllegalArgumentException") ∈ wsL_spoil := by decide +kernel
set_option maxHeartbeats 4000000 in
set_option maxRecDepth 100000 in
theorem wL_spoil_2 (l : Launch) (hst : l.stackTraces = false) (G : iG) (N : Nat) (ad : Nat → Nat) (C : Nat → va_E) (o : Nat) (S : St) (hcam : Cam G N ad C o S) (lo : Nat) (x y : Nat) (hx8 : x < 8) (hy8 : y < 8) (v : Int32) (h : v < nI 0 ∨ nI 2 < v) (sz : Nat) : vx_Met l yL_spoil wsL_spoil rL_spoil_x (iPreX G N ad C sz [.ref (ad o), .int (nI x), .int (nI y), .int v, .ref (ad lo)]) (va_Qi (fun (r : Int32) (u : Nat → va_E) => r = nI 2 ∧ u = C) (iB G N ad) (iA N ad sz)) xN 1 6 (iA N ad sz) := by
  refine vx_ofWH (cc := cL_spoil) (maxL := 6) (ret := (some .int)) (hh := [(0, 12, 15, 13), (0, 12, 19, 15)]) (by decide) rfl ?_
  intro p e s m args below meth c s₁ B hml hv
  obtain ⟨rfl, ⟨⟨hsz, hP, hK, hD⟩, hV⟩, hZ⟩ := hv
  have hx := B.exec
  have hb := B.bytes
  have hr := B.returns
  have hts := atoms_spec (ws := wsL_spoil) B.pre
  have htab : c.exceptionTable.toList = [⟨0, 12, 15, 13⟩, ⟨0, 12, 19, 15⟩] := vx_table (x := yL_spoil) B (hts (.codeWith yL_spoil cL_spoil 6 (some .int) [(0, 12, 15, 13), (0, 12, 19, 15)]) List.mem_cons_self)
  have hown : s.vm.findClass RL = some m.cls := findClass_of_methodNamed B.named
  have hlocks := B.notSynchronized
  subst hsz
  have hD := wl_self hD s.heap.size
  have hA : ∀ q : Nat, s.heap.size ≤ q → iA N ad s.heap.size q := fun q h => Or.inr h
  have hS : va_S (iA N ad s.heap.size) s.heap s.heap [] := va_S.rf
  have hP : va_P G.1 vwB (wl N ad C) s.heap := hP
  refine vx_ret ?_
  have hl := lv_entry ([.ref (ad o), .int (nI x), .int (nI y), .int v, .ref (ad lo)]) (n := 6) (Nat.le_of_ble_eq_true rfl)
  rw [lg_entry_eq]
  generalize (lg_sl ([.ref (ad o), .int (nI x), .int (nI y), .int v, .ref (ad lo)]) ++ List.replicate (6 - (lg_sl ([.ref (ad o), .int (nI x), .int (nI y), .int v, .ref (ad lo)])).length) Slot.unset).toArray = ls at hl ⊢
  have hl : lv_has ls 6 [(0, .ref (ad o)), (1, .int (nI x)), (2, .int (nI y)), (3, .int v), (4, .ref (ad lo))] := hl
  obtain ⟨hN, ⟨ok1, ok2, ok3, ok4, ok5, ok6, ok7, ok8, ok9⟩, h0, ⟨s1, s2, s3⟩, ⟨e1, e2, e3⟩, h7, h8, ⟨TF, tr1, tr2, tr3, tr4, tr5⟩, ⟨TD, dv1, dv2, dv3⟩, ⟨TC, cv1, cv2, cv3⟩, hfr, hfi⟩ := id hcam
  refine lv_aload hx hb dL_spoil_0 (lv_at hl 4 rfl) ?_
  refine lv_iconst (v := nI 0) hx hb dL_spoil_2 (by decide) ?_
  refine lv_aload_n hx hb dL_spoil_3 rfl (lv_at hl 0 rfl) ?_
  refine lv_iload_n hx hb dL_spoil_4 rfl (lv_at hl 1 rfl) ?_
  refine lv_iload_n hx hb dL_spoil_5 rfl (lv_at hl 2 rfl) ?_
  refine lv_iload_n hx hb dL_spoil_6 rfl (lv_at hl 3 rfl) ?_
  refine vx_calli (vx_runV (As := [.int (nI x), .int (nI y), .int v]) (rest := [.int (nI 0), .ref (ad lo)]) ⟨hx, hb, hml, hown, hts⟩ (xX6_spoil_2 l hst G N ad _ o S hcam x y hx8 hy8 v h _) (cwV 3 hts gL_spoil_X6_spoil rfl rfl rfl (by decide +kernel) ⟨Nat.le_of_ble_eq_true rfl, Nat.le_of_ble_eq_true rfl⟩) (xPV hK hV hZ (va_S.rf (A := fun q : Nat => s.heap.size ≤ q) (H0 := s.heap)) (fun q h => h) hP hD (by omega) (h0) rfl [.int (nI x), .int (nI y), .int v]) rfl rfl hl.1 rfl (lv_room (Nat.le_of_ble_eq_true rfl)) dL_spoil_7 ⟨Nat.le_of_ble_eq_true rfl, Nat.le_of_ble_eq_true rfl⟩) hS (fun q h1 h2 => absurd h1 (Nat.not_lt.mpr h2)) (fun q h => hA q (Nat.le_trans hS.1 h)) (fun q h1 h2 => absurd h1 (Nat.not_lt.mpr h2)) (fun E ce q9 u t H1 locs1 ht hvm hpx hBX hz1 hk1 hS hcell hv9 hcl => ?_) (fun r u t H1 locs1 ht hvm hw => hw.elim)
  have hBX : E = _ := hBX
  subst hBX
  have hP := hP.kept (fun k q hq => hk1 _ ((hP k q hq).lt) (Nat.not_le.mpr ((hP k q hq).lt)))
  refine vx_catch (own := RL) (name := "java/lang/IllegalArgumentException") hown ([⟨0, 12, 15, 13⟩] : List ExceptionTableEntry) ⟨0, 12, 19, 15⟩ [] htab (fun z hz => by rcases List.mem_singleton.mp hz with rfl; exact Or.inr ⟨by decide, _, hts _ il_L_spoil_cl13, vx_nAO hV⟩) (by decide) (by decide) (hts _ il_L_spoil_cl15) (va_Nw.use rfl (vx_cIA hV)) hcell hv9 hcl ?_
  refine W.eq (g2 := F0 m 19 ls [.ref q9]) rfl ?_
  refine lv_astore (lv' := [(5, .ref q9), (0, .ref (ad o)), (1, .int (nI x)), (2, .int (nI y)), (3, .int v), (4, .ref (ad lo))]) hx hb dL_spoil_19 hl (by decide) rfl (fun ls hl => ?_)
  refine lv_iconst (v := nI 2) hx hb dL_spoil_21 (by decide) ?_
  exact W.iret (v := nI 2) hx hb hr (fun t ht hW => ⟨⟨_, C, rfl, ⟨rfl, rfl⟩, iB_of ht hP⟩, hS.F ht⟩) hS.2.2 dL_spoil_22
abbrev rL_spoil_v : Room := { frames := 3, cells := 0, slots := 0, locals := 67 }
set_option maxHeartbeats 4000000 in
set_option maxRecDepth 100000 in
theorem wL_spoil (l : Launch) (G : iG) (N : Nat) (ad : Nat → Nat) (C : Nat → va_E) (o : Nat) (S : St) (hcam : Cam G N ad C o S) (lo : Nat) (hlo : lo < N) (hlo9 : lo < o ∨ o + 74 ≤ lo) (f0 : Nat → Int64) (glo : C lo = la G 1 f0) (x y : Nat) (hx8 : x < 8) (hy8 : y < 8) (v : Nat) (hv3 : v < 3) (sz : Nat) : vx_Met l yL_spoil wsL_spoil rL_spoil_v (iPreX G N ad C sz [.ref (ad o), .int (nI x), .int (nI y), .int (nI v), .ref (ad lo)]) (va_Qi (fun (r : Int32) (u : Nat → va_E) => r = nI 0 ∧ OutL G C u o lo (nI (sHw S (8 * y + x))).toInt64) (iB G N ad) (iA N ad sz)) xN 0 0 (iA N ad sz) := by
  refine vx_ofWH (cc := cL_spoil) (maxL := 6) (ret := (some .int)) (hh := [(0, 12, 15, 13), (0, 12, 19, 15)]) (by decide) rfl ?_
  intro p e s m args below meth c s₁ B hml hv
  obtain ⟨rfl, ⟨⟨hsz, hP, hK, hD⟩, hV⟩, hZ⟩ := hv
  have hx := B.exec
  have hb := B.bytes
  have hr := B.returns
  have hts := atoms_spec (ws := wsL_spoil) B.pre
  have htab : c.exceptionTable.toList = [⟨0, 12, 15, 13⟩, ⟨0, 12, 19, 15⟩] := vx_table (x := yL_spoil) B (hts (.codeWith yL_spoil cL_spoil 6 (some .int) [(0, 12, 15, 13), (0, 12, 19, 15)]) List.mem_cons_self)
  have hown : s.vm.findClass RL = some m.cls := findClass_of_methodNamed B.named
  have hlocks := B.notSynchronized
  subst hsz
  have hD := wl_self hD s.heap.size
  have hA : ∀ q : Nat, s.heap.size ≤ q → iA N ad s.heap.size q := fun q h => Or.inr h
  have hS : va_S (iA N ad s.heap.size) s.heap s.heap [] := va_S.rf
  have hP : va_P G.1 vwB (wl N ad C) s.heap := hP
  refine vx_ret ?_
  have hl := lv_entry ([.ref (ad o), .int (nI x), .int (nI y), .int (nI v), .ref (ad lo)]) (n := 6) (Nat.le_of_ble_eq_true rfl)
  rw [lg_entry_eq]
  generalize (lg_sl ([.ref (ad o), .int (nI x), .int (nI y), .int (nI v), .ref (ad lo)]) ++ List.replicate (6 - (lg_sl ([.ref (ad o), .int (nI x), .int (nI y), .int (nI v), .ref (ad lo)])).length) Slot.unset).toArray = ls at hl ⊢
  have hl : lv_has ls 6 [(0, .ref (ad o)), (1, .int (nI x)), (2, .int (nI y)), (3, .int (nI v)), (4, .ref (ad lo))] := hl
  obtain ⟨hN, ⟨ok1, ok2, ok3, ok4, ok5, ok6, ok7, ok8, ok9⟩, h0, ⟨s1, s2, s3⟩, ⟨e1, e2, e3⟩, h7, h8, ⟨TF, tr1, tr2, tr3, tr4, tr5⟩, ⟨TD, dv1, dv2, dv3⟩, ⟨TC, cv1, cv2, cv3⟩, hfr, hfi⟩ := id hcam
  refine lv_aload hx hb dL_spoil_0 (lv_at hl 4 rfl) ?_
  refine lv_iconst (v := nI 0) hx hb dL_spoil_2 (by decide) ?_
  refine lv_aload_n hx hb dL_spoil_3 rfl (lv_at hl 0 rfl) ?_
  refine lv_iload_n hx hb dL_spoil_4 rfl (lv_at hl 1 rfl) ?_
  refine lv_iload_n hx hb dL_spoil_5 rfl (lv_at hl 2 rfl) ?_
  refine lv_iload_n hx hb dL_spoil_6 rfl (lv_at hl 3 rfl) ?_
  refine iw_i (va_runV (As := [.int (nI x), .int (nI y), .int (nI v)]) (rest := [.int (nI 0), .ref (ad lo)]) ⟨hx, hb, hml, hown, hts⟩ (kX6_spoil l G N ad _ o S hcam x y hx8 hy8 v hv3 _) (cwV 3 hts gL_spoil_X6_spoil rfl rfl rfl (by decide +kernel) ⟨Nat.le_of_ble_eq_true rfl, Nat.le_of_ble_eq_true rfl⟩) (iPV hK hP hD (by omega) (h0) rfl [.int (nI x), .int (nI y), .int (nI v)]) rfl rfl hl.1 rfl (lv_room (Nat.le_of_ble_eq_true rfl)) dL_spoil_7 ⟨Nat.le_of_ble_eq_true rfl, Nat.le_of_ble_eq_true rfl⟩) hD hS hA (fun r8 u8 H locs hw8 hP hD hS => ?_)
  obtain ⟨hr8, -, hs8⟩ := hw8
  refine lv_asI hr8 ?_
  refine lv_i2l (v := (nI (sHw S (8 * y + x))).toInt64) hx hb dL_spoil_10 rfl ?_
  refine iw_last hx hb hK hP hD hS hlo (((hs8 _ hlo9).trans glo)) (vp_in_nI (show 0 < 1 by omega) (by omega)) (nI_clamp (by omega)) dL_spoil_11 (fun H locs hP hD hS => ?_)
  refine lv_goto (tgt := 23) hx hb dL_spoil_12 (by decide) ?_
  refine lv_iconst (v := nI 0) hx hb dL_spoil_23 (by decide) ?_
  exact W.iret (v := nI 0) hx hb hr (fun t ht hW => ⟨⟨_, _, rfl, ⟨rfl, ⟨_, va_us _ _ _, rfl⟩, fun j h1 h2 => (va_un _ _ h2).trans (hs8 j h1)⟩, iB_of ht hP⟩, hS.F ht⟩) hS.2.2 dL_spoil_24
abbrev rL_map_x : Room := { frames := 8, cells := 1, slots := 6, locals := 135 }
set_option maxRecDepth 20000 in
theorem il_L_map_cl13 : (Cond.classLink RL 13 "java/lang/IndexOutOfBoundsException") ∈ wsL_map := by decide +kernel
set_option maxHeartbeats 4000000 in
set_option maxRecDepth 100000 in
theorem wL_map_1 (l : Launch) (hst : l.stackTraces = false) (G : iG) (N : Nat) (ad : Nat → Nat) (C : Nat → va_E) (o : Nat) (S : St) (hcam : Cam G N ad C o S) (lo : Nat) (x y b1 : Int32) (h : isPl x y = false) (sz : Nat) : vx_Met l yL_map wsL_map rL_map_x (iPreX G N ad C sz [.ref (ad o), .int x, .int y, .int b1, .ref (ad lo)]) (va_Qi (fun (r : Int32) (u : Nat → va_E) => r = nI 1 ∧ u = C) (iB G N ad) (iA N ad sz)) xN 1 6 (iA N ad sz) := by
  refine vx_ofWH (cc := cL_map) (maxL := 6) (ret := (some .int)) (hh := [(0, 12, 15, 13)]) (by decide) rfl ?_
  intro p e s m args below meth c s₁ B hml hv
  obtain ⟨rfl, ⟨⟨hsz, hP, hK, hD⟩, hV⟩, hZ⟩ := hv
  have hx := B.exec
  have hb := B.bytes
  have hr := B.returns
  have hts := atoms_spec (ws := wsL_map) B.pre
  have htab : c.exceptionTable.toList = [⟨0, 12, 15, 13⟩] := vx_table (x := yL_map) B (hts (.codeWith yL_map cL_map 6 (some .int) [(0, 12, 15, 13)]) List.mem_cons_self)
  have hown : s.vm.findClass RL = some m.cls := findClass_of_methodNamed B.named
  have hlocks := B.notSynchronized
  subst hsz
  have hD := wl_self hD s.heap.size
  have hA : ∀ q : Nat, s.heap.size ≤ q → iA N ad s.heap.size q := fun q h => Or.inr h
  have hS : va_S (iA N ad s.heap.size) s.heap s.heap [] := va_S.rf
  have hP : va_P G.1 vwB (wl N ad C) s.heap := hP
  refine vx_ret ?_
  have hl := lv_entry ([.ref (ad o), .int x, .int y, .int b1, .ref (ad lo)]) (n := 6) (Nat.le_of_ble_eq_true rfl)
  rw [lg_entry_eq]
  generalize (lg_sl ([.ref (ad o), .int x, .int y, .int b1, .ref (ad lo)]) ++ List.replicate (6 - (lg_sl ([.ref (ad o), .int x, .int y, .int b1, .ref (ad lo)])).length) Slot.unset).toArray = ls at hl ⊢
  have hl : lv_has ls 6 [(0, .ref (ad o)), (1, .int x), (2, .int y), (3, .int b1), (4, .ref (ad lo))] := hl
  obtain ⟨hN, ⟨ok1, ok2, ok3, ok4, ok5, ok6, ok7, ok8, ok9⟩, h0, ⟨s1, s2, s3⟩, ⟨e1, e2, e3⟩, h7, h8, ⟨TF, tr1, tr2, tr3, tr4, tr5⟩, ⟨TD, dv1, dv2, dv3⟩, ⟨TC, cv1, cv2, cv3⟩, hfr, hfi⟩ := id hcam
  refine lv_aload hx hb dL_map_0 (lv_at hl 4 rfl) ?_
  refine lv_iconst (v := nI 0) hx hb dL_map_2 (by decide) ?_
  refine lv_aload_n hx hb dL_map_3 rfl (lv_at hl 0 rfl) ?_
  refine lv_iload_n hx hb dL_map_4 rfl (lv_at hl 1 rfl) ?_
  refine lv_iload_n hx hb dL_map_5 rfl (lv_at hl 2 rfl) ?_
  refine lv_iload_n hx hb dL_map_6 rfl (lv_at hl 3 rfl) ?_
  refine vx_calli (vx_runV (As := [.int x, .int y, .int b1]) (rest := [.int (nI 0), .ref (ad lo)]) ⟨hx, hb, hml, hown, hts⟩ (xX6_map_1 l hst G N ad _ o S hcam x y b1 h _) (cwV 3 hts gL_map_X6_map rfl rfl rfl (by decide +kernel) ⟨Nat.le_of_ble_eq_true rfl, Nat.le_of_ble_eq_true rfl⟩) (xPV hK hV hZ (va_S.rf (A := fun q : Nat => s.heap.size ≤ q) (H0 := s.heap)) (fun q h => h) hP hD (by omega) (h0) rfl [.int x, .int y, .int b1]) rfl rfl hl.1 rfl (lv_room (Nat.le_of_ble_eq_true rfl)) dL_map_7 ⟨Nat.le_of_ble_eq_true rfl, Nat.le_of_ble_eq_true rfl⟩) hS (fun q h1 h2 => absurd h1 (Nat.not_lt.mpr h2)) (fun q h => hA q (Nat.le_trans hS.1 h)) (fun q h1 h2 => absurd h1 (Nat.not_lt.mpr h2)) (fun E ce q9 u t H1 locs1 ht hvm hpx hBX hz1 hk1 hS hcell hv9 hcl => ?_) (fun r u t H1 locs1 ht hvm hw => hw.elim)
  have hBX : E = _ := hBX
  subst hBX
  have hP := hP.kept (fun k q hq => hk1 _ ((hP k q hq).lt) (Nat.not_le.mpr ((hP k q hq).lt)))
  refine vx_catch (own := RL) (name := "java/lang/IndexOutOfBoundsException") hown ([] : List ExceptionTableEntry) ⟨0, 12, 15, 13⟩ [] htab (fun z hz => absurd hz List.not_mem_nil) (by decide) (by decide) (hts _ il_L_map_cl13) (va_Nw.use rfl (vx_cIO hV)) hcell hv9 hcl ?_
  refine W.eq (g2 := F0 m 15 ls [.ref q9]) rfl ?_
  refine lv_astore (lv' := [(5, .ref q9), (0, .ref (ad o)), (1, .int x), (2, .int y), (3, .int b1), (4, .ref (ad lo))]) hx hb dL_map_15 hl (by decide) rfl (fun ls hl => ?_)
  refine lv_iconst (v := nI 1) hx hb dL_map_17 (by decide) ?_
  exact W.iret (v := nI 1) hx hb hr (fun t ht hW => ⟨⟨_, C, rfl, ⟨rfl, rfl⟩, iB_of ht hP⟩, hS.F ht⟩) hS.2.2 dL_map_18
abbrev rL_map_v : Room := { frames := 3, cells := 0, slots := 0, locals := 65 }
set_option maxHeartbeats 4000000 in
set_option maxRecDepth 100000 in
theorem wL_map (l : Launch) (G : iG) (N : Nat) (ad : Nat → Nat) (C : Nat → va_E) (o : Nat) (S : St) (hcam : Cam G N ad C o S) (lo : Nat) (hlo : lo < N) (hlo9 : lo < o ∨ o + 74 ≤ lo) (f0 : Nat → Int64) (glo : C lo = la G 1 f0) (x y : Nat) (hx8 : x < 8) (hy8 : y < 8) (b1 : Bool) (sz : Nat) : vx_Met l yL_map wsL_map rL_map_v (iPreX G N ad C sz [.ref (ad o), .int (nI x), .int (nI y), .int (if b1 then nI 1 else nI 0), .ref (ad lo)]) (va_Qi (fun (r : Int32) (u : Nat → va_E) => r = nI 0 ∧ OutL G C u o lo (nI (ctN (va_up (sMp S) (8 * y + x) b1) 64)).toInt64) (iB G N ad) (iA N ad sz)) xN 0 0 (iA N ad sz) := by
  refine vx_ofWH (cc := cL_map) (maxL := 6) (ret := (some .int)) (hh := [(0, 12, 15, 13)]) (by decide) rfl ?_
  intro p e s m args below meth c s₁ B hml hv
  obtain ⟨rfl, ⟨⟨hsz, hP, hK, hD⟩, hV⟩, hZ⟩ := hv
  have hx := B.exec
  have hb := B.bytes
  have hr := B.returns
  have hts := atoms_spec (ws := wsL_map) B.pre
  have htab : c.exceptionTable.toList = [⟨0, 12, 15, 13⟩] := vx_table (x := yL_map) B (hts (.codeWith yL_map cL_map 6 (some .int) [(0, 12, 15, 13)]) List.mem_cons_self)
  have hown : s.vm.findClass RL = some m.cls := findClass_of_methodNamed B.named
  have hlocks := B.notSynchronized
  subst hsz
  have hD := wl_self hD s.heap.size
  have hA : ∀ q : Nat, s.heap.size ≤ q → iA N ad s.heap.size q := fun q h => Or.inr h
  have hS : va_S (iA N ad s.heap.size) s.heap s.heap [] := va_S.rf
  have hP : va_P G.1 vwB (wl N ad C) s.heap := hP
  refine vx_ret ?_
  have hl := lv_entry ([.ref (ad o), .int (nI x), .int (nI y), .int (if b1 then nI 1 else nI 0), .ref (ad lo)]) (n := 6) (Nat.le_of_ble_eq_true rfl)
  rw [lg_entry_eq]
  generalize (lg_sl ([.ref (ad o), .int (nI x), .int (nI y), .int (if b1 then nI 1 else nI 0), .ref (ad lo)]) ++ List.replicate (6 - (lg_sl ([.ref (ad o), .int (nI x), .int (nI y), .int (if b1 then nI 1 else nI 0), .ref (ad lo)])).length) Slot.unset).toArray = ls at hl ⊢
  have hl : lv_has ls 6 [(0, .ref (ad o)), (1, .int (nI x)), (2, .int (nI y)), (3, .int (if b1 then nI 1 else nI 0)), (4, .ref (ad lo))] := hl
  obtain ⟨hN, ⟨ok1, ok2, ok3, ok4, ok5, ok6, ok7, ok8, ok9⟩, h0, ⟨s1, s2, s3⟩, ⟨e1, e2, e3⟩, h7, h8, ⟨TF, tr1, tr2, tr3, tr4, tr5⟩, ⟨TD, dv1, dv2, dv3⟩, ⟨TC, cv1, cv2, cv3⟩, hfr, hfi⟩ := id hcam
  refine lv_aload hx hb dL_map_0 (lv_at hl 4 rfl) ?_
  refine lv_iconst (v := nI 0) hx hb dL_map_2 (by decide) ?_
  refine lv_aload_n hx hb dL_map_3 rfl (lv_at hl 0 rfl) ?_
  refine lv_iload_n hx hb dL_map_4 rfl (lv_at hl 1 rfl) ?_
  refine lv_iload_n hx hb dL_map_5 rfl (lv_at hl 2 rfl) ?_
  refine lv_iload_n hx hb dL_map_6 rfl (lv_at hl 3 rfl) ?_
  refine iw_i (va_runV (As := [.int (nI x), .int (nI y), .int (if b1 then nI 1 else nI 0)]) (rest := [.int (nI 0), .ref (ad lo)]) ⟨hx, hb, hml, hown, hts⟩ (kX6_map l G N ad _ o S hcam x y hx8 hy8 b1 _) (cwV 3 hts gL_map_X6_map rfl rfl rfl (by decide +kernel) ⟨Nat.le_of_ble_eq_true rfl, Nat.le_of_ble_eq_true rfl⟩) (iPV hK hP hD (by omega) (h0) rfl [.int (nI x), .int (nI y), .int (if b1 then nI 1 else nI 0)]) rfl rfl hl.1 rfl (lv_room (Nat.le_of_ble_eq_true rfl)) dL_map_7 ⟨Nat.le_of_ble_eq_true rfl, Nat.le_of_ble_eq_true rfl⟩) hD hS hA (fun r8 u8 H locs hw8 hP hD hS => ?_)
  obtain ⟨hr8, -, hs8⟩ := hw8
  refine lv_asI hr8 ?_
  refine lv_i2l (v := (nI (ctN (va_up (sMp S) (8 * y + x) b1) 64)).toInt64) hx hb dL_map_10 rfl ?_
  refine iw_last hx hb hK hP hD hS hlo (((hs8 _ hlo9).trans glo)) (vp_in_nI (show 0 < 1 by omega) (by omega)) (nI_clamp (by omega)) dL_map_11 (fun H locs hP hD hS => ?_)
  refine lv_goto (tgt := 19) hx hb dL_map_12 (by decide) ?_
  refine lv_iconst (v := nI 0) hx hb dL_map_19 (by decide) ?_
  exact W.iret (v := nI 0) hx hb hr (fun t ht hW => ⟨⟨_, _, rfl, ⟨rfl, ⟨_, va_us _ _ _, rfl⟩, fun j h1 h2 => (va_un _ _ h2).trans (hs8 j h1)⟩, iB_of ht hP⟩, hS.F ht⟩) hS.2.2 dL_map_20
abbrev rL_take_x : Room := { frames := 9, cells := 1, slots := 6, locals := 156 }
set_option maxRecDepth 20000 in
theorem il_L_take_cl15 : (Cond.classLink RL 15 "java/lang/IllegalArgumentException") ∈ wsL_take := by decide +kernel
set_option maxHeartbeats 4000000 in
set_option maxRecDepth 100000 in
theorem wL_take_1 (l : Launch) (hst : l.stackTraces = false) (G : iG) (N : Nat) (ad : Nat → Nat) (C : Nat → va_E) (o : Nat) (S : St) (hcam : Cam G N ad C o S) (lo : Nat) (t1 g1 : Int32) (h : t1 < nI 1 ∨ nI 64 < t1) (sz : Nat) : vx_Met l yL_take wsL_take rL_take_x (iPreX G N ad C sz [.ref (ad o), .int t1, .int g1, .ref (ad lo)]) (va_Qi (fun (r : Int32) (u : Nat → va_E) => r = nI 1 ∧ u = C) (iB G N ad) (iA N ad sz)) xN 1 6 (iA N ad sz) := by
  refine vx_ofWH (cc := cL_take) (maxL := 5) (ret := (some .int)) (hh := [(0, 10, 13, 15), (0, 10, 17, 32)]) (by decide) rfl ?_
  intro p e s m args below meth c s₁ B hml hv
  obtain ⟨rfl, ⟨⟨hsz, hP, hK, hD⟩, hV⟩, hZ⟩ := hv
  have hx := B.exec
  have hb := B.bytes
  have hr := B.returns
  have hts := atoms_spec (ws := wsL_take) B.pre
  have htab : c.exceptionTable.toList = [⟨0, 10, 13, 15⟩, ⟨0, 10, 17, 32⟩] := vx_table (x := yL_take) B (hts (.codeWith yL_take cL_take 5 (some .int) [(0, 10, 13, 15), (0, 10, 17, 32)]) List.mem_cons_self)
  have hown : s.vm.findClass RL = some m.cls := findClass_of_methodNamed B.named
  have hlocks := B.notSynchronized
  subst hsz
  have hD := wl_self hD s.heap.size
  have hA : ∀ q : Nat, s.heap.size ≤ q → iA N ad s.heap.size q := fun q h => Or.inr h
  have hS : va_S (iA N ad s.heap.size) s.heap s.heap [] := va_S.rf
  have hP : va_P G.1 vwB (wl N ad C) s.heap := hP
  refine vx_ret ?_
  have hl := lv_entry ([.ref (ad o), .int t1, .int g1, .ref (ad lo)]) (n := 5) (Nat.le_of_ble_eq_true rfl)
  rw [lg_entry_eq]
  generalize (lg_sl ([.ref (ad o), .int t1, .int g1, .ref (ad lo)]) ++ List.replicate (5 - (lg_sl ([.ref (ad o), .int t1, .int g1, .ref (ad lo)])).length) Slot.unset).toArray = ls at hl ⊢
  have hl : lv_has ls 5 [(0, .ref (ad o)), (1, .int t1), (2, .int g1), (3, .ref (ad lo))] := hl
  obtain ⟨hN, ⟨ok1, ok2, ok3, ok4, ok5, ok6, ok7, ok8, ok9⟩, h0, ⟨s1, s2, s3⟩, ⟨e1, e2, e3⟩, h7, h8, ⟨TF, tr1, tr2, tr3, tr4, tr5⟩, ⟨TD, dv1, dv2, dv3⟩, ⟨TC, cv1, cv2, cv3⟩, hfr, hfi⟩ := id hcam
  refine lv_aload_n hx hb dL_take_0 rfl (lv_at hl 3 rfl) ?_
  refine lv_iconst (v := nI 0) hx hb dL_take_1 (by decide) ?_
  refine lv_aload_n hx hb dL_take_2 rfl (lv_at hl 0 rfl) ?_
  refine lv_iload_n hx hb dL_take_3 rfl (lv_at hl 1 rfl) ?_
  refine lv_iload_n hx hb dL_take_4 rfl (lv_at hl 2 rfl) ?_
  refine vx_calli (vx_runV (As := [.int t1, .int g1]) (rest := [.int (nI 0), .ref (ad lo)]) ⟨hx, hb, hml, hown, hts⟩ (xX6_take_1 l hst G N ad _ o S hcam t1 g1 h _) (cwV 2 hts gL_take_X6_take rfl rfl rfl (by decide +kernel) ⟨Nat.le_of_ble_eq_true rfl, Nat.le_of_ble_eq_true rfl⟩) (xPV hK hV hZ (va_S.rf (A := fun q : Nat => s.heap.size ≤ q) (H0 := s.heap)) (fun q h => h) hP hD (by omega) (h0) rfl [.int t1, .int g1]) rfl rfl hl.1 rfl (lv_room (Nat.le_of_ble_eq_true rfl)) dL_take_5 ⟨Nat.le_of_ble_eq_true rfl, Nat.le_of_ble_eq_true rfl⟩) hS (fun q h1 h2 => absurd h1 (Nat.not_lt.mpr h2)) (fun q h => hA q (Nat.le_trans hS.1 h)) (fun q h1 h2 => absurd h1 (Nat.not_lt.mpr h2)) (fun E ce q9 u t H1 locs1 ht hvm hpx hBX hz1 hk1 hS hcell hv9 hcl => ?_) (fun r u t H1 locs1 ht hvm hw => hw.elim)
  have hBX : E = _ := hBX
  subst hBX
  have hP := hP.kept (fun k q hq => hk1 _ ((hP k q hq).lt) (Nat.not_le.mpr ((hP k q hq).lt)))
  refine vx_catch (own := RL) (name := "java/lang/IllegalArgumentException") hown ([] : List ExceptionTableEntry) ⟨0, 10, 13, 15⟩ [⟨0, 10, 17, 32⟩] htab (fun z hz => absurd hz List.not_mem_nil) (by decide) (by decide) (hts _ il_L_take_cl15) (va_Nw.use rfl (vx_cIA hV)) hcell hv9 hcl ?_
  refine W.eq (g2 := F0 m 13 ls [.ref q9]) rfl ?_
  refine lv_astore (lv' := [(4, .ref q9), (0, .ref (ad o)), (1, .int t1), (2, .int g1), (3, .ref (ad lo))]) hx hb dL_take_13 hl (by decide) rfl (fun ls hl => ?_)
  refine lv_iconst (v := nI 1) hx hb dL_take_15 (by decide) ?_
  exact W.iret (v := nI 1) hx hb hr (fun t ht hW => ⟨⟨_, C, rfl, ⟨rfl, rfl⟩, iB_of ht hP⟩, hS.F ht⟩) hS.2.2 dL_take_16
set_option maxHeartbeats 4000000 in
set_option maxRecDepth 100000 in
theorem wL_take_2 (l : Launch) (hst : l.stackTraces = false) (G : iG) (N : Nat) (ad : Nat → Nat) (C : Nat → va_E) (o : Nat) (S : St) (hcam : Cam G N ad C o S) (lo : Nat) (t1 : Nat) (ht : 0 < t1 ∧ t1 < 65) (g1 : Int32) (h : g1 < nI 1 ∨ nI 8 < g1) (sz : Nat) : vx_Met l yL_take wsL_take rL_take_x (iPreX G N ad C sz [.ref (ad o), .int (nI t1), .int g1, .ref (ad lo)]) (va_Qi (fun (r : Int32) (u : Nat → va_E) => r = nI 1 ∧ u = C) (iB G N ad) (iA N ad sz)) xN 1 6 (iA N ad sz) := by
  refine vx_ofWH (cc := cL_take) (maxL := 5) (ret := (some .int)) (hh := [(0, 10, 13, 15), (0, 10, 17, 32)]) (by decide) rfl ?_
  intro p e s m args below meth c s₁ B hml hv
  obtain ⟨rfl, ⟨⟨hsz, hP, hK, hD⟩, hV⟩, hZ⟩ := hv
  have hx := B.exec
  have hb := B.bytes
  have hr := B.returns
  have hts := atoms_spec (ws := wsL_take) B.pre
  have htab : c.exceptionTable.toList = [⟨0, 10, 13, 15⟩, ⟨0, 10, 17, 32⟩] := vx_table (x := yL_take) B (hts (.codeWith yL_take cL_take 5 (some .int) [(0, 10, 13, 15), (0, 10, 17, 32)]) List.mem_cons_self)
  have hown : s.vm.findClass RL = some m.cls := findClass_of_methodNamed B.named
  have hlocks := B.notSynchronized
  subst hsz
  have hD := wl_self hD s.heap.size
  have hA : ∀ q : Nat, s.heap.size ≤ q → iA N ad s.heap.size q := fun q h => Or.inr h
  have hS : va_S (iA N ad s.heap.size) s.heap s.heap [] := va_S.rf
  have hP : va_P G.1 vwB (wl N ad C) s.heap := hP
  refine vx_ret ?_
  have hl := lv_entry ([.ref (ad o), .int (nI t1), .int g1, .ref (ad lo)]) (n := 5) (Nat.le_of_ble_eq_true rfl)
  rw [lg_entry_eq]
  generalize (lg_sl ([.ref (ad o), .int (nI t1), .int g1, .ref (ad lo)]) ++ List.replicate (5 - (lg_sl ([.ref (ad o), .int (nI t1), .int g1, .ref (ad lo)])).length) Slot.unset).toArray = ls at hl ⊢
  have hl : lv_has ls 5 [(0, .ref (ad o)), (1, .int (nI t1)), (2, .int g1), (3, .ref (ad lo))] := hl
  obtain ⟨hN, ⟨ok1, ok2, ok3, ok4, ok5, ok6, ok7, ok8, ok9⟩, h0, ⟨s1, s2, s3⟩, ⟨e1, e2, e3⟩, h7, h8, ⟨TF, tr1, tr2, tr3, tr4, tr5⟩, ⟨TD, dv1, dv2, dv3⟩, ⟨TC, cv1, cv2, cv3⟩, hfr, hfi⟩ := id hcam
  refine lv_aload_n hx hb dL_take_0 rfl (lv_at hl 3 rfl) ?_
  refine lv_iconst (v := nI 0) hx hb dL_take_1 (by decide) ?_
  refine lv_aload_n hx hb dL_take_2 rfl (lv_at hl 0 rfl) ?_
  refine lv_iload_n hx hb dL_take_3 rfl (lv_at hl 1 rfl) ?_
  refine lv_iload_n hx hb dL_take_4 rfl (lv_at hl 2 rfl) ?_
  refine vx_calli (vx_runV (As := [.int (nI t1), .int g1]) (rest := [.int (nI 0), .ref (ad lo)]) ⟨hx, hb, hml, hown, hts⟩ (xX6_take_2 l hst G N ad _ o S hcam t1 ht g1 h _) (cwV 2 hts gL_take_X6_take rfl rfl rfl (by decide +kernel) ⟨Nat.le_of_ble_eq_true rfl, Nat.le_of_ble_eq_true rfl⟩) (xPV hK hV hZ (va_S.rf (A := fun q : Nat => s.heap.size ≤ q) (H0 := s.heap)) (fun q h => h) hP hD (by omega) (h0) rfl [.int (nI t1), .int g1]) rfl rfl hl.1 rfl (lv_room (Nat.le_of_ble_eq_true rfl)) dL_take_5 ⟨Nat.le_of_ble_eq_true rfl, Nat.le_of_ble_eq_true rfl⟩) hS (fun q h1 h2 => absurd h1 (Nat.not_lt.mpr h2)) (fun q h => hA q (Nat.le_trans hS.1 h)) (fun q h1 h2 => absurd h1 (Nat.not_lt.mpr h2)) (fun E ce q9 u t H1 locs1 ht hvm hpx hBX hz1 hk1 hS hcell hv9 hcl => ?_) (fun r u t H1 locs1 ht hvm hw => hw.elim)
  have hBX : E = _ := hBX
  subst hBX
  have hP := hP.kept (fun k q hq => hk1 _ ((hP k q hq).lt) (Nat.not_le.mpr ((hP k q hq).lt)))
  refine vx_catch (own := RL) (name := "java/lang/IllegalArgumentException") hown ([] : List ExceptionTableEntry) ⟨0, 10, 13, 15⟩ [⟨0, 10, 17, 32⟩] htab (fun z hz => absurd hz List.not_mem_nil) (by decide) (by decide) (hts _ il_L_take_cl15) (va_Nw.use rfl (vx_cIA hV)) hcell hv9 hcl ?_
  refine W.eq (g2 := F0 m 13 ls [.ref q9]) rfl ?_
  refine lv_astore (lv' := [(4, .ref q9), (0, .ref (ad o)), (1, .int (nI t1)), (2, .int g1), (3, .ref (ad lo))]) hx hb dL_take_13 hl (by decide) rfl (fun ls hl => ?_)
  refine lv_iconst (v := nI 1) hx hb dL_take_15 (by decide) ?_
  exact W.iret (v := nI 1) hx hb hr (fun t ht hW => ⟨⟨_, C, rfl, ⟨rfl, rfl⟩, iB_of ht hP⟩, hS.F ht⟩) hS.2.2 dL_take_16
abbrev rL_wouldClip_x : Room := { frames := 9, cells := 1, slots := 6, locals := 155 }
set_option maxRecDepth 20000 in
theorem il_L_wouldClip_cl15 : (Cond.classLink RL 15 "java/lang/IllegalArgumentException") ∈ wsL_wouldClip := by decide +kernel
set_option maxHeartbeats 4000000 in
set_option maxRecDepth 100000 in
theorem wL_wouldClip_1 (l : Launch) (hst : l.stackTraces = false) (G : iG) (N : Nat) (ad : Nat → Nat) (C : Nat → va_E) (o : Nat) (S : St) (hcam : Cam G N ad C o S) (lo : Nat) (t1 g1 : Int32) (h : t1 < nI 1 ∨ nI 64 < t1) (sz : Nat) : vx_Met l yL_wouldClip wsL_wouldClip rL_wouldClip_x (iPreX G N ad C sz [.ref (ad o), .int t1, .int g1, .ref (ad lo)]) (va_Qi (fun (r : Int32) (u : Nat → va_E) => r = nI 1 ∧ u = C) (iB G N ad) (iA N ad sz)) xN 1 6 (iA N ad sz) := by
  refine vx_ofWH (cc := cL_wouldClip) (maxL := 5) (ret := (some .int)) (hh := [(0, 10, 13, 15)]) (by decide) rfl ?_
  intro p e s m args below meth c s₁ B hml hv
  obtain ⟨rfl, ⟨⟨hsz, hP, hK, hD⟩, hV⟩, hZ⟩ := hv
  have hx := B.exec
  have hb := B.bytes
  have hr := B.returns
  have hts := atoms_spec (ws := wsL_wouldClip) B.pre
  have htab : c.exceptionTable.toList = [⟨0, 10, 13, 15⟩] := vx_table (x := yL_wouldClip) B (hts (.codeWith yL_wouldClip cL_wouldClip 5 (some .int) [(0, 10, 13, 15)]) List.mem_cons_self)
  have hown : s.vm.findClass RL = some m.cls := findClass_of_methodNamed B.named
  have hlocks := B.notSynchronized
  subst hsz
  have hD := wl_self hD s.heap.size
  have hA : ∀ q : Nat, s.heap.size ≤ q → iA N ad s.heap.size q := fun q h => Or.inr h
  have hS : va_S (iA N ad s.heap.size) s.heap s.heap [] := va_S.rf
  have hP : va_P G.1 vwB (wl N ad C) s.heap := hP
  refine vx_ret ?_
  have hl := lv_entry ([.ref (ad o), .int t1, .int g1, .ref (ad lo)]) (n := 5) (Nat.le_of_ble_eq_true rfl)
  rw [lg_entry_eq]
  generalize (lg_sl ([.ref (ad o), .int t1, .int g1, .ref (ad lo)]) ++ List.replicate (5 - (lg_sl ([.ref (ad o), .int t1, .int g1, .ref (ad lo)])).length) Slot.unset).toArray = ls at hl ⊢
  have hl : lv_has ls 5 [(0, .ref (ad o)), (1, .int t1), (2, .int g1), (3, .ref (ad lo))] := hl
  obtain ⟨hN, ⟨ok1, ok2, ok3, ok4, ok5, ok6, ok7, ok8, ok9⟩, h0, ⟨s1, s2, s3⟩, ⟨e1, e2, e3⟩, h7, h8, ⟨TF, tr1, tr2, tr3, tr4, tr5⟩, ⟨TD, dv1, dv2, dv3⟩, ⟨TC, cv1, cv2, cv3⟩, hfr, hfi⟩ := id hcam
  refine lv_aload_n hx hb dL_wouldClip_0 rfl (lv_at hl 3 rfl) ?_
  refine lv_iconst (v := nI 0) hx hb dL_wouldClip_1 (by decide) ?_
  refine lv_aload_n hx hb dL_wouldClip_2 rfl (lv_at hl 0 rfl) ?_
  refine lv_iload_n hx hb dL_wouldClip_3 rfl (lv_at hl 1 rfl) ?_
  refine lv_iload_n hx hb dL_wouldClip_4 rfl (lv_at hl 2 rfl) ?_
  refine vx_calli (vx_runV (As := [.int t1, .int g1]) (rest := [.int (nI 0), .ref (ad lo)]) ⟨hx, hb, hml, hown, hts⟩ (xX6_wouldClip_1 l hst G N ad _ o S hcam t1 g1 h _) (cwV 2 hts gL_wouldClip_X6_wouldClip rfl rfl rfl (by decide +kernel) ⟨Nat.le_of_ble_eq_true rfl, Nat.le_of_ble_eq_true rfl⟩) (xPV hK hV hZ (va_S.rf (A := fun q : Nat => s.heap.size ≤ q) (H0 := s.heap)) (fun q h => h) hP hD (by omega) (h0) rfl [.int t1, .int g1]) rfl rfl hl.1 rfl (lv_room (Nat.le_of_ble_eq_true rfl)) dL_wouldClip_5 ⟨Nat.le_of_ble_eq_true rfl, Nat.le_of_ble_eq_true rfl⟩) hS (fun q h1 h2 => absurd h1 (Nat.not_lt.mpr h2)) (fun q h => hA q (Nat.le_trans hS.1 h)) (fun q h1 h2 => absurd h1 (Nat.not_lt.mpr h2)) (fun E ce q9 u t H1 locs1 ht hvm hpx hBX hz1 hk1 hS hcell hv9 hcl => ?_) (fun r u t H1 locs1 ht hvm hw => hw.elim)
  have hBX : E = _ := hBX
  subst hBX
  have hP := hP.kept (fun k q hq => hk1 _ ((hP k q hq).lt) (Nat.not_le.mpr ((hP k q hq).lt)))
  refine vx_catch (own := RL) (name := "java/lang/IllegalArgumentException") hown ([] : List ExceptionTableEntry) ⟨0, 10, 13, 15⟩ [] htab (fun z hz => absurd hz List.not_mem_nil) (by decide) (by decide) (hts _ il_L_wouldClip_cl15) (va_Nw.use rfl (vx_cIA hV)) hcell hv9 hcl ?_
  refine W.eq (g2 := F0 m 13 ls [.ref q9]) rfl ?_
  refine lv_astore (lv' := [(4, .ref q9), (0, .ref (ad o)), (1, .int t1), (2, .int g1), (3, .ref (ad lo))]) hx hb dL_wouldClip_13 hl (by decide) rfl (fun ls hl => ?_)
  refine lv_iconst (v := nI 1) hx hb dL_wouldClip_15 (by decide) ?_
  exact W.iret (v := nI 1) hx hb hr (fun t ht hW => ⟨⟨_, C, rfl, ⟨rfl, rfl⟩, iB_of ht hP⟩, hS.F ht⟩) hS.2.2 dL_wouldClip_16
set_option maxHeartbeats 4000000 in
set_option maxRecDepth 100000 in
theorem wL_wouldClip_2 (l : Launch) (hst : l.stackTraces = false) (G : iG) (N : Nat) (ad : Nat → Nat) (C : Nat → va_E) (o : Nat) (S : St) (hcam : Cam G N ad C o S) (lo : Nat) (t1 : Nat) (ht : 0 < t1 ∧ t1 < 65) (g1 : Int32) (h : g1 < nI 1 ∨ nI 8 < g1) (sz : Nat) : vx_Met l yL_wouldClip wsL_wouldClip rL_wouldClip_x (iPreX G N ad C sz [.ref (ad o), .int (nI t1), .int g1, .ref (ad lo)]) (va_Qi (fun (r : Int32) (u : Nat → va_E) => r = nI 1 ∧ u = C) (iB G N ad) (iA N ad sz)) xN 1 6 (iA N ad sz) := by
  refine vx_ofWH (cc := cL_wouldClip) (maxL := 5) (ret := (some .int)) (hh := [(0, 10, 13, 15)]) (by decide) rfl ?_
  intro p e s m args below meth c s₁ B hml hv
  obtain ⟨rfl, ⟨⟨hsz, hP, hK, hD⟩, hV⟩, hZ⟩ := hv
  have hx := B.exec
  have hb := B.bytes
  have hr := B.returns
  have hts := atoms_spec (ws := wsL_wouldClip) B.pre
  have htab : c.exceptionTable.toList = [⟨0, 10, 13, 15⟩] := vx_table (x := yL_wouldClip) B (hts (.codeWith yL_wouldClip cL_wouldClip 5 (some .int) [(0, 10, 13, 15)]) List.mem_cons_self)
  have hown : s.vm.findClass RL = some m.cls := findClass_of_methodNamed B.named
  have hlocks := B.notSynchronized
  subst hsz
  have hD := wl_self hD s.heap.size
  have hA : ∀ q : Nat, s.heap.size ≤ q → iA N ad s.heap.size q := fun q h => Or.inr h
  have hS : va_S (iA N ad s.heap.size) s.heap s.heap [] := va_S.rf
  have hP : va_P G.1 vwB (wl N ad C) s.heap := hP
  refine vx_ret ?_
  have hl := lv_entry ([.ref (ad o), .int (nI t1), .int g1, .ref (ad lo)]) (n := 5) (Nat.le_of_ble_eq_true rfl)
  rw [lg_entry_eq]
  generalize (lg_sl ([.ref (ad o), .int (nI t1), .int g1, .ref (ad lo)]) ++ List.replicate (5 - (lg_sl ([.ref (ad o), .int (nI t1), .int g1, .ref (ad lo)])).length) Slot.unset).toArray = ls at hl ⊢
  have hl : lv_has ls 5 [(0, .ref (ad o)), (1, .int (nI t1)), (2, .int g1), (3, .ref (ad lo))] := hl
  obtain ⟨hN, ⟨ok1, ok2, ok3, ok4, ok5, ok6, ok7, ok8, ok9⟩, h0, ⟨s1, s2, s3⟩, ⟨e1, e2, e3⟩, h7, h8, ⟨TF, tr1, tr2, tr3, tr4, tr5⟩, ⟨TD, dv1, dv2, dv3⟩, ⟨TC, cv1, cv2, cv3⟩, hfr, hfi⟩ := id hcam
  refine lv_aload_n hx hb dL_wouldClip_0 rfl (lv_at hl 3 rfl) ?_
  refine lv_iconst (v := nI 0) hx hb dL_wouldClip_1 (by decide) ?_
  refine lv_aload_n hx hb dL_wouldClip_2 rfl (lv_at hl 0 rfl) ?_
  refine lv_iload_n hx hb dL_wouldClip_3 rfl (lv_at hl 1 rfl) ?_
  refine lv_iload_n hx hb dL_wouldClip_4 rfl (lv_at hl 2 rfl) ?_
  refine vx_calli (vx_runV (As := [.int (nI t1), .int g1]) (rest := [.int (nI 0), .ref (ad lo)]) ⟨hx, hb, hml, hown, hts⟩ (xX6_wouldClip_2 l hst G N ad _ o S hcam t1 ht g1 h _) (cwV 2 hts gL_wouldClip_X6_wouldClip rfl rfl rfl (by decide +kernel) ⟨Nat.le_of_ble_eq_true rfl, Nat.le_of_ble_eq_true rfl⟩) (xPV hK hV hZ (va_S.rf (A := fun q : Nat => s.heap.size ≤ q) (H0 := s.heap)) (fun q h => h) hP hD (by omega) (h0) rfl [.int (nI t1), .int g1]) rfl rfl hl.1 rfl (lv_room (Nat.le_of_ble_eq_true rfl)) dL_wouldClip_5 ⟨Nat.le_of_ble_eq_true rfl, Nat.le_of_ble_eq_true rfl⟩) hS (fun q h1 h2 => absurd h1 (Nat.not_lt.mpr h2)) (fun q h => hA q (Nat.le_trans hS.1 h)) (fun q h1 h2 => absurd h1 (Nat.not_lt.mpr h2)) (fun E ce q9 u t H1 locs1 ht hvm hpx hBX hz1 hk1 hS hcell hv9 hcl => ?_) (fun r u t H1 locs1 ht hvm hw => hw.elim)
  have hBX : E = _ := hBX
  subst hBX
  have hP := hP.kept (fun k q hq => hk1 _ ((hP k q hq).lt) (Nat.not_le.mpr ((hP k q hq).lt)))
  refine vx_catch (own := RL) (name := "java/lang/IllegalArgumentException") hown ([] : List ExceptionTableEntry) ⟨0, 10, 13, 15⟩ [] htab (fun z hz => absurd hz List.not_mem_nil) (by decide) (by decide) (hts _ il_L_wouldClip_cl15) (va_Nw.use rfl (vx_cIA hV)) hcell hv9 hcl ?_
  refine W.eq (g2 := F0 m 13 ls [.ref q9]) rfl ?_
  refine lv_astore (lv' := [(4, .ref q9), (0, .ref (ad o)), (1, .int (nI t1)), (2, .int g1), (3, .ref (ad lo))]) hx hb dL_wouldClip_13 hl (by decide) rfl (fun ls hl => ?_)
  refine lv_iconst (v := nI 1) hx hb dL_wouldClip_15 (by decide) ?_
  exact W.iret (v := nI 1) hx hb hr (fun t ht hW => ⟨⟨_, C, rfl, ⟨rfl, rfl⟩, iB_of ht hP⟩, hS.F ht⟩) hS.2.2 dL_wouldClip_16
abbrev rL_take_v : Room := { frames := 4, cells := 0, slots := 0, locals := 97 }
set_option maxHeartbeats 4000000 in
set_option maxRecDepth 100000 in
theorem wL_take (l : Launch) (G : iG) (N : Nat) (ad : Nat → Nat) (C : Nat → va_E) (o : Nat) (S : St) (hcam : Cam G N ad C o S) (lo : Nat) (hlo : lo < N) (hlo9 : lo < o ∨ o + 74 ≤ lo) (f0 : Nat → Int64) (glo : C lo = la G 1 f0) (t1 g1 : Nat) (ht : 0 < t1 ∧ t1 < 65) (hg : 0 < g1 ∧ g1 < 9) (hfn : sFn S < 6) (sz : Nat) : vx_Met l yL_take wsL_take rL_take_v (iPreX G N ad C sz [.ref (ad o), .int (nI t1), .int (nI g1), .ref (ad lo)]) (va_Qi (fun (r : Int32) (u : Nat → va_E) => r = nI 0 ∧ OutL G C u o lo (nI (sFn S)).toInt64) (iB G N ad) (iA N ad sz)) xN 0 0 (iA N ad sz) := by
  refine vx_ofWH (cc := cL_take) (maxL := 5) (ret := (some .int)) (hh := [(0, 10, 13, 15), (0, 10, 17, 32)]) (by decide) rfl ?_
  intro p e s m args below meth c s₁ B hml hv
  obtain ⟨rfl, ⟨⟨hsz, hP, hK, hD⟩, hV⟩, hZ⟩ := hv
  have hx := B.exec
  have hb := B.bytes
  have hr := B.returns
  have hts := atoms_spec (ws := wsL_take) B.pre
  have htab : c.exceptionTable.toList = [⟨0, 10, 13, 15⟩, ⟨0, 10, 17, 32⟩] := vx_table (x := yL_take) B (hts (.codeWith yL_take cL_take 5 (some .int) [(0, 10, 13, 15), (0, 10, 17, 32)]) List.mem_cons_self)
  have hown : s.vm.findClass RL = some m.cls := findClass_of_methodNamed B.named
  have hlocks := B.notSynchronized
  subst hsz
  have hD := wl_self hD s.heap.size
  have hA : ∀ q : Nat, s.heap.size ≤ q → iA N ad s.heap.size q := fun q h => Or.inr h
  have hS : va_S (iA N ad s.heap.size) s.heap s.heap [] := va_S.rf
  have hP : va_P G.1 vwB (wl N ad C) s.heap := hP
  refine vx_ret ?_
  have hl := lv_entry ([.ref (ad o), .int (nI t1), .int (nI g1), .ref (ad lo)]) (n := 5) (Nat.le_of_ble_eq_true rfl)
  rw [lg_entry_eq]
  generalize (lg_sl ([.ref (ad o), .int (nI t1), .int (nI g1), .ref (ad lo)]) ++ List.replicate (5 - (lg_sl ([.ref (ad o), .int (nI t1), .int (nI g1), .ref (ad lo)])).length) Slot.unset).toArray = ls at hl ⊢
  have hl : lv_has ls 5 [(0, .ref (ad o)), (1, .int (nI t1)), (2, .int (nI g1)), (3, .ref (ad lo))] := hl
  obtain ⟨hN, ⟨ok1, ok2, ok3, ok4, ok5, ok6, ok7, ok8, ok9⟩, h0, ⟨s1, s2, s3⟩, ⟨e1, e2, e3⟩, h7, h8, ⟨TF, tr1, tr2, tr3, tr4, tr5⟩, ⟨TD, dv1, dv2, dv3⟩, ⟨TC, cv1, cv2, cv3⟩, hfr, hfi⟩ := id hcam
  refine lv_aload_n hx hb dL_take_0 rfl (lv_at hl 3 rfl) ?_
  refine lv_iconst (v := nI 0) hx hb dL_take_1 (by decide) ?_
  refine lv_aload_n hx hb dL_take_2 rfl (lv_at hl 0 rfl) ?_
  refine lv_iload_n hx hb dL_take_3 rfl (lv_at hl 1 rfl) ?_
  refine lv_iload_n hx hb dL_take_4 rfl (lv_at hl 2 rfl) ?_
  refine iw_i (va_runV (As := [.int (nI t1), .int (nI g1)]) (rest := [.int (nI 0), .ref (ad lo)]) ⟨hx, hb, hml, hown, hts⟩ (kX6_take l G N ad _ o S hcam t1 g1 ht hg hfn _) (cwV 2 hts gL_take_X6_take rfl rfl rfl (by decide +kernel) ⟨Nat.le_of_ble_eq_true rfl, Nat.le_of_ble_eq_true rfl⟩) (iPV hK hP hD (by omega) (h0) rfl [.int (nI t1), .int (nI g1)]) rfl rfl hl.1 rfl (lv_room (Nat.le_of_ble_eq_true rfl)) dL_take_5 ⟨Nat.le_of_ble_eq_true rfl, Nat.le_of_ble_eq_true rfl⟩) hD hS hA (fun r8 u8 H locs hw8 hP hD hS => ?_)
  obtain ⟨hr8, -, hs8⟩ := hw8
  refine lv_asI hr8 ?_
  refine lv_i2l (v := (nI (sFn S)).toInt64) hx hb dL_take_8 rfl ?_
  refine iw_last hx hb hK hP hD hS hlo (((hs8 _ hlo9).trans glo)) (vp_in_nI (show 0 < 1 by omega) (by omega)) (nI_clamp (by omega)) dL_take_9 (fun H locs hP hD hS => ?_)
  refine lv_goto (tgt := 21) hx hb dL_take_10 (by decide) ?_
  refine lv_iconst (v := nI 0) hx hb dL_take_21 (by decide) ?_
  exact W.iret (v := nI 0) hx hb hr (fun t ht hW => ⟨⟨_, _, rfl, ⟨rfl, ⟨_, va_us _ _ _, rfl⟩, fun j h1 h2 => (va_un _ _ h2).trans (hs8 j h1)⟩, iB_of ht hP⟩, hS.F ht⟩) hS.2.2 dL_take_22
abbrev rL_wouldClip_v : Room := { frames := 4, cells := 0, slots := 0, locals := 96 }
set_option maxHeartbeats 4000000 in
set_option maxRecDepth 100000 in
theorem wL_wouldClip (l : Launch) (G : iG) (N : Nat) (ad : Nat → Nat) (C : Nat → va_E) (o : Nat) (S : St) (hcam : Cam G N ad C o S) (lo : Nat) (hlo : lo < N) (hlo9 : lo < o ∨ o + 74 ≤ lo) (f0 : Nat → Int64) (glo : C lo = la G 1 f0) (t1 g1 : Nat) (ht : 0 < t1 ∧ t1 < 65) (hg : 0 < g1 ∧ g1 < 9) (sz : Nat) : vx_Met l yL_wouldClip wsL_wouldClip rL_wouldClip_v (iPreX G N ad C sz [.ref (ad o), .int (nI t1), .int (nI g1), .ref (ad lo)]) (va_Qi (fun (r : Int32) (u : Nat → va_E) => r = nI 0 ∧ OutL G C u o lo (nI (clN (exN (sHw S) (sSh S) (sFac S) (sDr S) t1 g1) 64)).toInt64) (iB G N ad) (iA N ad sz)) xN 0 0 (iA N ad sz) := by
  refine vx_ofWH (cc := cL_wouldClip) (maxL := 5) (ret := (some .int)) (hh := [(0, 10, 13, 15)]) (by decide) rfl ?_
  intro p e s m args below meth c s₁ B hml hv
  obtain ⟨rfl, ⟨⟨hsz, hP, hK, hD⟩, hV⟩, hZ⟩ := hv
  have hx := B.exec
  have hb := B.bytes
  have hr := B.returns
  have hts := atoms_spec (ws := wsL_wouldClip) B.pre
  have htab : c.exceptionTable.toList = [⟨0, 10, 13, 15⟩] := vx_table (x := yL_wouldClip) B (hts (.codeWith yL_wouldClip cL_wouldClip 5 (some .int) [(0, 10, 13, 15)]) List.mem_cons_self)
  have hown : s.vm.findClass RL = some m.cls := findClass_of_methodNamed B.named
  have hlocks := B.notSynchronized
  subst hsz
  have hD := wl_self hD s.heap.size
  have hA : ∀ q : Nat, s.heap.size ≤ q → iA N ad s.heap.size q := fun q h => Or.inr h
  have hS : va_S (iA N ad s.heap.size) s.heap s.heap [] := va_S.rf
  have hP : va_P G.1 vwB (wl N ad C) s.heap := hP
  refine vx_ret ?_
  have hl := lv_entry ([.ref (ad o), .int (nI t1), .int (nI g1), .ref (ad lo)]) (n := 5) (Nat.le_of_ble_eq_true rfl)
  rw [lg_entry_eq]
  generalize (lg_sl ([.ref (ad o), .int (nI t1), .int (nI g1), .ref (ad lo)]) ++ List.replicate (5 - (lg_sl ([.ref (ad o), .int (nI t1), .int (nI g1), .ref (ad lo)])).length) Slot.unset).toArray = ls at hl ⊢
  have hl : lv_has ls 5 [(0, .ref (ad o)), (1, .int (nI t1)), (2, .int (nI g1)), (3, .ref (ad lo))] := hl
  obtain ⟨hN, ⟨ok1, ok2, ok3, ok4, ok5, ok6, ok7, ok8, ok9⟩, h0, ⟨s1, s2, s3⟩, ⟨e1, e2, e3⟩, h7, h8, ⟨TF, tr1, tr2, tr3, tr4, tr5⟩, ⟨TD, dv1, dv2, dv3⟩, ⟨TC, cv1, cv2, cv3⟩, hfr, hfi⟩ := id hcam
  refine lv_aload_n hx hb dL_wouldClip_0 rfl (lv_at hl 3 rfl) ?_
  refine lv_iconst (v := nI 0) hx hb dL_wouldClip_1 (by decide) ?_
  refine lv_aload_n hx hb dL_wouldClip_2 rfl (lv_at hl 0 rfl) ?_
  refine lv_iload_n hx hb dL_wouldClip_3 rfl (lv_at hl 1 rfl) ?_
  refine lv_iload_n hx hb dL_wouldClip_4 rfl (lv_at hl 2 rfl) ?_
  refine iw_i (va_runV (As := [.int (nI t1), .int (nI g1)]) (rest := [.int (nI 0), .ref (ad lo)]) ⟨hx, hb, hml, hown, hts⟩ (kX6_wouldClip l G N ad _ o S hcam t1 g1 ht hg _) (cwV 2 hts gL_wouldClip_X6_wouldClip rfl rfl rfl (by decide +kernel) ⟨Nat.le_of_ble_eq_true rfl, Nat.le_of_ble_eq_true rfl⟩) (iPV hK hP hD (by omega) (h0) rfl [.int (nI t1), .int (nI g1)]) rfl rfl hl.1 rfl (lv_room (Nat.le_of_ble_eq_true rfl)) dL_wouldClip_5 ⟨Nat.le_of_ble_eq_true rfl, Nat.le_of_ble_eq_true rfl⟩) hD hS hA (fun r8 u8 H locs hw8 hP hD hS => ?_)
  obtain ⟨hr8, -, hs8⟩ := hw8
  refine lv_asI hr8 ?_
  refine lv_i2l (v := (nI (clN (exN (sHw S) (sSh S) (sFac S) (sDr S) t1 g1) 64)).toInt64) hx hb dL_wouldClip_8 rfl ?_
  refine iw_last hx hb hK hP hD hS hlo (((hs8 _ hlo9).trans glo)) (vp_in_nI (show 0 < 1 by omega) (by omega)) (nI_clamp (by omega)) dL_wouldClip_9 (fun H locs hP hD hS => ?_)
  refine lv_goto (tgt := 17) hx hb dL_wouldClip_10 (by decide) ?_
  refine lv_iconst (v := nI 0) hx hb dL_wouldClip_17 (by decide) ?_
  exact W.iret (v := nI 0) hx hb hr (fun t ht hW => ⟨⟨_, _, rfl, ⟨rfl, ⟨_, va_us _ _ _, rfl⟩, fun j h1 h2 => (va_un _ _ h2).trans (hs8 j h1)⟩, iB_of ht hP⟩, hS.F ht⟩) hS.2.2 dL_wouldClip_18
abbrev rL_merge_x : Room := { frames := 8, cells := 1, slots := 6, locals := 135 }
set_option maxRecDepth 20000 in
theorem il_L_merge_cl15 : (Cond.classLink RL 15 "java/lang/IllegalArgumentException") ∈ wsL_merge := by decide +kernel
set_option maxHeartbeats 4000000 in
set_option maxRecDepth 100000 in
theorem wL_merge_1 (l : Launch) (hst : l.stackTraces = false) (G : iG) (N : Nat) (ad : Nat → Nat) (C : Nat → va_E) (o : Nat) (S : St) (hcam : Cam G N ad C o S) (lo : Nat) (hf0 : sFn S = 0) (k li : Int32) (h : k < nI 0 ∨ nI 0 < k) (sz : Nat) : vx_Met l yL_merge wsL_merge rL_merge_x (iPreX G N ad C sz [.ref (ad o), .int k, .int li, .ref (ad lo)]) (va_Qi (fun (r : Int32) (u : Nat → va_E) => r = nI 1 ∧ u = C) (iB G N ad) (iA N ad sz)) xN 1 6 (iA N ad sz) := by
  refine vx_ofWH (cc := cL_merge) (maxL := 5) (ret := (some .int)) (hh := [(0, 10, 13, 15), (0, 10, 17, 32)]) (by decide) rfl ?_
  intro p e s m args below meth c s₁ B hml hv
  obtain ⟨rfl, ⟨⟨hsz, hP, hK, hD⟩, hV⟩, hZ⟩ := hv
  have hx := B.exec
  have hb := B.bytes
  have hr := B.returns
  have hts := atoms_spec (ws := wsL_merge) B.pre
  have htab : c.exceptionTable.toList = [⟨0, 10, 13, 15⟩, ⟨0, 10, 17, 32⟩] := vx_table (x := yL_merge) B (hts (.codeWith yL_merge cL_merge 5 (some .int) [(0, 10, 13, 15), (0, 10, 17, 32)]) List.mem_cons_self)
  have hown : s.vm.findClass RL = some m.cls := findClass_of_methodNamed B.named
  have hlocks := B.notSynchronized
  subst hsz
  have hD := wl_self hD s.heap.size
  have hA : ∀ q : Nat, s.heap.size ≤ q → iA N ad s.heap.size q := fun q h => Or.inr h
  have hS : va_S (iA N ad s.heap.size) s.heap s.heap [] := va_S.rf
  have hP : va_P G.1 vwB (wl N ad C) s.heap := hP
  refine vx_ret ?_
  have hl := lv_entry ([.ref (ad o), .int k, .int li, .ref (ad lo)]) (n := 5) (Nat.le_of_ble_eq_true rfl)
  rw [lg_entry_eq]
  generalize (lg_sl ([.ref (ad o), .int k, .int li, .ref (ad lo)]) ++ List.replicate (5 - (lg_sl ([.ref (ad o), .int k, .int li, .ref (ad lo)])).length) Slot.unset).toArray = ls at hl ⊢
  have hl : lv_has ls 5 [(0, .ref (ad o)), (1, .int k), (2, .int li), (3, .ref (ad lo))] := hl
  obtain ⟨hN, ⟨ok1, ok2, ok3, ok4, ok5, ok6, ok7, ok8, ok9⟩, h0, ⟨s1, s2, s3⟩, ⟨e1, e2, e3⟩, h7, h8, ⟨TF, tr1, tr2, tr3, tr4, tr5⟩, ⟨TD, dv1, dv2, dv3⟩, ⟨TC, cv1, cv2, cv3⟩, hfr, hfi⟩ := id hcam
  refine lv_aload_n hx hb dL_merge_0 rfl (lv_at hl 3 rfl) ?_
  refine lv_iconst (v := nI 0) hx hb dL_merge_1 (by decide) ?_
  refine lv_aload_n hx hb dL_merge_2 rfl (lv_at hl 0 rfl) ?_
  refine lv_iload_n hx hb dL_merge_3 rfl (lv_at hl 1 rfl) ?_
  refine lv_iload_n hx hb dL_merge_4 rfl (lv_at hl 2 rfl) ?_
  refine vx_calli (vx_runV (As := [.int k, .int li]) (rest := [.int (nI 0), .ref (ad lo)]) ⟨hx, hb, hml, hown, hts⟩ (xX6_merge_1 l hst G N ad _ o S hcam hf0 k li h _) (cwV 2 hts gL_merge_X6_merge rfl rfl rfl (by decide +kernel) ⟨Nat.le_of_ble_eq_true rfl, Nat.le_of_ble_eq_true rfl⟩) (xPV hK hV hZ (va_S.rf (A := fun q : Nat => s.heap.size ≤ q) (H0 := s.heap)) (fun q h => h) hP hD (by omega) (h0) rfl [.int k, .int li]) rfl rfl hl.1 rfl (lv_room (Nat.le_of_ble_eq_true rfl)) dL_merge_5 ⟨Nat.le_of_ble_eq_true rfl, Nat.le_of_ble_eq_true rfl⟩) hS (fun q h1 h2 => absurd h1 (Nat.not_lt.mpr h2)) (fun q h => hA q (Nat.le_trans hS.1 h)) (fun q h1 h2 => absurd h1 (Nat.not_lt.mpr h2)) (fun E ce q9 u t H1 locs1 ht hvm hpx hBX hz1 hk1 hS hcell hv9 hcl => ?_) (fun r u t H1 locs1 ht hvm hw => hw.elim)
  have hBX : E = _ := hBX
  subst hBX
  have hP := hP.kept (fun k q hq => hk1 _ ((hP k q hq).lt) (Nat.not_le.mpr ((hP k q hq).lt)))
  refine vx_catch (own := RL) (name := "java/lang/IllegalArgumentException") hown ([] : List ExceptionTableEntry) ⟨0, 10, 13, 15⟩ [⟨0, 10, 17, 32⟩] htab (fun z hz => absurd hz List.not_mem_nil) (by decide) (by decide) (hts _ il_L_merge_cl15) (va_Nw.use rfl (vx_cIA hV)) hcell hv9 hcl ?_
  refine W.eq (g2 := F0 m 13 ls [.ref q9]) rfl ?_
  refine lv_astore (lv' := [(4, .ref q9), (0, .ref (ad o)), (1, .int k), (2, .int li), (3, .ref (ad lo))]) hx hb dL_merge_13 hl (by decide) rfl (fun ls hl => ?_)
  refine lv_iconst (v := nI 1) hx hb dL_merge_15 (by decide) ?_
  exact W.iret (v := nI 1) hx hb hr (fun t ht hW => ⟨⟨_, C, rfl, ⟨rfl, rfl⟩, iB_of ht hP⟩, hS.F ht⟩) hS.2.2 dL_merge_16
set_option maxHeartbeats 4000000 in
set_option maxRecDepth 100000 in
theorem wL_merge_2 (l : Launch) (hst : l.stackTraces = false) (G : iG) (N : Nat) (ad : Nat → Nat) (C : Nat → va_E) (o : Nat) (S : St) (hcam : Cam G N ad C o S) (lo : Nat) (hf0 : sFn S = 0) (li : Int32) (sz : Nat) : vx_Met l yL_merge wsL_merge rL_merge_x (iPreX G N ad C sz [.ref (ad o), .int (nI 0), .int li, .ref (ad lo)]) (va_Qi (fun (r : Int32) (u : Nat → va_E) => r = nI 1 ∧ u = C) (iB G N ad) (iA N ad sz)) xN 1 6 (iA N ad sz) := by
  refine vx_ofWH (cc := cL_merge) (maxL := 5) (ret := (some .int)) (hh := [(0, 10, 13, 15), (0, 10, 17, 32)]) (by decide) rfl ?_
  intro p e s m args below meth c s₁ B hml hv
  obtain ⟨rfl, ⟨⟨hsz, hP, hK, hD⟩, hV⟩, hZ⟩ := hv
  have hx := B.exec
  have hb := B.bytes
  have hr := B.returns
  have hts := atoms_spec (ws := wsL_merge) B.pre
  have htab : c.exceptionTable.toList = [⟨0, 10, 13, 15⟩, ⟨0, 10, 17, 32⟩] := vx_table (x := yL_merge) B (hts (.codeWith yL_merge cL_merge 5 (some .int) [(0, 10, 13, 15), (0, 10, 17, 32)]) List.mem_cons_self)
  have hown : s.vm.findClass RL = some m.cls := findClass_of_methodNamed B.named
  have hlocks := B.notSynchronized
  subst hsz
  have hD := wl_self hD s.heap.size
  have hA : ∀ q : Nat, s.heap.size ≤ q → iA N ad s.heap.size q := fun q h => Or.inr h
  have hS : va_S (iA N ad s.heap.size) s.heap s.heap [] := va_S.rf
  have hP : va_P G.1 vwB (wl N ad C) s.heap := hP
  refine vx_ret ?_
  have hl := lv_entry ([.ref (ad o), .int (nI 0), .int li, .ref (ad lo)]) (n := 5) (Nat.le_of_ble_eq_true rfl)
  rw [lg_entry_eq]
  generalize (lg_sl ([.ref (ad o), .int (nI 0), .int li, .ref (ad lo)]) ++ List.replicate (5 - (lg_sl ([.ref (ad o), .int (nI 0), .int li, .ref (ad lo)])).length) Slot.unset).toArray = ls at hl ⊢
  have hl : lv_has ls 5 [(0, .ref (ad o)), (1, .int (nI 0)), (2, .int li), (3, .ref (ad lo))] := hl
  obtain ⟨hN, ⟨ok1, ok2, ok3, ok4, ok5, ok6, ok7, ok8, ok9⟩, h0, ⟨s1, s2, s3⟩, ⟨e1, e2, e3⟩, h7, h8, ⟨TF, tr1, tr2, tr3, tr4, tr5⟩, ⟨TD, dv1, dv2, dv3⟩, ⟨TC, cv1, cv2, cv3⟩, hfr, hfi⟩ := id hcam
  refine lv_aload_n hx hb dL_merge_0 rfl (lv_at hl 3 rfl) ?_
  refine lv_iconst (v := nI 0) hx hb dL_merge_1 (by decide) ?_
  refine lv_aload_n hx hb dL_merge_2 rfl (lv_at hl 0 rfl) ?_
  refine lv_iload_n hx hb dL_merge_3 rfl (lv_at hl 1 rfl) ?_
  refine lv_iload_n hx hb dL_merge_4 rfl (lv_at hl 2 rfl) ?_
  refine vx_calli (vx_runV (As := [.int (nI 0), .int li]) (rest := [.int (nI 0), .ref (ad lo)]) ⟨hx, hb, hml, hown, hts⟩ (xX6_merge_2 l hst G N ad _ o S hcam hf0 li _) (cwV 2 hts gL_merge_X6_merge rfl rfl rfl (by decide +kernel) ⟨Nat.le_of_ble_eq_true rfl, Nat.le_of_ble_eq_true rfl⟩) (xPV hK hV hZ (va_S.rf (A := fun q : Nat => s.heap.size ≤ q) (H0 := s.heap)) (fun q h => h) hP hD (by omega) (h0) rfl [.int (nI 0), .int li]) rfl rfl hl.1 rfl (lv_room (Nat.le_of_ble_eq_true rfl)) dL_merge_5 ⟨Nat.le_of_ble_eq_true rfl, Nat.le_of_ble_eq_true rfl⟩) hS (fun q h1 h2 => absurd h1 (Nat.not_lt.mpr h2)) (fun q h => hA q (Nat.le_trans hS.1 h)) (fun q h1 h2 => absurd h1 (Nat.not_lt.mpr h2)) (fun E ce q9 u t H1 locs1 ht hvm hpx hBX hz1 hk1 hS hcell hv9 hcl => ?_) (fun r u t H1 locs1 ht hvm hw => hw.elim)
  have hBX : E = _ := hBX
  subst hBX
  have hP := hP.kept (fun k q hq => hk1 _ ((hP k q hq).lt) (Nat.not_le.mpr ((hP k q hq).lt)))
  refine vx_catch (own := RL) (name := "java/lang/IllegalArgumentException") hown ([] : List ExceptionTableEntry) ⟨0, 10, 13, 15⟩ [⟨0, 10, 17, 32⟩] htab (fun z hz => absurd hz List.not_mem_nil) (by decide) (by decide) (hts _ il_L_merge_cl15) (va_Nw.use rfl (vx_cIA hV)) hcell hv9 hcl ?_
  refine W.eq (g2 := F0 m 13 ls [.ref q9]) rfl ?_
  refine lv_astore (lv' := [(4, .ref q9), (0, .ref (ad o)), (1, .int (nI 0)), (2, .int li), (3, .ref (ad lo))]) hx hb dL_merge_13 hl (by decide) rfl (fun ls hl => ?_)
  refine lv_iconst (v := nI 1) hx hb dL_merge_15 (by decide) ?_
  exact W.iret (v := nI 1) hx hb hr (fun t ht hW => ⟨⟨_, C, rfl, ⟨rfl, rfl⟩, iB_of ht hP⟩, hS.F ht⟩) hS.2.2 dL_merge_16
abbrev rL_edit_x : Room := { frames := 8, cells := 1, slots := 6, locals := 135 }
set_option maxRecDepth 20000 in
theorem il_L_edit_cl13 : (Cond.classLink RL 13 "java/lang/IndexOutOfBoundsException") ∈ wsL_edit := by decide +kernel
set_option maxHeartbeats 4000000 in
set_option maxRecDepth 100000 in
theorem wL_edit_1 (l : Launch) (hst : l.stackTraces = false) (G : iG) (N : Nat) (ad : Nat → Nat) (C : Nat → va_E) (o : Nat) (S : St) (hcam : Cam G N ad C o S) (lo : Nat) (k y0 y1 : Int32) (h : k < 0 ∨ nI (sFn S) ≤ k) (sz : Nat) : vx_Met l yL_edit wsL_edit rL_edit_x (iPreX G N ad C sz [.ref (ad o), .int k, .int y0, .int y1, .ref (ad lo)]) (va_Qi (fun (r : Int32) (u : Nat → va_E) => r = nI 1 ∧ u = C) (iB G N ad) (iA N ad sz)) xN 1 6 (iA N ad sz) := by
  refine vx_ofWH (cc := cL_edit) (maxL := 6) (ret := (some .int)) (hh := [(0, 12, 15, 13), (0, 12, 19, 15), (0, 12, 23, 32)]) (by decide) rfl ?_
  intro p e s m args below meth c s₁ B hml hv
  obtain ⟨rfl, ⟨⟨hsz, hP, hK, hD⟩, hV⟩, hZ⟩ := hv
  have hx := B.exec
  have hb := B.bytes
  have hr := B.returns
  have hts := atoms_spec (ws := wsL_edit) B.pre
  have htab : c.exceptionTable.toList = [⟨0, 12, 15, 13⟩, ⟨0, 12, 19, 15⟩, ⟨0, 12, 23, 32⟩] := vx_table (x := yL_edit) B (hts (.codeWith yL_edit cL_edit 6 (some .int) [(0, 12, 15, 13), (0, 12, 19, 15), (0, 12, 23, 32)]) List.mem_cons_self)
  have hown : s.vm.findClass RL = some m.cls := findClass_of_methodNamed B.named
  have hlocks := B.notSynchronized
  subst hsz
  have hD := wl_self hD s.heap.size
  have hA : ∀ q : Nat, s.heap.size ≤ q → iA N ad s.heap.size q := fun q h => Or.inr h
  have hS : va_S (iA N ad s.heap.size) s.heap s.heap [] := va_S.rf
  have hP : va_P G.1 vwB (wl N ad C) s.heap := hP
  refine vx_ret ?_
  have hl := lv_entry ([.ref (ad o), .int k, .int y0, .int y1, .ref (ad lo)]) (n := 6) (Nat.le_of_ble_eq_true rfl)
  rw [lg_entry_eq]
  generalize (lg_sl ([.ref (ad o), .int k, .int y0, .int y1, .ref (ad lo)]) ++ List.replicate (6 - (lg_sl ([.ref (ad o), .int k, .int y0, .int y1, .ref (ad lo)])).length) Slot.unset).toArray = ls at hl ⊢
  have hl : lv_has ls 6 [(0, .ref (ad o)), (1, .int k), (2, .int y0), (3, .int y1), (4, .ref (ad lo))] := hl
  obtain ⟨hN, ⟨ok1, ok2, ok3, ok4, ok5, ok6, ok7, ok8, ok9⟩, h0, ⟨s1, s2, s3⟩, ⟨e1, e2, e3⟩, h7, h8, ⟨TF, tr1, tr2, tr3, tr4, tr5⟩, ⟨TD, dv1, dv2, dv3⟩, ⟨TC, cv1, cv2, cv3⟩, hfr, hfi⟩ := id hcam
  refine lv_aload hx hb dL_edit_0 (lv_at hl 4 rfl) ?_
  refine lv_iconst (v := nI 0) hx hb dL_edit_2 (by decide) ?_
  refine lv_aload_n hx hb dL_edit_3 rfl (lv_at hl 0 rfl) ?_
  refine lv_iload_n hx hb dL_edit_4 rfl (lv_at hl 1 rfl) ?_
  refine lv_iload_n hx hb dL_edit_5 rfl (lv_at hl 2 rfl) ?_
  refine lv_iload_n hx hb dL_edit_6 rfl (lv_at hl 3 rfl) ?_
  refine vx_calli (vx_runV (As := [.int k, .int y0, .int y1]) (rest := [.int (nI 0), .ref (ad lo)]) ⟨hx, hb, hml, hown, hts⟩ (xX6_edit_1 l hst G N ad _ o S hcam k y0 y1 h _) (cwV 3 hts gL_edit_X6_edit rfl rfl rfl (by decide +kernel) ⟨Nat.le_of_ble_eq_true rfl, Nat.le_of_ble_eq_true rfl⟩) (xPV hK hV hZ (va_S.rf (A := fun q : Nat => s.heap.size ≤ q) (H0 := s.heap)) (fun q h => h) hP hD (by omega) (h0) rfl [.int k, .int y0, .int y1]) rfl rfl hl.1 rfl (lv_room (Nat.le_of_ble_eq_true rfl)) dL_edit_7 ⟨Nat.le_of_ble_eq_true rfl, Nat.le_of_ble_eq_true rfl⟩) hS (fun q h1 h2 => absurd h1 (Nat.not_lt.mpr h2)) (fun q h => hA q (Nat.le_trans hS.1 h)) (fun q h1 h2 => absurd h1 (Nat.not_lt.mpr h2)) (fun E ce q9 u t H1 locs1 ht hvm hpx hBX hz1 hk1 hS hcell hv9 hcl => ?_) (fun r u t H1 locs1 ht hvm hw => hw.elim)
  have hBX : E = _ := hBX
  subst hBX
  have hP := hP.kept (fun k q hq => hk1 _ ((hP k q hq).lt) (Nat.not_le.mpr ((hP k q hq).lt)))
  refine vx_catch (own := RL) (name := "java/lang/IndexOutOfBoundsException") hown ([] : List ExceptionTableEntry) ⟨0, 12, 15, 13⟩ [⟨0, 12, 19, 15⟩, ⟨0, 12, 23, 32⟩] htab (fun z hz => absurd hz List.not_mem_nil) (by decide) (by decide) (hts _ il_L_edit_cl13) (va_Nw.use rfl (vx_cIO hV)) hcell hv9 hcl ?_
  refine W.eq (g2 := F0 m 15 ls [.ref q9]) rfl ?_
  refine lv_astore (lv' := [(5, .ref q9), (0, .ref (ad o)), (1, .int k), (2, .int y0), (3, .int y1), (4, .ref (ad lo))]) hx hb dL_edit_15 hl (by decide) rfl (fun ls hl => ?_)
  refine lv_iconst (v := nI 1) hx hb dL_edit_17 (by decide) ?_
  exact W.iret (v := nI 1) hx hb hr (fun t ht hW => ⟨⟨_, C, rfl, ⟨rfl, rfl⟩, iB_of ht hP⟩, hS.F ht⟩) hS.2.2 dL_edit_18
abbrev rL_undo_x : Room := { frames := 8, cells := 1, slots := 6, locals := 132 }
set_option maxRecDepth 20000 in
theorem il_L_undo_cl13 : (Cond.classLink RL 13 "java/lang/IndexOutOfBoundsException") ∈ wsL_undo := by decide +kernel
set_option maxHeartbeats 4000000 in
set_option maxRecDepth 100000 in
theorem wL_undo_1 (l : Launch) (hst : l.stackTraces = false) (G : iG) (N : Nat) (ad : Nat → Nat) (C : Nat → va_E) (o : Nat) (S : St) (hcam : Cam G N ad C o S) (lo : Nat) (k : Int32) (h : k < 0 ∨ nI (sFn S) ≤ k) (sz : Nat) : vx_Met l yL_undo wsL_undo rL_undo_x (iPreX G N ad C sz [.ref (ad o), .int k, .ref (ad lo)]) (va_Qi (fun (r : Int32) (u : Nat → va_E) => r = nI 1 ∧ u = C) (iB G N ad) (iA N ad sz)) xN 1 6 (iA N ad sz) := by
  refine vx_ofWH (cc := cL_undo) (maxL := 4) (ret := (some .int)) (hh := [(0, 9, 12, 13)]) (by decide) rfl ?_
  intro p e s m args below meth c s₁ B hml hv
  obtain ⟨rfl, ⟨⟨hsz, hP, hK, hD⟩, hV⟩, hZ⟩ := hv
  have hx := B.exec
  have hb := B.bytes
  have hr := B.returns
  have hts := atoms_spec (ws := wsL_undo) B.pre
  have htab : c.exceptionTable.toList = [⟨0, 9, 12, 13⟩] := vx_table (x := yL_undo) B (hts (.codeWith yL_undo cL_undo 4 (some .int) [(0, 9, 12, 13)]) List.mem_cons_self)
  have hown : s.vm.findClass RL = some m.cls := findClass_of_methodNamed B.named
  have hlocks := B.notSynchronized
  subst hsz
  have hD := wl_self hD s.heap.size
  have hA : ∀ q : Nat, s.heap.size ≤ q → iA N ad s.heap.size q := fun q h => Or.inr h
  have hS : va_S (iA N ad s.heap.size) s.heap s.heap [] := va_S.rf
  have hP : va_P G.1 vwB (wl N ad C) s.heap := hP
  refine vx_ret ?_
  have hl := lv_entry ([.ref (ad o), .int k, .ref (ad lo)]) (n := 4) (Nat.le_of_ble_eq_true rfl)
  rw [lg_entry_eq]
  generalize (lg_sl ([.ref (ad o), .int k, .ref (ad lo)]) ++ List.replicate (4 - (lg_sl ([.ref (ad o), .int k, .ref (ad lo)])).length) Slot.unset).toArray = ls at hl ⊢
  have hl : lv_has ls 4 [(0, .ref (ad o)), (1, .int k), (2, .ref (ad lo))] := hl
  obtain ⟨hN, ⟨ok1, ok2, ok3, ok4, ok5, ok6, ok7, ok8, ok9⟩, h0, ⟨s1, s2, s3⟩, ⟨e1, e2, e3⟩, h7, h8, ⟨TF, tr1, tr2, tr3, tr4, tr5⟩, ⟨TD, dv1, dv2, dv3⟩, ⟨TC, cv1, cv2, cv3⟩, hfr, hfi⟩ := id hcam
  refine lv_aload_n hx hb dL_undo_0 rfl (lv_at hl 2 rfl) ?_
  refine lv_iconst (v := nI 0) hx hb dL_undo_1 (by decide) ?_
  refine lv_aload_n hx hb dL_undo_2 rfl (lv_at hl 0 rfl) ?_
  refine lv_iload_n hx hb dL_undo_3 rfl (lv_at hl 1 rfl) ?_
  refine vx_calli (vx_runV (As := [.int k]) (rest := [.int (nI 0), .ref (ad lo)]) ⟨hx, hb, hml, hown, hts⟩ (xX6_undo_1 l hst G N ad _ o S hcam k h _) (cwV 1 hts gL_undo_X6_undo rfl rfl rfl (by decide +kernel) ⟨Nat.le_of_ble_eq_true rfl, Nat.le_of_ble_eq_true rfl⟩) (xPV hK hV hZ (va_S.rf (A := fun q : Nat => s.heap.size ≤ q) (H0 := s.heap)) (fun q h => h) hP hD (by omega) (h0) rfl [.int k]) rfl rfl hl.1 rfl (lv_room (Nat.le_of_ble_eq_true rfl)) dL_undo_4 ⟨Nat.le_of_ble_eq_true rfl, Nat.le_of_ble_eq_true rfl⟩) hS (fun q h1 h2 => absurd h1 (Nat.not_lt.mpr h2)) (fun q h => hA q (Nat.le_trans hS.1 h)) (fun q h1 h2 => absurd h1 (Nat.not_lt.mpr h2)) (fun E ce q9 u t H1 locs1 ht hvm hpx hBX hz1 hk1 hS hcell hv9 hcl => ?_) (fun r u t H1 locs1 ht hvm hw => hw.elim)
  have hBX : E = _ := hBX
  subst hBX
  have hP := hP.kept (fun k q hq => hk1 _ ((hP k q hq).lt) (Nat.not_le.mpr ((hP k q hq).lt)))
  refine vx_catch (own := RL) (name := "java/lang/IndexOutOfBoundsException") hown ([] : List ExceptionTableEntry) ⟨0, 9, 12, 13⟩ [] htab (fun z hz => absurd hz List.not_mem_nil) (by decide) (by decide) (hts _ il_L_undo_cl13) (va_Nw.use rfl (vx_cIO hV)) hcell hv9 hcl ?_
  refine W.eq (g2 := F0 m 12 ls [.ref q9]) rfl ?_
  refine lv_astore_n (lv' := [(3, .ref q9), (0, .ref (ad o)), (1, .int k), (2, .ref (ad lo))]) hx hb dL_undo_12 rfl hl (by decide) rfl (fun ls hl => ?_)
  refine lv_iconst (v := nI 1) hx hb dL_undo_13 (by decide) ?_
  exact W.iret (v := nI 1) hx hb hr (fun t ht hW => ⟨⟨_, C, rfl, ⟨rfl, rfl⟩, iB_of ht hP⟩, hS.F ht⟩) hS.2.2 dL_undo_14
abbrev rL_save_x : Room := { frames := 8, cells := 1, slots := 6, locals := 133 }
set_option maxRecDepth 20000 in
theorem il_L_save_cl13 : (Cond.classLink RL 13 "java/lang/IndexOutOfBoundsException") ∈ wsL_save := by decide +kernel
set_option maxHeartbeats 4000000 in
set_option maxRecDepth 100000 in
theorem wL_save_1 (l : Launch) (hst : l.stackTraces = false) (G : iG) (N : Nat) (ad : Nat → Nat) (C : Nat → va_E) (o : Nat) (S : St) (hcam : Cam G N ad C o S) (lo : Nat) (k : Int32) (h : k < 0 ∨ nI (sFn S) ≤ k) (sz : Nat) : vx_Met l yL_save wsL_save rL_save_x (iPreX G N ad C sz [.ref (ad o), .int k, .ref (ad lo)]) (va_Qi (fun (r : Int32) (u : Nat → va_E) => r = nI 1 ∧ u = C) (iB G N ad) (iA N ad sz)) xN 1 6 (iA N ad sz) := by
  refine vx_ofWH (cc := cL_save) (maxL := 4) (ret := (some .int)) (hh := [(0, 9, 12, 13), (0, 9, 15, 32)]) (by decide) rfl ?_
  intro p e s m args below meth c s₁ B hml hv
  obtain ⟨rfl, ⟨⟨hsz, hP, hK, hD⟩, hV⟩, hZ⟩ := hv
  have hx := B.exec
  have hb := B.bytes
  have hr := B.returns
  have hts := atoms_spec (ws := wsL_save) B.pre
  have htab : c.exceptionTable.toList = [⟨0, 9, 12, 13⟩, ⟨0, 9, 15, 32⟩] := vx_table (x := yL_save) B (hts (.codeWith yL_save cL_save 4 (some .int) [(0, 9, 12, 13), (0, 9, 15, 32)]) List.mem_cons_self)
  have hown : s.vm.findClass RL = some m.cls := findClass_of_methodNamed B.named
  have hlocks := B.notSynchronized
  subst hsz
  have hD := wl_self hD s.heap.size
  have hA : ∀ q : Nat, s.heap.size ≤ q → iA N ad s.heap.size q := fun q h => Or.inr h
  have hS : va_S (iA N ad s.heap.size) s.heap s.heap [] := va_S.rf
  have hP : va_P G.1 vwB (wl N ad C) s.heap := hP
  refine vx_ret ?_
  have hl := lv_entry ([.ref (ad o), .int k, .ref (ad lo)]) (n := 4) (Nat.le_of_ble_eq_true rfl)
  rw [lg_entry_eq]
  generalize (lg_sl ([.ref (ad o), .int k, .ref (ad lo)]) ++ List.replicate (4 - (lg_sl ([.ref (ad o), .int k, .ref (ad lo)])).length) Slot.unset).toArray = ls at hl ⊢
  have hl : lv_has ls 4 [(0, .ref (ad o)), (1, .int k), (2, .ref (ad lo))] := hl
  obtain ⟨hN, ⟨ok1, ok2, ok3, ok4, ok5, ok6, ok7, ok8, ok9⟩, h0, ⟨s1, s2, s3⟩, ⟨e1, e2, e3⟩, h7, h8, ⟨TF, tr1, tr2, tr3, tr4, tr5⟩, ⟨TD, dv1, dv2, dv3⟩, ⟨TC, cv1, cv2, cv3⟩, hfr, hfi⟩ := id hcam
  refine lv_aload_n hx hb dL_save_0 rfl (lv_at hl 2 rfl) ?_
  refine lv_iconst (v := nI 0) hx hb dL_save_1 (by decide) ?_
  refine lv_aload_n hx hb dL_save_2 rfl (lv_at hl 0 rfl) ?_
  refine lv_iload_n hx hb dL_save_3 rfl (lv_at hl 1 rfl) ?_
  refine vx_calli (vx_runV (As := [.int k]) (rest := [.int (nI 0), .ref (ad lo)]) ⟨hx, hb, hml, hown, hts⟩ (xX6_save_1 l hst G N ad _ o S hcam k h _) (cwV 1 hts gL_save_X6_save rfl rfl rfl (by decide +kernel) ⟨Nat.le_of_ble_eq_true rfl, Nat.le_of_ble_eq_true rfl⟩) (xPV hK hV hZ (va_S.rf (A := fun q : Nat => s.heap.size ≤ q) (H0 := s.heap)) (fun q h => h) hP hD (by omega) (h0) rfl [.int k]) rfl rfl hl.1 rfl (lv_room (Nat.le_of_ble_eq_true rfl)) dL_save_4 ⟨Nat.le_of_ble_eq_true rfl, Nat.le_of_ble_eq_true rfl⟩) hS (fun q h1 h2 => absurd h1 (Nat.not_lt.mpr h2)) (fun q h => hA q (Nat.le_trans hS.1 h)) (fun q h1 h2 => absurd h1 (Nat.not_lt.mpr h2)) (fun E ce q9 u t H1 locs1 ht hvm hpx hBX hz1 hk1 hS hcell hv9 hcl => ?_) (fun r u t H1 locs1 ht hvm hw => hw.elim)
  have hBX : E = _ := hBX
  subst hBX
  have hP := hP.kept (fun k q hq => hk1 _ ((hP k q hq).lt) (Nat.not_le.mpr ((hP k q hq).lt)))
  refine vx_catch (own := RL) (name := "java/lang/IndexOutOfBoundsException") hown ([] : List ExceptionTableEntry) ⟨0, 9, 12, 13⟩ [⟨0, 9, 15, 32⟩] htab (fun z hz => absurd hz List.not_mem_nil) (by decide) (by decide) (hts _ il_L_save_cl13) (va_Nw.use rfl (vx_cIO hV)) hcell hv9 hcl ?_
  refine W.eq (g2 := F0 m 12 ls [.ref q9]) rfl ?_
  refine lv_astore_n (lv' := [(3, .ref q9), (0, .ref (ad o)), (1, .int k), (2, .ref (ad lo))]) hx hb dL_save_12 rfl hl (by decide) rfl (fun ls hl => ?_)
  refine lv_iconst (v := nI 1) hx hb dL_save_13 (by decide) ?_
  exact W.iret (v := nI 1) hx hb hr (fun t ht hW => ⟨⟨_, C, rfl, ⟨rfl, rfl⟩, iB_of ht hP⟩, hS.F ht⟩) hS.2.2 dL_save_14
abbrev rL_raw_x : Room := { frames := 8, cells := 1, slots := 6, locals := 134 }
set_option maxRecDepth 20000 in
theorem il_L_raw_cl13 : (Cond.classLink RL 13 "java/lang/IndexOutOfBoundsException") ∈ wsL_raw := by decide +kernel
set_option maxHeartbeats 4000000 in
set_option maxRecDepth 100000 in
theorem wL_raw_1 (l : Launch) (hst : l.stackTraces = false) (G : iG) (N : Nat) (ad : Nat → Nat) (C : Nat → va_E) (o : Nat) (S : St) (hcam : Cam G N ad C o S) (lo : Nat) (k y0 y1 : Int32) (h : k < 0 ∨ nI (sFn S) ≤ k) (sz : Nat) : vx_Met l yL_raw wsL_raw rL_raw_x (iPreX G N ad C sz [.ref (ad o), .int k, .int y0, .int y1, .ref (ad lo)]) (va_Qi (fun (r : Int32) (u : Nat → va_E) => r = nI 1 ∧ u = C) (iB G N ad) (iA N ad sz)) xN 1 6 (iA N ad sz) := by
  refine vx_ofWH (cc := cL_raw) (maxL := 6) (ret := (some .int)) (hh := [(0, 12, 15, 13)]) (by decide) rfl ?_
  intro p e s m args below meth c s₁ B hml hv
  obtain ⟨rfl, ⟨⟨hsz, hP, hK, hD⟩, hV⟩, hZ⟩ := hv
  have hx := B.exec
  have hb := B.bytes
  have hr := B.returns
  have hts := atoms_spec (ws := wsL_raw) B.pre
  have htab : c.exceptionTable.toList = [⟨0, 12, 15, 13⟩] := vx_table (x := yL_raw) B (hts (.codeWith yL_raw cL_raw 6 (some .int) [(0, 12, 15, 13)]) List.mem_cons_self)
  have hown : s.vm.findClass RL = some m.cls := findClass_of_methodNamed B.named
  have hlocks := B.notSynchronized
  subst hsz
  have hD := wl_self hD s.heap.size
  have hA : ∀ q : Nat, s.heap.size ≤ q → iA N ad s.heap.size q := fun q h => Or.inr h
  have hS : va_S (iA N ad s.heap.size) s.heap s.heap [] := va_S.rf
  have hP : va_P G.1 vwB (wl N ad C) s.heap := hP
  refine vx_ret ?_
  have hl := lv_entry ([.ref (ad o), .int k, .int y0, .int y1, .ref (ad lo)]) (n := 6) (Nat.le_of_ble_eq_true rfl)
  rw [lg_entry_eq]
  generalize (lg_sl ([.ref (ad o), .int k, .int y0, .int y1, .ref (ad lo)]) ++ List.replicate (6 - (lg_sl ([.ref (ad o), .int k, .int y0, .int y1, .ref (ad lo)])).length) Slot.unset).toArray = ls at hl ⊢
  have hl : lv_has ls 6 [(0, .ref (ad o)), (1, .int k), (2, .int y0), (3, .int y1), (4, .ref (ad lo))] := hl
  obtain ⟨hN, ⟨ok1, ok2, ok3, ok4, ok5, ok6, ok7, ok8, ok9⟩, h0, ⟨s1, s2, s3⟩, ⟨e1, e2, e3⟩, h7, h8, ⟨TF, tr1, tr2, tr3, tr4, tr5⟩, ⟨TD, dv1, dv2, dv3⟩, ⟨TC, cv1, cv2, cv3⟩, hfr, hfi⟩ := id hcam
  refine lv_aload hx hb dL_raw_0 (lv_at hl 4 rfl) ?_
  refine lv_iconst (v := nI 0) hx hb dL_raw_2 (by decide) ?_
  refine lv_aload_n hx hb dL_raw_3 rfl (lv_at hl 0 rfl) ?_
  refine lv_iload_n hx hb dL_raw_4 rfl (lv_at hl 1 rfl) ?_
  refine lv_iload_n hx hb dL_raw_5 rfl (lv_at hl 2 rfl) ?_
  refine lv_iload_n hx hb dL_raw_6 rfl (lv_at hl 3 rfl) ?_
  refine vx_calli (vx_runV (As := [.int k, .int y0, .int y1]) (rest := [.int (nI 0), .ref (ad lo)]) ⟨hx, hb, hml, hown, hts⟩ (xX6_raw_1 l hst G N ad _ o S hcam k y0 y1 h _) (cwV 3 hts gL_raw_X6_raw rfl rfl rfl (by decide +kernel) ⟨Nat.le_of_ble_eq_true rfl, Nat.le_of_ble_eq_true rfl⟩) (xPV hK hV hZ (va_S.rf (A := fun q : Nat => s.heap.size ≤ q) (H0 := s.heap)) (fun q h => h) hP hD (by omega) (h0) rfl [.int k, .int y0, .int y1]) rfl rfl hl.1 rfl (lv_room (Nat.le_of_ble_eq_true rfl)) dL_raw_7 ⟨Nat.le_of_ble_eq_true rfl, Nat.le_of_ble_eq_true rfl⟩) hS (fun q h1 h2 => absurd h1 (Nat.not_lt.mpr h2)) (fun q h => hA q (Nat.le_trans hS.1 h)) (fun q h1 h2 => absurd h1 (Nat.not_lt.mpr h2)) (fun E ce q9 u t H1 locs1 ht hvm hpx hBX hz1 hk1 hS hcell hv9 hcl => ?_) (fun r u t H1 locs1 ht hvm hw => hw.elim)
  have hBX : E = _ := hBX
  subst hBX
  have hP := hP.kept (fun k q hq => hk1 _ ((hP k q hq).lt) (Nat.not_le.mpr ((hP k q hq).lt)))
  refine vx_catch (own := RL) (name := "java/lang/IndexOutOfBoundsException") hown ([] : List ExceptionTableEntry) ⟨0, 12, 15, 13⟩ [] htab (fun z hz => absurd hz List.not_mem_nil) (by decide) (by decide) (hts _ il_L_raw_cl13) (va_Nw.use rfl (vx_cIO hV)) hcell hv9 hcl ?_
  refine W.eq (g2 := F0 m 15 ls [.ref q9]) rfl ?_
  refine lv_astore (lv' := [(5, .ref q9), (0, .ref (ad o)), (1, .int k), (2, .int y0), (3, .int y1), (4, .ref (ad lo))]) hx hb dL_raw_15 hl (by decide) rfl (fun ls hl => ?_)
  refine lv_iconst (v := nI 1) hx hb dL_raw_17 (by decide) ?_
  exact W.iret (v := nI 1) hx hb hr (fun t ht hW => ⟨⟨_, C, rfl, ⟨rfl, rfl⟩, iB_of ht hP⟩, hS.F ht⟩) hS.2.2 dL_raw_18
abbrev rL_picture_x : Room := { frames := 8, cells := 1, slots := 6, locals := 135 }
set_option maxRecDepth 20000 in
theorem il_L_picture_cl13 : (Cond.classLink RL 13 "java/lang/IndexOutOfBoundsException") ∈ wsL_picture := by decide +kernel
set_option maxHeartbeats 4000000 in
set_option maxRecDepth 100000 in
theorem wL_picture_1 (l : Launch) (hst : l.stackTraces = false) (G : iG) (N : Nat) (ad : Nat → Nat) (C : Nat → va_E) (o : Nat) (S : St) (hcam : Cam G N ad C o S) (lo : Nat) (k y0 y1 y2 : Int32) (h : k < 0 ∨ nI (sFn S) ≤ k) (sz : Nat) : vx_Met l yL_picture wsL_picture rL_picture_x (iPreX G N ad C sz [.ref (ad o), .int k, .int y0, .int y1, .int y2, .ref (ad lo)]) (va_Qi (fun (r : Int32) (u : Nat → va_E) => r = nI 1 ∧ u = C) (iB G N ad) (iA N ad sz)) xN 1 6 (iA N ad sz) := by
  refine vx_ofWH (cc := cL_picture) (maxL := 7) (ret := (some .int)) (hh := [(0, 13, 16, 13), (0, 13, 20, 15)]) (by decide) rfl ?_
  intro p e s m args below meth c s₁ B hml hv
  obtain ⟨rfl, ⟨⟨hsz, hP, hK, hD⟩, hV⟩, hZ⟩ := hv
  have hx := B.exec
  have hb := B.bytes
  have hr := B.returns
  have hts := atoms_spec (ws := wsL_picture) B.pre
  have htab : c.exceptionTable.toList = [⟨0, 13, 16, 13⟩, ⟨0, 13, 20, 15⟩] := vx_table (x := yL_picture) B (hts (.codeWith yL_picture cL_picture 7 (some .int) [(0, 13, 16, 13), (0, 13, 20, 15)]) List.mem_cons_self)
  have hown : s.vm.findClass RL = some m.cls := findClass_of_methodNamed B.named
  have hlocks := B.notSynchronized
  subst hsz
  have hD := wl_self hD s.heap.size
  have hA : ∀ q : Nat, s.heap.size ≤ q → iA N ad s.heap.size q := fun q h => Or.inr h
  have hS : va_S (iA N ad s.heap.size) s.heap s.heap [] := va_S.rf
  have hP : va_P G.1 vwB (wl N ad C) s.heap := hP
  refine vx_ret ?_
  have hl := lv_entry ([.ref (ad o), .int k, .int y0, .int y1, .int y2, .ref (ad lo)]) (n := 7) (Nat.le_of_ble_eq_true rfl)
  rw [lg_entry_eq]
  generalize (lg_sl ([.ref (ad o), .int k, .int y0, .int y1, .int y2, .ref (ad lo)]) ++ List.replicate (7 - (lg_sl ([.ref (ad o), .int k, .int y0, .int y1, .int y2, .ref (ad lo)])).length) Slot.unset).toArray = ls at hl ⊢
  have hl : lv_has ls 7 [(0, .ref (ad o)), (1, .int k), (2, .int y0), (3, .int y1), (4, .int y2), (5, .ref (ad lo))] := hl
  obtain ⟨hN, ⟨ok1, ok2, ok3, ok4, ok5, ok6, ok7, ok8, ok9⟩, h0, ⟨s1, s2, s3⟩, ⟨e1, e2, e3⟩, h7, h8, ⟨TF, tr1, tr2, tr3, tr4, tr5⟩, ⟨TD, dv1, dv2, dv3⟩, ⟨TC, cv1, cv2, cv3⟩, hfr, hfi⟩ := id hcam
  refine lv_aload hx hb dL_picture_0 (lv_at hl 5 rfl) ?_
  refine lv_iconst (v := nI 0) hx hb dL_picture_2 (by decide) ?_
  refine lv_aload_n hx hb dL_picture_3 rfl (lv_at hl 0 rfl) ?_
  refine lv_iload_n hx hb dL_picture_4 rfl (lv_at hl 1 rfl) ?_
  refine lv_iload_n hx hb dL_picture_5 rfl (lv_at hl 2 rfl) ?_
  refine lv_iload_n hx hb dL_picture_6 rfl (lv_at hl 3 rfl) ?_
  refine lv_iload hx hb dL_picture_7 (lv_at hl 4 rfl) ?_
  refine vx_calld (vx_runV (As := [.int k, .int y0, .int y1, .int y2]) (rest := [.int (nI 0), .ref (ad lo)]) ⟨hx, hb, hml, hown, hts⟩ (xX6_picture_1 l hst G N ad _ o S hcam k y0 y1 y2 h _) (cwV 4 hts gL_picture_X6_picture rfl rfl rfl (by decide +kernel) ⟨Nat.le_of_ble_eq_true rfl, Nat.le_of_ble_eq_true rfl⟩) (xPV hK hV hZ (va_S.rf (A := fun q : Nat => s.heap.size ≤ q) (H0 := s.heap)) (fun q h => h) hP hD (by omega) (h0) rfl [.int k, .int y0, .int y1, .int y2]) rfl rfl hl.1 rfl (lv_room (Nat.le_of_ble_eq_true rfl)) dL_picture_9 ⟨Nat.le_of_ble_eq_true rfl, Nat.le_of_ble_eq_true rfl⟩) hS (fun q h1 h2 => absurd h1 (Nat.not_lt.mpr h2)) (fun q h => hA q (Nat.le_trans hS.1 h)) (fun q h1 h2 => absurd h1 (Nat.not_lt.mpr h2)) (fun E ce q9 u t H1 locs1 ht hvm hpx hBX hz1 hk1 hS hcell hv9 hcl => ?_) (fun r u t H1 locs1 ht hvm hw => hw.elim)
  have hBX : E = _ := hBX
  subst hBX
  have hP := hP.kept (fun k q hq => hk1 _ ((hP k q hq).lt) (Nat.not_le.mpr ((hP k q hq).lt)))
  refine vx_catch (own := RL) (name := "java/lang/IndexOutOfBoundsException") hown ([] : List ExceptionTableEntry) ⟨0, 13, 16, 13⟩ [⟨0, 13, 20, 15⟩] htab (fun z hz => absurd hz List.not_mem_nil) (by decide) (by decide) (hts _ il_L_picture_cl13) (va_Nw.use rfl (vx_cIO hV)) hcell hv9 hcl ?_
  refine W.eq (g2 := F0 m 16 ls [.ref q9]) rfl ?_
  refine lv_astore (lv' := [(6, .ref q9), (0, .ref (ad o)), (1, .int k), (2, .int y0), (3, .int y1), (4, .int y2), (5, .ref (ad lo))]) hx hb dL_picture_16 hl (by decide) rfl (fun ls hl => ?_)
  refine lv_iconst (v := nI 1) hx hb dL_picture_18 (by decide) ?_
  exact W.iret (v := nI 1) hx hb hr (fun t ht hW => ⟨⟨_, C, rfl, ⟨rfl, rfl⟩, iB_of ht hP⟩, hS.F ht⟩) hS.2.2 dL_picture_19
abbrev rL_word_x : Room := { frames := 8, cells := 1, slots := 6, locals := 132 }
set_option maxRecDepth 20000 in
theorem il_L_word_cl13 : (Cond.classLink RL 13 "java/lang/IndexOutOfBoundsException") ∈ wsL_word := by decide +kernel
set_option maxHeartbeats 4000000 in
set_option maxRecDepth 100000 in
theorem wL_word_1 (l : Launch) (hst : l.stackTraces = false) (G : iG) (N : Nat) (ad : Nat → Nat) (C : Nat → va_E) (o : Nat) (S : St) (hcam : Cam G N ad C o S) (lo : Nat) (k : Int32) (h : k < 0 ∨ nI (sFn S) ≤ k) (sz : Nat) : vx_Met l yL_word wsL_word rL_word_x (iPreX G N ad C sz [.ref (ad o), .int k, .ref (ad lo)]) (va_Qi (fun (r : Int32) (u : Nat → va_E) => r = nI 1 ∧ u = C) (iB G N ad) (iA N ad sz)) xN 1 6 (iA N ad sz) := by
  refine vx_ofWH (cc := cL_word) (maxL := 4) (ret := (some .int)) (hh := [(0, 9, 12, 13)]) (by decide) rfl ?_
  intro p e s m args below meth c s₁ B hml hv
  obtain ⟨rfl, ⟨⟨hsz, hP, hK, hD⟩, hV⟩, hZ⟩ := hv
  have hx := B.exec
  have hb := B.bytes
  have hr := B.returns
  have hts := atoms_spec (ws := wsL_word) B.pre
  have htab : c.exceptionTable.toList = [⟨0, 9, 12, 13⟩] := vx_table (x := yL_word) B (hts (.codeWith yL_word cL_word 4 (some .int) [(0, 9, 12, 13)]) List.mem_cons_self)
  have hown : s.vm.findClass RL = some m.cls := findClass_of_methodNamed B.named
  have hlocks := B.notSynchronized
  subst hsz
  have hD := wl_self hD s.heap.size
  have hA : ∀ q : Nat, s.heap.size ≤ q → iA N ad s.heap.size q := fun q h => Or.inr h
  have hS : va_S (iA N ad s.heap.size) s.heap s.heap [] := va_S.rf
  have hP : va_P G.1 vwB (wl N ad C) s.heap := hP
  refine vx_ret ?_
  have hl := lv_entry ([.ref (ad o), .int k, .ref (ad lo)]) (n := 4) (Nat.le_of_ble_eq_true rfl)
  rw [lg_entry_eq]
  generalize (lg_sl ([.ref (ad o), .int k, .ref (ad lo)]) ++ List.replicate (4 - (lg_sl ([.ref (ad o), .int k, .ref (ad lo)])).length) Slot.unset).toArray = ls at hl ⊢
  have hl : lv_has ls 4 [(0, .ref (ad o)), (1, .int k), (2, .ref (ad lo))] := hl
  obtain ⟨hN, ⟨ok1, ok2, ok3, ok4, ok5, ok6, ok7, ok8, ok9⟩, h0, ⟨s1, s2, s3⟩, ⟨e1, e2, e3⟩, h7, h8, ⟨TF, tr1, tr2, tr3, tr4, tr5⟩, ⟨TD, dv1, dv2, dv3⟩, ⟨TC, cv1, cv2, cv3⟩, hfr, hfi⟩ := id hcam
  refine lv_aload_n hx hb dL_word_0 rfl (lv_at hl 2 rfl) ?_
  refine lv_iconst (v := nI 0) hx hb dL_word_1 (by decide) ?_
  refine lv_aload_n hx hb dL_word_2 rfl (lv_at hl 0 rfl) ?_
  refine lv_iload_n hx hb dL_word_3 rfl (lv_at hl 1 rfl) ?_
  refine vx_calli (vx_runV (As := [.int k]) (rest := [.int (nI 0), .ref (ad lo)]) ⟨hx, hb, hml, hown, hts⟩ (xX6_word_1 l hst G N ad _ o S hcam k h _) (cwV 1 hts gL_word_X6_word rfl rfl rfl (by decide +kernel) ⟨Nat.le_of_ble_eq_true rfl, Nat.le_of_ble_eq_true rfl⟩) (xPV hK hV hZ (va_S.rf (A := fun q : Nat => s.heap.size ≤ q) (H0 := s.heap)) (fun q h => h) hP hD (by omega) (h0) rfl [.int k]) rfl rfl hl.1 rfl (lv_room (Nat.le_of_ble_eq_true rfl)) dL_word_4 ⟨Nat.le_of_ble_eq_true rfl, Nat.le_of_ble_eq_true rfl⟩) hS (fun q h1 h2 => absurd h1 (Nat.not_lt.mpr h2)) (fun q h => hA q (Nat.le_trans hS.1 h)) (fun q h1 h2 => absurd h1 (Nat.not_lt.mpr h2)) (fun E ce q9 u t H1 locs1 ht hvm hpx hBX hz1 hk1 hS hcell hv9 hcl => ?_) (fun r u t H1 locs1 ht hvm hw => hw.elim)
  have hBX : E = _ := hBX
  subst hBX
  have hP := hP.kept (fun k q hq => hk1 _ ((hP k q hq).lt) (Nat.not_le.mpr ((hP k q hq).lt)))
  refine vx_catch (own := RL) (name := "java/lang/IndexOutOfBoundsException") hown ([] : List ExceptionTableEntry) ⟨0, 9, 12, 13⟩ [] htab (fun z hz => absurd hz List.not_mem_nil) (by decide) (by decide) (hts _ il_L_word_cl13) (va_Nw.use rfl (vx_cIO hV)) hcell hv9 hcl ?_
  refine W.eq (g2 := F0 m 12 ls [.ref q9]) rfl ?_
  refine lv_astore_n (lv' := [(3, .ref q9), (0, .ref (ad o)), (1, .int k), (2, .ref (ad lo))]) hx hb dL_word_12 rfl hl (by decide) rfl (fun ls hl => ?_)
  refine lv_iconst (v := nI 1) hx hb dL_word_13 (by decide) ?_
  exact W.iret (v := nI 1) hx hb hr (fun t ht hW => ⟨⟨_, C, rfl, ⟨rfl, rfl⟩, iB_of ht hP⟩, hS.F ht⟩) hS.2.2 dL_word_14
abbrev rL_ofFrame_x : Room := { frames := 8, cells := 1, slots := 6, locals := 134 }
set_option maxRecDepth 20000 in
theorem il_L_ofFrame_cl13 : (Cond.classLink RL 13 "java/lang/IndexOutOfBoundsException") ∈ wsL_ofFrame := by decide +kernel
set_option maxHeartbeats 4000000 in
set_option maxRecDepth 100000 in
theorem wL_ofFrame_1 (l : Launch) (hst : l.stackTraces = false) (G : iG) (N : Nat) (ad : Nat → Nat) (C : Nat → va_E) (o : Nat) (S : St) (hcam : Cam G N ad C o S) (lo : Nat) (k y0 : Int32) (h : k < 0 ∨ nI (sFn S) ≤ k) (sz : Nat) : vx_Met l yL_ofFrame wsL_ofFrame rL_ofFrame_x (iPreX G N ad C sz [.ref (ad o), .int k, .int y0, .ref (ad lo)]) (va_Qi (fun (r : Int32) (u : Nat → va_E) => r = nI 1 ∧ u = C) (iB G N ad) (iA N ad sz)) xN 1 6 (iA N ad sz) := by
  refine vx_ofWH (cc := cL_ofFrame) (maxL := 5) (ret := (some .int)) (hh := [(0, 10, 13, 13), (0, 10, 17, 15)]) (by decide) rfl ?_
  intro p e s m args below meth c s₁ B hml hv
  obtain ⟨rfl, ⟨⟨hsz, hP, hK, hD⟩, hV⟩, hZ⟩ := hv
  have hx := B.exec
  have hb := B.bytes
  have hr := B.returns
  have hts := atoms_spec (ws := wsL_ofFrame) B.pre
  have htab : c.exceptionTable.toList = [⟨0, 10, 13, 13⟩, ⟨0, 10, 17, 15⟩] := vx_table (x := yL_ofFrame) B (hts (.codeWith yL_ofFrame cL_ofFrame 5 (some .int) [(0, 10, 13, 13), (0, 10, 17, 15)]) List.mem_cons_self)
  have hown : s.vm.findClass RL = some m.cls := findClass_of_methodNamed B.named
  have hlocks := B.notSynchronized
  subst hsz
  have hD := wl_self hD s.heap.size
  have hA : ∀ q : Nat, s.heap.size ≤ q → iA N ad s.heap.size q := fun q h => Or.inr h
  have hS : va_S (iA N ad s.heap.size) s.heap s.heap [] := va_S.rf
  have hP : va_P G.1 vwB (wl N ad C) s.heap := hP
  refine vx_ret ?_
  have hl := lv_entry ([.ref (ad o), .int k, .int y0, .ref (ad lo)]) (n := 5) (Nat.le_of_ble_eq_true rfl)
  rw [lg_entry_eq]
  generalize (lg_sl ([.ref (ad o), .int k, .int y0, .ref (ad lo)]) ++ List.replicate (5 - (lg_sl ([.ref (ad o), .int k, .int y0, .ref (ad lo)])).length) Slot.unset).toArray = ls at hl ⊢
  have hl : lv_has ls 5 [(0, .ref (ad o)), (1, .int k), (2, .int y0), (3, .ref (ad lo))] := hl
  obtain ⟨hN, ⟨ok1, ok2, ok3, ok4, ok5, ok6, ok7, ok8, ok9⟩, h0, ⟨s1, s2, s3⟩, ⟨e1, e2, e3⟩, h7, h8, ⟨TF, tr1, tr2, tr3, tr4, tr5⟩, ⟨TD, dv1, dv2, dv3⟩, ⟨TC, cv1, cv2, cv3⟩, hfr, hfi⟩ := id hcam
  refine lv_aload_n hx hb dL_ofFrame_0 rfl (lv_at hl 3 rfl) ?_
  refine lv_iconst (v := nI 0) hx hb dL_ofFrame_1 (by decide) ?_
  refine lv_aload_n hx hb dL_ofFrame_2 rfl (lv_at hl 0 rfl) ?_
  refine lv_iload_n hx hb dL_ofFrame_3 rfl (lv_at hl 1 rfl) ?_
  refine lv_iload_n hx hb dL_ofFrame_4 rfl (lv_at hl 2 rfl) ?_
  refine vx_calli (vx_runV (As := [.int k, .int y0]) (rest := [.int (nI 0), .ref (ad lo)]) ⟨hx, hb, hml, hown, hts⟩ (xX6_ofFrame_1 l hst G N ad _ o S hcam k y0 h _) (cwV 2 hts gL_ofFrame_X6_ofFrame rfl rfl rfl (by decide +kernel) ⟨Nat.le_of_ble_eq_true rfl, Nat.le_of_ble_eq_true rfl⟩) (xPV hK hV hZ (va_S.rf (A := fun q : Nat => s.heap.size ≤ q) (H0 := s.heap)) (fun q h => h) hP hD (by omega) (h0) rfl [.int k, .int y0]) rfl rfl hl.1 rfl (lv_room (Nat.le_of_ble_eq_true rfl)) dL_ofFrame_5 ⟨Nat.le_of_ble_eq_true rfl, Nat.le_of_ble_eq_true rfl⟩) hS (fun q h1 h2 => absurd h1 (Nat.not_lt.mpr h2)) (fun q h => hA q (Nat.le_trans hS.1 h)) (fun q h1 h2 => absurd h1 (Nat.not_lt.mpr h2)) (fun E ce q9 u t H1 locs1 ht hvm hpx hBX hz1 hk1 hS hcell hv9 hcl => ?_) (fun r u t H1 locs1 ht hvm hw => hw.elim)
  have hBX : E = _ := hBX
  subst hBX
  have hP := hP.kept (fun k q hq => hk1 _ ((hP k q hq).lt) (Nat.not_le.mpr ((hP k q hq).lt)))
  refine vx_catch (own := RL) (name := "java/lang/IndexOutOfBoundsException") hown ([] : List ExceptionTableEntry) ⟨0, 10, 13, 13⟩ [⟨0, 10, 17, 15⟩] htab (fun z hz => absurd hz List.not_mem_nil) (by decide) (by decide) (hts _ il_L_ofFrame_cl13) (va_Nw.use rfl (vx_cIO hV)) hcell hv9 hcl ?_
  refine W.eq (g2 := F0 m 13 ls [.ref q9]) rfl ?_
  refine lv_astore (lv' := [(4, .ref q9), (0, .ref (ad o)), (1, .int k), (2, .int y0), (3, .ref (ad lo))]) hx hb dL_ofFrame_13 hl (by decide) rfl (fun ls hl => ?_)
  refine lv_iconst (v := nI 1) hx hb dL_ofFrame_15 (by decide) ?_
  exact W.iret (v := nI 1) hx hb hr (fun t ht hW => ⟨⟨_, C, rfl, ⟨rfl, rfl⟩, iB_of ht hP⟩, hS.F ht⟩) hS.2.2 dL_ofFrame_16
abbrev rL_ofEdit_x : Room := { frames := 8, cells := 1, slots := 6, locals := 135 }
set_option maxRecDepth 20000 in
theorem il_L_ofEdit_cl13 : (Cond.classLink RL 13 "java/lang/IndexOutOfBoundsException") ∈ wsL_ofEdit := by decide +kernel
set_option maxHeartbeats 4000000 in
set_option maxRecDepth 100000 in
theorem wL_ofEdit_1 (l : Launch) (hst : l.stackTraces = false) (G : iG) (N : Nat) (ad : Nat → Nat) (C : Nat → va_E) (o : Nat) (S : St) (hcam : Cam G N ad C o S) (lo : Nat) (k y0 y1 : Int32) (h : k < 0 ∨ nI (sFn S) ≤ k) (sz : Nat) : vx_Met l yL_ofEdit wsL_ofEdit rL_ofEdit_x (iPreX G N ad C sz [.ref (ad o), .int k, .int y0, .int y1, .ref (ad lo)]) (va_Qi (fun (r : Int32) (u : Nat → va_E) => r = nI 1 ∧ u = C) (iB G N ad) (iA N ad sz)) xN 1 6 (iA N ad sz) := by
  refine vx_ofWH (cc := cL_ofEdit) (maxL := 6) (ret := (some .int)) (hh := [(0, 12, 15, 13), (0, 12, 19, 15)]) (by decide) rfl ?_
  intro p e s m args below meth c s₁ B hml hv
  obtain ⟨rfl, ⟨⟨hsz, hP, hK, hD⟩, hV⟩, hZ⟩ := hv
  have hx := B.exec
  have hb := B.bytes
  have hr := B.returns
  have hts := atoms_spec (ws := wsL_ofEdit) B.pre
  have htab : c.exceptionTable.toList = [⟨0, 12, 15, 13⟩, ⟨0, 12, 19, 15⟩] := vx_table (x := yL_ofEdit) B (hts (.codeWith yL_ofEdit cL_ofEdit 6 (some .int) [(0, 12, 15, 13), (0, 12, 19, 15)]) List.mem_cons_self)
  have hown : s.vm.findClass RL = some m.cls := findClass_of_methodNamed B.named
  have hlocks := B.notSynchronized
  subst hsz
  have hD := wl_self hD s.heap.size
  have hA : ∀ q : Nat, s.heap.size ≤ q → iA N ad s.heap.size q := fun q h => Or.inr h
  have hS : va_S (iA N ad s.heap.size) s.heap s.heap [] := va_S.rf
  have hP : va_P G.1 vwB (wl N ad C) s.heap := hP
  refine vx_ret ?_
  have hl := lv_entry ([.ref (ad o), .int k, .int y0, .int y1, .ref (ad lo)]) (n := 6) (Nat.le_of_ble_eq_true rfl)
  rw [lg_entry_eq]
  generalize (lg_sl ([.ref (ad o), .int k, .int y0, .int y1, .ref (ad lo)]) ++ List.replicate (6 - (lg_sl ([.ref (ad o), .int k, .int y0, .int y1, .ref (ad lo)])).length) Slot.unset).toArray = ls at hl ⊢
  have hl : lv_has ls 6 [(0, .ref (ad o)), (1, .int k), (2, .int y0), (3, .int y1), (4, .ref (ad lo))] := hl
  obtain ⟨hN, ⟨ok1, ok2, ok3, ok4, ok5, ok6, ok7, ok8, ok9⟩, h0, ⟨s1, s2, s3⟩, ⟨e1, e2, e3⟩, h7, h8, ⟨TF, tr1, tr2, tr3, tr4, tr5⟩, ⟨TD, dv1, dv2, dv3⟩, ⟨TC, cv1, cv2, cv3⟩, hfr, hfi⟩ := id hcam
  refine lv_aload hx hb dL_ofEdit_0 (lv_at hl 4 rfl) ?_
  refine lv_iconst (v := nI 0) hx hb dL_ofEdit_2 (by decide) ?_
  refine lv_aload_n hx hb dL_ofEdit_3 rfl (lv_at hl 0 rfl) ?_
  refine lv_iload_n hx hb dL_ofEdit_4 rfl (lv_at hl 1 rfl) ?_
  refine lv_iload_n hx hb dL_ofEdit_5 rfl (lv_at hl 2 rfl) ?_
  refine lv_iload_n hx hb dL_ofEdit_6 rfl (lv_at hl 3 rfl) ?_
  refine vx_calli (vx_runV (As := [.int k, .int y0, .int y1]) (rest := [.int (nI 0), .ref (ad lo)]) ⟨hx, hb, hml, hown, hts⟩ (xX6_ofEdit_1 l hst G N ad _ o S hcam k y0 y1 h _) (cwV 3 hts gL_ofEdit_X6_ofEdit rfl rfl rfl (by decide +kernel) ⟨Nat.le_of_ble_eq_true rfl, Nat.le_of_ble_eq_true rfl⟩) (xPV hK hV hZ (va_S.rf (A := fun q : Nat => s.heap.size ≤ q) (H0 := s.heap)) (fun q h => h) hP hD (by omega) (h0) rfl [.int k, .int y0, .int y1]) rfl rfl hl.1 rfl (lv_room (Nat.le_of_ble_eq_true rfl)) dL_ofEdit_7 ⟨Nat.le_of_ble_eq_true rfl, Nat.le_of_ble_eq_true rfl⟩) hS (fun q h1 h2 => absurd h1 (Nat.not_lt.mpr h2)) (fun q h => hA q (Nat.le_trans hS.1 h)) (fun q h1 h2 => absurd h1 (Nat.not_lt.mpr h2)) (fun E ce q9 u t H1 locs1 ht hvm hpx hBX hz1 hk1 hS hcell hv9 hcl => ?_) (fun r u t H1 locs1 ht hvm hw => hw.elim)
  have hBX : E = _ := hBX
  subst hBX
  have hP := hP.kept (fun k q hq => hk1 _ ((hP k q hq).lt) (Nat.not_le.mpr ((hP k q hq).lt)))
  refine vx_catch (own := RL) (name := "java/lang/IndexOutOfBoundsException") hown ([] : List ExceptionTableEntry) ⟨0, 12, 15, 13⟩ [⟨0, 12, 19, 15⟩] htab (fun z hz => absurd hz List.not_mem_nil) (by decide) (by decide) (hts _ il_L_ofEdit_cl13) (va_Nw.use rfl (vx_cIO hV)) hcell hv9 hcl ?_
  refine W.eq (g2 := F0 m 15 ls [.ref q9]) rfl ?_
  refine lv_astore (lv' := [(5, .ref q9), (0, .ref (ad o)), (1, .int k), (2, .int y0), (3, .int y1), (4, .ref (ad lo))]) hx hb dL_ofEdit_15 hl (by decide) rfl (fun ls hl => ?_)
  refine lv_iconst (v := nI 1) hx hb dL_ofEdit_17 (by decide) ?_
  exact W.iret (v := nI 1) hx hb hr (fun t ht hW => ⟨⟨_, C, rfl, ⟨rfl, rfl⟩, iB_of ht hP⟩, hS.F ht⟩) hS.2.2 dL_ofEdit_18
abbrev rL_zone_x : Room := { frames := 8, cells := 1, slots := 6, locals := 133 }
set_option maxRecDepth 20000 in
theorem il_L_zone_cl13 : (Cond.classLink RL 13 "java/lang/IndexOutOfBoundsException") ∈ wsL_zone := by decide +kernel
set_option maxHeartbeats 4000000 in
set_option maxRecDepth 100000 in
theorem wL_zone_1 (l : Launch) (hst : l.stackTraces = false) (G : iG) (N : Nat) (ad : Nat → Nat) (C : Nat → va_E) (o : Nat) (S : St) (hcam : Cam G N ad C o S) (lo : Nat) (k y0 : Int32) (h : k < 0 ∨ nI (sFn S) ≤ k) (sz : Nat) : vx_Met l yL_zone wsL_zone rL_zone_x (iPreX G N ad C sz [.ref (ad o), .int k, .int y0, .ref (ad lo)]) (va_Qi (fun (r : Int32) (u : Nat → va_E) => r = nI 1 ∧ u = C) (iB G N ad) (iA N ad sz)) xN 1 6 (iA N ad sz) := by
  refine vx_ofWH (cc := cL_zone) (maxL := 5) (ret := (some .int)) (hh := [(0, 9, 12, 13)]) (by decide) rfl ?_
  intro p e s m args below meth c s₁ B hml hv
  obtain ⟨rfl, ⟨⟨hsz, hP, hK, hD⟩, hV⟩, hZ⟩ := hv
  have hx := B.exec
  have hb := B.bytes
  have hr := B.returns
  have hts := atoms_spec (ws := wsL_zone) B.pre
  have htab : c.exceptionTable.toList = [⟨0, 9, 12, 13⟩] := vx_table (x := yL_zone) B (hts (.codeWith yL_zone cL_zone 5 (some .int) [(0, 9, 12, 13)]) List.mem_cons_self)
  have hown : s.vm.findClass RL = some m.cls := findClass_of_methodNamed B.named
  have hlocks := B.notSynchronized
  subst hsz
  have hD := wl_self hD s.heap.size
  have hA : ∀ q : Nat, s.heap.size ≤ q → iA N ad s.heap.size q := fun q h => Or.inr h
  have hS : va_S (iA N ad s.heap.size) s.heap s.heap [] := va_S.rf
  have hP : va_P G.1 vwB (wl N ad C) s.heap := hP
  refine vx_ret ?_
  have hl := lv_entry ([.ref (ad o), .int k, .int y0, .ref (ad lo)]) (n := 5) (Nat.le_of_ble_eq_true rfl)
  rw [lg_entry_eq]
  generalize (lg_sl ([.ref (ad o), .int k, .int y0, .ref (ad lo)]) ++ List.replicate (5 - (lg_sl ([.ref (ad o), .int k, .int y0, .ref (ad lo)])).length) Slot.unset).toArray = ls at hl ⊢
  have hl : lv_has ls 5 [(0, .ref (ad o)), (1, .int k), (2, .int y0), (3, .ref (ad lo))] := hl
  obtain ⟨hN, ⟨ok1, ok2, ok3, ok4, ok5, ok6, ok7, ok8, ok9⟩, h0, ⟨s1, s2, s3⟩, ⟨e1, e2, e3⟩, h7, h8, ⟨TF, tr1, tr2, tr3, tr4, tr5⟩, ⟨TD, dv1, dv2, dv3⟩, ⟨TC, cv1, cv2, cv3⟩, hfr, hfi⟩ := id hcam
  refine lv_aload_n hx hb dL_zone_0 rfl (lv_at hl 3 rfl) ?_
  refine lv_iconst (v := nI 0) hx hb dL_zone_1 (by decide) ?_
  refine lv_aload_n hx hb dL_zone_2 rfl (lv_at hl 0 rfl) ?_
  refine lv_iload_n hx hb dL_zone_3 rfl (lv_at hl 1 rfl) ?_
  refine lv_iload_n hx hb dL_zone_4 rfl (lv_at hl 2 rfl) ?_
  refine vx_calld (vx_runV (As := [.int k, .int y0]) (rest := [.int (nI 0), .ref (ad lo)]) ⟨hx, hb, hml, hown, hts⟩ (xX6_zone_1 l hst G N ad _ o S hcam k y0 h _) (cwV 2 hts gL_zone_X6_zone rfl rfl rfl (by decide +kernel) ⟨Nat.le_of_ble_eq_true rfl, Nat.le_of_ble_eq_true rfl⟩) (xPV hK hV hZ (va_S.rf (A := fun q : Nat => s.heap.size ≤ q) (H0 := s.heap)) (fun q h => h) hP hD (by omega) (h0) rfl [.int k, .int y0]) rfl rfl hl.1 rfl (lv_room (Nat.le_of_ble_eq_true rfl)) dL_zone_5 ⟨Nat.le_of_ble_eq_true rfl, Nat.le_of_ble_eq_true rfl⟩) hS (fun q h1 h2 => absurd h1 (Nat.not_lt.mpr h2)) (fun q h => hA q (Nat.le_trans hS.1 h)) (fun q h1 h2 => absurd h1 (Nat.not_lt.mpr h2)) (fun E ce q9 u t H1 locs1 ht hvm hpx hBX hz1 hk1 hS hcell hv9 hcl => ?_) (fun r u t H1 locs1 ht hvm hw => hw.elim)
  have hBX : E = _ := hBX
  subst hBX
  have hP := hP.kept (fun k q hq => hk1 _ ((hP k q hq).lt) (Nat.not_le.mpr ((hP k q hq).lt)))
  refine vx_catch (own := RL) (name := "java/lang/IndexOutOfBoundsException") hown ([] : List ExceptionTableEntry) ⟨0, 9, 12, 13⟩ [] htab (fun z hz => absurd hz List.not_mem_nil) (by decide) (by decide) (hts _ il_L_zone_cl13) (va_Nw.use rfl (vx_cIO hV)) hcell hv9 hcl ?_
  refine W.eq (g2 := F0 m 12 ls [.ref q9]) rfl ?_
  refine lv_astore (lv' := [(4, .ref q9), (0, .ref (ad o)), (1, .int k), (2, .int y0), (3, .ref (ad lo))]) hx hb dL_zone_12 hl (by decide) rfl (fun ls hl => ?_)
  refine lv_iconst (v := nI 1) hx hb dL_zone_14 (by decide) ?_
  exact W.iret (v := nI 1) hx hb hr (fun t ht hW => ⟨⟨_, C, rfl, ⟨rfl, rfl⟩, iB_of ht hP⟩, hS.F ht⟩) hS.2.2 dL_zone_15
abbrev rL_meter_x : Room := { frames := 8, cells := 1, slots := 6, locals := 132 }
set_option maxRecDepth 20000 in
theorem il_L_meter_cl13 : (Cond.classLink RL 13 "java/lang/IndexOutOfBoundsException") ∈ wsL_meter := by decide +kernel
set_option maxHeartbeats 4000000 in
set_option maxRecDepth 100000 in
theorem wL_meter_1 (l : Launch) (hst : l.stackTraces = false) (G : iG) (N : Nat) (ad : Nat → Nat) (C : Nat → va_E) (o : Nat) (S : St) (hcam : Cam G N ad C o S) (lo : Nat) (k : Int32) (h : k < 0 ∨ nI (sFn S) ≤ k) (sz : Nat) : vx_Met l yL_meter wsL_meter rL_meter_x (iPreX G N ad C sz [.ref (ad o), .int k, .ref (ad lo)]) (va_Qi (fun (r : Int32) (u : Nat → va_E) => r = nI 1 ∧ u = C) (iB G N ad) (iA N ad sz)) xN 1 6 (iA N ad sz) := by
  refine vx_ofWH (cc := cL_meter) (maxL := 4) (ret := (some .int)) (hh := [(0, 8, 11, 13)]) (by decide) rfl ?_
  intro p e s m args below meth c s₁ B hml hv
  obtain ⟨rfl, ⟨⟨hsz, hP, hK, hD⟩, hV⟩, hZ⟩ := hv
  have hx := B.exec
  have hb := B.bytes
  have hr := B.returns
  have hts := atoms_spec (ws := wsL_meter) B.pre
  have htab : c.exceptionTable.toList = [⟨0, 8, 11, 13⟩] := vx_table (x := yL_meter) B (hts (.codeWith yL_meter cL_meter 4 (some .int) [(0, 8, 11, 13)]) List.mem_cons_self)
  have hown : s.vm.findClass RL = some m.cls := findClass_of_methodNamed B.named
  have hlocks := B.notSynchronized
  subst hsz
  have hD := wl_self hD s.heap.size
  have hA : ∀ q : Nat, s.heap.size ≤ q → iA N ad s.heap.size q := fun q h => Or.inr h
  have hS : va_S (iA N ad s.heap.size) s.heap s.heap [] := va_S.rf
  have hP : va_P G.1 vwB (wl N ad C) s.heap := hP
  refine vx_ret ?_
  have hl := lv_entry ([.ref (ad o), .int k, .ref (ad lo)]) (n := 4) (Nat.le_of_ble_eq_true rfl)
  rw [lg_entry_eq]
  generalize (lg_sl ([.ref (ad o), .int k, .ref (ad lo)]) ++ List.replicate (4 - (lg_sl ([.ref (ad o), .int k, .ref (ad lo)])).length) Slot.unset).toArray = ls at hl ⊢
  have hl : lv_has ls 4 [(0, .ref (ad o)), (1, .int k), (2, .ref (ad lo))] := hl
  obtain ⟨hN, ⟨ok1, ok2, ok3, ok4, ok5, ok6, ok7, ok8, ok9⟩, h0, ⟨s1, s2, s3⟩, ⟨e1, e2, e3⟩, h7, h8, ⟨TF, tr1, tr2, tr3, tr4, tr5⟩, ⟨TD, dv1, dv2, dv3⟩, ⟨TC, cv1, cv2, cv3⟩, hfr, hfi⟩ := id hcam
  refine lv_aload_n hx hb dL_meter_0 rfl (lv_at hl 2 rfl) ?_
  refine lv_iconst (v := nI 0) hx hb dL_meter_1 (by decide) ?_
  refine lv_aload_n hx hb dL_meter_2 rfl (lv_at hl 0 rfl) ?_
  refine lv_iload_n hx hb dL_meter_3 rfl (lv_at hl 1 rfl) ?_
  refine vx_calld (vx_runV (As := [.int k]) (rest := [.int (nI 0), .ref (ad lo)]) ⟨hx, hb, hml, hown, hts⟩ (xX6_meter_1 l hst G N ad _ o S hcam k h _) (cwV 1 hts gL_meter_X6_meter rfl rfl rfl (by decide +kernel) ⟨Nat.le_of_ble_eq_true rfl, Nat.le_of_ble_eq_true rfl⟩) (xPV hK hV hZ (va_S.rf (A := fun q : Nat => s.heap.size ≤ q) (H0 := s.heap)) (fun q h => h) hP hD (by omega) (h0) rfl [.int k]) rfl rfl hl.1 rfl (lv_room (Nat.le_of_ble_eq_true rfl)) dL_meter_4 ⟨Nat.le_of_ble_eq_true rfl, Nat.le_of_ble_eq_true rfl⟩) hS (fun q h1 h2 => absurd h1 (Nat.not_lt.mpr h2)) (fun q h => hA q (Nat.le_trans hS.1 h)) (fun q h1 h2 => absurd h1 (Nat.not_lt.mpr h2)) (fun E ce q9 u t H1 locs1 ht hvm hpx hBX hz1 hk1 hS hcell hv9 hcl => ?_) (fun r u t H1 locs1 ht hvm hw => hw.elim)
  have hBX : E = _ := hBX
  subst hBX
  have hP := hP.kept (fun k q hq => hk1 _ ((hP k q hq).lt) (Nat.not_le.mpr ((hP k q hq).lt)))
  refine vx_catch (own := RL) (name := "java/lang/IndexOutOfBoundsException") hown ([] : List ExceptionTableEntry) ⟨0, 8, 11, 13⟩ [] htab (fun z hz => absurd hz List.not_mem_nil) (by decide) (by decide) (hts _ il_L_meter_cl13) (va_Nw.use rfl (vx_cIO hV)) hcell hv9 hcl ?_
  refine W.eq (g2 := F0 m 11 ls [.ref q9]) rfl ?_
  refine lv_astore_n (lv' := [(3, .ref q9), (0, .ref (ad o)), (1, .int k), (2, .ref (ad lo))]) hx hb dL_meter_11 rfl hl (by decide) rfl (fun ls hl => ?_)
  refine lv_iconst (v := nI 1) hx hb dL_meter_12 (by decide) ?_
  exact W.iret (v := nI 1) hx hb hr (fun t ht hW => ⟨⟨_, C, rfl, ⟨rfl, rfl⟩, iB_of ht hP⟩, hS.F ht⟩) hS.2.2 dL_meter_13
abbrev rL_apart_x : Room := { frames := 8, cells := 1, slots := 6, locals := 133 }
set_option maxRecDepth 20000 in
theorem il_L_apart_cl13 : (Cond.classLink RL 13 "java/lang/IndexOutOfBoundsException") ∈ wsL_apart := by decide +kernel
set_option maxHeartbeats 4000000 in
set_option maxRecDepth 100000 in
theorem wL_apart_1 (l : Launch) (hst : l.stackTraces = false) (G : iG) (N : Nat) (ad : Nat → Nat) (C : Nat → va_E) (o : Nat) (S : St) (hcam : Cam G N ad C o S) (lo : Nat) (k y0 : Int32) (h : k < 0 ∨ nI (sFn S) ≤ k) (sz : Nat) : vx_Met l yL_apart wsL_apart rL_apart_x (iPreX G N ad C sz [.ref (ad o), .int k, .int y0, .ref (ad lo)]) (va_Qi (fun (r : Int32) (u : Nat → va_E) => r = nI 1 ∧ u = C) (iB G N ad) (iA N ad sz)) xN 1 6 (iA N ad sz) := by
  refine vx_ofWH (cc := cL_apart) (maxL := 5) (ret := (some .int)) (hh := [(0, 9, 12, 13)]) (by decide) rfl ?_
  intro p e s m args below meth c s₁ B hml hv
  obtain ⟨rfl, ⟨⟨hsz, hP, hK, hD⟩, hV⟩, hZ⟩ := hv
  have hx := B.exec
  have hb := B.bytes
  have hr := B.returns
  have hts := atoms_spec (ws := wsL_apart) B.pre
  have htab : c.exceptionTable.toList = [⟨0, 9, 12, 13⟩] := vx_table (x := yL_apart) B (hts (.codeWith yL_apart cL_apart 5 (some .int) [(0, 9, 12, 13)]) List.mem_cons_self)
  have hown : s.vm.findClass RL = some m.cls := findClass_of_methodNamed B.named
  have hlocks := B.notSynchronized
  subst hsz
  have hD := wl_self hD s.heap.size
  have hA : ∀ q : Nat, s.heap.size ≤ q → iA N ad s.heap.size q := fun q h => Or.inr h
  have hS : va_S (iA N ad s.heap.size) s.heap s.heap [] := va_S.rf
  have hP : va_P G.1 vwB (wl N ad C) s.heap := hP
  refine vx_ret ?_
  have hl := lv_entry ([.ref (ad o), .int k, .int y0, .ref (ad lo)]) (n := 5) (Nat.le_of_ble_eq_true rfl)
  rw [lg_entry_eq]
  generalize (lg_sl ([.ref (ad o), .int k, .int y0, .ref (ad lo)]) ++ List.replicate (5 - (lg_sl ([.ref (ad o), .int k, .int y0, .ref (ad lo)])).length) Slot.unset).toArray = ls at hl ⊢
  have hl : lv_has ls 5 [(0, .ref (ad o)), (1, .int k), (2, .int y0), (3, .ref (ad lo))] := hl
  obtain ⟨hN, ⟨ok1, ok2, ok3, ok4, ok5, ok6, ok7, ok8, ok9⟩, h0, ⟨s1, s2, s3⟩, ⟨e1, e2, e3⟩, h7, h8, ⟨TF, tr1, tr2, tr3, tr4, tr5⟩, ⟨TD, dv1, dv2, dv3⟩, ⟨TC, cv1, cv2, cv3⟩, hfr, hfi⟩ := id hcam
  refine lv_aload_n hx hb dL_apart_0 rfl (lv_at hl 3 rfl) ?_
  refine lv_iconst (v := nI 0) hx hb dL_apart_1 (by decide) ?_
  refine lv_aload_n hx hb dL_apart_2 rfl (lv_at hl 0 rfl) ?_
  refine lv_iload_n hx hb dL_apart_3 rfl (lv_at hl 1 rfl) ?_
  refine lv_iload_n hx hb dL_apart_4 rfl (lv_at hl 2 rfl) ?_
  refine vx_calld (vx_runV (As := [.int k, .int y0]) (rest := [.int (nI 0), .ref (ad lo)]) ⟨hx, hb, hml, hown, hts⟩ (xX6_apart_1 l hst G N ad _ o S hcam k y0 h _) (cwV 2 hts gL_apart_X6_apart rfl rfl rfl (by decide +kernel) ⟨Nat.le_of_ble_eq_true rfl, Nat.le_of_ble_eq_true rfl⟩) (xPV hK hV hZ (va_S.rf (A := fun q : Nat => s.heap.size ≤ q) (H0 := s.heap)) (fun q h => h) hP hD (by omega) (h0) rfl [.int k, .int y0]) rfl rfl hl.1 rfl (lv_room (Nat.le_of_ble_eq_true rfl)) dL_apart_5 ⟨Nat.le_of_ble_eq_true rfl, Nat.le_of_ble_eq_true rfl⟩) hS (fun q h1 h2 => absurd h1 (Nat.not_lt.mpr h2)) (fun q h => hA q (Nat.le_trans hS.1 h)) (fun q h1 h2 => absurd h1 (Nat.not_lt.mpr h2)) (fun E ce q9 u t H1 locs1 ht hvm hpx hBX hz1 hk1 hS hcell hv9 hcl => ?_) (fun r u t H1 locs1 ht hvm hw => hw.elim)
  have hBX : E = _ := hBX
  subst hBX
  have hP := hP.kept (fun k q hq => hk1 _ ((hP k q hq).lt) (Nat.not_le.mpr ((hP k q hq).lt)))
  refine vx_catch (own := RL) (name := "java/lang/IndexOutOfBoundsException") hown ([] : List ExceptionTableEntry) ⟨0, 9, 12, 13⟩ [] htab (fun z hz => absurd hz List.not_mem_nil) (by decide) (by decide) (hts _ il_L_apart_cl13) (va_Nw.use rfl (vx_cIO hV)) hcell hv9 hcl ?_
  refine W.eq (g2 := F0 m 12 ls [.ref q9]) rfl ?_
  refine lv_astore (lv' := [(4, .ref q9), (0, .ref (ad o)), (1, .int k), (2, .int y0), (3, .ref (ad lo))]) hx hb dL_apart_12 hl (by decide) rfl (fun ls hl => ?_)
  refine lv_iconst (v := nI 1) hx hb dL_apart_14 (by decide) ?_
  exact W.iret (v := nI 1) hx hb hr (fun t ht hW => ⟨⟨_, C, rfl, ⟨rfl, rfl⟩, iB_of ht hP⟩, hS.F ht⟩) hS.2.2 dL_apart_15
abbrev rL_bestWhite_x : Room := { frames := 8, cells := 1, slots := 6, locals := 140 }
set_option maxRecDepth 20000 in
theorem il_L_bestWhite_cl13 : (Cond.classLink RL 13 "java/lang/IndexOutOfBoundsException") ∈ wsL_bestWhite := by decide +kernel
set_option maxHeartbeats 4000000 in
set_option maxRecDepth 100000 in
theorem wL_bestWhite_1 (l : Launch) (hst : l.stackTraces = false) (G : iG) (N : Nat) (ad : Nat → Nat) (C : Nat → va_E) (o : Nat) (S : St) (hcam : Cam G N ad C o S) (lo : Nat) (k y0 : Int32) (h : k < 0 ∨ nI (sFn S) ≤ k) (sz : Nat) : vx_Met l yL_bestWhite wsL_bestWhite rL_bestWhite_x (iPreX G N ad C sz [.ref (ad o), .int k, .int y0, .ref (ad lo)]) (va_Qi (fun (r : Int32) (u : Nat → va_E) => r = nI 1 ∧ u = C) (iB G N ad) (iA N ad sz)) xN 1 6 (iA N ad sz) := by
  refine vx_ofWH (cc := cL_bestWhite) (maxL := 5) (ret := (some .int)) (hh := [(0, 10, 13, 13), (0, 10, 17, 15)]) (by decide) rfl ?_
  intro p e s m args below meth c s₁ B hml hv
  obtain ⟨rfl, ⟨⟨hsz, hP, hK, hD⟩, hV⟩, hZ⟩ := hv
  have hx := B.exec
  have hb := B.bytes
  have hr := B.returns
  have hts := atoms_spec (ws := wsL_bestWhite) B.pre
  have htab : c.exceptionTable.toList = [⟨0, 10, 13, 13⟩, ⟨0, 10, 17, 15⟩] := vx_table (x := yL_bestWhite) B (hts (.codeWith yL_bestWhite cL_bestWhite 5 (some .int) [(0, 10, 13, 13), (0, 10, 17, 15)]) List.mem_cons_self)
  have hown : s.vm.findClass RL = some m.cls := findClass_of_methodNamed B.named
  have hlocks := B.notSynchronized
  subst hsz
  have hD := wl_self hD s.heap.size
  have hA : ∀ q : Nat, s.heap.size ≤ q → iA N ad s.heap.size q := fun q h => Or.inr h
  have hS : va_S (iA N ad s.heap.size) s.heap s.heap [] := va_S.rf
  have hP : va_P G.1 vwB (wl N ad C) s.heap := hP
  refine vx_ret ?_
  have hl := lv_entry ([.ref (ad o), .int k, .int y0, .ref (ad lo)]) (n := 5) (Nat.le_of_ble_eq_true rfl)
  rw [lg_entry_eq]
  generalize (lg_sl ([.ref (ad o), .int k, .int y0, .ref (ad lo)]) ++ List.replicate (5 - (lg_sl ([.ref (ad o), .int k, .int y0, .ref (ad lo)])).length) Slot.unset).toArray = ls at hl ⊢
  have hl : lv_has ls 5 [(0, .ref (ad o)), (1, .int k), (2, .int y0), (3, .ref (ad lo))] := hl
  obtain ⟨hN, ⟨ok1, ok2, ok3, ok4, ok5, ok6, ok7, ok8, ok9⟩, h0, ⟨s1, s2, s3⟩, ⟨e1, e2, e3⟩, h7, h8, ⟨TF, tr1, tr2, tr3, tr4, tr5⟩, ⟨TD, dv1, dv2, dv3⟩, ⟨TC, cv1, cv2, cv3⟩, hfr, hfi⟩ := id hcam
  refine lv_aload_n hx hb dL_bestWhite_0 rfl (lv_at hl 3 rfl) ?_
  refine lv_iconst (v := nI 0) hx hb dL_bestWhite_1 (by decide) ?_
  refine lv_aload_n hx hb dL_bestWhite_2 rfl (lv_at hl 0 rfl) ?_
  refine lv_iload_n hx hb dL_bestWhite_3 rfl (lv_at hl 1 rfl) ?_
  refine lv_iload_n hx hb dL_bestWhite_4 rfl (lv_at hl 2 rfl) ?_
  refine vx_calli (vx_runV (As := [.int k, .int y0]) (rest := [.int (nI 0), .ref (ad lo)]) ⟨hx, hb, hml, hown, hts⟩ (xX6_bestWhite_1 l hst G N ad _ o S hcam k y0 h _) (cwV 2 hts gL_bestWhite_X6_bestWhite rfl rfl rfl (by decide +kernel) ⟨Nat.le_of_ble_eq_true rfl, Nat.le_of_ble_eq_true rfl⟩) (xPV hK hV hZ (va_S.rf (A := fun q : Nat => s.heap.size ≤ q) (H0 := s.heap)) (fun q h => h) hP hD (by omega) (h0) rfl [.int k, .int y0]) rfl rfl hl.1 rfl (lv_room (Nat.le_of_ble_eq_true rfl)) dL_bestWhite_5 ⟨Nat.le_of_ble_eq_true rfl, Nat.le_of_ble_eq_true rfl⟩) hS (fun q h1 h2 => absurd h1 (Nat.not_lt.mpr h2)) (fun q h => hA q (Nat.le_trans hS.1 h)) (fun q h1 h2 => absurd h1 (Nat.not_lt.mpr h2)) (fun E ce q9 u t H1 locs1 ht hvm hpx hBX hz1 hk1 hS hcell hv9 hcl => ?_) (fun r u t H1 locs1 ht hvm hw => hw.elim)
  have hBX : E = _ := hBX
  subst hBX
  have hP := hP.kept (fun k q hq => hk1 _ ((hP k q hq).lt) (Nat.not_le.mpr ((hP k q hq).lt)))
  refine vx_catch (own := RL) (name := "java/lang/IndexOutOfBoundsException") hown ([] : List ExceptionTableEntry) ⟨0, 10, 13, 13⟩ [⟨0, 10, 17, 15⟩] htab (fun z hz => absurd hz List.not_mem_nil) (by decide) (by decide) (hts _ il_L_bestWhite_cl13) (va_Nw.use rfl (vx_cIO hV)) hcell hv9 hcl ?_
  refine W.eq (g2 := F0 m 13 ls [.ref q9]) rfl ?_
  refine lv_astore (lv' := [(4, .ref q9), (0, .ref (ad o)), (1, .int k), (2, .int y0), (3, .ref (ad lo))]) hx hb dL_bestWhite_13 hl (by decide) rfl (fun ls hl => ?_)
  refine lv_iconst (v := nI 1) hx hb dL_bestWhite_15 (by decide) ?_
  exact W.iret (v := nI 1) hx hb hr (fun t ht hW => ⟨⟨_, C, rfl, ⟨rfl, rfl⟩, iB_of ht hP⟩, hS.F ht⟩) hS.2.2 dL_bestWhite_16
abbrev rL_ofFile_x : Room := { frames := 8, cells := 1, slots := 6, locals := 134 }
set_option maxRecDepth 20000 in
theorem il_L_ofFile_cl13 : (Cond.classLink RL 13 "java/lang/IndexOutOfBoundsException") ∈ wsL_ofFile := by decide +kernel
set_option maxHeartbeats 4000000 in
set_option maxRecDepth 100000 in
theorem wL_ofFile_1 (l : Launch) (hst : l.stackTraces = false) (G : iG) (N : Nat) (ad : Nat → Nat) (C : Nat → va_E) (o : Nat) (S : St) (hcam : Cam G N ad C o S) (lo : Nat) (k y0 : Int32) (h : k < 0 ∨ nI (sFl S) ≤ k) (sz : Nat) : vx_Met l yL_ofFile wsL_ofFile rL_ofFile_x (iPreX G N ad C sz [.ref (ad o), .int k, .int y0, .ref (ad lo)]) (va_Qi (fun (r : Int32) (u : Nat → va_E) => r = nI 1 ∧ u = C) (iB G N ad) (iA N ad sz)) xN 1 6 (iA N ad sz) := by
  refine vx_ofWH (cc := cL_ofFile) (maxL := 5) (ret := (some .int)) (hh := [(0, 10, 13, 13), (0, 10, 17, 15)]) (by decide) rfl ?_
  intro p e s m args below meth c s₁ B hml hv
  obtain ⟨rfl, ⟨⟨hsz, hP, hK, hD⟩, hV⟩, hZ⟩ := hv
  have hx := B.exec
  have hb := B.bytes
  have hr := B.returns
  have hts := atoms_spec (ws := wsL_ofFile) B.pre
  have htab : c.exceptionTable.toList = [⟨0, 10, 13, 13⟩, ⟨0, 10, 17, 15⟩] := vx_table (x := yL_ofFile) B (hts (.codeWith yL_ofFile cL_ofFile 5 (some .int) [(0, 10, 13, 13), (0, 10, 17, 15)]) List.mem_cons_self)
  have hown : s.vm.findClass RL = some m.cls := findClass_of_methodNamed B.named
  have hlocks := B.notSynchronized
  subst hsz
  have hD := wl_self hD s.heap.size
  have hA : ∀ q : Nat, s.heap.size ≤ q → iA N ad s.heap.size q := fun q h => Or.inr h
  have hS : va_S (iA N ad s.heap.size) s.heap s.heap [] := va_S.rf
  have hP : va_P G.1 vwB (wl N ad C) s.heap := hP
  refine vx_ret ?_
  have hl := lv_entry ([.ref (ad o), .int k, .int y0, .ref (ad lo)]) (n := 5) (Nat.le_of_ble_eq_true rfl)
  rw [lg_entry_eq]
  generalize (lg_sl ([.ref (ad o), .int k, .int y0, .ref (ad lo)]) ++ List.replicate (5 - (lg_sl ([.ref (ad o), .int k, .int y0, .ref (ad lo)])).length) Slot.unset).toArray = ls at hl ⊢
  have hl : lv_has ls 5 [(0, .ref (ad o)), (1, .int k), (2, .int y0), (3, .ref (ad lo))] := hl
  obtain ⟨hN, ⟨ok1, ok2, ok3, ok4, ok5, ok6, ok7, ok8, ok9⟩, h0, ⟨s1, s2, s3⟩, ⟨e1, e2, e3⟩, h7, h8, ⟨TF, tr1, tr2, tr3, tr4, tr5⟩, ⟨TD, dv1, dv2, dv3⟩, ⟨TC, cv1, cv2, cv3⟩, hfr, hfi⟩ := id hcam
  refine lv_aload_n hx hb dL_ofFile_0 rfl (lv_at hl 3 rfl) ?_
  refine lv_iconst (v := nI 0) hx hb dL_ofFile_1 (by decide) ?_
  refine lv_aload_n hx hb dL_ofFile_2 rfl (lv_at hl 0 rfl) ?_
  refine lv_iload_n hx hb dL_ofFile_3 rfl (lv_at hl 1 rfl) ?_
  refine lv_iload_n hx hb dL_ofFile_4 rfl (lv_at hl 2 rfl) ?_
  refine vx_calli (vx_runV (As := [.int k, .int y0]) (rest := [.int (nI 0), .ref (ad lo)]) ⟨hx, hb, hml, hown, hts⟩ (xX6_ofFile_1 l hst G N ad _ o S hcam k y0 h _) (cwV 2 hts gL_ofFile_X6_ofFile rfl rfl rfl (by decide +kernel) ⟨Nat.le_of_ble_eq_true rfl, Nat.le_of_ble_eq_true rfl⟩) (xPV hK hV hZ (va_S.rf (A := fun q : Nat => s.heap.size ≤ q) (H0 := s.heap)) (fun q h => h) hP hD (by omega) (h0) rfl [.int k, .int y0]) rfl rfl hl.1 rfl (lv_room (Nat.le_of_ble_eq_true rfl)) dL_ofFile_5 ⟨Nat.le_of_ble_eq_true rfl, Nat.le_of_ble_eq_true rfl⟩) hS (fun q h1 h2 => absurd h1 (Nat.not_lt.mpr h2)) (fun q h => hA q (Nat.le_trans hS.1 h)) (fun q h1 h2 => absurd h1 (Nat.not_lt.mpr h2)) (fun E ce q9 u t H1 locs1 ht hvm hpx hBX hz1 hk1 hS hcell hv9 hcl => ?_) (fun r u t H1 locs1 ht hvm hw => hw.elim)
  have hBX : E = _ := hBX
  subst hBX
  have hP := hP.kept (fun k q hq => hk1 _ ((hP k q hq).lt) (Nat.not_le.mpr ((hP k q hq).lt)))
  refine vx_catch (own := RL) (name := "java/lang/IndexOutOfBoundsException") hown ([] : List ExceptionTableEntry) ⟨0, 10, 13, 13⟩ [⟨0, 10, 17, 15⟩] htab (fun z hz => absurd hz List.not_mem_nil) (by decide) (by decide) (hts _ il_L_ofFile_cl13) (va_Nw.use rfl (vx_cIO hV)) hcell hv9 hcl ?_
  refine W.eq (g2 := F0 m 13 ls [.ref q9]) rfl ?_
  refine lv_astore (lv' := [(4, .ref q9), (0, .ref (ad o)), (1, .int k), (2, .int y0), (3, .ref (ad lo))]) hx hb dL_ofFile_13 hl (by decide) rfl (fun ls hl => ?_)
  refine lv_iconst (v := nI 1) hx hb dL_ofFile_15 (by decide) ?_
  exact W.iret (v := nI 1) hx hb hr (fun t ht hW => ⟨⟨_, C, rfl, ⟨rfl, rfl⟩, iB_of ht hP⟩, hS.F ht⟩) hS.2.2 dL_ofFile_16
abbrev rL_ofPlace_x : Room := { frames := 8, cells := 1, slots := 6, locals := 136 }
set_option maxRecDepth 20000 in
theorem il_L_ofPlace_cl13 : (Cond.classLink RL 13 "java/lang/IndexOutOfBoundsException") ∈ wsL_ofPlace := by decide +kernel
set_option maxHeartbeats 4000000 in
set_option maxRecDepth 100000 in
theorem wL_ofPlace_1 (l : Launch) (hst : l.stackTraces = false) (G : iG) (N : Nat) (ad : Nat → Nat) (C : Nat → va_E) (o : Nat) (S : St) (hcam : Cam G N ad C o S) (lo : Nat) (x y v : Int32) (h : isPl x y = false) (sz : Nat) : vx_Met l yL_ofPlace wsL_ofPlace rL_ofPlace_x (iPreX G N ad C sz [.ref (ad o), .int x, .int y, .int v, .ref (ad lo)]) (va_Qi (fun (r : Int32) (u : Nat → va_E) => r = nI 1 ∧ u = C) (iB G N ad) (iA N ad sz)) xN 1 6 (iA N ad sz) := by
  refine vx_ofWH (cc := cL_ofPlace) (maxL := 6) (ret := (some .int)) (hh := [(0, 12, 15, 13), (0, 12, 19, 15)]) (by decide) rfl ?_
  intro p e s m args below meth c s₁ B hml hv
  obtain ⟨rfl, ⟨⟨hsz, hP, hK, hD⟩, hV⟩, hZ⟩ := hv
  have hx := B.exec
  have hb := B.bytes
  have hr := B.returns
  have hts := atoms_spec (ws := wsL_ofPlace) B.pre
  have htab : c.exceptionTable.toList = [⟨0, 12, 15, 13⟩, ⟨0, 12, 19, 15⟩] := vx_table (x := yL_ofPlace) B (hts (.codeWith yL_ofPlace cL_ofPlace 6 (some .int) [(0, 12, 15, 13), (0, 12, 19, 15)]) List.mem_cons_self)
  have hown : s.vm.findClass RL = some m.cls := findClass_of_methodNamed B.named
  have hlocks := B.notSynchronized
  subst hsz
  have hD := wl_self hD s.heap.size
  have hA : ∀ q : Nat, s.heap.size ≤ q → iA N ad s.heap.size q := fun q h => Or.inr h
  have hS : va_S (iA N ad s.heap.size) s.heap s.heap [] := va_S.rf
  have hP : va_P G.1 vwB (wl N ad C) s.heap := hP
  refine vx_ret ?_
  have hl := lv_entry ([.ref (ad o), .int x, .int y, .int v, .ref (ad lo)]) (n := 6) (Nat.le_of_ble_eq_true rfl)
  rw [lg_entry_eq]
  generalize (lg_sl ([.ref (ad o), .int x, .int y, .int v, .ref (ad lo)]) ++ List.replicate (6 - (lg_sl ([.ref (ad o), .int x, .int y, .int v, .ref (ad lo)])).length) Slot.unset).toArray = ls at hl ⊢
  have hl : lv_has ls 6 [(0, .ref (ad o)), (1, .int x), (2, .int y), (3, .int v), (4, .ref (ad lo))] := hl
  obtain ⟨hN, ⟨ok1, ok2, ok3, ok4, ok5, ok6, ok7, ok8, ok9⟩, h0, ⟨s1, s2, s3⟩, ⟨e1, e2, e3⟩, h7, h8, ⟨TF, tr1, tr2, tr3, tr4, tr5⟩, ⟨TD, dv1, dv2, dv3⟩, ⟨TC, cv1, cv2, cv3⟩, hfr, hfi⟩ := id hcam
  refine lv_aload hx hb dL_ofPlace_0 (lv_at hl 4 rfl) ?_
  refine lv_iconst (v := nI 0) hx hb dL_ofPlace_2 (by decide) ?_
  refine lv_aload_n hx hb dL_ofPlace_3 rfl (lv_at hl 0 rfl) ?_
  refine lv_iload_n hx hb dL_ofPlace_4 rfl (lv_at hl 1 rfl) ?_
  refine lv_iload_n hx hb dL_ofPlace_5 rfl (lv_at hl 2 rfl) ?_
  refine lv_iload_n hx hb dL_ofPlace_6 rfl (lv_at hl 3 rfl) ?_
  refine vx_calli (vx_runV (As := [.int x, .int y, .int v]) (rest := [.int (nI 0), .ref (ad lo)]) ⟨hx, hb, hml, hown, hts⟩ (xX6_ofPlace_1 l hst G N ad _ o S hcam x y v h _) (cwV 3 hts gL_ofPlace_X6_ofPlace rfl rfl rfl (by decide +kernel) ⟨Nat.le_of_ble_eq_true rfl, Nat.le_of_ble_eq_true rfl⟩) (xPV hK hV hZ (va_S.rf (A := fun q : Nat => s.heap.size ≤ q) (H0 := s.heap)) (fun q h => h) hP hD (by omega) (h0) rfl [.int x, .int y, .int v]) rfl rfl hl.1 rfl (lv_room (Nat.le_of_ble_eq_true rfl)) dL_ofPlace_7 ⟨Nat.le_of_ble_eq_true rfl, Nat.le_of_ble_eq_true rfl⟩) hS (fun q h1 h2 => absurd h1 (Nat.not_lt.mpr h2)) (fun q h => hA q (Nat.le_trans hS.1 h)) (fun q h1 h2 => absurd h1 (Nat.not_lt.mpr h2)) (fun E ce q9 u t H1 locs1 ht hvm hpx hBX hz1 hk1 hS hcell hv9 hcl => ?_) (fun r u t H1 locs1 ht hvm hw => hw.elim)
  have hBX : E = _ := hBX
  subst hBX
  have hP := hP.kept (fun k q hq => hk1 _ ((hP k q hq).lt) (Nat.not_le.mpr ((hP k q hq).lt)))
  refine vx_catch (own := RL) (name := "java/lang/IndexOutOfBoundsException") hown ([] : List ExceptionTableEntry) ⟨0, 12, 15, 13⟩ [⟨0, 12, 19, 15⟩] htab (fun z hz => absurd hz List.not_mem_nil) (by decide) (by decide) (hts _ il_L_ofPlace_cl13) (va_Nw.use rfl (vx_cIO hV)) hcell hv9 hcl ?_
  refine W.eq (g2 := F0 m 15 ls [.ref q9]) rfl ?_
  refine lv_astore (lv' := [(5, .ref q9), (0, .ref (ad o)), (1, .int x), (2, .int y), (3, .int v), (4, .ref (ad lo))]) hx hb dL_ofPlace_15 hl (by decide) rfl (fun ls hl => ?_)
  refine lv_iconst (v := nI 1) hx hb dL_ofPlace_17 (by decide) ?_
  exact W.iret (v := nI 1) hx hb hr (fun t ht hW => ⟨⟨_, C, rfl, ⟨rfl, rfl⟩, iB_of ht hP⟩, hS.F ht⟩) hS.2.2 dL_ofPlace_18
set_option maxRecDepth 20000 in
theorem il_L_ofPlace_cl15 : (Cond.classLink RL 15 "java/lang/IllegalArgumentException") ∈ wsL_ofPlace := by decide +kernel
set_option maxHeartbeats 4000000 in
set_option maxRecDepth 100000 in
theorem wL_ofPlace_2 (l : Launch) (hst : l.stackTraces = false) (G : iG) (N : Nat) (ad : Nat → Nat) (C : Nat → va_E) (o : Nat) (S : St) (hcam : Cam G N ad C o S) (lo : Nat) (x y : Nat) (hx8 : x < 8) (hy8 : y < 8) (v : Int32) (h : v < nI 0 ∨ nI 5 < v) (sz : Nat) : vx_Met l yL_ofPlace wsL_ofPlace rL_ofPlace_x (iPreX G N ad C sz [.ref (ad o), .int (nI x), .int (nI y), .int v, .ref (ad lo)]) (va_Qi (fun (r : Int32) (u : Nat → va_E) => r = nI 2 ∧ u = C) (iB G N ad) (iA N ad sz)) xN 1 6 (iA N ad sz) := by
  refine vx_ofWH (cc := cL_ofPlace) (maxL := 6) (ret := (some .int)) (hh := [(0, 12, 15, 13), (0, 12, 19, 15)]) (by decide) rfl ?_
  intro p e s m args below meth c s₁ B hml hv
  obtain ⟨rfl, ⟨⟨hsz, hP, hK, hD⟩, hV⟩, hZ⟩ := hv
  have hx := B.exec
  have hb := B.bytes
  have hr := B.returns
  have hts := atoms_spec (ws := wsL_ofPlace) B.pre
  have htab : c.exceptionTable.toList = [⟨0, 12, 15, 13⟩, ⟨0, 12, 19, 15⟩] := vx_table (x := yL_ofPlace) B (hts (.codeWith yL_ofPlace cL_ofPlace 6 (some .int) [(0, 12, 15, 13), (0, 12, 19, 15)]) List.mem_cons_self)
  have hown : s.vm.findClass RL = some m.cls := findClass_of_methodNamed B.named
  have hlocks := B.notSynchronized
  subst hsz
  have hD := wl_self hD s.heap.size
  have hA : ∀ q : Nat, s.heap.size ≤ q → iA N ad s.heap.size q := fun q h => Or.inr h
  have hS : va_S (iA N ad s.heap.size) s.heap s.heap [] := va_S.rf
  have hP : va_P G.1 vwB (wl N ad C) s.heap := hP
  refine vx_ret ?_
  have hl := lv_entry ([.ref (ad o), .int (nI x), .int (nI y), .int v, .ref (ad lo)]) (n := 6) (Nat.le_of_ble_eq_true rfl)
  rw [lg_entry_eq]
  generalize (lg_sl ([.ref (ad o), .int (nI x), .int (nI y), .int v, .ref (ad lo)]) ++ List.replicate (6 - (lg_sl ([.ref (ad o), .int (nI x), .int (nI y), .int v, .ref (ad lo)])).length) Slot.unset).toArray = ls at hl ⊢
  have hl : lv_has ls 6 [(0, .ref (ad o)), (1, .int (nI x)), (2, .int (nI y)), (3, .int v), (4, .ref (ad lo))] := hl
  obtain ⟨hN, ⟨ok1, ok2, ok3, ok4, ok5, ok6, ok7, ok8, ok9⟩, h0, ⟨s1, s2, s3⟩, ⟨e1, e2, e3⟩, h7, h8, ⟨TF, tr1, tr2, tr3, tr4, tr5⟩, ⟨TD, dv1, dv2, dv3⟩, ⟨TC, cv1, cv2, cv3⟩, hfr, hfi⟩ := id hcam
  refine lv_aload hx hb dL_ofPlace_0 (lv_at hl 4 rfl) ?_
  refine lv_iconst (v := nI 0) hx hb dL_ofPlace_2 (by decide) ?_
  refine lv_aload_n hx hb dL_ofPlace_3 rfl (lv_at hl 0 rfl) ?_
  refine lv_iload_n hx hb dL_ofPlace_4 rfl (lv_at hl 1 rfl) ?_
  refine lv_iload_n hx hb dL_ofPlace_5 rfl (lv_at hl 2 rfl) ?_
  refine lv_iload_n hx hb dL_ofPlace_6 rfl (lv_at hl 3 rfl) ?_
  refine vx_calli (vx_runV (As := [.int (nI x), .int (nI y), .int v]) (rest := [.int (nI 0), .ref (ad lo)]) ⟨hx, hb, hml, hown, hts⟩ (xX6_ofPlace_2 l hst G N ad _ o S hcam x y hx8 hy8 v h _) (cwV 3 hts gL_ofPlace_X6_ofPlace rfl rfl rfl (by decide +kernel) ⟨Nat.le_of_ble_eq_true rfl, Nat.le_of_ble_eq_true rfl⟩) (xPV hK hV hZ (va_S.rf (A := fun q : Nat => s.heap.size ≤ q) (H0 := s.heap)) (fun q h => h) hP hD (by omega) (h0) rfl [.int (nI x), .int (nI y), .int v]) rfl rfl hl.1 rfl (lv_room (Nat.le_of_ble_eq_true rfl)) dL_ofPlace_7 ⟨Nat.le_of_ble_eq_true rfl, Nat.le_of_ble_eq_true rfl⟩) hS (fun q h1 h2 => absurd h1 (Nat.not_lt.mpr h2)) (fun q h => hA q (Nat.le_trans hS.1 h)) (fun q h1 h2 => absurd h1 (Nat.not_lt.mpr h2)) (fun E ce q9 u t H1 locs1 ht hvm hpx hBX hz1 hk1 hS hcell hv9 hcl => ?_) (fun r u t H1 locs1 ht hvm hw => hw.elim)
  have hBX : E = _ := hBX
  subst hBX
  have hP := hP.kept (fun k q hq => hk1 _ ((hP k q hq).lt) (Nat.not_le.mpr ((hP k q hq).lt)))
  refine vx_catch (own := RL) (name := "java/lang/IllegalArgumentException") hown ([⟨0, 12, 15, 13⟩] : List ExceptionTableEntry) ⟨0, 12, 19, 15⟩ [] htab (fun z hz => by rcases List.mem_singleton.mp hz with rfl; exact Or.inr ⟨by decide, _, hts _ il_L_ofPlace_cl13, vx_nAO hV⟩) (by decide) (by decide) (hts _ il_L_ofPlace_cl15) (va_Nw.use rfl (vx_cIA hV)) hcell hv9 hcl ?_
  refine W.eq (g2 := F0 m 19 ls [.ref q9]) rfl ?_
  refine lv_astore (lv' := [(5, .ref q9), (0, .ref (ad o)), (1, .int (nI x)), (2, .int (nI y)), (3, .int v), (4, .ref (ad lo))]) hx hb dL_ofPlace_19 hl (by decide) rfl (fun ls hl => ?_)
  refine lv_iconst (v := nI 2) hx hb dL_ofPlace_21 (by decide) ?_
  exact W.iret (v := nI 2) hx hb hr (fun t ht hW => ⟨⟨_, C, rfl, ⟨rfl, rfl⟩, iB_of ht hP⟩, hS.F ht⟩) hS.2.2 dL_ofPlace_22
abbrev rL_ofPlace_v : Room := { frames := 3, cells := 0, slots := 0, locals := 66 }
set_option maxHeartbeats 4000000 in
set_option maxRecDepth 100000 in
theorem wL_ofPlace (l : Launch) (G : iG) (N : Nat) (ad : Nat → Nat) (C : Nat → va_E) (o : Nat) (S : St) (hcam : Cam G N ad C o S) (lo : Nat) (hlo : lo < N) (hlo9 : lo < o ∨ o + 74 ≤ lo) (f0 : Nat → Int64) (glo : C lo = la G 1 f0) (x y : Nat) (hx8 : x < 8) (hy8 : y < 8) (w : Nat) (hw6 : w < 6) (sz : Nat) : vx_Met l yL_ofPlace wsL_ofPlace rL_ofPlace_v (iPreX G N ad C sz [.ref (ad o), .int (nI x), .int (nI y), .int (nI w), .ref (ad lo)]) (va_Qi (fun (r : Int32) (u : Nat → va_E) => r = nI 0 ∧ OutL G C u o lo (ofP S x y w).toInt64) (iB G N ad) (iA N ad sz)) xN 0 0 (iA N ad sz) := by
  refine vx_ofWH (cc := cL_ofPlace) (maxL := 6) (ret := (some .int)) (hh := [(0, 12, 15, 13), (0, 12, 19, 15)]) (by decide) rfl ?_
  intro p e s m args below meth c s₁ B hml hv
  obtain ⟨rfl, ⟨⟨hsz, hP, hK, hD⟩, hV⟩, hZ⟩ := hv
  have hx := B.exec
  have hb := B.bytes
  have hr := B.returns
  have hts := atoms_spec (ws := wsL_ofPlace) B.pre
  have htab : c.exceptionTable.toList = [⟨0, 12, 15, 13⟩, ⟨0, 12, 19, 15⟩] := vx_table (x := yL_ofPlace) B (hts (.codeWith yL_ofPlace cL_ofPlace 6 (some .int) [(0, 12, 15, 13), (0, 12, 19, 15)]) List.mem_cons_self)
  have hown : s.vm.findClass RL = some m.cls := findClass_of_methodNamed B.named
  have hlocks := B.notSynchronized
  subst hsz
  have hD := wl_self hD s.heap.size
  have hA : ∀ q : Nat, s.heap.size ≤ q → iA N ad s.heap.size q := fun q h => Or.inr h
  have hS : va_S (iA N ad s.heap.size) s.heap s.heap [] := va_S.rf
  have hP : va_P G.1 vwB (wl N ad C) s.heap := hP
  refine vx_ret ?_
  have hl := lv_entry ([.ref (ad o), .int (nI x), .int (nI y), .int (nI w), .ref (ad lo)]) (n := 6) (Nat.le_of_ble_eq_true rfl)
  rw [lg_entry_eq]
  generalize (lg_sl ([.ref (ad o), .int (nI x), .int (nI y), .int (nI w), .ref (ad lo)]) ++ List.replicate (6 - (lg_sl ([.ref (ad o), .int (nI x), .int (nI y), .int (nI w), .ref (ad lo)])).length) Slot.unset).toArray = ls at hl ⊢
  have hl : lv_has ls 6 [(0, .ref (ad o)), (1, .int (nI x)), (2, .int (nI y)), (3, .int (nI w)), (4, .ref (ad lo))] := hl
  obtain ⟨hN, ⟨ok1, ok2, ok3, ok4, ok5, ok6, ok7, ok8, ok9⟩, h0, ⟨s1, s2, s3⟩, ⟨e1, e2, e3⟩, h7, h8, ⟨TF, tr1, tr2, tr3, tr4, tr5⟩, ⟨TD, dv1, dv2, dv3⟩, ⟨TC, cv1, cv2, cv3⟩, hfr, hfi⟩ := id hcam
  refine lv_aload hx hb dL_ofPlace_0 (lv_at hl 4 rfl) ?_
  refine lv_iconst (v := nI 0) hx hb dL_ofPlace_2 (by decide) ?_
  refine lv_aload_n hx hb dL_ofPlace_3 rfl (lv_at hl 0 rfl) ?_
  refine lv_iload_n hx hb dL_ofPlace_4 rfl (lv_at hl 1 rfl) ?_
  refine lv_iload_n hx hb dL_ofPlace_5 rfl (lv_at hl 2 rfl) ?_
  refine lv_iload_n hx hb dL_ofPlace_6 rfl (lv_at hl 3 rfl) ?_
  refine iw_i (va_runV (As := [.int (nI x), .int (nI y), .int (nI w)]) (rest := [.int (nI 0), .ref (ad lo)]) ⟨hx, hb, hml, hown, hts⟩ (kX6_ofPlace l G N ad _ o S hcam x y hx8 hy8 w hw6 _) (cwV 3 hts gL_ofPlace_X6_ofPlace rfl rfl rfl (by decide +kernel) ⟨Nat.le_of_ble_eq_true rfl, Nat.le_of_ble_eq_true rfl⟩) (iPV hK hP hD (by omega) (h0) rfl [.int (nI x), .int (nI y), .int (nI w)]) rfl rfl hl.1 rfl (lv_room (Nat.le_of_ble_eq_true rfl)) dL_ofPlace_7 ⟨Nat.le_of_ble_eq_true rfl, Nat.le_of_ble_eq_true rfl⟩) hD hS hA (fun r8 u8 H locs hw8 hP hD hS => ?_)
  obtain ⟨hr8, hu8⟩ := hw8
  refine lv_asI hr8 ?_
  rw [hu8] at hP hD
  refine lv_i2l (v := (ofP S x y w).toInt64) hx hb dL_ofPlace_10 rfl ?_
  refine iw_last hx hb hK hP hD hS hlo (glo) (vp_in_nI (show 0 < 1 by omega) (by omega)) (nI_clamp (by omega)) dL_ofPlace_11 (fun H locs hP hD hS => ?_)
  refine lv_goto (tgt := 23) hx hb dL_ofPlace_12 (by decide) ?_
  refine lv_iconst (v := nI 0) hx hb dL_ofPlace_23 (by decide) ?_
  exact W.iret (v := nI 0) hx hb hr (fun t ht hW => ⟨⟨_, _, rfl, ⟨rfl, ⟨_, va_us _ _ _, rfl⟩, fun j h1 h2 => (va_un _ _ h2).trans rfl⟩, iB_of ht hP⟩, hS.F ht⟩) hS.2.2 dL_ofPlace_24
abbrev rL_many_x : Room := { frames := 8, cells := 1, slots := 6, locals := 133 }
set_option maxRecDepth 20000 in
theorem il_L_many_cl15 : (Cond.classLink RL 15 "java/lang/IllegalArgumentException") ∈ wsL_many := by decide +kernel
set_option maxHeartbeats 4000000 in
set_option maxRecDepth 100000 in
theorem wL_many_1 (l : Launch) (hst : l.stackTraces = false) (G : iG) (N : Nat) (ad : Nat → Nat) (C : Nat → va_E) (o : Nat) (S : St) (hcam : Cam G N ad C o S) (lo : Nat) (v : Int32) (h : v < nI 0 ∨ nI 6 < v) (sz : Nat) : vx_Met l yL_many wsL_many rL_many_x (iPreX G N ad C sz [.ref (ad o), .int v, .ref (ad lo)]) (va_Qi (fun (r : Int32) (u : Nat → va_E) => r = nI 1 ∧ u = C) (iB G N ad) (iA N ad sz)) xN 1 6 (iA N ad sz) := by
  refine vx_ofWH (cc := cL_many) (maxL := 4) (ret := (some .int)) (hh := [(0, 9, 12, 15)]) (by decide) rfl ?_
  intro p e s m args below meth c s₁ B hml hv
  obtain ⟨rfl, ⟨⟨hsz, hP, hK, hD⟩, hV⟩, hZ⟩ := hv
  have hx := B.exec
  have hb := B.bytes
  have hr := B.returns
  have hts := atoms_spec (ws := wsL_many) B.pre
  have htab : c.exceptionTable.toList = [⟨0, 9, 12, 15⟩] := vx_table (x := yL_many) B (hts (.codeWith yL_many cL_many 4 (some .int) [(0, 9, 12, 15)]) List.mem_cons_self)
  have hown : s.vm.findClass RL = some m.cls := findClass_of_methodNamed B.named
  have hlocks := B.notSynchronized
  subst hsz
  have hD := wl_self hD s.heap.size
  have hA : ∀ q : Nat, s.heap.size ≤ q → iA N ad s.heap.size q := fun q h => Or.inr h
  have hS : va_S (iA N ad s.heap.size) s.heap s.heap [] := va_S.rf
  have hP : va_P G.1 vwB (wl N ad C) s.heap := hP
  refine vx_ret ?_
  have hl := lv_entry ([.ref (ad o), .int v, .ref (ad lo)]) (n := 4) (Nat.le_of_ble_eq_true rfl)
  rw [lg_entry_eq]
  generalize (lg_sl ([.ref (ad o), .int v, .ref (ad lo)]) ++ List.replicate (4 - (lg_sl ([.ref (ad o), .int v, .ref (ad lo)])).length) Slot.unset).toArray = ls at hl ⊢
  have hl : lv_has ls 4 [(0, .ref (ad o)), (1, .int v), (2, .ref (ad lo))] := hl
  obtain ⟨hN, ⟨ok1, ok2, ok3, ok4, ok5, ok6, ok7, ok8, ok9⟩, h0, ⟨s1, s2, s3⟩, ⟨e1, e2, e3⟩, h7, h8, ⟨TF, tr1, tr2, tr3, tr4, tr5⟩, ⟨TD, dv1, dv2, dv3⟩, ⟨TC, cv1, cv2, cv3⟩, hfr, hfi⟩ := id hcam
  refine lv_aload_n hx hb dL_many_0 rfl (lv_at hl 2 rfl) ?_
  refine lv_iconst (v := nI 0) hx hb dL_many_1 (by decide) ?_
  refine lv_aload_n hx hb dL_many_2 rfl (lv_at hl 0 rfl) ?_
  refine lv_iload_n hx hb dL_many_3 rfl (lv_at hl 1 rfl) ?_
  refine vx_calli (vx_runV (As := [.int v]) (rest := [.int (nI 0), .ref (ad lo)]) ⟨hx, hb, hml, hown, hts⟩ (xX6_many_1 l hst G N ad _ o S hcam v h _) (cwV 1 hts gL_many_X6_many rfl rfl rfl (by decide +kernel) ⟨Nat.le_of_ble_eq_true rfl, Nat.le_of_ble_eq_true rfl⟩) (xPV hK hV hZ (va_S.rf (A := fun q : Nat => s.heap.size ≤ q) (H0 := s.heap)) (fun q h => h) hP hD (by omega) (h0) rfl [.int v]) rfl rfl hl.1 rfl (lv_room (Nat.le_of_ble_eq_true rfl)) dL_many_4 ⟨Nat.le_of_ble_eq_true rfl, Nat.le_of_ble_eq_true rfl⟩) hS (fun q h1 h2 => absurd h1 (Nat.not_lt.mpr h2)) (fun q h => hA q (Nat.le_trans hS.1 h)) (fun q h1 h2 => absurd h1 (Nat.not_lt.mpr h2)) (fun E ce q9 u t H1 locs1 ht hvm hpx hBX hz1 hk1 hS hcell hv9 hcl => ?_) (fun r u t H1 locs1 ht hvm hw => hw.elim)
  have hBX : E = _ := hBX
  subst hBX
  have hP := hP.kept (fun k q hq => hk1 _ ((hP k q hq).lt) (Nat.not_le.mpr ((hP k q hq).lt)))
  refine vx_catch (own := RL) (name := "java/lang/IllegalArgumentException") hown ([] : List ExceptionTableEntry) ⟨0, 9, 12, 15⟩ [] htab (fun z hz => absurd hz List.not_mem_nil) (by decide) (by decide) (hts _ il_L_many_cl15) (va_Nw.use rfl (vx_cIA hV)) hcell hv9 hcl ?_
  refine W.eq (g2 := F0 m 12 ls [.ref q9]) rfl ?_
  refine lv_astore_n (lv' := [(3, .ref q9), (0, .ref (ad o)), (1, .int v), (2, .ref (ad lo))]) hx hb dL_many_12 rfl hl (by decide) rfl (fun ls hl => ?_)
  refine lv_iconst (v := nI 1) hx hb dL_many_13 (by decide) ?_
  exact W.iret (v := nI 1) hx hb hr (fun t ht hW => ⟨⟨_, C, rfl, ⟨rfl, rfl⟩, iB_of ht hP⟩, hS.F ht⟩) hS.2.2 dL_many_14
abbrev rL_many_v : Room := { frames := 2, cells := 0, slots := 0, locals := 44 }
set_option maxHeartbeats 4000000 in
set_option maxRecDepth 100000 in
theorem wL_many (l : Launch) (G : iG) (N : Nat) (ad : Nat → Nat) (C : Nat → va_E) (o : Nat) (S : St) (hcam : Cam G N ad C o S) (lo : Nat) (hlo : lo < N) (hlo9 : lo < o ∨ o + 74 ≤ lo) (f0 : Nat → Int64) (glo : C lo = la G 1 f0) (hf0 : sFn S = 0) (w : Nat) (hw7 : w < 7) (sz : Nat) : vx_Met l yL_many wsL_many rL_many_v (iPreX G N ad C sz [.ref (ad o), .int (nI w), .ref (ad lo)]) (va_Qi (fun (r : Int32) (u : Nat → va_E) => r = nI 0 ∧ OutL G C u o lo (maI S w).toInt64) (iB G N ad) (iA N ad sz)) xN 0 0 (iA N ad sz) := by
  refine vx_ofWH (cc := cL_many) (maxL := 4) (ret := (some .int)) (hh := [(0, 9, 12, 15)]) (by decide) rfl ?_
  intro p e s m args below meth c s₁ B hml hv
  obtain ⟨rfl, ⟨⟨hsz, hP, hK, hD⟩, hV⟩, hZ⟩ := hv
  have hx := B.exec
  have hb := B.bytes
  have hr := B.returns
  have hts := atoms_spec (ws := wsL_many) B.pre
  have htab : c.exceptionTable.toList = [⟨0, 9, 12, 15⟩] := vx_table (x := yL_many) B (hts (.codeWith yL_many cL_many 4 (some .int) [(0, 9, 12, 15)]) List.mem_cons_self)
  have hown : s.vm.findClass RL = some m.cls := findClass_of_methodNamed B.named
  have hlocks := B.notSynchronized
  subst hsz
  have hD := wl_self hD s.heap.size
  have hA : ∀ q : Nat, s.heap.size ≤ q → iA N ad s.heap.size q := fun q h => Or.inr h
  have hS : va_S (iA N ad s.heap.size) s.heap s.heap [] := va_S.rf
  have hP : va_P G.1 vwB (wl N ad C) s.heap := hP
  refine vx_ret ?_
  have hl := lv_entry ([.ref (ad o), .int (nI w), .ref (ad lo)]) (n := 4) (Nat.le_of_ble_eq_true rfl)
  rw [lg_entry_eq]
  generalize (lg_sl ([.ref (ad o), .int (nI w), .ref (ad lo)]) ++ List.replicate (4 - (lg_sl ([.ref (ad o), .int (nI w), .ref (ad lo)])).length) Slot.unset).toArray = ls at hl ⊢
  have hl : lv_has ls 4 [(0, .ref (ad o)), (1, .int (nI w)), (2, .ref (ad lo))] := hl
  obtain ⟨hN, ⟨ok1, ok2, ok3, ok4, ok5, ok6, ok7, ok8, ok9⟩, h0, ⟨s1, s2, s3⟩, ⟨e1, e2, e3⟩, h7, h8, ⟨TF, tr1, tr2, tr3, tr4, tr5⟩, ⟨TD, dv1, dv2, dv3⟩, ⟨TC, cv1, cv2, cv3⟩, hfr, hfi⟩ := id hcam
  refine lv_aload_n hx hb dL_many_0 rfl (lv_at hl 2 rfl) ?_
  refine lv_iconst (v := nI 0) hx hb dL_many_1 (by decide) ?_
  refine lv_aload_n hx hb dL_many_2 rfl (lv_at hl 0 rfl) ?_
  refine lv_iload_n hx hb dL_many_3 rfl (lv_at hl 1 rfl) ?_
  refine iw_i (va_runV (As := [.int (nI w)]) (rest := [.int (nI 0), .ref (ad lo)]) ⟨hx, hb, hml, hown, hts⟩ (kX6_many l G N ad _ o S hcam hf0 w hw7 _) (cwV 1 hts gL_many_X6_many rfl rfl rfl (by decide +kernel) ⟨Nat.le_of_ble_eq_true rfl, Nat.le_of_ble_eq_true rfl⟩) (iPV hK hP hD (by omega) (h0) rfl [.int (nI w)]) rfl rfl hl.1 rfl (lv_room (Nat.le_of_ble_eq_true rfl)) dL_many_4 ⟨Nat.le_of_ble_eq_true rfl, Nat.le_of_ble_eq_true rfl⟩) hD hS hA (fun r8 u8 H locs hw8 hP hD hS => ?_)
  obtain ⟨hr8, hu8⟩ := hw8
  refine lv_asI hr8 ?_
  rw [hu8] at hP hD
  refine lv_i2l (v := (maI S w).toInt64) hx hb dL_many_7 rfl ?_
  refine iw_last hx hb hK hP hD hS hlo (glo) (vp_in_nI (show 0 < 1 by omega) (by omega)) (nI_clamp (by omega)) dL_many_8 (fun H locs hP hD hS => ?_)
  refine lv_goto (tgt := 15) hx hb dL_many_9 (by decide) ?_
  refine lv_iconst (v := nI 0) hx hb dL_many_15 (by decide) ?_
  exact W.iret (v := nI 0) hx hb hr (fun t ht hW => ⟨⟨_, _, rfl, ⟨rfl, ⟨_, va_us _ _ _, rfl⟩, fun j h1 h2 => (va_un _ _ h2).trans rfl⟩, iB_of ht hP⟩, hS.F ht⟩) hS.2.2 dL_many_16
abbrev rL_bestTake_x : Room := { frames := 8, cells := 1, slots := 6, locals := 140 }
set_option maxRecDepth 20000 in
theorem il_L_bestTake_cl15 : (Cond.classLink RL 15 "java/lang/IllegalArgumentException") ∈ wsL_bestTake := by decide +kernel
set_option maxHeartbeats 4000000 in
set_option maxRecDepth 100000 in
theorem wL_bestTake_1 (l : Launch) (hst : l.stackTraces = false) (G : iG) (N : Nat) (ad : Nat → Nat) (C : Nat → va_E) (o : Nat) (S : St) (hcam : Cam G N ad C o S) (lo : Nat) (v : Int32) (h : v < nI 0 ∨ nI 255 < v) (sz : Nat) : vx_Met l yL_bestTake wsL_bestTake rL_bestTake_x (iPreX G N ad C sz [.ref (ad o), .int v, .ref (ad lo)]) (va_Qi (fun (r : Int32) (u : Nat → va_E) => r = nI 1 ∧ u = C) (iB G N ad) (iA N ad sz)) xN 1 6 (iA N ad sz) := by
  refine vx_ofWH (cc := cL_bestTake) (maxL := 4) (ret := (some .int)) (hh := [(0, 9, 12, 15)]) (by decide) rfl ?_
  intro p e s m args below meth c s₁ B hml hv
  obtain ⟨rfl, ⟨⟨hsz, hP, hK, hD⟩, hV⟩, hZ⟩ := hv
  have hx := B.exec
  have hb := B.bytes
  have hr := B.returns
  have hts := atoms_spec (ws := wsL_bestTake) B.pre
  have htab : c.exceptionTable.toList = [⟨0, 9, 12, 15⟩] := vx_table (x := yL_bestTake) B (hts (.codeWith yL_bestTake cL_bestTake 4 (some .int) [(0, 9, 12, 15)]) List.mem_cons_self)
  have hown : s.vm.findClass RL = some m.cls := findClass_of_methodNamed B.named
  have hlocks := B.notSynchronized
  subst hsz
  have hD := wl_self hD s.heap.size
  have hA : ∀ q : Nat, s.heap.size ≤ q → iA N ad s.heap.size q := fun q h => Or.inr h
  have hS : va_S (iA N ad s.heap.size) s.heap s.heap [] := va_S.rf
  have hP : va_P G.1 vwB (wl N ad C) s.heap := hP
  refine vx_ret ?_
  have hl := lv_entry ([.ref (ad o), .int v, .ref (ad lo)]) (n := 4) (Nat.le_of_ble_eq_true rfl)
  rw [lg_entry_eq]
  generalize (lg_sl ([.ref (ad o), .int v, .ref (ad lo)]) ++ List.replicate (4 - (lg_sl ([.ref (ad o), .int v, .ref (ad lo)])).length) Slot.unset).toArray = ls at hl ⊢
  have hl : lv_has ls 4 [(0, .ref (ad o)), (1, .int v), (2, .ref (ad lo))] := hl
  obtain ⟨hN, ⟨ok1, ok2, ok3, ok4, ok5, ok6, ok7, ok8, ok9⟩, h0, ⟨s1, s2, s3⟩, ⟨e1, e2, e3⟩, h7, h8, ⟨TF, tr1, tr2, tr3, tr4, tr5⟩, ⟨TD, dv1, dv2, dv3⟩, ⟨TC, cv1, cv2, cv3⟩, hfr, hfi⟩ := id hcam
  refine lv_aload_n hx hb dL_bestTake_0 rfl (lv_at hl 2 rfl) ?_
  refine lv_iconst (v := nI 0) hx hb dL_bestTake_1 (by decide) ?_
  refine lv_aload_n hx hb dL_bestTake_2 rfl (lv_at hl 0 rfl) ?_
  refine lv_iload_n hx hb dL_bestTake_3 rfl (lv_at hl 1 rfl) ?_
  refine vx_calli (vx_runV (As := [.int v]) (rest := [.int (nI 0), .ref (ad lo)]) ⟨hx, hb, hml, hown, hts⟩ (xX6_bestTake_1 l hst G N ad _ o S hcam v h _) (cwV 1 hts gL_bestTake_X6_bestTake rfl rfl rfl (by decide +kernel) ⟨Nat.le_of_ble_eq_true rfl, Nat.le_of_ble_eq_true rfl⟩) (xPV hK hV hZ (va_S.rf (A := fun q : Nat => s.heap.size ≤ q) (H0 := s.heap)) (fun q h => h) hP hD (by omega) (h0) rfl [.int v]) rfl rfl hl.1 rfl (lv_room (Nat.le_of_ble_eq_true rfl)) dL_bestTake_4 ⟨Nat.le_of_ble_eq_true rfl, Nat.le_of_ble_eq_true rfl⟩) hS (fun q h1 h2 => absurd h1 (Nat.not_lt.mpr h2)) (fun q h => hA q (Nat.le_trans hS.1 h)) (fun q h1 h2 => absurd h1 (Nat.not_lt.mpr h2)) (fun E ce q9 u t H1 locs1 ht hvm hpx hBX hz1 hk1 hS hcell hv9 hcl => ?_) (fun r u t H1 locs1 ht hvm hw => hw.elim)
  have hBX : E = _ := hBX
  subst hBX
  have hP := hP.kept (fun k q hq => hk1 _ ((hP k q hq).lt) (Nat.not_le.mpr ((hP k q hq).lt)))
  refine vx_catch (own := RL) (name := "java/lang/IllegalArgumentException") hown ([] : List ExceptionTableEntry) ⟨0, 9, 12, 15⟩ [] htab (fun z hz => absurd hz List.not_mem_nil) (by decide) (by decide) (hts _ il_L_bestTake_cl15) (va_Nw.use rfl (vx_cIA hV)) hcell hv9 hcl ?_
  refine W.eq (g2 := F0 m 12 ls [.ref q9]) rfl ?_
  refine lv_astore_n (lv' := [(3, .ref q9), (0, .ref (ad o)), (1, .int v), (2, .ref (ad lo))]) hx hb dL_bestTake_12 rfl hl (by decide) rfl (fun ls hl => ?_)
  refine lv_iconst (v := nI 1) hx hb dL_bestTake_13 (by decide) ?_
  exact W.iret (v := nI 1) hx hb hr (fun t ht hW => ⟨⟨_, C, rfl, ⟨rfl, rfl⟩, iB_of ht hP⟩, hS.F ht⟩) hS.2.2 dL_bestTake_14
abbrev rL_bestTake_v : Room := { frames := 4, cells := 0, slots := 0, locals := 102 }
set_option maxHeartbeats 4000000 in
set_option maxRecDepth 100000 in
theorem wL_bestTake (l : Launch) (G : iG) (N : Nat) (ad : Nat → Nat) (C : Nat → va_E) (o : Nat) (S : St) (hcam : Cam G N ad C o S) (lo : Nat) (hlo : lo < N) (hlo9 : lo < o ∨ o + 74 ≤ lo) (f0 : Nat → Int64) (glo : C lo = la G 1 f0) (hdk : ∀ t g : Nat, t < 65 → exN (sHw S) (sSh S) (sFac S) (sDr S) t g = R0) (v : Nat) (hv : v < 256) (sz : Nat) : vx_Met l yL_bestTake wsL_bestTake rL_bestTake_v (iPreX G N ad C sz [.ref (ad o), .int (nI v), .ref (ad lo)]) (va_Qi (fun (r : Int32) (u : Nat → va_E) => r = nI 0 ∧ OutL G C u o lo (nI 17).toInt64) (iB G N ad) (iA N ad sz)) xN 0 0 (iA N ad sz) := by
  refine vx_ofWH (cc := cL_bestTake) (maxL := 4) (ret := (some .int)) (hh := [(0, 9, 12, 15)]) (by decide) rfl ?_
  intro p e s m args below meth c s₁ B hml hv
  obtain ⟨rfl, ⟨⟨hsz, hP, hK, hD⟩, hV⟩, hZ⟩ := hv
  have hx := B.exec
  have hb := B.bytes
  have hr := B.returns
  have hts := atoms_spec (ws := wsL_bestTake) B.pre
  have htab : c.exceptionTable.toList = [⟨0, 9, 12, 15⟩] := vx_table (x := yL_bestTake) B (hts (.codeWith yL_bestTake cL_bestTake 4 (some .int) [(0, 9, 12, 15)]) List.mem_cons_self)
  have hown : s.vm.findClass RL = some m.cls := findClass_of_methodNamed B.named
  have hlocks := B.notSynchronized
  subst hsz
  have hD := wl_self hD s.heap.size
  have hA : ∀ q : Nat, s.heap.size ≤ q → iA N ad s.heap.size q := fun q h => Or.inr h
  have hS : va_S (iA N ad s.heap.size) s.heap s.heap [] := va_S.rf
  have hP : va_P G.1 vwB (wl N ad C) s.heap := hP
  refine vx_ret ?_
  have hl := lv_entry ([.ref (ad o), .int (nI v), .ref (ad lo)]) (n := 4) (Nat.le_of_ble_eq_true rfl)
  rw [lg_entry_eq]
  generalize (lg_sl ([.ref (ad o), .int (nI v), .ref (ad lo)]) ++ List.replicate (4 - (lg_sl ([.ref (ad o), .int (nI v), .ref (ad lo)])).length) Slot.unset).toArray = ls at hl ⊢
  have hl : lv_has ls 4 [(0, .ref (ad o)), (1, .int (nI v)), (2, .ref (ad lo))] := hl
  obtain ⟨hN, ⟨ok1, ok2, ok3, ok4, ok5, ok6, ok7, ok8, ok9⟩, h0, ⟨s1, s2, s3⟩, ⟨e1, e2, e3⟩, h7, h8, ⟨TF, tr1, tr2, tr3, tr4, tr5⟩, ⟨TD, dv1, dv2, dv3⟩, ⟨TC, cv1, cv2, cv3⟩, hfr, hfi⟩ := id hcam
  refine lv_aload_n hx hb dL_bestTake_0 rfl (lv_at hl 2 rfl) ?_
  refine lv_iconst (v := nI 0) hx hb dL_bestTake_1 (by decide) ?_
  refine lv_aload_n hx hb dL_bestTake_2 rfl (lv_at hl 0 rfl) ?_
  refine lv_iload_n hx hb dL_bestTake_3 rfl (lv_at hl 1 rfl) ?_
  refine iw_i (va_runV (As := [.int (nI v)]) (rest := [.int (nI 0), .ref (ad lo)]) ⟨hx, hb, hml, hown, hts⟩ (kX6_bestTake l G N ad _ o S hcam hdk v hv _) (cwV 1 hts gL_bestTake_X6_bestTake rfl rfl rfl (by decide +kernel) ⟨Nat.le_of_ble_eq_true rfl, Nat.le_of_ble_eq_true rfl⟩) (iPV hK hP hD (by omega) (h0) rfl [.int (nI v)]) rfl rfl hl.1 rfl (lv_room (Nat.le_of_ble_eq_true rfl)) dL_bestTake_4 ⟨Nat.le_of_ble_eq_true rfl, Nat.le_of_ble_eq_true rfl⟩) hD hS hA (fun r8 u8 H locs hw8 hP hD hS => ?_)
  obtain ⟨hr8, -, hs8⟩ := hw8
  refine lv_asI hr8 ?_
  refine lv_i2l (v := (nI 17).toInt64) hx hb dL_bestTake_7 rfl ?_
  refine iw_last hx hb hK hP hD hS hlo (((hs8 _ hlo9).trans glo)) (vp_in_nI (show 0 < 1 by omega) (by omega)) (nI_clamp (by omega)) dL_bestTake_8 (fun H locs hP hD hS => ?_)
  refine lv_goto (tgt := 15) hx hb dL_bestTake_9 (by decide) ?_
  refine lv_iconst (v := nI 0) hx hb dL_bestTake_15 (by decide) ?_
  exact W.iret (v := nI 0) hx hb hr (fun t ht hW => ⟨⟨_, _, rfl, ⟨rfl, ⟨_, va_us _ _ _, rfl⟩, fun j h1 h2 => (va_un _ _ h2).trans (hs8 j h1)⟩, iB_of ht hP⟩, hS.F ht⟩) hS.2.2 dL_bestTake_16
