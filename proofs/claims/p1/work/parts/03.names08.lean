set_option maxRecDepth 20000 in
theorem ggX9_edited_J9_max_e70c8 : GoodIn wsX9_edited wsJ9_max_e70c8 := goodIn_r _ [7, 8, 9, 10, 11, 12] (by decide +kernel) (by decide +kernel)
set_option maxRecDepth 20000 in
theorem gX9_edited_J9_max_e70c8 : GoodIn wsX9_edited (va_wsS RX9 138 yJ9_max_e70c8 wsJ9_max_e70c8) := goodIn_app (goodIn_of _ (by decide +kernel)) ggX9_edited_J9_max_e70c8
set_option maxRecDepth 20000 in
theorem ggX9_picture_X9_has : GoodIn wsX9_picture wsX9_has := goodIn_r _ [8, 2, 9, 10, 11, 12, 13, 14, 15, 16, 17, 18, 19, 20, 21, 22, 23, 24, 25, 26, 27, 28, 29, 30, 31, 76, 77, 78] (by decide +kernel) (by decide +kernel)
set_option maxRecDepth 20000 in
theorem gX9_picture_X9_has : GoodIn wsX9_picture (va_wsS RX9 143 yX9_has wsX9_has) := goodIn_app (goodIn_of _ (by decide +kernel)) ggX9_picture_X9_has
set_option maxRecDepth 20000 in
theorem ggX9_picture_X9_mended : GoodIn wsX9_picture wsX9_mended := goodIn_r _ [35, 36, 37, 38, 39, 7, 40, 41, 42, 43, 44, 45, 46, 79, 80, 81, 82, 83, 84, 85, 86] (by decide +kernel) (by decide +kernel)
set_option maxRecDepth 20000 in
theorem gX9_picture_X9_mended : GoodIn wsX9_picture (wsV RX9 147 RX9 yX9_mended wsX9_mended) := goodIn_app (goodIn_of _ (by decide +kernel)) ggX9_picture_X9_mended
set_option maxRecDepth 20000 in
theorem ggX9_picture_X9_whole : GoodIn wsX9_picture wsX9_whole := goodIn_r _ [50, 3, 51, 52, 7, 53, 38, 39, 40, 41, 42, 43, 44, 45, 46] (by decide +kernel) (by decide +kernel)
set_option maxRecDepth 20000 in
theorem gX9_picture_X9_whole : GoodIn wsX9_picture (wsV RX9 151 RX9 yX9_whole wsX9_whole) := goodIn_app (goodIn_of _ (by decide +kernel)) ggX9_picture_X9_whole
set_option maxRecDepth 20000 in
theorem ggX9_picture_Jx4a65c_size_8abf5 : GoodIn wsX9_picture wsJx4a65c_size_8abf5 := goodIn_r _ [13, 14, 76, 77, 78] (by decide +kernel) (by decide +kernel)
set_option maxRecDepth 20000 in
theorem gX9_picture_Jx4a65c_size_8abf5_f41Jx4a65c : GoodIn wsX9_picture (va_wsF RX9 41 RJx4a65c ⟨"java/util/List", "size", "()I"⟩ yJx4a65c_size_8abf5 wsJx4a65c_size_8abf5) := goodIn_app (goodIn_of _ (by decide +kernel)) ggX9_picture_Jx4a65c_size_8abf5
set_option maxRecDepth 20000 in
theorem ggX9_picture_Jx4a65c_get_915e3 : GoodIn wsX9_picture wsJx4a65c_get_915e3 := goodIn_r _ [18, 14, 19, 20, 21, 22, 23, 24, 25, 26, 27, 28, 29, 12, 30, 31, 76, 77, 78] (by decide +kernel) (by decide +kernel)
set_option maxRecDepth 20000 in
theorem gX9_picture_Jx4a65c_get_915e3_f93Jx4a65c : GoodIn wsX9_picture (va_wsF RX9 93 RJx4a65c ⟨"java/util/List", "get", "(I)Ljava/lang/Object;"⟩ yJx4a65c_get_915e3 wsJx4a65c_get_915e3) := goodIn_app (goodIn_of _ (by decide +kernel)) ggX9_picture_Jx4a65c_get_915e3
set_option maxRecDepth 20000 in
theorem ggX9_picture_X9_at : GoodIn wsX9_picture wsX9_at := goodIn_r _ [46] (by decide +kernel) (by decide +kernel)
set_option maxRecDepth 20000 in
theorem gX9_picture_X9_at : GoodIn wsX9_picture (va_wsS RX9 56 yX9_at wsX9_at) := goodIn_app (goodIn_of _ (by decide +kernel)) ggX9_picture_X9_at
set_option maxRecDepth 20000 in
theorem ggX9_picture_X9_edited : GoodIn wsX9_picture wsX9_edited := goodIn_r _ [56, 57, 58, 4, 59, 60, 61, 62, 63, 64, 65, 66, 67] (by decide +kernel) (by decide +kernel)
set_option maxRecDepth 20000 in
theorem gX9_picture_X9_edited : GoodIn wsX9_picture (va_wsS RX9 155 yX9_edited wsX9_edited) := goodIn_app (goodIn_of _ (by decide +kernel)) ggX9_picture_X9_edited
set_option maxRecDepth 20000 in
theorem ggX9_picture_J9_min_e70c8 : GoodIn wsX9_picture wsJ9_min_e70c8 := goodIn_r _ [70, 63, 64, 65, 66, 67] (by decide +kernel) (by decide +kernel)
set_option maxRecDepth 20000 in
theorem gX9_picture_J9_min_e70c8 : GoodIn wsX9_picture (va_wsS RX9 159 yJ9_min_e70c8 wsJ9_min_e70c8) := goodIn_app (goodIn_of _ (by decide +kernel)) ggX9_picture_J9_min_e70c8
set_option maxRecDepth 20000 in
theorem ggX9_picture_J9_max_e70c8 : GoodIn wsX9_picture wsJ9_max_e70c8 := goodIn_r _ [62, 63, 64, 65, 66, 67] (by decide +kernel) (by decide +kernel)
set_option maxRecDepth 20000 in
theorem gX9_picture_J9_max_e70c8 : GoodIn wsX9_picture (va_wsS RX9 138 yJ9_max_e70c8 wsJ9_max_e70c8) := goodIn_app (goodIn_of _ (by decide +kernel)) ggX9_picture_J9_max_e70c8
set_option maxRecDepth 20000 in
theorem ggX9_picture__Jx4a65c_get_915e3 : GoodIn wsX9_picture_ wsJx4a65c_get_915e3 := goodIn_r _ [8, 9, 10, 11, 12, 13, 14, 15, 16, 17, 18, 19, 20, 7, 21, 22, 91, 92, 93] (by decide +kernel) (by decide +kernel)
set_option maxRecDepth 20000 in
theorem gX9_picture__Jx4a65c_get_915e3_f93Jx4a65c : GoodIn wsX9_picture_ (va_wsF RX9 93 RJx4a65c ⟨"java/util/List", "get", "(I)Ljava/lang/Object;"⟩ yJx4a65c_get_915e3 wsJx4a65c_get_915e3) := goodIn_app (goodIn_of _ (by decide +kernel)) ggX9_picture__Jx4a65c_get_915e3
set_option maxRecDepth 20000 in
theorem ggX9_picture__X9_picture : GoodIn wsX9_picture_ wsX9_picture := goodIn_r _ [27, 28, 29, 30, 31, 32, 33, 26, 34, 35, 36, 37, 7, 38, 9, 4, 5, 6, 8, 10, 11, 12, 13, 14, 15, 16, 17, 18, 19, 20, 21, 22, 39, 40, 41, 42, 43, 44, 45, 46, 47, 48, 49, 50, 51, 52, 53, 54, 55, 56, 57, 58, 59, 60, 61, 62, 63, 64, 65, 66, 67, 68, 69, 70, 71, 72, 73, 74, 75, 76, 77, 86, 87, 88, 89, 90, 91, 92, 93, 78, 79, 80, 81, 82, 83, 84, 85] (by decide +kernel) (by decide +kernel)
set_option maxRecDepth 20000 in
theorem gX9_picture__X9_picture : GoodIn wsX9_picture_ (wsV RX9 161 RX9 yX9_picture wsX9_picture) := goodIn_app (goodIn_of _ (by decide +kernel)) ggX9_picture__X9_picture
set_option maxRecDepth 20000 in
theorem ggX9_raw_X9_isFrame : GoodIn wsX9_raw wsX9_isFrame := goodIn_r _ [9, 2, 10, 11, 12, 13, 14, 15, 16, 17, 8, 18, 46, 47, 48, 49, 50, 51, 52, 53, 59, 60, 61] (by decide +kernel) (by decide +kernel)
set_option maxRecDepth 20000 in
theorem gX9_raw_X9_isFrame : GoodIn wsX9_raw (wsV RX9 112 RX9 yX9_isFrame wsX9_isFrame) := goodIn_app (goodIn_of _ (by decide +kernel)) ggX9_raw_X9_isFrame
set_option maxRecDepth 20000 in
theorem ggX9_raw_X9_isPlace : GoodIn wsX9_raw wsX9_isPlace := goodIn_r _ [21, 16, 17, 8, 18] (by decide +kernel) (by decide +kernel)
set_option maxRecDepth 20000 in
theorem gX9_raw_X9_isPlace : GoodIn wsX9_raw (va_wsS RX9 47 yX9_isPlace wsX9_isPlace) := goodIn_app (goodIn_of _ (by decide +kernel)) ggX9_raw_X9_isPlace
set_option maxRecDepth 20000 in
theorem ggX9_raw_X9_no : GoodIn wsX9_raw wsX9_no := goodIn_r _ [25, 1, 46, 47, 48, 49, 50, 51, 52, 53] (by decide +kernel) (by decide +kernel)
set_option maxRecDepth 20000 in
theorem gX9_raw_X9_no : GoodIn wsX9_raw (wsV RX9 51 RX9 yX9_no wsX9_no) := goodIn_app (goodIn_of _ (by decide +kernel)) ggX9_raw_X9_no
set_option maxRecDepth 20000 in
theorem ggX9_raw_Jx4a65c_get_915e3 : GoodIn wsX9_raw wsJx4a65c_get_915e3 := goodIn_r _ [29, 15, 30, 31, 32, 33, 34, 35, 36, 37, 38, 39, 40, 13, 41, 42, 59, 60, 61] (by decide +kernel) (by decide +kernel)
set_option maxRecDepth 20000 in
theorem gX9_raw_Jx4a65c_get_915e3_f93Jx4a65c : GoodIn wsX9_raw (va_wsF RX9 93 RJx4a65c ⟨"java/util/List", "get", "(I)Ljava/lang/Object;"⟩ yJx4a65c_get_915e3 wsJx4a65c_get_915e3) := goodIn_app (goodIn_of _ (by decide +kernel)) ggX9_raw_Jx4a65c_get_915e3
set_option maxRecDepth 20000 in
theorem ggX9_raw_X9_at : GoodIn wsX9_raw wsX9_at := goodIn_r _ [45] (by decide +kernel) (by decide +kernel)
set_option maxRecDepth 20000 in
theorem gX9_raw_X9_at : GoodIn wsX9_raw (va_wsS RX9 56 yX9_at wsX9_at) := goodIn_app (goodIn_of _ (by decide +kernel)) ggX9_raw_X9_at
set_option maxRecDepth 20000 in
theorem ggX9_picture___X9_isFrame : GoodIn wsX9_picture__ wsX9_isFrame := goodIn_r _ [6, 7, 8, 9, 10, 11, 12, 13, 14, 15, 5, 16, 91, 92, 93, 94, 95, 96, 97, 98, 99, 100, 101] (by decide +kernel) (by decide +kernel)
set_option maxRecDepth 20000 in
theorem gX9_picture___X9_isFrame : GoodIn wsX9_picture__ (wsV RX9 112 RX9 yX9_isFrame wsX9_isFrame) := goodIn_app (goodIn_of _ (by decide +kernel)) ggX9_picture___X9_isFrame
set_option maxRecDepth 20000 in
theorem ggX9_picture___X9_isPlace : GoodIn wsX9_picture__ wsX9_isPlace := goodIn_r _ [19, 14, 15, 5, 16] (by decide +kernel) (by decide +kernel)
set_option maxRecDepth 20000 in
theorem gX9_picture___X9_isPlace : GoodIn wsX9_picture__ (va_wsS RX9 47 yX9_isPlace wsX9_isPlace) := goodIn_app (goodIn_of _ (by decide +kernel)) ggX9_picture___X9_isPlace
set_option maxRecDepth 20000 in
theorem ggX9_picture___X9_no : GoodIn wsX9_picture__ wsX9_no := goodIn_r _ [23, 1, 91, 92, 93, 94, 95, 96, 97, 98] (by decide +kernel) (by decide +kernel)
set_option maxRecDepth 20000 in
theorem gX9_picture___X9_no : GoodIn wsX9_picture__ (wsV RX9 51 RX9 yX9_no wsX9_no) := goodIn_app (goodIn_of _ (by decide +kernel)) ggX9_picture___X9_no
set_option maxRecDepth 20000 in
theorem ggX9_picture___X9_in : GoodIn wsX9_picture__ wsX9_in := goodIn_r _ [16] (by decide +kernel) (by decide +kernel)
set_option maxRecDepth 20000 in
theorem gX9_picture___X9_in : GoodIn wsX9_picture__ (va_wsS RX9 37 yX9_in wsX9_in) := goodIn_app (goodIn_of _ (by decide +kernel)) ggX9_picture___X9_in
set_option maxRecDepth 20000 in
theorem ggX9_picture___X9_picture_ : GoodIn wsX9_picture__ wsX9_picture_ := goodIn_r _ [27, 7, 28, 29, 30, 31, 32, 11, 33, 13, 34, 35, 36, 37, 38, 39, 40, 41, 42, 43, 44, 45, 46, 47, 48, 49, 5, 50, 51, 52, 53, 54, 55, 56, 57, 8, 9, 10, 12, 58, 59, 60, 61, 62, 63, 17, 18, 19, 14, 15, 16, 64, 65, 66, 67, 68, 69, 70, 71, 72, 73, 74, 75, 76, 77, 78, 79, 80, 81, 82, 83, 84, 85, 86, 87, 88, 89, 90, 91, 92, 93, 94, 95, 96, 97, 98, 102, 103, 104, 105, 106, 99, 100, 101] (by decide +kernel) (by decide +kernel)
set_option maxRecDepth 20000 in
theorem gX9_picture___X9_picture_ : GoodIn wsX9_picture__ (wsV RX9 165 RX9 yX9_picture_ wsX9_picture_) := goodIn_app (goodIn_of _ (by decide +kernel)) ggX9_picture___X9_picture_
set_option maxRecDepth 20000 in
theorem ggX9_picture___X9_at : GoodIn wsX9_picture__ wsX9_at := goodIn_r _ [66] (by decide +kernel) (by decide +kernel)
set_option maxRecDepth 20000 in
theorem gX9_picture___X9_at : GoodIn wsX9_picture__ (va_wsS RX9 56 yX9_at wsX9_at) := goodIn_app (goodIn_of _ (by decide +kernel)) ggX9_picture___X9_at
set_option maxRecDepth 20000 in
theorem ggX9_word__X9_isFrame : GoodIn wsX9_word_ wsX9_isFrame := goodIn_r _ [6, 7, 8, 9, 10, 11, 12, 13, 14, 15, 5, 16, 94, 95, 96, 97, 98, 99, 100, 101, 102, 103, 104] (by decide +kernel) (by decide +kernel)
set_option maxRecDepth 20000 in
theorem gX9_word__X9_isFrame : GoodIn wsX9_word_ (wsV RX9 112 RX9 yX9_isFrame wsX9_isFrame) := goodIn_app (goodIn_of _ (by decide +kernel)) ggX9_word__X9_isFrame
set_option maxRecDepth 20000 in
theorem ggX9_word__X9_no : GoodIn wsX9_word_ wsX9_no := goodIn_r _ [20, 1, 94, 95, 96, 97, 98, 99, 100, 101] (by decide +kernel) (by decide +kernel)
set_option maxRecDepth 20000 in
theorem gX9_word__X9_no : GoodIn wsX9_word_ (wsV RX9 51 RX9 yX9_no wsX9_no) := goodIn_app (goodIn_of _ (by decide +kernel)) ggX9_word__X9_no
set_option maxRecDepth 20000 in
theorem ggX9_word__X9_picture_ : GoodIn wsX9_word_ wsX9_picture_ := goodIn_r _ [24, 7, 25, 26, 27, 28, 29, 11, 30, 13, 31, 32, 33, 34, 35, 36, 37, 38, 39, 40, 41, 42, 43, 44, 45, 46, 5, 47, 48, 49, 50, 51, 52, 53, 54, 8, 9, 10, 12, 55, 56, 57, 58, 59, 60, 61, 62, 63, 14, 15, 16, 64, 65, 66, 67, 68, 69, 70, 71, 72, 73, 74, 75, 76, 77, 78, 79, 80, 81, 82, 83, 84, 85, 86, 87, 88, 89, 90, 94, 95, 96, 97, 98, 99, 100, 101, 105, 106, 107, 108, 109, 102, 103, 104] (by decide +kernel) (by decide +kernel)
set_option maxRecDepth 20000 in
theorem gX9_word__X9_picture_ : GoodIn wsX9_word_ (wsV RX9 165 RX9 yX9_picture_ wsX9_picture_) := goodIn_app (goodIn_of _ (by decide +kernel)) ggX9_word__X9_picture_
set_option maxRecDepth 20000 in
theorem ggX9_word__X9_word : GoodIn wsX9_word_ wsX9_word := goodIn_r _ [93] (by decide +kernel) (by decide +kernel)
set_option maxRecDepth 20000 in
theorem gX9_word__X9_word : GoodIn wsX9_word_ (va_wsS RX9 168 yX9_word wsX9_word) := goodIn_app (goodIn_of _ (by decide +kernel)) ggX9_word__X9_word
set_option maxRecDepth 20000 in
theorem ggX9_frameNow_Jx4a65c_get_915e3 : GoodIn wsX9_frameNow wsJx4a65c_get_915e3 := goodIn_r _ [12, 13, 14, 15, 16, 17, 18, 19, 20, 21, 22, 23, 24, 11, 25, 26, 82, 83, 84] (by decide +kernel) (by decide +kernel)
set_option maxRecDepth 20000 in
theorem gX9_frameNow_Jx4a65c_get_915e3_f93Jx4a65c : GoodIn wsX9_frameNow (va_wsF RX9 93 RJx4a65c ⟨"java/util/List", "get", "(I)Ljava/lang/Object;"⟩ yJx4a65c_get_915e3 wsJx4a65c_get_915e3) := goodIn_app (goodIn_of _ (by decide +kernel)) ggX9_frameNow_Jx4a65c_get_915e3
set_option maxRecDepth 20000 in
theorem ggX9_frameNow_Jx4a65c_size_8abf5 : GoodIn wsX9_frameNow wsJx4a65c_size_8abf5 := goodIn_r _ [30, 13, 82, 83, 84] (by decide +kernel) (by decide +kernel)
set_option maxRecDepth 20000 in
theorem gX9_frameNow_Jx4a65c_size_8abf5_f41Jx4a65c : GoodIn wsX9_frameNow (va_wsF RX9 41 RJx4a65c ⟨"java/util/List", "size", "()I"⟩ yJx4a65c_size_8abf5 wsJx4a65c_size_8abf5) := goodIn_app (goodIn_of _ (by decide +kernel)) ggX9_frameNow_Jx4a65c_size_8abf5
set_option maxRecDepth 20000 in
theorem ggX9_frameNow_X7_clipped : GoodIn wsX9_frameNow wsX7_clipped := goodIn_r _ [35, 36, 77, 78, 79, 80, 81] (by decide +kernel) (by decide +kernel)
set_option maxRecDepth 20000 in
theorem gX9_frameNow_X7_clipped : GoodIn wsX9_frameNow (wsV RX9 172 RX7 yX7_clipped wsX7_clipped) := goodIn_app (goodIn_of _ (by decide +kernel)) ggX9_frameNow_X7_clipped
set_option maxRecDepth 20000 in
theorem ggX9_frameNow_X7_sharp : GoodIn wsX9_frameNow wsX7_sharp := goodIn_r _ [40, 36, 41, 42, 43, 44, 45, 46, 47, 77, 78, 79, 80, 81] (by decide +kernel) (by decide +kernel)
set_option maxRecDepth 20000 in
theorem gX9_frameNow_X7_sharp : GoodIn wsX9_frameNow (wsV RX9 175 RX7 yX7_sharp wsX7_sharp) := goodIn_app (goodIn_of _ (by decide +kernel)) ggX9_frameNow_X7_sharp
set_option maxRecDepth 20000 in
theorem ggX9_frameNow_X7_white : GoodIn wsX9_frameNow wsX7_white := goodIn_r _ [51, 52, 53, 43, 54, 55, 56, 57, 58, 59, 60, 34, 61, 36, 45, 46, 47, 77, 78, 79, 80, 81] (by decide +kernel) (by decide +kernel)
set_option maxRecDepth 20000 in
theorem gX9_frameNow_X7_white : GoodIn wsX9_frameNow (wsV RX9 178 RX7 yX7_white wsX7_white) := goodIn_app (goodIn_of _ (by decide +kernel)) ggX9_frameNow_X7_white
set_option maxRecDepth 20000 in
theorem ggX9_frameNow_X9_filesOf : GoodIn wsX9_frameNow wsX9_filesOf := goodIn_r _ [65, 66, 67, 68, 27, 28, 29, 11, 30, 13, 8, 9, 10, 12, 14, 15, 16, 17, 18, 19, 20, 21, 22, 23, 24, 25, 26, 69, 70, 71, 72, 73, 74, 75, 76, 85, 86, 87, 82, 83, 84] (by decide +kernel) (by decide +kernel)
set_option maxRecDepth 20000 in
theorem gX9_frameNow_X9_filesOf : GoodIn wsX9_frameNow (wsV RX9 131 RX9 yX9_filesOf wsX9_filesOf) := goodIn_app (goodIn_of _ (by decide +kernel)) ggX9_frameNow_X9_filesOf
set_option maxRecDepth 20000 in
theorem ggX9_ofFrame_X9_isFrame : GoodIn wsX9_ofFrame wsX9_isFrame := goodIn_r _ [6, 7, 8, 9, 10, 11, 12, 13, 14, 15, 5, 16, 85, 86, 87, 88, 89, 90, 91, 92, 93, 94, 95] (by decide +kernel) (by decide +kernel)
set_option maxRecDepth 20000 in
theorem gX9_ofFrame_X9_isFrame : GoodIn wsX9_ofFrame (wsV RX9 112 RX9 yX9_isFrame wsX9_isFrame) := goodIn_app (goodIn_of _ (by decide +kernel)) ggX9_ofFrame_X9_isFrame
set_option maxRecDepth 20000 in
theorem ggX9_ofFrame_X9_no : GoodIn wsX9_ofFrame wsX9_no := goodIn_r _ [20, 1, 85, 86, 87, 88, 89, 90, 91, 92] (by decide +kernel) (by decide +kernel)
set_option maxRecDepth 20000 in
theorem gX9_ofFrame_X9_no : GoodIn wsX9_ofFrame (wsV RX9 51 RX9 yX9_no wsX9_no) := goodIn_app (goodIn_of _ (by decide +kernel)) ggX9_ofFrame_X9_no
set_option maxRecDepth 20000 in
theorem ggX9_ofFrame_X9_in : GoodIn wsX9_ofFrame wsX9_in := goodIn_r _ [16] (by decide +kernel) (by decide +kernel)
set_option maxRecDepth 20000 in
theorem gX9_ofFrame_X9_in : GoodIn wsX9_ofFrame (va_wsS RX9 37 yX9_in wsX9_in) := goodIn_app (goodIn_of _ (by decide +kernel)) ggX9_ofFrame_X9_in
set_option maxRecDepth 20000 in
theorem ggX9_ofFrame_X9_frameNow : GoodIn wsX9_ofFrame wsX9_frameNow := goodIn_r _ [24, 7, 25, 26, 27, 28, 29, 30, 31, 32, 33, 11, 34, 13, 35, 36, 37, 38, 39, 40, 41, 42, 43, 44, 45, 46, 47, 8, 9, 10, 12, 48, 49, 50, 51, 52, 53, 54, 55, 56, 57, 58, 59, 60, 61, 62, 5, 63, 64, 65, 66, 67, 68, 69, 70, 71, 72, 73, 74, 75, 76, 77, 78, 79, 80, 81, 82, 83, 84, 85, 86, 87, 88, 89, 90, 91, 92, 96, 97, 98, 99, 100, 93, 94, 95, 101, 102, 103] (by decide +kernel) (by decide +kernel)
set_option maxRecDepth 20000 in
theorem gX9_ofFrame_X9_frameNow : GoodIn wsX9_ofFrame (wsV RX9 181 RX9 yX9_frameNow wsX9_frameNow) := goodIn_app (goodIn_of _ (by decide +kernel)) ggX9_ofFrame_X9_frameNow
set_option maxRecDepth 20000 in
theorem ggX9_ofEdit_X9_isFrame : GoodIn wsX9_ofEdit wsX9_isFrame := goodIn_r _ [10, 2, 11, 12, 13, 14, 15, 16, 17, 18, 9, 19, 41, 42, 43, 44, 45, 46, 47, 48, 54, 55, 56] (by decide +kernel) (by decide +kernel)
set_option maxRecDepth 20000 in
theorem gX9_ofEdit_X9_isFrame : GoodIn wsX9_ofEdit (wsV RX9 112 RX9 yX9_isFrame wsX9_isFrame) := goodIn_app (goodIn_of _ (by decide +kernel)) ggX9_ofEdit_X9_isFrame
set_option maxRecDepth 20000 in
theorem ggX9_ofEdit_Jx4a65c_get_915e3 : GoodIn wsX9_ofEdit wsJx4a65c_get_915e3 := goodIn_r _ [23, 16, 24, 25, 26, 27, 28, 29, 30, 31, 32, 33, 34, 14, 35, 36, 54, 55, 56] (by decide +kernel) (by decide +kernel)
set_option maxRecDepth 20000 in
theorem gX9_ofEdit_Jx4a65c_get_915e3_f93Jx4a65c : GoodIn wsX9_ofEdit (va_wsF RX9 93 RJx4a65c ⟨"java/util/List", "get", "(I)Ljava/lang/Object;"⟩ yJx4a65c_get_915e3 wsJx4a65c_get_915e3) := goodIn_app (goodIn_of _ (by decide +kernel)) ggX9_ofEdit_Jx4a65c_get_915e3
set_option maxRecDepth 20000 in
theorem ggX9_ofEdit_Jx4a65c_size_8abf5 : GoodIn wsX9_ofEdit wsJx4a65c_size_8abf5 := goodIn_r _ [15, 16, 54, 55, 56] (by decide +kernel) (by decide +kernel)
set_option maxRecDepth 20000 in
theorem gX9_ofEdit_Jx4a65c_size_8abf5_f41Jx4a65c : GoodIn wsX9_ofEdit (va_wsF RX9 41 RJx4a65c ⟨"java/util/List", "size", "()I"⟩ yJx4a65c_size_8abf5 wsJx4a65c_size_8abf5) := goodIn_app (goodIn_of _ (by decide +kernel)) ggX9_ofEdit_Jx4a65c_size_8abf5
set_option maxRecDepth 20000 in
theorem ggX9_ofEdit_X9_in : GoodIn wsX9_ofEdit wsX9_in := goodIn_r _ [19] (by decide +kernel) (by decide +kernel)
set_option maxRecDepth 20000 in
theorem gX9_ofEdit_X9_in : GoodIn wsX9_ofEdit (va_wsS RX9 37 yX9_in wsX9_in) := goodIn_app (goodIn_of _ (by decide +kernel)) ggX9_ofEdit_X9_in
set_option maxRecDepth 20000 in
theorem ggX9_ofEdit_X9_no : GoodIn wsX9_ofEdit wsX9_no := goodIn_r _ [40, 1, 41, 42, 43, 44, 45, 46, 47, 48] (by decide +kernel) (by decide +kernel)
set_option maxRecDepth 20000 in
theorem gX9_ofEdit_X9_no : GoodIn wsX9_ofEdit (wsV RX9 51 RX9 yX9_no wsX9_no) := goodIn_app (goodIn_of _ (by decide +kernel)) ggX9_ofEdit_X9_no
set_option maxRecDepth 20000 in
theorem ggX9_zone_X9_isFrame : GoodIn wsX9_zone wsX9_isFrame := goodIn_r _ [8, 2, 9, 10, 11, 12, 13, 14, 15, 16, 7, 17, 48, 49, 50, 51, 52, 53, 54, 55, 56, 57, 58] (by decide +kernel) (by decide +kernel)
set_option maxRecDepth 20000 in
theorem gX9_zone_X9_isFrame : GoodIn wsX9_zone (wsV RX9 112 RX9 yX9_isFrame wsX9_isFrame) := goodIn_app (goodIn_of _ (by decide +kernel)) ggX9_zone_X9_isFrame
set_option maxRecDepth 20000 in
theorem ggX9_zone_X9_in : GoodIn wsX9_zone wsX9_in := goodIn_r _ [17] (by decide +kernel) (by decide +kernel)
set_option maxRecDepth 20000 in
theorem gX9_zone_X9_in : GoodIn wsX9_zone (va_wsS RX9 37 yX9_in wsX9_in) := goodIn_app (goodIn_of _ (by decide +kernel)) ggX9_zone_X9_in
set_option maxRecDepth 20000 in
theorem ggX9_zone_X9_no : GoodIn wsX9_zone wsX9_no := goodIn_r _ [21, 1, 48, 49, 50, 51, 52, 53, 54, 55] (by decide +kernel) (by decide +kernel)
set_option maxRecDepth 20000 in
theorem gX9_zone_X9_no : GoodIn wsX9_zone (wsV RX9 51 RX9 yX9_no wsX9_no) := goodIn_app (goodIn_of _ (by decide +kernel)) ggX9_zone_X9_no
set_option maxRecDepth 20000 in
theorem ggX9_zone_Jx4a65c_get_915e3 : GoodIn wsX9_zone wsJx4a65c_get_915e3 := goodIn_r _ [25, 14, 26, 27, 28, 29, 30, 31, 32, 33, 34, 35, 36, 12, 37, 38, 56, 57, 58] (by decide +kernel) (by decide +kernel)
set_option maxRecDepth 20000 in
theorem gX9_zone_Jx4a65c_get_915e3_f93Jx4a65c : GoodIn wsX9_zone (va_wsF RX9 93 RJx4a65c ⟨"java/util/List", "get", "(I)Ljava/lang/Object;"⟩ yJx4a65c_get_915e3 wsJx4a65c_get_915e3) := goodIn_app (goodIn_of _ (by decide +kernel)) ggX9_zone_Jx4a65c_get_915e3
set_option maxRecDepth 20000 in
theorem ggX9_zone_X7_zone : GoodIn wsX9_zone wsX7_zone := goodIn_r _ [43, 44, 45, 46, 7, 47, 59, 60, 61, 62, 63] (by decide +kernel) (by decide +kernel)
set_option maxRecDepth 20000 in
theorem gX9_zone_X7_zone : GoodIn wsX9_zone (wsV RX9 184 RX7 yX7_zone wsX7_zone) := goodIn_app (goodIn_of _ (by decide +kernel)) ggX9_zone_X7_zone
set_option maxRecDepth 20000 in
theorem ggX9_meter_X9_isFrame : GoodIn wsX9_meter wsX9_isFrame := goodIn_r _ [8, 2, 9, 10, 11, 12, 13, 14, 15, 16, 7, 17, 53, 54, 55, 56, 57, 58, 59, 60, 61, 62, 63] (by decide +kernel) (by decide +kernel)
set_option maxRecDepth 20000 in
theorem gX9_meter_X9_isFrame : GoodIn wsX9_meter (wsV RX9 112 RX9 yX9_isFrame wsX9_isFrame) := goodIn_app (goodIn_of _ (by decide +kernel)) ggX9_meter_X9_isFrame
set_option maxRecDepth 20000 in
theorem ggX9_meter_X9_no : GoodIn wsX9_meter wsX9_no := goodIn_r _ [21, 1, 53, 54, 55, 56, 57, 58, 59, 60] (by decide +kernel) (by decide +kernel)
set_option maxRecDepth 20000 in
theorem gX9_meter_X9_no : GoodIn wsX9_meter (wsV RX9 51 RX9 yX9_no wsX9_no) := goodIn_app (goodIn_of _ (by decide +kernel)) ggX9_meter_X9_no
set_option maxRecDepth 20000 in
theorem ggX9_meter_Jx4a65c_get_915e3 : GoodIn wsX9_meter wsJx4a65c_get_915e3 := goodIn_r _ [25, 14, 26, 27, 28, 29, 30, 31, 32, 33, 34, 35, 36, 12, 37, 38, 61, 62, 63] (by decide +kernel) (by decide +kernel)
set_option maxRecDepth 20000 in
theorem gX9_meter_Jx4a65c_get_915e3_f93Jx4a65c : GoodIn wsX9_meter (va_wsF RX9 93 RJx4a65c ⟨"java/util/List", "get", "(I)Ljava/lang/Object;"⟩ yJx4a65c_get_915e3 wsJx4a65c_get_915e3) := goodIn_app (goodIn_of _ (by decide +kernel)) ggX9_meter_Jx4a65c_get_915e3
set_option maxRecDepth 20000 in
theorem ggX9_meter_X7_meter : GoodIn wsX9_meter wsX7_meter := goodIn_r _ [43, 44, 45, 46, 47, 42, 48, 49, 50, 51, 7, 52, 64, 65, 66, 67, 68] (by decide +kernel) (by decide +kernel)
set_option maxRecDepth 20000 in
theorem gX9_meter_X7_meter : GoodIn wsX9_meter (wsV RX9 188 RX7 yX7_meter wsX7_meter) := goodIn_app (goodIn_of _ (by decide +kernel)) ggX9_meter_X7_meter
set_option maxRecDepth 20000 in
theorem ggX9_fileNow_Jx4a65c_get_915e3 : GoodIn wsX9_fileNow wsJx4a65c_get_915e3 := goodIn_r _ [12, 13, 14, 15, 16, 17, 18, 19, 20, 21, 22, 23, 24, 11, 25, 26, 96, 97, 98] (by decide +kernel) (by decide +kernel)
set_option maxRecDepth 20000 in
theorem gX9_fileNow_Jx4a65c_get_915e3_f93Jx4a65c : GoodIn wsX9_fileNow (va_wsF RX9 93 RJx4a65c ⟨"java/util/List", "get", "(I)Ljava/lang/Object;"⟩ yJx4a65c_get_915e3 wsJx4a65c_get_915e3) := goodIn_app (goodIn_of _ (by decide +kernel)) ggX9_fileNow_Jx4a65c_get_915e3
set_option maxRecDepth 20000 in
theorem ggX9_fileNow_Jx4a65c_size_8abf5 : GoodIn wsX9_fileNow wsJx4a65c_size_8abf5 := goodIn_r _ [30, 13, 96, 97, 98] (by decide +kernel) (by decide +kernel)
set_option maxRecDepth 20000 in
theorem gX9_fileNow_Jx4a65c_size_8abf5_f41Jx4a65c : GoodIn wsX9_fileNow (va_wsF RX9 41 RJx4a65c ⟨"java/util/List", "size", "()I"⟩ yJx4a65c_size_8abf5 wsJx4a65c_size_8abf5) := goodIn_app (goodIn_of _ (by decide +kernel)) ggX9_fileNow_Jx4a65c_size_8abf5
set_option maxRecDepth 20000 in
theorem ggX9_fileNow_X9_picture : GoodIn wsX9_fileNow wsX9_picture := goodIn_r _ [35, 36, 37, 38, 39, 40, 41, 34, 42, 27, 28, 29, 11, 30, 13, 8, 9, 10, 12, 14, 15, 16, 17, 18, 19, 20, 21, 22, 23, 24, 25, 26, 43, 44, 45, 46, 47, 48, 49, 50, 51, 52, 53, 54, 55, 56, 57, 58, 59, 60, 61, 62, 63, 64, 65, 66, 67, 68, 69, 70, 71, 72, 73, 74, 75, 76, 77, 78, 79, 80, 81, 99, 100, 101, 102, 103, 96, 97, 98, 85, 86, 87, 88, 89, 90, 91, 92] (by decide +kernel) (by decide +kernel)
set_option maxRecDepth 20000 in
theorem gX9_fileNow_X9_picture : GoodIn wsX9_fileNow (wsV RX9 161 RX9 yX9_picture wsX9_picture) := goodIn_app (goodIn_of _ (by decide +kernel)) ggX9_fileNow_X9_picture
set_option maxRecDepth 20000 in
theorem ggX9_fileNow_X9_word : GoodIn wsX9_fileNow wsX9_word := goodIn_r _ [84] (by decide +kernel) (by decide +kernel)
set_option maxRecDepth 20000 in
theorem gX9_fileNow_X9_word : GoodIn wsX9_fileNow (va_wsS RX9 168 yX9_word wsX9_word) := goodIn_app (goodIn_of _ (by decide +kernel)) ggX9_fileNow_X9_word
set_option maxRecDepth 20000 in
theorem ggX9_ofFile_Jx4a65c_size_8abf5 : GoodIn wsX9_ofFile wsJx4a65c_size_8abf5 := goodIn_r _ [7, 8, 102, 103, 104] (by decide +kernel) (by decide +kernel)
set_option maxRecDepth 20000 in
theorem gX9_ofFile_Jx4a65c_size_8abf5_f41Jx4a65c : GoodIn wsX9_ofFile (va_wsF RX9 41 RJx4a65c ⟨"java/util/List", "size", "()I"⟩ yJx4a65c_size_8abf5 wsJx4a65c_size_8abf5) := goodIn_app (goodIn_of _ (by decide +kernel)) ggX9_ofFile_Jx4a65c_size_8abf5
set_option maxRecDepth 20000 in
theorem ggX9_ofFile_X9_in : GoodIn wsX9_ofFile wsX9_in := goodIn_r _ [12] (by decide +kernel) (by decide +kernel)
set_option maxRecDepth 20000 in
theorem gX9_ofFile_X9_in : GoodIn wsX9_ofFile (va_wsS RX9 37 yX9_in wsX9_in) := goodIn_app (goodIn_of _ (by decide +kernel)) ggX9_ofFile_X9_in
set_option maxRecDepth 20000 in
theorem ggX9_ofFile_X9_no : GoodIn wsX9_ofFile wsX9_no := goodIn_r _ [16, 1, 94, 95, 96, 97, 98, 99, 100, 101] (by decide +kernel) (by decide +kernel)
set_option maxRecDepth 20000 in
theorem gX9_ofFile_X9_no : GoodIn wsX9_ofFile (wsV RX9 51 RX9 yX9_no wsX9_no) := goodIn_app (goodIn_of _ (by decide +kernel)) ggX9_ofFile_X9_no
set_option maxRecDepth 20000 in
theorem ggX9_ofFile_X9_fileNow : GoodIn wsX9_ofFile wsX9_fileNow := goodIn_r _ [20, 2, 21, 22, 23, 24, 25, 26, 27, 28, 29, 6, 30, 8, 31, 32, 33, 34, 35, 36, 37, 38, 39, 40, 41, 42, 43, 3, 4, 5, 7, 44, 45, 46, 11, 47, 48, 49, 50, 51, 52, 53, 54, 55, 56, 57, 58, 59, 60, 61, 62, 63, 9, 10, 12, 64, 65, 66, 67, 68, 69, 70, 71, 72, 73, 74, 75, 76, 77, 78, 79, 80, 81, 82, 83, 84, 85, 86, 87, 88, 89, 90, 91, 92, 93, 94, 95, 96, 97, 98, 99, 100, 101, 105, 106, 107, 102, 103, 104, 108, 109, 110, 111, 112] (by decide +kernel) (by decide +kernel)
set_option maxRecDepth 20000 in
theorem gX9_ofFile_X9_fileNow : GoodIn wsX9_ofFile (wsV RX9 195 RX9 yX9_fileNow wsX9_fileNow) := goodIn_app (goodIn_of _ (by decide +kernel)) ggX9_ofFile_X9_fileNow
set_option maxRecDepth 20000 in
theorem ggX9_ofPlace_X9_isPlace : GoodIn wsX9_ofPlace wsX9_isPlace := goodIn_r _ [9, 10, 11, 8, 12] (by decide +kernel) (by decide +kernel)
set_option maxRecDepth 20000 in
theorem gX9_ofPlace_X9_isPlace : GoodIn wsX9_ofPlace (va_wsS RX9 47 yX9_isPlace wsX9_isPlace) := goodIn_app (goodIn_of _ (by decide +kernel)) ggX9_ofPlace_X9_isPlace
set_option maxRecDepth 20000 in
theorem ggX9_ofPlace_X9_no : GoodIn wsX9_ofPlace wsX9_no := goodIn_r _ [16, 1, 23, 24, 25, 26, 27, 28, 29, 30] (by decide +kernel) (by decide +kernel)
set_option maxRecDepth 20000 in
theorem gX9_ofPlace_X9_no : GoodIn wsX9_ofPlace (wsV RX9 51 RX9 yX9_no wsX9_no) := goodIn_app (goodIn_of _ (by decide +kernel)) ggX9_ofPlace_X9_no
set_option maxRecDepth 20000 in
theorem ggX9_ofPlace_X9_in : GoodIn wsX9_ofPlace wsX9_in := goodIn_r _ [12] (by decide +kernel) (by decide +kernel)
set_option maxRecDepth 20000 in
theorem gX9_ofPlace_X9_in : GoodIn wsX9_ofPlace (va_wsS RX9 37 yX9_in wsX9_in) := goodIn_app (goodIn_of _ (by decide +kernel)) ggX9_ofPlace_X9_in
set_option maxRecDepth 20000 in
theorem ggX9_ofPlace_X9_at : GoodIn wsX9_ofPlace wsX9_at := goodIn_r _ [19] (by decide +kernel) (by decide +kernel)
set_option maxRecDepth 20000 in
theorem gX9_ofPlace_X9_at : GoodIn wsX9_ofPlace (va_wsS RX9 56 yX9_at wsX9_at) := goodIn_app (goodIn_of _ (by decide +kernel)) ggX9_ofPlace_X9_at
set_option maxRecDepth 20000 in
theorem ggX9_ofPlace_X9_colour : GoodIn wsX9_ofPlace wsX9_colour := goodIn_r _ [22] (by decide +kernel) (by decide +kernel)
set_option maxRecDepth 20000 in
theorem gX9_ofPlace_X9_colour : GoodIn wsX9_ofPlace (va_wsS RX9 67 yX9_colour wsX9_colour) := goodIn_app (goodIn_of _ (by decide +kernel)) ggX9_ofPlace_X9_colour
set_option maxRecDepth 20000 in
theorem ggX9_manyNow_Jx4a65c_size_8abf5 : GoodIn wsX9_manyNow wsJx4a65c_size_8abf5 := goodIn_r _ [13, 14, 50, 51, 52] (by decide +kernel) (by decide +kernel)
set_option maxRecDepth 20000 in
theorem gX9_manyNow_Jx4a65c_size_8abf5_f41Jx4a65c : GoodIn wsX9_manyNow (va_wsF RX9 41 RJx4a65c ⟨"java/util/List", "size", "()I"⟩ yJx4a65c_size_8abf5 wsJx4a65c_size_8abf5) := goodIn_app (goodIn_of _ (by decide +kernel)) ggX9_manyNow_Jx4a65c_size_8abf5
set_option maxRecDepth 20000 in
theorem ggX9_manyNow_Jx4a65c_get_915e3 : GoodIn wsX9_manyNow wsJx4a65c_get_915e3 := goodIn_r _ [18, 14, 19, 20, 21, 22, 23, 24, 25, 26, 27, 28, 29, 12, 30, 31, 50, 51, 52] (by decide +kernel) (by decide +kernel)
set_option maxRecDepth 20000 in
theorem gX9_manyNow_Jx4a65c_get_915e3_f93Jx4a65c : GoodIn wsX9_manyNow (va_wsF RX9 93 RJx4a65c ⟨"java/util/List", "get", "(I)Ljava/lang/Object;"⟩ yJx4a65c_get_915e3 wsJx4a65c_get_915e3) := goodIn_app (goodIn_of _ (by decide +kernel)) ggX9_manyNow_Jx4a65c_get_915e3
set_option maxRecDepth 20000 in
theorem ggX9_manyNow_X9_mapped : GoodIn wsX9_manyNow wsX9_mapped := goodIn_r _ [36, 5, 37, 38, 39, 40, 41, 42, 43, 44] (by decide +kernel) (by decide +kernel)
set_option maxRecDepth 20000 in
theorem gX9_manyNow_X9_mapped : GoodIn wsX9_manyNow (wsV RX9 61 RX9 yX9_mapped wsX9_mapped) := goodIn_app (goodIn_of _ (by decide +kernel)) ggX9_manyNow_X9_mapped
set_option maxRecDepth 20000 in
theorem ggX9_many_X9_in : GoodIn wsX9_many wsX9_in := goodIn_r _ [5] (by decide +kernel) (by decide +kernel)
set_option maxRecDepth 20000 in
theorem gX9_many_X9_in : GoodIn wsX9_many (va_wsS RX9 37 yX9_in wsX9_in) := goodIn_app (goodIn_of _ (by decide +kernel)) ggX9_many_X9_in
set_option maxRecDepth 20000 in
theorem ggX9_many_X9_no : GoodIn wsX9_many wsX9_no := goodIn_r _ [9, 1, 49, 50, 51, 52, 53, 54, 55, 56] (by decide +kernel) (by decide +kernel)
set_option maxRecDepth 20000 in
theorem gX9_many_X9_no : GoodIn wsX9_many (wsV RX9 51 RX9 yX9_no wsX9_no) := goodIn_app (goodIn_of _ (by decide +kernel)) ggX9_many_X9_no
set_option maxRecDepth 20000 in
theorem ggX9_many_X9_manyNow : GoodIn wsX9_many wsX9_manyNow := goodIn_r _ [13, 14, 15, 16, 17, 18, 19, 20, 21, 22, 23, 24, 25, 26, 27, 28, 29, 30, 31, 32, 33, 34, 35, 36, 37, 38, 39, 40, 41, 42, 43, 44, 45, 46, 47, 4, 48, 49, 50, 51, 52, 53, 54, 55, 56, 57, 58, 59, 60, 61, 62, 63, 64] (by decide +kernel) (by decide +kernel)
set_option maxRecDepth 20000 in
theorem gX9_many_X9_manyNow : GoodIn wsX9_many (wsV RX9 198 RX9 yX9_manyNow wsX9_manyNow) := goodIn_app (goodIn_of _ (by decide +kernel)) ggX9_many_X9_manyNow
set_option maxRecDepth 20000 in
theorem ggX9_apart_X9_isFrame : GoodIn wsX9_apart wsX9_isFrame := goodIn_r _ [6, 7, 8, 9, 10, 11, 12, 13, 14, 15, 5, 16, 98, 99, 100, 101, 102, 103, 104, 105, 106, 107, 108] (by decide +kernel) (by decide +kernel)
set_option maxRecDepth 20000 in
theorem gX9_apart_X9_isFrame : GoodIn wsX9_apart (wsV RX9 112 RX9 yX9_isFrame wsX9_isFrame) := goodIn_app (goodIn_of _ (by decide +kernel)) ggX9_apart_X9_isFrame
set_option maxRecDepth 20000 in
theorem ggX9_apart_X9_no : GoodIn wsX9_apart wsX9_no := goodIn_r _ [20, 1, 98, 99, 100, 101, 102, 103, 104, 105] (by decide +kernel) (by decide +kernel)
set_option maxRecDepth 20000 in
theorem gX9_apart_X9_no : GoodIn wsX9_apart (wsV RX9 51 RX9 yX9_no wsX9_no) := goodIn_app (goodIn_of _ (by decide +kernel)) ggX9_apart_X9_no
set_option maxRecDepth 20000 in
theorem ggX9_apart_X9_picture_ : GoodIn wsX9_apart wsX9_picture_ := goodIn_r _ [24, 7, 25, 26, 27, 28, 29, 11, 30, 13, 31, 32, 33, 34, 35, 36, 37, 38, 39, 40, 41, 42, 43, 44, 45, 46, 5, 47, 48, 49, 50, 51, 52, 53, 54, 8, 9, 10, 12, 55, 56, 57, 58, 59, 60, 61, 62, 63, 14, 15, 16, 64, 65, 66, 67, 68, 69, 70, 71, 72, 73, 74, 75, 76, 77, 78, 79, 80, 81, 82, 83, 84, 85, 86, 87, 88, 89, 90, 98, 99, 100, 101, 102, 103, 104, 105, 109, 110, 111, 112, 113, 106, 107, 108] (by decide +kernel) (by decide +kernel)
set_option maxRecDepth 20000 in
theorem gX9_apart_X9_picture_ : GoodIn wsX9_apart (wsV RX9 165 RX9 yX9_picture_ wsX9_picture_) := goodIn_app (goodIn_of _ (by decide +kernel)) ggX9_apart_X9_picture_
set_option maxRecDepth 20000 in
theorem ggX9_apart_J9_abs_f6c48 : GoodIn wsX9_apart wsJ9_abs_f6c48 := goodIn_r _ [93, 83, 84, 85, 86, 94, 95, 96, 97] (by decide +kernel) (by decide +kernel)
set_option maxRecDepth 20000 in
theorem gX9_apart_J9_abs_f6c48 : GoodIn wsX9_apart (va_wsS RX9 201 yJ9_abs_f6c48 wsJ9_abs_f6c48) := goodIn_app (goodIn_of _ (by decide +kernel)) ggX9_apart_J9_abs_f6c48
set_option maxRecDepth 20000 in
theorem ggX9_apart_J9_max_e70c8 : GoodIn wsX9_apart wsJ9_max_e70c8 := goodIn_r _ [82, 83, 84, 85, 86, 87] (by decide +kernel) (by decide +kernel)
set_option maxRecDepth 20000 in
theorem gX9_apart_J9_max_e70c8 : GoodIn wsX9_apart (va_wsS RX9 138 yJ9_max_e70c8 wsJ9_max_e70c8) := goodIn_app (goodIn_of _ (by decide +kernel)) ggX9_apart_J9_max_e70c8
set_option maxRecDepth 20000 in
theorem ggX9_wouldClip_X9_in : GoodIn wsX9_wouldClip wsX9_in := goodIn_r _ [5] (by decide +kernel) (by decide +kernel)
set_option maxRecDepth 20000 in
theorem gX9_wouldClip_X9_in : GoodIn wsX9_wouldClip (va_wsS RX9 37 yX9_in wsX9_in) := goodIn_app (goodIn_of _ (by decide +kernel)) ggX9_wouldClip_X9_in
set_option maxRecDepth 20000 in
theorem ggX9_wouldClip_X9_no : GoodIn wsX9_wouldClip wsX9_no := goodIn_r _ [9, 1, 66, 67, 68, 69, 70, 71, 72, 73] (by decide +kernel) (by decide +kernel)
set_option maxRecDepth 20000 in
theorem gX9_wouldClip_X9_no : GoodIn wsX9_wouldClip (wsV RX9 51 RX9 yX9_no wsX9_no) := goodIn_app (goodIn_of _ (by decide +kernel)) ggX9_wouldClip_X9_no
set_option maxRecDepth 20000 in
theorem ggX9_wouldClip_X9_taken : GoodIn wsX9_wouldClip wsX9_taken := goodIn_r _ [13, 14, 15, 16, 17, 18, 19, 20, 21, 22, 23, 24, 25, 26, 27, 28, 29, 30, 31, 32, 4, 33, 34, 35, 36, 37, 38, 39, 40, 41, 42, 43, 44, 45, 46, 47, 48, 49, 50, 51, 52, 53, 54, 55, 56, 57, 58, 59, 60, 61, 66, 67, 68, 69, 70, 71, 72, 73, 74, 75, 76, 77, 78, 79, 80, 81] (by decide +kernel) (by decide +kernel)
set_option maxRecDepth 20000 in
theorem gX9_wouldClip_X9_taken : GoodIn wsX9_wouldClip (wsV RX9 85 RX9 yX9_taken wsX9_taken) := goodIn_app (goodIn_of _ (by decide +kernel)) ggX9_wouldClip_X9_taken
set_option maxRecDepth 20000 in
theorem ggX9_wouldClip_X7_clipped : GoodIn wsX9_wouldClip wsX7_clipped := goodIn_r _ [65, 46, 74, 75, 76, 77, 78] (by decide +kernel) (by decide +kernel)
set_option maxRecDepth 20000 in
theorem gX9_wouldClip_X7_clipped : GoodIn wsX9_wouldClip (wsV RX9 172 RX7 yX7_clipped wsX7_clipped) := goodIn_app (goodIn_of _ (by decide +kernel)) ggX9_wouldClip_X7_clipped
set_option maxRecDepth 20000 in
theorem ggX9_bestTake_X9_in : GoodIn wsX9_bestTake wsX9_in := goodIn_r _ [5] (by decide +kernel) (by decide +kernel)
set_option maxRecDepth 20000 in
theorem gX9_bestTake_X9_in : GoodIn wsX9_bestTake (va_wsS RX9 37 yX9_in wsX9_in) := goodIn_app (goodIn_of _ (by decide +kernel)) ggX9_bestTake_X9_in
set_option maxRecDepth 20000 in
theorem ggX9_bestTake_X9_no : GoodIn wsX9_bestTake wsX9_no := goodIn_r _ [9, 1, 84, 85, 86, 87, 88, 89, 90, 91] (by decide +kernel) (by decide +kernel)
set_option maxRecDepth 20000 in
theorem gX9_bestTake_X9_no : GoodIn wsX9_bestTake (wsV RX9 51 RX9 yX9_no wsX9_no) := goodIn_app (goodIn_of _ (by decide +kernel)) ggX9_bestTake_X9_no
set_option maxRecDepth 20000 in
theorem ggX9_bestTake_X9_taken : GoodIn wsX9_bestTake wsX9_taken := goodIn_r _ [13, 14, 15, 16, 17, 18, 19, 20, 21, 22, 23, 24, 25, 26, 27, 28, 29, 30, 31, 32, 4, 33, 34, 35, 36, 37, 38, 39, 40, 41, 42, 43, 44, 45, 46, 47, 48, 49, 50, 51, 52, 53, 54, 55, 56, 57, 58, 59, 60, 61, 84, 85, 86, 87, 88, 89, 90, 91, 92, 93, 94, 95, 96, 97, 98, 99] (by decide +kernel) (by decide +kernel)
set_option maxRecDepth 20000 in
theorem gX9_bestTake_X9_taken : GoodIn wsX9_bestTake (wsV RX9 85 RX9 yX9_taken wsX9_taken) := goodIn_app (goodIn_of _ (by decide +kernel)) ggX9_bestTake_X9_taken
set_option maxRecDepth 20000 in
theorem ggX9_bestTake_X7_meter : GoodIn wsX9_bestTake wsX7_meter := goodIn_r _ [65, 66, 67, 68, 69, 30, 70, 46, 71, 32, 4, 33, 92, 93, 94, 95, 96] (by decide +kernel) (by decide +kernel)
set_option maxRecDepth 20000 in
theorem gX9_bestTake_X7_meter : GoodIn wsX9_bestTake (wsV RX9 188 RX7 yX7_meter wsX7_meter) := goodIn_app (goodIn_of _ (by decide +kernel)) ggX9_bestTake_X7_meter
set_option maxRecDepth 20000 in
theorem ggX9_bestTake_J9_abs_294c1 : GoodIn wsX9_bestTake wsJ9_abs_294c1 := goodIn_r _ [75, 76, 77, 78, 79, 80, 81, 82, 83] (by decide +kernel) (by decide +kernel)
set_option maxRecDepth 20000 in
theorem gX9_bestTake_J9_abs_294c1 : GoodIn wsX9_bestTake (va_wsS RX9 204 yJ9_abs_294c1 wsJ9_abs_294c1) := goodIn_app (goodIn_of _ (by decide +kernel)) ggX9_bestTake_J9_abs_294c1
set_option maxRecDepth 20000 in
theorem ggX9_bestWhite_X9_isFrame : GoodIn wsX9_bestWhite wsX9_isFrame := goodIn_r _ [18, 2, 19, 20, 21, 6, 22, 23, 24, 25, 17, 26, 160, 161, 162, 163, 164, 165, 166, 167, 168, 169, 170] (by decide +kernel) (by decide +kernel)
set_option maxRecDepth 20000 in
theorem gX9_bestWhite_X9_isFrame : GoodIn wsX9_bestWhite (wsV RX9 112 RX9 yX9_isFrame wsX9_isFrame) := goodIn_app (goodIn_of _ (by decide +kernel)) ggX9_bestWhite_X9_isFrame
set_option maxRecDepth 20000 in
theorem ggX9_bestWhite_X9_no : GoodIn wsX9_bestWhite wsX9_no := goodIn_r _ [30, 1, 160, 161, 162, 163, 164, 165, 166, 167] (by decide +kernel) (by decide +kernel)
set_option maxRecDepth 20000 in
theorem gX9_bestWhite_X9_no : GoodIn wsX9_bestWhite (wsV RX9 51 RX9 yX9_no wsX9_no) := goodIn_app (goodIn_of _ (by decide +kernel)) ggX9_bestWhite_X9_no
set_option maxRecDepth 20000 in
theorem ggX9_bestWhite_X9_in : GoodIn wsX9_bestWhite wsX9_in := goodIn_r _ [26] (by decide +kernel) (by decide +kernel)
set_option maxRecDepth 20000 in
theorem gX9_bestWhite_X9_in : GoodIn wsX9_bestWhite (va_wsS RX9 37 yX9_in wsX9_in) := goodIn_app (goodIn_of _ (by decide +kernel)) ggX9_bestWhite_X9_in
set_option maxRecDepth 20000 in
theorem ggX9_bestWhite_Jx4a65c_get_915e3 : GoodIn wsX9_bestWhite wsJx4a65c_get_915e3 := goodIn_r _ [34, 23, 35, 36, 37, 38, 39, 40, 41, 42, 43, 44, 45, 6, 46, 47, 168, 169, 170] (by decide +kernel) (by decide +kernel)
set_option maxRecDepth 20000 in
theorem gX9_bestWhite_Jx4a65c_get_915e3_f93Jx4a65c : GoodIn wsX9_bestWhite (va_wsF RX9 93 RJx4a65c ⟨"java/util/List", "get", "(I)Ljava/lang/Object;"⟩ yJx4a65c_get_915e3 wsJx4a65c_get_915e3) := goodIn_app (goodIn_of _ (by decide +kernel)) ggX9_bestWhite_Jx4a65c_get_915e3
set_option maxRecDepth 20000 in
theorem ggX9_bestWhite_Jx4a65c_init_da8c8 : GoodIn wsX9_bestWhite wsJx4a65c_init_da8c8 := goodIn_r _ [50, 51, 47, 52, 53, 54, 55, 56, 57, 58, 59, 60, 61, 62, 63, 168, 169, 170] (by decide +kernel) (by decide +kernel)
set_option maxRecDepth 20000 in
theorem gX9_bestWhite_Jx4a65c_init_da8c8 : GoodIn wsX9_bestWhite (wsJx4a65c_init_da8c8) := ggX9_bestWhite_Jx4a65c_init_da8c8
set_option maxRecDepth 20000 in
theorem ggX9_bestWhite_Jx4a65c_size_8abf5 : GoodIn wsX9_bestWhite wsJx4a65c_size_8abf5 := goodIn_r _ [22, 23, 168, 169, 170] (by decide +kernel) (by decide +kernel)
set_option maxRecDepth 20000 in
theorem gX9_bestWhite_Jx4a65c_size_8abf5_f41Jx4a65c : GoodIn wsX9_bestWhite (va_wsF RX9 41 RJx4a65c ⟨"java/util/List", "size", "()I"⟩ yJx4a65c_size_8abf5 wsJx4a65c_size_8abf5) := goodIn_app (goodIn_of _ (by decide +kernel)) ggX9_bestWhite_Jx4a65c_size_8abf5
set_option maxRecDepth 20000 in
theorem ggX9_bestWhite_Jx4a65c_add_9ea2d : GoodIn wsX9_bestWhite wsJx4a65c_add_9ea2d := goodIn_r _ [67, 68, 69, 47, 23, 70, 71, 72, 6, 73, 74, 75, 76, 77, 78, 79, 80, 81, 51, 82, 83, 12, 84, 85, 86, 87, 88, 89, 90, 91, 92, 93, 94, 95, 96, 97, 98, 99, 100, 101, 102, 103, 104, 105, 106, 107, 108, 109, 110, 111, 112, 113, 114, 168, 169, 170] (by decide +kernel) (by decide +kernel)
set_option maxRecDepth 20000 in
theorem gX9_bestWhite_Jx4a65c_add_9ea2d_f89Jx4a65c : GoodIn wsX9_bestWhite (va_wsF RX9 89 RJx4a65c ⟨"java/util/List", "add", "(Ljava/lang/Object;)Z"⟩ yJx4a65c_add_9ea2d wsJx4a65c_add_9ea2d) := goodIn_app (goodIn_of _ (by decide +kernel)) ggX9_bestWhite_Jx4a65c_add_9ea2d
set_option maxRecDepth 20000 in
theorem ggX9_bestWhite_X9_picture : GoodIn wsX9_bestWhite wsX9_picture := goodIn_r _ [118, 119, 8, 120, 121, 122, 123, 17, 124, 19, 20, 21, 6, 22, 23, 31, 32, 33, 34, 35, 36, 37, 38, 39, 40, 41, 42, 43, 44, 45, 46, 47, 125, 126, 127, 128, 9, 129, 130, 131, 132, 24, 25, 26, 133, 134, 135, 136, 137, 138, 139, 140, 141, 142, 143, 144, 145, 146, 147, 148, 149, 150, 151, 152, 153, 154, 155, 156, 157, 158, 159, 171, 172, 173, 174, 175, 168, 169, 170, 160, 161, 162, 163, 164, 165, 166, 167] (by decide +kernel) (by decide +kernel)
set_option maxRecDepth 20000 in
theorem gX9_bestWhite_X9_picture : GoodIn wsX9_bestWhite (wsV RX9 161 RX9 yX9_picture wsX9_picture) := goodIn_app (goodIn_of _ (by decide +kernel)) ggX9_bestWhite_X9_picture
set_option maxRecDepth 20000 in
theorem ggX9_digest_X9_manyNow : GoodIn wsX9_digest wsX9_manyNow := goodIn_r _ [13, 4, 5, 14, 15, 16, 17, 8, 18, 19, 20, 21, 22, 23, 24, 25, 26, 27, 28, 29, 30, 31, 32, 33, 34, 35, 36, 37, 38, 39, 40, 41, 42, 43, 44, 12, 45, 193, 194, 195, 196, 197, 198, 199, 200, 201, 202, 203, 204, 205, 206, 207, 208] (by decide +kernel) (by decide +kernel)
set_option maxRecDepth 20000 in
theorem gX9_digest_X9_manyNow : GoodIn wsX9_digest (wsV RX9 198 RX9 yX9_manyNow wsX9_manyNow) := goodIn_app (goodIn_of _ (by decide +kernel)) ggX9_digest_X9_manyNow
set_option maxRecDepth 20000 in
theorem ggX9_digest_Jx4a65c_size_8abf5 : GoodIn wsX9_digest wsJx4a65c_size_8abf5 := goodIn_r _ [23, 24, 206, 207, 208] (by decide +kernel) (by decide +kernel)
set_option maxRecDepth 20000 in
theorem gX9_digest_Jx4a65c_size_8abf5_f41Jx4a65c : GoodIn wsX9_digest (va_wsF RX9 41 RJx4a65c ⟨"java/util/List", "size", "()I"⟩ yJx4a65c_size_8abf5 wsJx4a65c_size_8abf5) := goodIn_app (goodIn_of _ (by decide +kernel)) ggX9_digest_Jx4a65c_size_8abf5
set_option maxRecDepth 20000 in
theorem ggX9_digest_X9_frameNow : GoodIn wsX9_digest wsX9_frameNow := goodIn_r _ [49, 4, 5, 17, 50, 51, 14, 52, 25, 26, 27, 22, 28, 24, 29, 30, 31, 32, 33, 34, 35, 36, 37, 38, 39, 40, 41, 19, 20, 21, 23, 53, 54, 55, 56, 57, 58, 59, 60, 61, 62, 63, 64, 65, 66, 67, 12, 68, 69, 70, 71, 72, 73, 74, 75, 76, 77, 78, 79, 80, 81, 82, 83, 84, 85, 86, 8, 87, 88, 193, 194, 195, 196, 197, 198, 199, 200, 201, 202, 203, 204, 205, 206, 207, 208, 209, 210, 211] (by decide +kernel) (by decide +kernel)
set_option maxRecDepth 20000 in
theorem gX9_digest_X9_frameNow : GoodIn wsX9_digest (wsV RX9 181 RX9 yX9_frameNow wsX9_frameNow) := goodIn_app (goodIn_of _ (by decide +kernel)) ggX9_digest_X9_frameNow
set_option maxRecDepth 20000 in
theorem ggX9_digest_X9_picture_ : GoodIn wsX9_digest wsX9_picture_ := goodIn_r _ [92, 4, 5, 14, 25, 26, 27, 22, 28, 24, 29, 30, 31, 32, 33, 34, 35, 36, 37, 38, 39, 40, 41, 93, 94, 95, 12, 96, 7, 97, 98, 99, 100, 101, 102, 19, 20, 21, 23, 103, 104, 105, 106, 17, 16, 107, 108, 109, 110, 111, 112, 113, 114, 115, 116, 117, 118, 119, 120, 67, 68, 121, 122, 123, 124, 125, 126, 127, 128, 129, 130, 131, 132, 133, 134, 135, 136, 137, 193, 194, 195, 196, 197, 198, 199, 200, 201, 202, 203, 204, 205, 206, 207, 208] (by decide +kernel) (by decide +kernel)
set_option maxRecDepth 20000 in
theorem gX9_digest_X9_picture_ : GoodIn wsX9_digest (wsV RX9 165 RX9 yX9_picture_ wsX9_picture_) := goodIn_app (goodIn_of _ (by decide +kernel)) ggX9_digest_X9_picture_
set_option maxRecDepth 20000 in
theorem ggX9_digest_X9_word : GoodIn wsX9_digest wsX9_word := goodIn_r _ [140] (by decide +kernel) (by decide +kernel)
set_option maxRecDepth 20000 in
theorem gX9_digest_X9_word : GoodIn wsX9_digest (va_wsS RX9 168 yX9_word wsX9_word) := goodIn_app (goodIn_of _ (by decide +kernel)) ggX9_digest_X9_word
set_option maxRecDepth 20000 in
theorem ggX9_digest_Jx4a65c_get_915e3 : GoodIn wsX9_digest wsJx4a65c_get_915e3 := goodIn_r _ [28, 24, 29, 30, 31, 32, 33, 34, 35, 36, 37, 38, 39, 22, 40, 41, 206, 207, 208] (by decide +kernel) (by decide +kernel)
set_option maxRecDepth 20000 in
theorem gX9_digest_Jx4a65c_get_915e3_f93Jx4a65c : GoodIn wsX9_digest (va_wsF RX9 93 RJx4a65c ⟨"java/util/List", "get", "(I)Ljava/lang/Object;"⟩ yJx4a65c_get_915e3 wsJx4a65c_get_915e3) := goodIn_app (goodIn_of _ (by decide +kernel)) ggX9_digest_Jx4a65c_get_915e3
set_option maxRecDepth 20000 in
theorem ggX9_digest_X7_meter : GoodIn wsX9_digest wsX7_meter := goodIn_r _ [144, 145, 146, 147, 148, 56, 149, 58, 150, 67, 12, 68, 201, 202, 203, 204, 205] (by decide +kernel) (by decide +kernel)
set_option maxRecDepth 20000 in
theorem gX9_digest_X7_meter : GoodIn wsX9_digest (wsV RX9 188 RX7 yX7_meter wsX7_meter) := goodIn_app (goodIn_of _ (by decide +kernel)) ggX9_digest_X7_meter
set_option maxRecDepth 20000 in
theorem ggX9_digest_X9_fileNow : GoodIn wsX9_digest wsX9_fileNow := goodIn_r _ [154, 8, 87, 88, 155, 156, 4, 5, 25, 26, 27, 22, 28, 24, 29, 30, 31, 32, 33, 34, 35, 36, 37, 38, 39, 40, 41, 19, 20, 21, 23, 93, 94, 95, 12, 96, 7, 97, 98, 99, 100, 101, 102, 103, 104, 105, 106, 17, 16, 107, 108, 109, 110, 111, 112, 113, 114, 115, 116, 117, 118, 119, 120, 67, 68, 121, 122, 123, 124, 125, 126, 127, 128, 129, 130, 131, 132, 133, 134, 135, 136, 137, 138, 139, 140, 193, 194, 195, 196, 197, 198, 199, 200, 209, 210, 211, 206, 207, 208, 201, 202, 203, 204, 205] (by decide +kernel) (by decide +kernel)
set_option maxRecDepth 20000 in
theorem gX9_digest_X9_fileNow : GoodIn wsX9_digest (wsV RX9 195 RX9 yX9_fileNow wsX9_fileNow) := goodIn_app (goodIn_of _ (by decide +kernel)) ggX9_digest_X9_fileNow
set_option maxRecDepth 20000 in
theorem ggX9_digest_X9_taken : GoodIn wsX9_digest wsX9_taken := goodIn_r _ [160, 17, 18, 161, 162, 124, 163, 164, 74, 65, 75, 15, 165, 77, 78, 166, 167, 56, 120, 67, 12, 68, 168, 169, 170, 171, 172, 173, 174, 175, 22, 176, 177, 178, 58, 179, 180, 181, 182, 41, 183, 184, 185, 186, 187, 188, 189, 190, 191, 192, 193, 194, 195, 196, 197, 198, 199, 200, 201, 202, 203, 204, 205, 206, 207, 208] (by decide +kernel) (by decide +kernel)
set_option maxRecDepth 20000 in
theorem gX9_digest_X9_taken : GoodIn wsX9_digest (wsV RX9 85 RX9 yX9_taken wsX9_taken) := goodIn_app (goodIn_of _ (by decide +kernel)) ggX9_digest_X9_taken
set_option maxRecDepth 20000 in
theorem ggX9_digest_X7_clipped : GoodIn wsX9_digest wsX7_clipped := goodIn_r _ [57, 58, 201, 202, 203, 204, 205] (by decide +kernel) (by decide +kernel)
set_option maxRecDepth 20000 in
theorem gX9_digest_X7_clipped : GoodIn wsX9_digest (wsV RX9 172 RX7 yX7_clipped wsX7_clipped) := goodIn_app (goodIn_of _ (by decide +kernel)) ggX9_digest_X7_clipped
set_option maxRecDepth 20000 in
theorem ggJxc12de_init_da8c8_Jxa1e45_init_da8c8 : GoodIn wsJxc12de_init_da8c8 wsJxa1e45_init_da8c8 := goodIn_r _ [5, 6, 7, 8] (by decide +kernel) (by decide +kernel)
set_option maxRecDepth 20000 in
theorem gJxc12de_init_da8c8_Jxa1e45_init_da8c8 : GoodIn wsJxc12de_init_da8c8 (wsJxa1e45_init_da8c8) := ggJxc12de_init_da8c8_Jxa1e45_init_da8c8
set_option maxRecDepth 20000 in
theorem ggJx4a65c_init_da8c8_Jxc12de_init_da8c8 : GoodIn wsJx4a65c_init_da8c8 wsJxc12de_init_da8c8 := goodIn_r _ [6, 7, 8, 9, 10, 11, 12, 13, 14, 15, 16, 17] (by decide +kernel) (by decide +kernel)
set_option maxRecDepth 20000 in
theorem gJx4a65c_init_da8c8_Jxc12de_init_da8c8 : GoodIn wsJx4a65c_init_da8c8 (wsJxc12de_init_da8c8) := ggJx4a65c_init_da8c8_Jxc12de_init_da8c8
set_option maxRecDepth 20000 in
theorem ggJx4a65c_grow_92f84_J8_newLength_cabcc : GoodIn wsJx4a65c_grow_92f84 wsJ8_newLength_cabcc := goodIn_r _ [11, 12, 4, 5, 6, 13, 14, 15, 10, 16] (by decide +kernel) (by decide +kernel)
set_option maxRecDepth 20000 in
theorem gJx4a65c_grow_92f84_J8_newLength_cabcc : GoodIn wsJx4a65c_grow_92f84 (va_wsS RJx4a65c 73 yJ8_newLength_cabcc wsJ8_newLength_cabcc) := goodIn_app (goodIn_of _ (by decide +kernel)) ggJx4a65c_grow_92f84_J8_newLength_cabcc
set_option maxRecDepth 20000 in
theorem ggJx4a65c_grow_92f84_J7_copyOf_1904c : GoodIn wsJx4a65c_grow_92f84 wsJ7_copyOf_1904c := goodIn_r _ [20, 21, 22, 23, 24, 25, 26, 19, 27, 28, 29, 30, 31, 5, 32, 33, 34, 35, 36] (by decide +kernel) (by decide +kernel)
set_option maxRecDepth 20000 in
theorem gJx4a65c_grow_92f84_J7_copyOf_1904c : GoodIn wsJx4a65c_grow_92f84 (va_wsS RJx4a65c 66 yJ7_copyOf_1904c wsJ7_copyOf_1904c) := goodIn_app (goodIn_of _ (by decide +kernel)) ggJx4a65c_grow_92f84_J7_copyOf_1904c
set_option maxRecDepth 20000 in
theorem ggJx4a65c_grow_d5877_Jx4a65c_grow_92f84 : GoodIn wsJx4a65c_grow_d5877 wsJx4a65c_grow_92f84 := goodIn_r _ [6, 7, 8, 9, 10, 11, 12, 13, 14, 15, 16, 17, 18, 19, 20, 21, 22, 23, 24, 25, 26, 27, 28, 29, 30, 31, 32, 33, 34, 35, 36, 37, 38, 39, 40, 41, 42, 43, 44, 45] (by decide +kernel) (by decide +kernel)
set_option maxRecDepth 20000 in
theorem gJx4a65c_grow_d5877_Jx4a65c_grow_92f84 : GoodIn wsJx4a65c_grow_d5877 (wsV RJx4a65c 69 RJx4a65c yJx4a65c_grow_92f84 wsJx4a65c_grow_92f84) := goodIn_app (goodIn_of _ (by decide +kernel)) ggJx4a65c_grow_d5877_Jx4a65c_grow_92f84
set_option maxRecDepth 20000 in
theorem ggJx4a65c_get_915e3_J15_checkIndex_7cf53 : GoodIn wsJx4a65c_get_915e3 wsJ15_checkIndex_7cf53 := goodIn_r _ [5, 6, 7, 8, 9] (by decide +kernel) (by decide +kernel)
set_option maxRecDepth 20000 in
theorem gJx4a65c_get_915e3_J15_checkIndex_7cf53 : GoodIn wsJx4a65c_get_915e3 (va_wsS RJx4a65c 118 yJ15_checkIndex_7cf53 wsJ15_checkIndex_7cf53) := goodIn_app (goodIn_of _ (by decide +kernel)) ggJx4a65c_get_915e3_J15_checkIndex_7cf53
set_option maxRecDepth 20000 in
theorem ggJx4a65c_get_915e3_Jx4a65c_elementData_915e3 : GoodIn wsJx4a65c_get_915e3 wsJx4a65c_elementData_915e3 := goodIn_r _ [14, 15, 16, 17, 18] (by decide +kernel) (by decide +kernel)
set_option maxRecDepth 20000 in
theorem gJx4a65c_get_915e3_Jx4a65c_elementData_915e3 : GoodIn wsJx4a65c_get_915e3 (wsV RJx4a65c 123 RJx4a65c yJx4a65c_elementData_915e3 wsJx4a65c_elementData_915e3) := goodIn_app (goodIn_of _ (by decide +kernel)) ggJx4a65c_get_915e3_Jx4a65c_elementData_915e3
set_option maxRecDepth 20000 in
theorem ggJx4a65c_add_72be8_Jx4a65c_grow_d5877 : GoodIn wsJx4a65c_add_72be8 wsJx4a65c_grow_d5877 := goodIn_r _ [6, 1, 7, 8, 9, 5, 10, 11, 12, 13, 14, 15, 16, 17, 18, 19, 20, 21, 22, 23, 24, 25, 26, 27, 28, 29, 30, 31, 32, 33, 34, 35, 36, 37, 38, 39, 40, 41, 42, 43, 44, 45, 46, 47, 48, 49] (by decide +kernel) (by decide +kernel)
set_option maxRecDepth 20000 in
theorem gJx4a65c_add_72be8_Jx4a65c_grow_d5877 : GoodIn wsJx4a65c_add_72be8 (wsV RJx4a65c 129 RJx4a65c yJx4a65c_grow_d5877 wsJx4a65c_grow_d5877) := goodIn_app (goodIn_of _ (by decide +kernel)) ggJx4a65c_add_72be8_Jx4a65c_grow_d5877
set_option maxRecDepth 20000 in
theorem ggJx4a65c_add_9ea2d_Jx4a65c_add_72be8 : GoodIn wsJx4a65c_add_9ea2d wsJx4a65c_add_72be8 := goodIn_r _ [9, 4, 10, 11, 12, 8, 13, 14, 15, 16, 17, 3, 18, 19, 20, 21, 22, 23, 24, 25, 26, 27, 28, 29, 30, 31, 32, 33, 34, 35, 36, 37, 38, 39, 40, 41, 42, 43, 44, 45, 46, 47, 48, 49, 50, 51, 52, 53, 54, 55] (by decide +kernel) (by decide +kernel)
set_option maxRecDepth 20000 in
theorem gJx4a65c_add_9ea2d_Jx4a65c_add_72be8 : GoodIn wsJx4a65c_add_9ea2d (wsV RJx4a65c 131 RJx4a65c yJx4a65c_add_72be8 wsJx4a65c_add_72be8) := goodIn_app (goodIn_of _ (by decide +kernel)) ggJx4a65c_add_9ea2d_Jx4a65c_add_72be8
set_option maxRecDepth 20000 in
theorem ggJx4a65c_remove_915e3_J15_checkIndex_7cf53 : GoodIn wsJx4a65c_remove_915e3 wsJ15_checkIndex_7cf53 := goodIn_r _ [6, 7, 8, 9, 10] (by decide +kernel) (by decide +kernel)
set_option maxRecDepth 20000 in
theorem gJx4a65c_remove_915e3_J15_checkIndex_7cf53 : GoodIn wsJx4a65c_remove_915e3 (va_wsS RJx4a65c 118 yJ15_checkIndex_7cf53 wsJ15_checkIndex_7cf53) := goodIn_app (goodIn_of _ (by decide +kernel)) ggJx4a65c_remove_915e3_J15_checkIndex_7cf53
set_option maxRecDepth 20000 in
theorem ggJx4a65c_remove_915e3_Jx4a65c_fastRemove_b59b0 : GoodIn wsJx4a65c_remove_915e3 wsJx4a65c_fastRemove_b59b0 := goodIn_r _ [15, 16, 17, 1, 18, 19, 20, 21, 22, 23, 24] (by decide +kernel) (by decide +kernel)
set_option maxRecDepth 20000 in
theorem gJx4a65c_remove_915e3_Jx4a65c_fastRemove_b59b0 : GoodIn wsJx4a65c_remove_915e3 (wsV RJx4a65c 144 RJx4a65c yJx4a65c_fastRemove_b59b0 wsJx4a65c_fastRemove_b59b0) := goodIn_app (goodIn_of _ (by decide +kernel)) ggJx4a65c_remove_915e3_Jx4a65c_fastRemove_b59b0
set_option maxRecDepth 20000 in
theorem ggJ7_copyOf_1904c_J7_copyOf_6403c : GoodIn wsJ7_copyOf_1904c wsJ7_copyOf_6403c := goodIn_r _ [8, 9, 10, 11, 12, 13, 14, 15, 16, 17, 18] (by decide +kernel) (by decide +kernel)
set_option maxRecDepth 20000 in
theorem gJ7_copyOf_1904c_J7_copyOf_6403c : GoodIn wsJ7_copyOf_1904c (va_wsS RJ7 300 yJ7_copyOf_6403c wsJ7_copyOf_6403c) := goodIn_app (goodIn_of _ (by decide +kernel)) ggJ7_copyOf_1904c_J7_copyOf_6403c
set_option maxRecDepth 20000 in
theorem ggJ15_checkIndex_7cf53_J3_checkIndex_8e157 : GoodIn wsJ15_checkIndex_7cf53 wsJ3_checkIndex_8e157 := goodIn_r _ [4] (by decide +kernel) (by decide +kernel)
set_option maxRecDepth 20000 in
theorem gJ15_checkIndex_7cf53_J3_checkIndex_8e157 : GoodIn wsJ15_checkIndex_7cf53 (va_wsS RJ15 105 yJ3_checkIndex_8e157 wsJ3_checkIndex_8e157) := goodIn_app (goodIn_of _ (by decide +kernel)) ggJ15_checkIndex_7cf53_J3_checkIndex_8e157
set_option maxRecDepth 20000 in
theorem ggJ8_newLength_cabcc_J8_hugeLength_7cf53 : GoodIn wsJ8_newLength_cabcc wsJ8_hugeLength_7cf53 := goodIn_r _ [9, 5] (by decide +kernel) (by decide +kernel)
set_option maxRecDepth 20000 in
theorem gJ8_newLength_cabcc_J8_hugeLength_7cf53 : GoodIn wsJ8_newLength_cabcc (va_wsS RJ8 201 yJ8_hugeLength_7cf53 wsJ8_hugeLength_7cf53) := goodIn_app (goodIn_of _ (by decide +kernel)) ggJ8_newLength_cabcc_J8_hugeLength_7cf53
set_option maxRecDepth 20000 in
theorem ggL_paint_X6_paint : GoodIn wsL_paint wsX6_paint := goodIn_ca (goodIn_ca (goodIn_r _ [7, 8, 9, 10, 11, 12, 13, 6, 14, 15, 16, 17, 18, 19, 20, 21, 22, 23, 24, 25, 26, 27, 28, 29, 30, 31, 32, 33, 34, 35, 36, 37, 38, 39, 40, 41, 42, 43] (by decide +kernel) (by decide +kernel)) (goodIn_sub (fun _ h => List.mem_cons_of_mem _ (List.mem_append_left _ (List.mem_append_right _ h))) (by decide +kernel))) (goodIn_sub (fun _ h => List.mem_cons_of_mem _ (List.mem_append_right _ h)) (by decide +kernel))
set_option maxRecDepth 20000 in
theorem gL_paint_X6_paint : GoodIn wsL_paint (wsV RL 7 RX6 yX6_paint wsX6_paint) := goodIn_app (goodIn_of _ (by decide +kernel)) ggL_paint_X6_paint
set_option maxRecDepth 20000 in
theorem ggL_lamp_X6_lamp : GoodIn wsL_lamp wsX6_lamp := goodIn_ca (goodIn_r _ [6, 7, 8, 9, 5, 10, 11, 12, 13, 14, 15, 16, 17, 18, 19, 20, 21, 22, 23, 24, 25, 26, 27, 28, 29, 30, 31, 32, 33, 34, 35, 36] (by decide +kernel) (by decide +kernel)) (goodIn_sub (fun _ h => List.mem_cons_of_mem _ (List.mem_append_right _ h)) (by decide +kernel))
set_option maxRecDepth 20000 in
theorem gL_lamp_X6_lamp : GoodIn wsL_lamp (wsV RL 17 RX6 yX6_lamp wsX6_lamp) := goodIn_app (goodIn_of _ (by decide +kernel)) ggL_lamp_X6_lamp
set_option maxRecDepth 20000 in
theorem ggL_spoil_X6_spoil : GoodIn wsL_spoil wsX6_spoil := goodIn_ca (goodIn_ca (goodIn_r _ [7, 8, 9, 10, 6, 11, 12, 13, 14, 15, 16, 17, 18, 19, 20, 21, 22, 23, 24, 25, 26, 27, 28, 29, 30, 31, 32, 33, 34, 35, 36, 37, 38, 39, 40, 41, 42, 43, 44, 45, 46] (by decide +kernel) (by decide +kernel)) (goodIn_sub (fun _ h => List.mem_cons_of_mem _ (List.mem_append_left _ (List.mem_append_right _ h))) (by decide +kernel))) (goodIn_sub (fun _ h => List.mem_cons_of_mem _ (List.mem_append_right _ h)) (by decide +kernel))
set_option maxRecDepth 20000 in
theorem gL_spoil_X6_spoil : GoodIn wsL_spoil (wsV RL 21 RX6 yX6_spoil wsX6_spoil) := goodIn_app (goodIn_of _ (by decide +kernel)) ggL_spoil_X6_spoil
set_option maxRecDepth 20000 in
theorem ggL_map_X6_map : GoodIn wsL_map wsX6_map := goodIn_ca (goodIn_r _ [6, 7, 8, 9, 5, 10, 11, 12, 13, 14, 15, 16, 17, 18, 19, 20, 21, 22, 23, 24, 25, 26, 27, 28, 29, 30, 31, 32, 33, 34, 35, 36, 37, 38, 39, 40] (by decide +kernel) (by decide +kernel)) (goodIn_sub (fun _ h => List.mem_cons_of_mem _ (List.mem_append_right _ h)) (by decide +kernel))
set_option maxRecDepth 20000 in
theorem gL_map_X6_map : GoodIn wsL_map (wsV RL 24 RX6 yX6_map wsX6_map) := goodIn_app (goodIn_of _ (by decide +kernel)) ggL_map_X6_map
set_option maxRecDepth 20000 in
theorem ggL_take_X6_take : GoodIn wsL_take wsX6_take := goodIn_ca (goodIn_ca (goodIn_r _ [7, 8, 9, 10, 11, 12, 13, 6, 14, 15, 16, 17, 18, 19, 20, 21, 22, 23, 24, 25, 26, 27, 28, 29, 30, 31, 32, 33, 34, 35, 36, 37, 38, 39, 40, 41, 42, 43, 44, 45, 46, 47, 48, 49, 50, 51, 52, 53, 54, 55, 56, 57, 58, 59, 60, 61, 62, 63, 64, 65, 66, 67, 68, 69, 70, 71, 72, 73, 74, 75, 76, 77, 78, 79, 80, 81] (by decide +kernel) (by decide +kernel)) (goodIn_sub (fun _ h => List.mem_cons_of_mem _ (List.mem_append_left _ (List.mem_append_right _ h))) (by decide +kernel))) (goodIn_sub (fun _ h => List.mem_cons_of_mem _ (List.mem_append_right _ h)) (by decide +kernel))
set_option maxRecDepth 20000 in
theorem gL_take_X6_take : GoodIn wsL_take (wsV RL 28 RX6 yX6_take wsX6_take) := goodIn_app (goodIn_of _ (by decide +kernel)) ggL_take_X6_take
set_option maxRecDepth 20000 in
theorem ggL_merge_X6_merge : GoodIn wsL_merge wsX6_merge := goodIn_ca (goodIn_ca (goodIn_r _ [7, 8, 9, 10, 11, 12, 13, 6, 14, 15, 16, 17, 18, 19, 20, 21, 22, 23, 24, 25, 26, 27, 28, 29, 30, 31, 32, 33, 34, 35, 36, 37, 38, 39, 40, 41, 42, 43, 44, 45, 46, 47, 48, 49, 50, 51, 52, 53, 54, 55] (by decide +kernel) (by decide +kernel)) (goodIn_sub (fun _ h => List.mem_cons_of_mem _ (List.mem_append_left _ (List.mem_append_right _ h))) (by decide +kernel))) (goodIn_sub (fun _ h => List.mem_cons_of_mem _ (List.mem_append_right _ h)) (by decide +kernel))
set_option maxRecDepth 20000 in
theorem gL_merge_X6_merge : GoodIn wsL_merge (wsV RL 34 RX6 yX6_merge wsX6_merge) := goodIn_app (goodIn_of _ (by decide +kernel)) ggL_merge_X6_merge
set_option maxRecDepth 20000 in
theorem ggL_edit_X6_edit : GoodIn wsL_edit wsX6_edit := goodIn_ca (goodIn_ca (goodIn_ca (goodIn_r _ [8, 9, 10, 11, 12, 7, 13, 14, 15, 16, 17, 18, 19, 20, 21, 22, 23, 24, 25, 26, 27, 28, 29, 30, 31, 32, 33, 34, 35, 36, 37, 38, 39, 40, 41, 42, 43, 44, 45, 46, 47, 48, 49, 50, 51, 52, 53, 54, 55, 56, 57, 58, 59, 60, 61] (by decide +kernel) (by decide +kernel)) (goodIn_sub (fun _ h => List.mem_cons_of_mem _ (List.mem_append_left _ (List.mem_append_left _ (List.mem_append_right _ h)))) (by decide +kernel))) (goodIn_sub (fun _ h => List.mem_cons_of_mem _ (List.mem_append_left _ (List.mem_append_right _ h))) (by decide +kernel))) (goodIn_sub (fun _ h => List.mem_cons_of_mem _ (List.mem_append_right _ h)) (by decide +kernel))
set_option maxRecDepth 20000 in
theorem gL_edit_X6_edit : GoodIn wsL_edit (wsV RL 37 RX6 yX6_edit wsX6_edit) := goodIn_app (goodIn_of _ (by decide +kernel)) ggL_edit_X6_edit
set_option maxRecDepth 20000 in
theorem ggL_undo_X6_undo : GoodIn wsL_undo wsX6_undo := goodIn_ca (goodIn_r _ [6, 7, 8, 9, 10, 5, 11, 12, 13, 14, 15, 16, 17, 18, 19, 20, 21, 22, 23, 24, 25, 26, 27, 28, 29, 30, 31, 32, 33, 34, 35, 36, 37, 38] (by decide +kernel) (by decide +kernel)) (goodIn_sub (fun _ h => List.mem_cons_of_mem _ (List.mem_append_right _ h)) (by decide +kernel))
set_option maxRecDepth 20000 in
theorem gL_undo_X6_undo : GoodIn wsL_undo (wsV RL 40 RX6 yX6_undo wsX6_undo) := goodIn_app (goodIn_of _ (by decide +kernel)) ggL_undo_X6_undo
set_option maxRecDepth 20000 in
theorem ggL_save_X6_save : GoodIn wsL_save wsX6_save := goodIn_ca (goodIn_ca (goodIn_r _ [7, 8, 9, 10, 11, 12, 13, 6, 14, 15, 16, 17, 18, 19, 20, 21, 22, 23, 24, 25, 26, 27, 28, 29, 30, 31, 32, 33, 34, 35, 36, 37, 38, 39, 40, 41, 42, 43, 44, 45, 46, 47, 48, 49, 50, 51, 52, 53, 54, 55, 56, 57, 58, 59, 60, 61, 62] (by decide +kernel) (by decide +kernel)) (goodIn_sub (fun _ h => List.mem_cons_of_mem _ (List.mem_append_left _ (List.mem_append_right _ h))) (by decide +kernel))) (goodIn_sub (fun _ h => List.mem_cons_of_mem _ (List.mem_append_right _ h)) (by decide +kernel))
set_option maxRecDepth 20000 in
theorem gL_save_X6_save : GoodIn wsL_save (wsV RL 44 RX6 yX6_save wsX6_save) := goodIn_app (goodIn_of _ (by decide +kernel)) ggL_save_X6_save
set_option maxRecDepth 20000 in
theorem ggL_raw_X6_raw : GoodIn wsL_raw wsX6_raw := goodIn_ca (goodIn_r _ [6, 7, 8, 9, 10, 5, 11, 12, 13, 14, 15, 16, 17, 18, 19, 20, 21, 22, 23, 24, 25, 26, 27, 28, 29, 30, 31, 32, 33, 34, 35, 36, 37] (by decide +kernel) (by decide +kernel)) (goodIn_sub (fun _ h => List.mem_cons_of_mem _ (List.mem_append_right _ h)) (by decide +kernel))
set_option maxRecDepth 20000 in
theorem gL_raw_X6_raw : GoodIn wsL_raw (wsV RL 47 RX6 yX6_raw wsX6_raw) := goodIn_app (goodIn_of _ (by decide +kernel)) ggL_raw_X6_raw
set_option maxRecDepth 20000 in
theorem ggL_picture_X6_picture : GoodIn wsL_picture wsX6_picture := goodIn_ca (goodIn_ca (goodIn_r _ [7, 8, 9, 10, 11, 6, 12, 13, 14, 15, 16, 17, 18, 19, 20, 21, 22, 23, 24, 25, 26, 27, 28, 29, 30, 31, 32, 33, 34, 35, 36, 37, 38, 39, 40, 41, 42, 43, 44, 45, 46, 47, 48, 49, 50, 51, 52, 53, 54, 55, 56, 57, 58, 59, 60, 61, 62, 63, 64, 65, 66, 67, 68, 69, 70, 71, 72, 73, 74, 75, 76, 77, 78, 79, 80, 81, 82, 83, 84, 85, 86, 87, 88, 89, 90, 91, 92, 93, 94, 95, 96, 97, 98, 99, 100, 101, 102, 103, 104, 105, 106, 107, 108, 109, 110, 111, 112, 113, 114, 115, 116, 117, 118, 119, 120, 121, 122, 123, 124, 125, 126] (by decide +kernel) (by decide +kernel)) (goodIn_sub (fun _ h => List.mem_cons_of_mem _ (List.mem_append_left _ (List.mem_append_right _ h))) (by decide +kernel))) (goodIn_sub (fun _ h => List.mem_cons_of_mem _ (List.mem_append_right _ h)) (by decide +kernel))
set_option maxRecDepth 20000 in
theorem gL_picture_X6_picture : GoodIn wsL_picture (wsV RL 50 RX6 yX6_picture wsX6_picture) := goodIn_app (goodIn_of _ (by decide +kernel)) ggL_picture_X6_picture
set_option maxRecDepth 20000 in
theorem ggL_word_X6_word : GoodIn wsL_word wsX6_word := goodIn_ca (goodIn_r _ [6, 7, 8, 9, 10, 5, 11, 12, 13, 14, 15, 16, 17, 18, 19, 20, 21, 22, 23, 24, 25, 26, 27, 28, 29, 30, 31, 32, 33, 34, 35, 36, 37, 38, 39, 40, 41, 42, 43, 44, 45, 46, 47, 48, 49, 50, 51, 52, 53, 54, 55, 56, 57, 58, 59, 60, 61, 62, 63, 64, 65, 66, 67, 68, 69, 70, 71, 72, 73, 74, 75, 76, 77, 78, 79, 80, 81, 82, 83, 84, 85, 86, 87, 88, 89, 90, 91, 92, 93, 94, 95, 96, 97, 98, 99, 100, 101, 102, 103, 104, 105, 106, 107, 108, 109, 110, 111, 112, 113, 114, 115, 116, 117, 118] (by decide +kernel) (by decide +kernel)) (goodIn_sub (fun _ h => List.mem_cons_of_mem _ (List.mem_append_right _ h)) (by decide +kernel))
set_option maxRecDepth 20000 in
theorem gL_word_X6_word : GoodIn wsL_word (wsV RL 54 RX6 yX6_word wsX6_word) := goodIn_app (goodIn_of _ (by decide +kernel)) ggL_word_X6_word
set_option maxRecDepth 20000 in
theorem ggL_ofFrame_X6_ofFrame : GoodIn wsL_ofFrame wsX6_ofFrame := goodIn_ca (goodIn_ca (goodIn_r _ [7, 8, 9, 10, 11, 6, 12, 13, 14, 15, 16, 17, 18, 19, 20, 21, 22, 23, 24, 25, 26, 27, 28, 29, 30, 31, 32, 33, 34, 35, 36, 37, 38, 39, 40, 41, 42, 43, 44, 45, 46, 47, 48, 49, 50, 51, 52, 53, 54, 55, 56, 57, 58, 59, 60, 61, 62, 63, 64, 65, 66, 67, 68, 69, 70, 71, 72, 73, 74, 75, 76, 77, 78, 79, 80, 81, 82, 83, 84] (by decide +kernel) (by decide +kernel)) (goodIn_sub (fun _ h => List.mem_cons_of_mem _ (List.mem_append_left _ (List.mem_append_right _ h))) (by decide +kernel))) (goodIn_sub (fun _ h => List.mem_cons_of_mem _ (List.mem_append_right _ h)) (by decide +kernel))
set_option maxRecDepth 20000 in
theorem gL_ofFrame_X6_ofFrame : GoodIn wsL_ofFrame (wsV RL 57 RX6 yX6_ofFrame wsX6_ofFrame) := goodIn_app (goodIn_of _ (by decide +kernel)) ggL_ofFrame_X6_ofFrame
set_option maxRecDepth 20000 in
theorem ggL_ofEdit_X6_ofEdit : GoodIn wsL_ofEdit wsX6_ofEdit := goodIn_ca (goodIn_ca (goodIn_r _ [7, 8, 9, 10, 11, 6, 12, 13, 14, 15, 16, 17, 18, 19, 20, 21, 22, 23, 24, 25, 26, 27, 28, 29, 30, 31, 32, 33, 34, 35, 36, 37, 38, 39, 40, 41, 42, 43, 44, 45, 46] (by decide +kernel) (by decide +kernel)) (goodIn_sub (fun _ h => List.mem_cons_of_mem _ (List.mem_append_left _ (List.mem_append_right _ h))) (by decide +kernel))) (goodIn_sub (fun _ h => List.mem_cons_of_mem _ (List.mem_append_right _ h)) (by decide +kernel))
set_option maxRecDepth 20000 in
theorem gL_ofEdit_X6_ofEdit : GoodIn wsL_ofEdit (wsV RL 60 RX6 yX6_ofEdit wsX6_ofEdit) := goodIn_app (goodIn_of _ (by decide +kernel)) ggL_ofEdit_X6_ofEdit
set_option maxRecDepth 20000 in
theorem ggL_zone_X6_zone : GoodIn wsL_zone wsX6_zone := goodIn_ca (goodIn_r _ [6, 7, 8, 9, 10, 5, 11, 12, 13, 14, 15, 16, 17, 18, 19, 20, 21, 22, 23, 24, 25, 26, 27, 28, 29, 30, 31, 32, 33, 34, 35, 36, 37, 38, 39, 40, 41, 42] (by decide +kernel) (by decide +kernel)) (goodIn_sub (fun _ h => List.mem_cons_of_mem _ (List.mem_append_right _ h)) (by decide +kernel))
set_option maxRecDepth 20000 in
theorem gL_zone_X6_zone : GoodIn wsL_zone (wsV RL 63 RX6 yX6_zone wsX6_zone) := goodIn_app (goodIn_of _ (by decide +kernel)) ggL_zone_X6_zone
set_option maxRecDepth 20000 in
theorem ggL_meter_X6_meter : GoodIn wsL_meter wsX6_meter := goodIn_ca (goodIn_r _ [6, 7, 8, 9, 10, 5, 11, 12, 13, 14, 15, 16, 17, 18, 19, 20, 21, 22, 23, 24, 25, 26, 27, 28, 29, 30, 31, 32, 33, 34, 35, 36, 37, 38, 39, 40, 41, 42, 43, 44] (by decide +kernel) (by decide +kernel)) (goodIn_sub (fun _ h => List.mem_cons_of_mem _ (List.mem_append_right _ h)) (by decide +kernel))
set_option maxRecDepth 20000 in
theorem gL_meter_X6_meter : GoodIn wsL_meter (wsV RL 67 RX6 yX6_meter wsX6_meter) := goodIn_app (goodIn_of _ (by decide +kernel)) ggL_meter_X6_meter
set_option maxRecDepth 20000 in
theorem ggL_ofFile_X6_ofFile : GoodIn wsL_ofFile wsX6_ofFile := goodIn_ca (goodIn_ca (goodIn_r _ [7, 8, 9, 10, 11, 6, 12, 13, 14, 15, 16, 17, 18, 19, 20, 21, 22, 23, 24, 25, 26, 27, 28, 29, 30, 31, 32, 33, 34, 35, 36, 37, 38, 39, 40, 41, 42, 43, 44, 45, 46, 47, 48, 49, 50, 51, 52, 53, 54, 55, 56, 57, 58, 59, 60, 61, 62, 63, 64, 65, 66, 67, 68, 69, 70, 71, 72, 73, 74, 75, 76, 77, 78, 79, 80, 81, 82, 83, 84, 85, 86, 87, 88, 89, 90, 91, 92, 93, 94, 95, 96, 97, 98, 99, 100, 101, 102, 103, 104, 105, 106, 107, 108, 109, 110, 111, 112, 113, 114, 115, 116, 117, 118, 119, 120, 121, 122, 123, 124, 125, 126, 127, 128] (by decide +kernel) (by decide +kernel)) (goodIn_sub (fun _ h => List.mem_cons_of_mem _ (List.mem_append_left _ (List.mem_append_right _ h))) (by decide +kernel))) (goodIn_sub (fun _ h => List.mem_cons_of_mem _ (List.mem_append_right _ h)) (by decide +kernel))
set_option maxRecDepth 20000 in
theorem gL_ofFile_X6_ofFile : GoodIn wsL_ofFile (wsV RL 71 RX6 yX6_ofFile wsX6_ofFile) := goodIn_app (goodIn_of _ (by decide +kernel)) ggL_ofFile_X6_ofFile
set_option maxRecDepth 20000 in
theorem ggL_ofPlace_X6_ofPlace : GoodIn wsL_ofPlace wsX6_ofPlace := goodIn_ca (goodIn_ca (goodIn_r _ [7, 8, 9, 10, 11, 6, 12, 13, 14, 15, 16, 17, 18, 19, 20, 21, 22, 23, 24, 25, 26, 27, 28, 29, 30, 31, 32, 33, 34, 35, 36, 37, 38, 39, 40, 41, 42, 43, 44, 45, 46, 47, 48, 49, 50, 51, 52, 53, 54, 55, 56, 57, 58, 59, 60] (by decide +kernel) (by decide +kernel)) (goodIn_sub (fun _ h => List.mem_cons_of_mem _ (List.mem_append_left _ (List.mem_append_right _ h))) (by decide +kernel))) (goodIn_sub (fun _ h => List.mem_cons_of_mem _ (List.mem_append_right _ h)) (by decide +kernel))
set_option maxRecDepth 20000 in
theorem gL_ofPlace_X6_ofPlace : GoodIn wsL_ofPlace (wsV RL 74 RX6 yX6_ofPlace wsX6_ofPlace) := goodIn_app (goodIn_of _ (by decide +kernel)) ggL_ofPlace_X6_ofPlace
set_option maxRecDepth 20000 in
theorem ggL_many_X6_many : GoodIn wsL_many wsX6_many := goodIn_ca (goodIn_r _ [6, 7, 8, 9, 10, 11, 5, 12, 13, 14, 15, 16, 17, 18, 19, 20, 21, 22, 23, 24, 25, 26, 27, 28, 29, 30, 31, 32, 33, 34, 35, 36, 37, 38, 39, 40, 41, 42, 43, 44, 45, 46, 47, 48, 49, 50, 51, 52, 53, 54, 55, 56] (by decide +kernel) (by decide +kernel)) (goodIn_sub (fun _ h => List.mem_cons_of_mem _ (List.mem_append_right _ h)) (by decide +kernel))
set_option maxRecDepth 20000 in
theorem gL_many_X6_many : GoodIn wsL_many (wsV RL 77 RX6 yX6_many wsX6_many) := goodIn_app (goodIn_of _ (by decide +kernel)) ggL_many_X6_many
set_option maxRecDepth 20000 in
theorem ggL_apart_X6_apart : GoodIn wsL_apart wsX6_apart := goodIn_ca (goodIn_r _ [6, 7, 8, 9, 10, 11, 5, 12, 13, 14, 15, 16, 17, 18, 19, 20, 21, 22, 23, 24, 25, 26, 27, 28, 29, 30, 31, 32, 33, 34, 35, 36, 37, 38, 39, 40, 41, 42, 43, 44, 45, 46, 47, 48, 49, 50, 51, 52, 53, 54, 55, 56, 57, 58, 59, 60, 61, 62, 63, 64, 65, 66, 67, 68, 69, 70, 71, 72, 73, 74, 75, 76, 77, 78, 79, 80, 81, 82, 83, 84, 85, 86, 87, 88, 89, 90, 91, 92, 93, 94, 95, 96, 97, 98, 99, 100, 101, 102, 103, 104, 105, 106, 107, 108, 109, 110, 111, 112, 113, 114, 115, 116, 117, 118, 119] (by decide +kernel) (by decide +kernel)) (goodIn_sub (fun _ h => List.mem_cons_of_mem _ (List.mem_append_right _ h)) (by decide +kernel))
set_option maxRecDepth 20000 in
theorem gL_apart_X6_apart : GoodIn wsL_apart (wsV RL 80 RX6 yX6_apart wsX6_apart) := goodIn_app (goodIn_of _ (by decide +kernel)) ggL_apart_X6_apart
set_option maxRecDepth 20000 in
theorem ggL_wouldClip_X6_wouldClip : GoodIn wsL_wouldClip wsX6_wouldClip := goodIn_ca (goodIn_r _ [6, 7, 8, 9, 10, 11, 5, 12, 13, 14, 15, 16, 17, 18, 19, 20, 21, 22, 23, 24, 25, 26, 27, 28, 29, 30, 31, 32, 33, 34, 35, 36, 37, 38, 39, 40, 41, 42, 43, 44, 45, 46, 47, 48, 49, 50, 51, 52, 53, 54, 55, 56, 57, 58, 59, 60, 61, 62, 63, 64, 65, 66, 67, 68, 69, 70, 71, 72, 73, 74, 75, 76] (by decide +kernel) (by decide +kernel)) (goodIn_sub (fun _ h => List.mem_cons_of_mem _ (List.mem_append_right _ h)) (by decide +kernel))
set_option maxRecDepth 20000 in
theorem gL_wouldClip_X6_wouldClip : GoodIn wsL_wouldClip (wsV RL 83 RX6 yX6_wouldClip wsX6_wouldClip) := goodIn_app (goodIn_of _ (by decide +kernel)) ggL_wouldClip_X6_wouldClip
