set_option maxRecDepth 20000 in
theorem ggL_law_L_take : GoodIn wsL_law wsL_take := goodIn_ca (goodIn_ca (goodIn_r _ [230, 116, 231, 232, 233, 234, 2, 235, 26, 21, 17, 23, 236, 237, 238, 132, 133, 134, 121, 122, 239, 240, 241, 242, 243, 244, 245, 246, 20, 247, 53, 50, 136, 137, 248, 249, 250, 251, 252, 16, 253, 45, 254, 255, 256, 257, 258, 43, 259, 260, 261, 262, 263, 264, 265, 266, 267, 268, 269, 270, 271, 272, 912, 913, 914, 915, 916, 917, 918, 919, 920, 932, 933, 934, 935, 936, 937, 938, 939, 929, 930, 931] (by decide +kernel) (by decide +kernel)) (goodIn_sub (fun _ h => List.mem_append_left _ (List.mem_append_left _ (List.mem_append_right _ h))) (by decide +kernel))) (goodIn_sub (fun _ h => List.mem_append_right _ h) (by decide +kernel))
set_option maxRecDepth 20000 in
theorem gL_law_L_take : GoodIn wsL_law (va_wsS RL 117 yL_take wsL_take) := goodIn_app (goodIn_of _ (by decide +kernel)) ggL_law_L_take
set_option maxRecDepth 20000 in
theorem ggL_law_X9_take : GoodIn wsL_law wsX9_take := goodIn_r _ [276, 146, 94, 152, 153, 5, 154, 155, 156, 157, 158, 277, 278, 279, 93, 280, 281, 282, 283, 284, 285, 42, 286, 87, 88, 287, 288, 289, 263, 264, 265, 89, 290, 267, 268, 291, 292, 293, 294, 295, 296, 297, 298, 299, 300, 12, 13, 301, 92, 302, 303, 304, 305, 306, 97, 98, 99, 100, 101, 102, 103, 104, 105, 106, 107, 108, 109, 110, 307, 308, 309, 310, 311, 312, 313, 314, 315, 316, 317, 318, 319, 320, 321, 322, 323, 324, 325, 326, 327, 328, 329, 330, 331, 332, 333, 334, 335, 336, 337, 338, 339, 340, 341, 342, 343, 344, 345, 346, 347, 348, 349, 350, 351, 352, 353, 921, 922, 923, 924, 925, 926, 927, 928, 948, 949, 950, 951, 952, 953, 954, 955] (by decide +kernel) (by decide +kernel)
set_option maxRecDepth 20000 in
theorem gL_law_X9_take : GoodIn wsL_law (wsV RL 120 RX9 yX9_take wsX9_take) := goodIn_app (goodIn_of _ (by decide +kernel)) ggL_law_X9_take
set_option maxRecDepth 20000 in
theorem ggL_law_X9_thrown : GoodIn wsL_law wsX9_thrown := goodIn_r _ [165, 146, 921, 922, 923, 924, 925, 926, 927, 928] (by decide +kernel) (by decide +kernel)
set_option maxRecDepth 20000 in
theorem gL_law_X9_thrown : GoodIn wsL_law (wsV RL 102 RX9 yX9_thrown wsX9_thrown) := goodIn_app (goodIn_of _ (by decide +kernel)) ggL_law_X9_thrown
set_option maxRecDepth 20000 in
theorem ggL_law_L_wouldClip : GoodIn wsL_law wsL_wouldClip := goodIn_ca (goodIn_r _ [845, 116, 846, 847, 848, 2, 849, 21, 17, 30, 236, 237, 238, 132, 133, 134, 121, 122, 244, 245, 246, 20, 247, 53, 50, 136, 137, 248, 249, 250, 251, 252, 16, 253, 45, 254, 255, 256, 257, 258, 43, 259, 260, 261, 262, 263, 264, 265, 266, 267, 268, 661, 662, 663, 29, 664, 57, 912, 913, 914, 915, 916, 917, 918, 919, 920, 932, 933, 934, 935, 936, 937, 938, 939, 929, 930, 931] (by decide +kernel) (by decide +kernel)) (goodIn_sub (fun _ h => List.mem_append_left _ (List.mem_append_left _ (List.mem_append_right _ h))) (by decide +kernel))
set_option maxRecDepth 20000 in
theorem gL_law_L_wouldClip : GoodIn wsL_law (va_wsS RL 170 yL_wouldClip wsL_wouldClip) := goodIn_app (goodIn_of _ (by decide +kernel)) ggL_law_L_wouldClip
set_option maxRecDepth 20000 in
theorem ggL_law_X9_wouldClip : GoodIn wsL_law wsX9_wouldClip := goodIn_r _ [853, 146, 152, 153, 5, 154, 155, 156, 157, 158, 282, 283, 284, 285, 42, 286, 87, 88, 287, 288, 289, 263, 264, 265, 89, 290, 267, 268, 291, 292, 293, 294, 295, 296, 297, 298, 299, 300, 12, 13, 301, 92, 93, 302, 303, 304, 305, 306, 97, 98, 99, 100, 101, 102, 103, 104, 105, 106, 107, 108, 109, 110, 688, 689, 690, 691, 921, 922, 923, 924, 925, 926, 927, 928, 951, 952, 953, 954, 955, 948, 949, 950] (by decide +kernel) (by decide +kernel)
set_option maxRecDepth 20000 in
theorem gL_law_X9_wouldClip : GoodIn wsL_law (wsV RL 172 RX9 yX9_wouldClip wsX9_wouldClip) := goodIn_app (goodIn_of _ (by decide +kernel)) ggL_law_X9_wouldClip
set_option maxRecDepth 20000 in
theorem ggL_law_L_paint : GoodIn wsL_law wsL_paint := goodIn_ca (goodIn_ca (goodIn_r _ [114, 115, 116, 117, 118, 119, 2, 120, 121, 122, 123, 17, 124, 125, 126, 127, 128, 129, 130, 131, 132, 133, 134, 135, 136, 137, 138, 139, 140, 16, 141, 43, 912, 913, 914, 915, 916, 917, 918, 919, 920, 929, 930, 931] (by decide +kernel) (by decide +kernel)) (goodIn_sub (fun _ h => List.mem_append_left _ (List.mem_append_left _ (List.mem_append_right _ h))) (by decide +kernel))) (goodIn_sub (fun _ h => List.mem_append_left _ (List.mem_append_right _ h)) (by decide +kernel))
set_option maxRecDepth 20000 in
theorem gL_law_L_paint : GoodIn wsL_law (va_wsS RL 96 yL_paint wsL_paint) := goodIn_app (goodIn_of _ (by decide +kernel)) ggL_law_L_paint
set_option maxRecDepth 20000 in
theorem ggL_law_X9_paint : GoodIn wsL_law wsX9_paint := goodIn_r _ [145, 146, 147, 87, 148, 149, 150, 5, 151, 152, 153, 154, 155, 156, 157, 158, 159, 160, 161, 921, 922, 923, 924, 925, 926, 927, 928] (by decide +kernel) (by decide +kernel)
set_option maxRecDepth 20000 in
theorem gL_law_X9_paint : GoodIn wsL_law (wsV RL 101 RX9 yX9_paint wsX9_paint) := goodIn_app (goodIn_of _ (by decide +kernel)) ggL_law_X9_paint
set_option maxRecDepth 20000 in
theorem ggL_law_L_lamp : GoodIn wsL_law wsL_lamp := goodIn_ca (goodIn_r _ [168, 116, 169, 170, 171, 2, 172, 17, 132, 133, 134, 121, 122, 173, 174, 175, 16, 176, 46, 177, 178, 179, 180, 45, 181, 912, 913, 914, 915, 916, 917, 918, 919, 920, 929, 930, 931] (by decide +kernel) (by decide +kernel)) (goodIn_sub (fun _ h => List.mem_append_left _ (List.mem_append_left _ (List.mem_append_right _ h))) (by decide +kernel))
set_option maxRecDepth 20000 in
theorem gL_law_L_lamp : GoodIn wsL_law (va_wsS RL 106 yL_lamp wsL_lamp) := goodIn_app (goodIn_of _ (by decide +kernel)) ggL_law_L_lamp
set_option maxRecDepth 20000 in
theorem ggL_law_X9_lamp : GoodIn wsL_law wsX9_lamp := goodIn_r _ [185, 146, 88, 152, 153, 5, 154, 155, 156, 157, 158, 921, 922, 923, 924, 925, 926, 927, 928] (by decide +kernel) (by decide +kernel)
set_option maxRecDepth 20000 in
theorem gL_law_X9_lamp : GoodIn wsL_law (wsV RL 109 RX9 yX9_lamp wsX9_lamp) := goodIn_app (goodIn_of _ (by decide +kernel)) ggL_law_X9_lamp
set_option maxRecDepth 20000 in
theorem ggL_law_L_spoil : GoodIn wsL_law wsL_spoil := goodIn_ca (goodIn_ca (goodIn_r _ [188, 115, 116, 189, 190, 191, 2, 192, 21, 124, 125, 126, 127, 128, 129, 130, 131, 132, 133, 134, 121, 122, 135, 136, 137, 193, 194, 195, 20, 196, 50, 197, 198, 199, 200, 912, 913, 914, 915, 916, 917, 918, 919, 920, 932, 933, 934] (by decide +kernel) (by decide +kernel)) (goodIn_sub (fun _ h => List.mem_append_left _ (List.mem_append_right _ h)) (by decide +kernel))) (goodIn_sub (fun _ h => List.mem_append_left _ (List.mem_append_left _ (List.mem_append_right _ h))) (by decide +kernel))
set_option maxRecDepth 20000 in
theorem gL_law_L_spoil : GoodIn wsL_law (va_wsS RL 110 yL_spoil wsL_spoil) := goodIn_app (goodIn_of _ (by decide +kernel)) ggL_law_L_spoil
set_option maxRecDepth 20000 in
theorem ggL_law_X9_spoil : GoodIn wsL_law wsX9_spoil := goodIn_r _ [204, 146, 89, 149, 150, 5, 151, 152, 153, 154, 155, 156, 157, 158, 159, 160, 161, 921, 922, 923, 924, 925, 926, 927, 928] (by decide +kernel) (by decide +kernel)
set_option maxRecDepth 20000 in
theorem gL_law_X9_spoil : GoodIn wsL_law (wsV RL 112 RX9 yX9_spoil wsX9_spoil) := goodIn_app (goodIn_of _ (by decide +kernel)) ggL_law_X9_spoil
set_option maxRecDepth 20000 in
theorem ggL_law_L_map : GoodIn wsL_law wsL_map := goodIn_ca (goodIn_r _ [207, 115, 208, 209, 210, 2, 211, 21, 124, 125, 126, 127, 128, 129, 130, 131, 135, 136, 137, 212, 213, 214, 20, 215, 52, 216, 217, 218, 219, 912, 913, 914, 915, 916, 917, 918, 919, 920, 932, 933, 934] (by decide +kernel) (by decide +kernel)) (goodIn_sub (fun _ h => List.mem_append_left _ (List.mem_append_right _ h)) (by decide +kernel))
set_option maxRecDepth 20000 in
theorem gL_law_L_map : GoodIn wsL_law (va_wsS RL 113 yL_map wsL_map) := goodIn_app (goodIn_of _ (by decide +kernel)) ggL_law_L_map
set_option maxRecDepth 20000 in
theorem ggL_law_X9_map : GoodIn wsL_law wsX9_map := goodIn_r _ [223, 146, 90, 149, 150, 5, 151, 152, 153, 154, 155, 156, 157, 158, 159, 160, 161, 224, 225, 226, 227, 921, 922, 923, 924, 925, 926, 927, 928] (by decide +kernel) (by decide +kernel)
set_option maxRecDepth 20000 in
theorem gL_law_X9_map : GoodIn wsL_law (wsV RL 116 RX9 yX9_map wsX9_map) := goodIn_app (goodIn_of _ (by decide +kernel)) ggL_law_X9_map
set_option maxRecDepth 20000 in
theorem ggL_law_L_merge : GoodIn wsL_law wsL_merge := goodIn_ca (goodIn_ca (goodIn_r _ [356, 116, 231, 357, 358, 359, 2, 360, 121, 122, 26, 23, 132, 133, 134, 361, 362, 363, 364, 365, 366, 367, 239, 240, 241, 242, 243, 368, 369, 370, 371, 372, 373, 264, 374, 375, 376, 377, 378, 379, 380, 381, 912, 913, 914, 915, 916, 917, 918, 919, 920, 935, 936, 937, 938, 939] (by decide +kernel) (by decide +kernel)) (goodIn_sub (fun _ h => List.mem_append_left _ (List.mem_append_left _ (List.mem_append_right _ h))) (by decide +kernel))) (goodIn_sub (fun _ h => List.mem_append_right _ h) (by decide +kernel))
set_option maxRecDepth 20000 in
theorem gL_law_L_merge : GoodIn wsL_law (va_wsS RL 121 yL_merge wsL_merge) := goodIn_app (goodIn_of _ (by decide +kernel)) ggL_law_L_merge
set_option maxRecDepth 20000 in
theorem ggL_law_X9_merge : GoodIn wsL_law wsX9_merge := goodIn_r _ [385, 146, 94, 386, 291, 292, 293, 387, 388, 42, 389, 390, 373, 264, 374, 391, 277, 278, 279, 93, 280, 281, 152, 153, 5, 154, 155, 156, 157, 158, 392, 393, 394, 395, 396, 397, 398, 399, 400, 401, 402, 403, 404, 405, 406, 407, 100, 297, 298, 299, 300, 12, 13, 301, 92, 302, 303, 304, 305, 306, 97, 98, 99, 101, 102, 103, 104, 105, 106, 107, 108, 109, 110, 307, 308, 309, 310, 311, 312, 313, 314, 315, 316, 317, 318, 319, 320, 321, 322, 323, 324, 325, 267, 268, 326, 327, 328, 329, 330, 331, 332, 333, 334, 335, 336, 337, 338, 339, 340, 341, 342, 343, 344, 345, 346, 347, 348, 349, 263, 265, 350, 351, 352, 353, 921, 922, 923, 924, 925, 926, 927, 928, 951, 952, 953, 954, 955, 948, 949, 950] (by decide +kernel) (by decide +kernel)
set_option maxRecDepth 20000 in
theorem gL_law_X9_merge : GoodIn wsL_law (wsV RL 123 RX9 yX9_merge wsX9_merge) := goodIn_app (goodIn_of _ (by decide +kernel)) ggL_law_X9_merge
set_option maxRecDepth 20000 in
theorem ggL_law_L_edit : GoodIn wsL_law wsL_edit := goodIn_ca (goodIn_ca (goodIn_ca (goodIn_r _ [410, 115, 116, 231, 411, 412, 413, 2, 414, 23, 415, 416, 417, 418, 127, 128, 26, 132, 133, 134, 121, 122, 419, 420, 421, 422, 423, 424, 425, 426, 427, 60, 428, 70, 239, 240, 241, 242, 243, 429, 430, 431, 432, 68, 69, 912, 913, 914, 915, 916, 917, 918, 919, 920, 935, 936, 937, 938, 939, 945, 946, 947] (by decide +kernel) (by decide +kernel)) (goodIn_sub (fun _ h => List.mem_append_left _ (List.mem_append_right _ h)) (by decide +kernel))) (goodIn_sub (fun _ h => List.mem_append_left _ (List.mem_append_left _ (List.mem_append_right _ h))) (by decide +kernel))) (goodIn_sub (fun _ h => List.mem_append_right _ h) (by decide +kernel))
set_option maxRecDepth 20000 in
theorem gL_law_L_edit : GoodIn wsL_law (va_wsS RL 124 yL_edit wsL_edit) := goodIn_app (goodIn_of _ (by decide +kernel)) ggL_law_L_edit
set_option maxRecDepth 20000 in
theorem ggL_law_X9_edit : GoodIn wsL_law wsX9_edit := goodIn_r _ [436, 146, 94, 386, 437, 42, 438, 439, 440, 5, 441, 277, 278, 279, 93, 280, 281, 152, 153, 154, 155, 156, 157, 158, 442, 443, 444, 392, 393, 394, 395, 396, 397, 398, 399, 400, 401, 402, 403, 404, 405, 406, 407, 100, 307, 308, 309, 310, 311, 312, 313, 314, 315, 316, 317, 318, 319, 320, 321, 322, 323, 324, 99, 325, 267, 264, 268, 326, 327, 328, 329, 330, 331, 332, 333, 334, 335, 336, 337, 338, 339, 340, 341, 342, 343, 344, 345, 346, 347, 348, 349, 263, 265, 350, 351, 352, 353, 921, 922, 923, 924, 925, 926, 927, 928, 951, 952, 953, 954, 955, 948, 949, 950] (by decide +kernel) (by decide +kernel)
set_option maxRecDepth 20000 in
theorem gL_law_X9_edit : GoodIn wsL_law (wsV RL 126 RX9 yX9_edit wsX9_edit) := goodIn_app (goodIn_of _ (by decide +kernel)) ggL_law_X9_edit
set_option maxRecDepth 20000 in
theorem ggL_law_L_undo : GoodIn wsL_law wsL_undo := goodIn_ca (goodIn_r _ [447, 115, 448, 449, 450, 2, 451, 23, 415, 416, 417, 418, 127, 128, 26, 452, 453, 454, 60, 455, 70, 68, 912, 913, 914, 915, 916, 917, 918, 919, 920, 935, 936, 937, 938, 939, 945, 946, 947] (by decide +kernel) (by decide +kernel)) (goodIn_sub (fun _ h => List.mem_append_left _ (List.mem_append_right _ h)) (by decide +kernel))
set_option maxRecDepth 20000 in
theorem gL_law_L_undo : GoodIn wsL_law (va_wsS RL 127 yL_undo wsL_undo) := goodIn_app (goodIn_of _ (by decide +kernel)) ggL_law_L_undo
set_option maxRecDepth 20000 in
theorem ggL_law_X9_undo : GoodIn wsL_law wsX9_undo := goodIn_r _ [459, 146, 94, 386, 437, 460, 438, 439, 440, 5, 441, 277, 278, 279, 93, 280, 281, 152, 153, 154, 155, 156, 157, 158, 392, 393, 394, 395, 396, 397, 398, 399, 400, 401, 402, 403, 404, 405, 406, 407, 100, 461, 462, 463, 464, 465, 466, 467, 468, 311, 312, 469, 351, 352, 353, 921, 922, 923, 924, 925, 926, 927, 928, 951, 952, 953, 954, 955, 948, 949, 950] (by decide +kernel) (by decide +kernel)
set_option maxRecDepth 20000 in
theorem gL_law_X9_undo : GoodIn wsL_law (wsV RL 130 RX9 yX9_undo wsX9_undo) := goodIn_app (goodIn_of _ (by decide +kernel)) ggL_law_X9_undo
set_option maxRecDepth 20000 in
theorem ggL_law_L_save : GoodIn wsL_law wsL_save := goodIn_ca (goodIn_ca (goodIn_r _ [472, 115, 231, 473, 474, 475, 2, 476, 27, 25, 23, 415, 416, 417, 418, 127, 128, 26, 239, 240, 241, 242, 243, 477, 478, 479, 480, 481, 482, 483, 37, 484, 81, 82, 80, 485, 486, 487, 60, 488, 68, 69, 70, 912, 913, 914, 915, 916, 917, 918, 919, 920, 935, 936, 937, 938, 939, 942, 943, 944, 945, 946, 947] (by decide +kernel) (by decide +kernel)) (goodIn_sub (fun _ h => List.mem_append_left _ (List.mem_append_right _ h)) (by decide +kernel))) (goodIn_sub (fun _ h => List.mem_append_right _ h) (by decide +kernel))
set_option maxRecDepth 20000 in
theorem gL_law_L_save : GoodIn wsL_law (va_wsS RL 131 yL_save wsL_save) := goodIn_app (goodIn_of _ (by decide +kernel)) ggL_law_L_save
set_option maxRecDepth 20000 in
theorem ggL_law_X9_save : GoodIn wsL_law wsX9_save := goodIn_r _ [492, 146, 95, 493, 494, 495, 94, 386, 437, 496, 460, 438, 439, 440, 5, 441, 277, 278, 279, 93, 280, 281, 152, 153, 154, 155, 156, 157, 158, 497, 498, 499, 500, 501, 502, 392, 393, 394, 395, 396, 397, 398, 399, 400, 401, 402, 403, 404, 405, 406, 407, 100, 503, 504, 505, 506, 12, 13, 507, 92, 508, 509, 510, 511, 97, 98, 99, 101, 102, 103, 104, 105, 106, 107, 108, 109, 110, 307, 308, 309, 310, 311, 312, 313, 314, 315, 316, 317, 318, 319, 320, 321, 322, 323, 324, 325, 267, 264, 268, 326, 327, 328, 329, 330, 331, 332, 333, 334, 335, 336, 337, 338, 339, 340, 341, 342, 343, 344, 345, 346, 347, 348, 349, 263, 265, 350, 351, 352, 353, 921, 922, 923, 924, 925, 926, 927, 928, 956, 957, 958, 951, 952, 953, 954, 955, 948, 949, 950] (by decide +kernel) (by decide +kernel)
set_option maxRecDepth 20000 in
theorem gL_law_X9_save : GoodIn wsL_law (wsV RL 133 RX9 yX9_save wsX9_save) := goodIn_app (goodIn_of _ (by decide +kernel)) ggL_law_X9_save
set_option maxRecDepth 20000 in
theorem ggL_law_L_raw : GoodIn wsL_law wsL_raw := goodIn_ca (goodIn_r _ [514, 115, 515, 516, 517, 2, 518, 23, 415, 416, 417, 418, 127, 128, 26, 124, 125, 126, 129, 130, 131, 135, 136, 137, 912, 913, 914, 915, 916, 917, 918, 919, 920, 935, 936, 937, 938, 939] (by decide +kernel) (by decide +kernel)) (goodIn_sub (fun _ h => List.mem_append_left _ (List.mem_append_right _ h)) (by decide +kernel))
set_option maxRecDepth 20000 in
theorem gL_law_L_raw : GoodIn wsL_law (va_wsS RL 134 yL_raw wsL_raw) := goodIn_app (goodIn_of _ (by decide +kernel)) ggL_law_L_raw
set_option maxRecDepth 20000 in
theorem ggL_law_X9_raw : GoodIn wsL_law wsX9_raw := goodIn_r _ [522, 146, 94, 386, 389, 438, 439, 440, 5, 441, 277, 278, 279, 93, 280, 281, 152, 153, 154, 149, 150, 151, 155, 156, 157, 158, 392, 393, 394, 395, 396, 397, 398, 399, 400, 401, 402, 403, 404, 405, 406, 407, 100, 159, 160, 161, 921, 922, 923, 924, 925, 926, 927, 928, 951, 952, 953, 954, 955, 948, 949, 950] (by decide +kernel) (by decide +kernel)
set_option maxRecDepth 20000 in
theorem gL_law_X9_raw : GoodIn wsL_law (wsV RL 136 RX9 yX9_raw wsX9_raw) := goodIn_app (goodIn_of _ (by decide +kernel)) ggL_law_X9_raw
set_option maxRecDepth 20000 in
theorem ggL_law_L_picture : GoodIn wsL_law wsL_picture := goodIn_ca (goodIn_ca (goodIn_r _ [525, 115, 116, 526, 527, 528, 2, 529, 34, 415, 416, 417, 418, 127, 128, 26, 124, 125, 126, 129, 130, 131, 132, 133, 134, 121, 122, 530, 531, 532, 533, 23, 21, 534, 535, 536, 33, 537, 538, 539, 540, 60, 541, 70, 68, 542, 543, 544, 545, 75, 136, 137, 546, 547, 548, 549, 550, 551, 552, 74, 248, 249, 553, 554, 555, 556, 557, 558, 559, 560, 426, 427, 428, 561, 562, 563, 564, 565, 566, 567, 568, 569, 570, 571, 572, 573, 574, 575, 576, 577, 578, 579, 580, 581, 582, 583, 584, 585, 586, 587, 588, 589, 590, 135, 591, 912, 913, 914, 915, 916, 917, 918, 919, 920, 940, 941, 935, 936, 937, 938, 939, 932, 933, 934, 945, 946, 947] (by decide +kernel) (by decide +kernel)) (goodIn_sub (fun _ h => List.mem_append_left _ (List.mem_append_right _ h)) (by decide +kernel))) (goodIn_sub (fun _ h => List.mem_append_left _ (List.mem_append_left _ (List.mem_append_right _ h))) (by decide +kernel))
set_option maxRecDepth 20000 in
theorem gL_law_L_picture : GoodIn wsL_law (va_wsS RL 137 yL_picture wsL_picture) := goodIn_app (goodIn_of _ (by decide +kernel)) ggL_law_L_picture
set_option maxRecDepth 20000 in
theorem ggL_law_X9_picture__ : GoodIn wsL_law wsX9_picture__ := goodIn_r _ [595, 146, 438, 439, 440, 5, 441, 94, 277, 278, 279, 93, 280, 281, 152, 153, 154, 149, 150, 151, 155, 156, 157, 158, 596, 597, 598, 599, 386, 437, 392, 393, 394, 395, 396, 397, 398, 399, 400, 401, 402, 403, 404, 405, 406, 407, 100, 600, 601, 602, 603, 389, 460, 44, 604, 605, 606, 607, 608, 609, 610, 611, 42, 90, 159, 160, 161, 612, 613, 614, 615, 294, 295, 296, 616, 617, 618, 287, 619, 620, 621, 622, 623, 624, 625, 626, 627, 628, 629, 630, 631, 921, 922, 923, 924, 925, 926, 927, 928, 948, 949, 950, 951, 952, 953, 954, 955] (by decide +kernel) (by decide +kernel)
set_option maxRecDepth 20000 in
theorem gL_law_X9_picture__ : GoodIn wsL_law (wsV RL 140 RX9 yX9_picture__ wsX9_picture__) := goodIn_app (goodIn_of _ (by decide +kernel)) ggL_law_X9_picture__
set_option maxRecDepth 20000 in
theorem ggL_law_L_word : GoodIn wsL_law wsL_word := goodIn_ca (goodIn_r _ [634, 115, 635, 636, 637, 2, 638, 23, 415, 416, 417, 418, 127, 128, 26, 639, 640, 641, 642, 34, 21, 534, 535, 536, 33, 537, 538, 539, 540, 60, 541, 70, 68, 542, 543, 544, 545, 75, 136, 137, 546, 547, 548, 130, 131, 549, 550, 551, 552, 74, 248, 249, 553, 554, 555, 556, 557, 558, 559, 560, 426, 427, 428, 561, 562, 563, 564, 565, 566, 567, 568, 569, 570, 571, 572, 573, 574, 575, 576, 577, 578, 579, 580, 581, 582, 583, 584, 585, 586, 587, 588, 589, 590, 643, 644, 645, 646, 912, 913, 914, 915, 916, 917, 918, 919, 920, 935, 936, 937, 938, 939, 932, 933, 934, 945, 946, 947, 940, 941] (by decide +kernel) (by decide +kernel)) (goodIn_sub (fun _ h => List.mem_append_left _ (List.mem_append_right _ h)) (by decide +kernel))
set_option maxRecDepth 20000 in
theorem gL_law_L_word : GoodIn wsL_law (va_wsS RL 141 yL_word wsL_word) := goodIn_app (goodIn_of _ (by decide +kernel)) ggL_law_L_word
set_option maxRecDepth 20000 in
theorem ggL_law_X9_word_ : GoodIn wsL_law wsX9_word_ := goodIn_r _ [650, 146, 438, 439, 440, 5, 441, 94, 277, 278, 279, 93, 280, 281, 152, 153, 154, 155, 156, 157, 158, 596, 597, 598, 599, 386, 437, 392, 393, 394, 395, 396, 397, 398, 399, 400, 401, 402, 403, 404, 405, 406, 407, 100, 600, 601, 602, 603, 389, 460, 44, 604, 605, 606, 607, 608, 609, 610, 611, 42, 90, 149, 150, 151, 159, 160, 161, 612, 613, 614, 615, 294, 295, 296, 616, 617, 618, 287, 619, 620, 621, 622, 623, 624, 625, 626, 627, 628, 629, 630, 631, 651, 652, 653, 921, 922, 923, 924, 925, 926, 927, 928, 948, 949, 950, 951, 952, 953, 954, 955] (by decide +kernel) (by decide +kernel)
set_option maxRecDepth 20000 in
theorem gL_law_X9_word_ : GoodIn wsL_law (wsV RL 143 RX9 yX9_word_ wsX9_word_) := goodIn_app (goodIn_of _ (by decide +kernel)) ggL_law_X9_word_
set_option maxRecDepth 20000 in
theorem ggL_law_L_ofFrame : GoodIn wsL_law wsL_ofFrame := goodIn_ca (goodIn_ca (goodIn_r _ [656, 115, 116, 657, 658, 659, 2, 660, 23, 415, 416, 417, 418, 127, 128, 26, 132, 133, 134, 121, 122, 425, 426, 427, 60, 428, 70, 661, 662, 663, 29, 664, 57, 665, 666, 667, 668, 669, 373, 264, 374, 248, 249, 136, 137, 670, 671, 672, 673, 674, 263, 265, 675, 267, 268, 676, 677, 678, 679, 477, 478, 479, 480, 27, 25, 912, 913, 914, 915, 916, 917, 918, 919, 920, 935, 936, 937, 938, 939, 945, 946, 947, 942, 943, 944] (by decide +kernel) (by decide +kernel)) (goodIn_sub (fun _ h => List.mem_append_left _ (List.mem_append_right _ h)) (by decide +kernel))) (goodIn_sub (fun _ h => List.mem_append_left _ (List.mem_append_left _ (List.mem_append_right _ h))) (by decide +kernel))
set_option maxRecDepth 20000 in
theorem gL_law_L_ofFrame : GoodIn wsL_law (va_wsS RL 144 yL_ofFrame wsL_ofFrame) := goodIn_app (goodIn_of _ (by decide +kernel)) ggL_law_L_ofFrame
set_option maxRecDepth 20000 in
theorem ggL_law_X9_ofFrame : GoodIn wsL_law wsX9_ofFrame := goodIn_r _ [683, 146, 438, 439, 440, 5, 441, 94, 277, 278, 279, 93, 280, 281, 152, 153, 154, 155, 156, 157, 158, 684, 685, 686, 687, 386, 42, 387, 388, 437, 391, 392, 393, 394, 395, 396, 397, 398, 399, 400, 401, 402, 403, 404, 405, 406, 407, 100, 688, 689, 690, 293, 691, 305, 692, 693, 694, 695, 696, 373, 264, 374, 295, 296, 697, 698, 699, 700, 701, 263, 265, 702, 267, 268, 703, 704, 705, 706, 497, 498, 499, 500, 95, 501, 502, 921, 922, 923, 924, 925, 926, 927, 928, 948, 949, 950, 951, 952, 953, 954, 955, 956, 957, 958] (by decide +kernel) (by decide +kernel)
set_option maxRecDepth 20000 in
theorem gL_law_X9_ofFrame : GoodIn wsL_law (wsV RL 146 RX9 yX9_ofFrame wsX9_ofFrame) := goodIn_app (goodIn_of _ (by decide +kernel)) ggL_law_X9_ofFrame
set_option maxRecDepth 20000 in
theorem ggL_law_L_ofEdit : GoodIn wsL_law wsL_ofEdit := goodIn_ca (goodIn_ca (goodIn_r _ [709, 115, 116, 710, 711, 712, 2, 713, 23, 415, 416, 417, 418, 127, 128, 26, 425, 426, 427, 60, 428, 70, 714, 715, 716, 132, 133, 134, 121, 122, 912, 913, 914, 915, 916, 917, 918, 919, 920, 935, 936, 937, 938, 939, 945, 946, 947] (by decide +kernel) (by decide +kernel)) (goodIn_sub (fun _ h => List.mem_append_left _ (List.mem_append_right _ h)) (by decide +kernel))) (goodIn_sub (fun _ h => List.mem_append_left _ (List.mem_append_left _ (List.mem_append_right _ h))) (by decide +kernel))
set_option maxRecDepth 20000 in
theorem gL_law_L_ofEdit : GoodIn wsL_law (va_wsS RL 147 yL_ofEdit wsL_ofEdit) := goodIn_app (goodIn_of _ (by decide +kernel)) ggL_law_L_ofEdit
set_option maxRecDepth 20000 in
theorem ggL_law_X9_ofEdit : GoodIn wsL_law wsX9_ofEdit := goodIn_r _ [720, 146, 94, 386, 437, 460, 438, 439, 440, 5, 441, 277, 278, 279, 93, 280, 281, 152, 153, 154, 392, 393, 394, 395, 396, 397, 398, 399, 400, 401, 402, 403, 404, 405, 406, 407, 100, 155, 156, 157, 158, 921, 922, 923, 924, 925, 926, 927, 928, 951, 952, 953, 954, 955, 948, 949, 950] (by decide +kernel) (by decide +kernel)
set_option maxRecDepth 20000 in
theorem gL_law_X9_ofEdit : GoodIn wsL_law (wsV RL 149 RX9 yX9_ofEdit wsX9_ofEdit) := goodIn_app (goodIn_of _ (by decide +kernel)) ggL_law_X9_ofEdit
set_option maxRecDepth 20000 in
theorem ggL_law_L_zone : GoodIn wsL_law wsL_zone := goodIn_ca (goodIn_r _ [723, 115, 724, 725, 726, 2, 727, 23, 415, 416, 417, 418, 127, 128, 26, 714, 715, 716, 728, 729, 730, 29, 731, 57, 732, 248, 249, 136, 137, 912, 913, 914, 915, 916, 917, 918, 919, 920, 935, 936, 937, 938, 939] (by decide +kernel) (by decide +kernel)) (goodIn_sub (fun _ h => List.mem_append_left _ (List.mem_append_right _ h)) (by decide +kernel))
set_option maxRecDepth 20000 in
theorem gL_law_L_zone : GoodIn wsL_law (va_wsS RL 150 yL_zone wsL_zone) := goodIn_app (goodIn_of _ (by decide +kernel)) ggL_law_L_zone
set_option maxRecDepth 20000 in
theorem ggL_law_X9_zone : GoodIn wsL_law wsX9_zone := goodIn_r _ [736, 146, 94, 386, 438, 439, 440, 5, 441, 277, 278, 279, 93, 280, 281, 152, 153, 154, 155, 156, 157, 158, 392, 393, 394, 395, 396, 397, 398, 399, 400, 401, 402, 403, 404, 405, 406, 407, 100, 737, 738, 739, 293, 740, 305, 741, 295, 296, 921, 922, 923, 924, 925, 926, 927, 928, 948, 949, 950, 951, 952, 953, 954, 955] (by decide +kernel) (by decide +kernel)
set_option maxRecDepth 20000 in
theorem gL_law_X9_zone : GoodIn wsL_law (wsV RL 153 RX9 yX9_zone wsX9_zone) := goodIn_app (goodIn_of _ (by decide +kernel)) ggL_law_X9_zone
set_option maxRecDepth 20000 in
theorem ggL_law_L_meter : GoodIn wsL_law wsL_meter := goodIn_ca (goodIn_r _ [744, 115, 745, 746, 747, 2, 748, 23, 415, 416, 417, 418, 127, 128, 26, 749, 750, 751, 29, 752, 753, 754, 729, 730, 731, 57, 732, 248, 249, 136, 137, 912, 913, 914, 915, 916, 917, 918, 919, 920, 935, 936, 937, 938, 939] (by decide +kernel) (by decide +kernel)) (goodIn_sub (fun _ h => List.mem_append_left _ (List.mem_append_right _ h)) (by decide +kernel))
set_option maxRecDepth 20000 in
theorem gL_law_L_meter : GoodIn wsL_law (va_wsS RL 154 yL_meter wsL_meter) := goodIn_app (goodIn_of _ (by decide +kernel)) ggL_law_L_meter
set_option maxRecDepth 20000 in
theorem ggL_law_X9_meter : GoodIn wsL_law wsX9_meter := goodIn_r _ [758, 146, 94, 386, 438, 439, 440, 5, 441, 277, 278, 279, 93, 280, 281, 152, 153, 154, 155, 156, 157, 158, 392, 393, 394, 395, 396, 397, 398, 399, 400, 401, 402, 403, 404, 405, 406, 407, 100, 759, 760, 761, 293, 762, 763, 764, 738, 739, 740, 305, 741, 295, 296, 921, 922, 923, 924, 925, 926, 927, 928, 948, 949, 950, 951, 952, 953, 954, 955] (by decide +kernel) (by decide +kernel)
set_option maxRecDepth 20000 in
theorem gL_law_X9_meter : GoodIn wsL_law (wsV RL 157 RX9 yX9_meter wsX9_meter) := goodIn_app (goodIn_of _ (by decide +kernel)) ggL_law_X9_meter
set_option maxRecDepth 20000 in
theorem ggL_law_L_apart : GoodIn wsL_law wsL_apart := goodIn_ca (goodIn_r _ [823, 115, 824, 825, 826, 2, 827, 34, 35, 415, 416, 417, 418, 127, 128, 26, 530, 531, 532, 533, 23, 21, 534, 535, 536, 33, 537, 538, 539, 540, 60, 541, 70, 68, 542, 543, 544, 545, 75, 136, 137, 546, 547, 548, 130, 131, 549, 550, 551, 552, 74, 248, 249, 553, 554, 555, 556, 557, 558, 559, 560, 426, 427, 428, 561, 562, 563, 564, 565, 566, 567, 568, 569, 570, 571, 572, 573, 574, 575, 576, 577, 578, 579, 580, 581, 582, 583, 584, 585, 586, 587, 588, 589, 590, 828, 829, 830, 831, 912, 913, 914, 915, 916, 917, 918, 919, 920, 935, 936, 937, 938, 939, 932, 933, 934, 945, 946, 947, 940, 941] (by decide +kernel) (by decide +kernel)) (goodIn_sub (fun _ h => List.mem_append_left _ (List.mem_append_right _ h)) (by decide +kernel))
set_option maxRecDepth 20000 in
theorem gL_law_L_apart : GoodIn wsL_law (va_wsS RL 167 yL_apart wsL_apart) := goodIn_app (goodIn_of _ (by decide +kernel)) ggL_law_L_apart
set_option maxRecDepth 20000 in
theorem ggL_law_X9_apart : GoodIn wsL_law wsX9_apart := goodIn_r _ [835, 146, 438, 439, 440, 5, 441, 94, 277, 278, 279, 93, 280, 281, 152, 153, 154, 155, 156, 157, 158, 596, 597, 598, 599, 386, 437, 392, 393, 394, 395, 396, 397, 398, 399, 400, 401, 402, 403, 404, 405, 406, 407, 100, 600, 601, 602, 603, 389, 460, 44, 604, 605, 606, 607, 608, 609, 610, 611, 42, 90, 149, 150, 151, 159, 160, 161, 612, 613, 614, 615, 294, 295, 296, 616, 617, 618, 287, 619, 620, 621, 622, 623, 624, 625, 626, 627, 628, 629, 630, 631, 836, 837, 838, 839, 840, 841, 842, 921, 922, 923, 924, 925, 926, 927, 928, 948, 949, 950, 951, 952, 953, 954, 955] (by decide +kernel) (by decide +kernel)
set_option maxRecDepth 20000 in
theorem gL_law_X9_apart : GoodIn wsL_law (wsV RL 169 RX9 yX9_apart wsX9_apart) := goodIn_app (goodIn_of _ (by decide +kernel)) ggL_law_X9_apart
set_option maxRecDepth 20000 in
theorem ggL_law_L_bestWhite : GoodIn wsL_law wsL_bestWhite := goodIn_ca (goodIn_ca (goodIn_r _ [878, 115, 116, 879, 880, 881, 2, 882, 23, 34, 21, 883, 372, 373, 264, 374, 415, 416, 417, 418, 127, 128, 26, 132, 133, 134, 121, 122, 534, 535, 536, 33, 537, 538, 539, 540, 60, 541, 70, 68, 542, 543, 544, 545, 75, 136, 137, 546, 547, 548, 130, 131, 549, 550, 551, 552, 74, 248, 249, 553, 554, 555, 556, 557, 558, 559, 560, 426, 427, 428, 561, 562, 563, 564, 565, 566, 567, 568, 569, 570, 571, 572, 573, 574, 575, 576, 577, 578, 579, 580, 581, 582, 583, 884, 885, 886, 887, 588, 589, 590, 419, 420, 421, 422, 423, 424, 912, 913, 914, 915, 916, 917, 918, 919, 920, 935, 936, 937, 938, 939, 932, 933, 934, 945, 946, 947, 940, 941] (by decide +kernel) (by decide +kernel)) (goodIn_sub (fun _ h => List.mem_append_left _ (List.mem_append_right _ h)) (by decide +kernel))) (goodIn_sub (fun _ h => List.mem_append_left _ (List.mem_append_left _ (List.mem_append_right _ h))) (by decide +kernel))
set_option maxRecDepth 20000 in
theorem gL_law_L_bestWhite : GoodIn wsL_law (va_wsS RL 176 yL_bestWhite wsL_bestWhite) := goodIn_app (goodIn_of _ (by decide +kernel)) ggL_law_L_bestWhite
set_option maxRecDepth 20000 in
theorem ggL_law_X9_bestWhite : GoodIn wsL_law wsX9_bestWhite := goodIn_r _ [891, 146, 94, 386, 91, 92, 93, 437, 460, 42, 390, 373, 264, 374, 438, 439, 440, 5, 441, 277, 278, 279, 280, 281, 152, 153, 154, 155, 156, 157, 158, 392, 393, 394, 395, 396, 397, 398, 399, 400, 401, 402, 403, 404, 405, 406, 407, 100, 96, 97, 98, 99, 101, 102, 103, 104, 105, 106, 107, 108, 109, 110, 12, 13, 307, 308, 309, 310, 311, 312, 313, 314, 315, 316, 317, 318, 319, 320, 321, 322, 323, 324, 325, 267, 268, 326, 327, 328, 329, 330, 331, 332, 333, 334, 335, 336, 337, 338, 339, 340, 341, 342, 343, 344, 345, 346, 347, 348, 349, 263, 265, 350, 351, 352, 353, 600, 601, 602, 603, 389, 44, 604, 605, 606, 607, 608, 609, 610, 611, 90, 149, 150, 151, 159, 160, 161, 612, 613, 614, 615, 294, 295, 296, 616, 617, 618, 287, 619, 620, 621, 622, 623, 624, 625, 626, 627, 628, 629, 630, 631, 921, 922, 923, 924, 925, 926, 927, 928, 948, 949, 950, 951, 952, 953, 954, 955] (by decide +kernel) (by decide +kernel)
set_option maxRecDepth 20000 in
theorem gL_law_X9_bestWhite : GoodIn wsL_law (wsV RL 178 RX9 yX9_bestWhite wsX9_bestWhite) := goodIn_app (goodIn_of _ (by decide +kernel)) ggL_law_X9_bestWhite
set_option maxRecDepth 20000 in
theorem ggL_law_L_ofFile : GoodIn wsL_law wsL_ofFile := goodIn_ca (goodIn_ca (goodIn_r _ [767, 115, 116, 768, 769, 770, 2, 771, 27, 25, 714, 715, 716, 127, 128, 132, 133, 134, 121, 122, 425, 426, 427, 60, 428, 70, 639, 640, 641, 642, 34, 23, 21, 534, 535, 536, 33, 537, 538, 539, 540, 541, 68, 542, 543, 544, 545, 75, 136, 137, 546, 547, 548, 130, 131, 549, 550, 551, 552, 74, 248, 249, 553, 554, 555, 556, 557, 558, 559, 560, 561, 562, 563, 564, 565, 566, 567, 568, 569, 570, 571, 572, 573, 574, 575, 576, 577, 578, 579, 580, 581, 582, 583, 584, 585, 586, 587, 588, 589, 590, 643, 644, 645, 646, 912, 913, 914, 915, 916, 917, 918, 919, 920, 942, 943, 944, 945, 946, 947, 935, 936, 937, 938, 939, 932, 933, 934, 940, 941] (by decide +kernel) (by decide +kernel)) (goodIn_sub (fun _ h => List.mem_append_left _ (List.mem_append_right _ h)) (by decide +kernel))) (goodIn_sub (fun _ h => List.mem_append_left _ (List.mem_append_left _ (List.mem_append_right _ h))) (by decide +kernel))
set_option maxRecDepth 20000 in
theorem gL_law_L_ofFile : GoodIn wsL_law (va_wsS RL 158 yL_ofFile wsL_ofFile) := goodIn_app (goodIn_of _ (by decide +kernel)) ggL_law_L_ofFile
set_option maxRecDepth 20000 in
theorem ggL_law_X9_ofFile : GoodIn wsL_law wsX9_ofFile := goodIn_r _ [775, 146, 95, 277, 278, 279, 93, 280, 281, 152, 153, 5, 154, 155, 156, 157, 158, 776, 777, 778, 779, 501, 502, 780, 496, 94, 386, 392, 393, 394, 395, 396, 397, 398, 399, 400, 401, 402, 403, 404, 405, 406, 407, 100, 600, 601, 602, 603, 389, 460, 44, 604, 605, 606, 607, 608, 609, 610, 611, 42, 90, 149, 150, 151, 159, 160, 161, 612, 613, 614, 615, 294, 295, 296, 616, 617, 618, 287, 619, 620, 621, 622, 623, 624, 625, 626, 627, 628, 629, 630, 631, 651, 652, 653, 921, 922, 923, 924, 925, 926, 927, 928, 948, 949, 950, 956, 957, 958, 951, 952, 953, 954, 955] (by decide +kernel) (by decide +kernel)
set_option maxRecDepth 20000 in
theorem gL_law_X9_ofFile : GoodIn wsL_law (wsV RL 160 RX9 yX9_ofFile wsX9_ofFile) := goodIn_app (goodIn_of _ (by decide +kernel)) ggL_law_X9_ofFile
set_option maxRecDepth 20000 in
theorem ggL_law_L_ofPlace : GoodIn wsL_law wsL_ofPlace := goodIn_ca (goodIn_ca (goodIn_r _ [783, 115, 116, 784, 785, 786, 2, 787, 17, 21, 124, 125, 126, 127, 128, 129, 130, 131, 132, 133, 134, 121, 122, 135, 136, 137, 788, 256, 257, 16, 258, 43, 789, 248, 249, 193, 194, 195, 20, 196, 50, 790, 791, 792, 793, 52, 912, 913, 914, 915, 916, 917, 918, 919, 920, 929, 930, 931, 932, 933, 934] (by decide +kernel) (by decide +kernel)) (goodIn_sub (fun _ h => List.mem_append_left _ (List.mem_append_right _ h)) (by decide +kernel))) (goodIn_sub (fun _ h => List.mem_append_left _ (List.mem_append_left _ (List.mem_append_right _ h))) (by decide +kernel))
set_option maxRecDepth 20000 in
theorem gL_law_L_ofPlace : GoodIn wsL_law (va_wsS RL 161 yL_ofPlace wsL_ofPlace) := goodIn_app (goodIn_of _ (by decide +kernel)) ggL_law_L_ofPlace
set_option maxRecDepth 20000 in
theorem ggL_law_X9_ofPlace : GoodIn wsL_law wsX9_ofPlace := goodIn_r _ [797, 146, 42, 87, 89, 90, 149, 150, 5, 151, 152, 153, 154, 155, 156, 157, 158, 159, 160, 161, 294, 295, 296, 921, 922, 923, 924, 925, 926, 927, 928] (by decide +kernel) (by decide +kernel)
set_option maxRecDepth 20000 in
theorem gL_law_X9_ofPlace : GoodIn wsL_law (wsV RL 163 RX9 yX9_ofPlace wsX9_ofPlace) := goodIn_app (goodIn_of _ (by decide +kernel)) ggL_law_X9_ofPlace
set_option maxRecDepth 20000 in
theorem ggL_law_L_many : GoodIn wsL_law wsL_many := goodIn_ca (goodIn_r _ [800, 116, 801, 802, 803, 2, 804, 26, 27, 21, 132, 133, 134, 121, 122, 216, 217, 218, 20, 219, 52, 805, 806, 807, 808, 23, 425, 426, 427, 60, 428, 70, 809, 810, 811, 812, 50, 912, 913, 914, 915, 916, 917, 918, 919, 920, 932, 933, 934, 935, 936, 937, 938, 939, 945, 946, 947] (by decide +kernel) (by decide +kernel)) (goodIn_sub (fun _ h => List.mem_append_left _ (List.mem_append_left _ (List.mem_append_right _ h))) (by decide +kernel))
set_option maxRecDepth 20000 in
theorem gL_law_L_many : GoodIn wsL_law (va_wsS RL 164 yL_many wsL_many) := goodIn_app (goodIn_of _ (by decide +kernel)) ggL_law_L_many
set_option maxRecDepth 20000 in
theorem ggL_law_X9_many : GoodIn wsL_law wsX9_many := goodIn_r _ [816, 146, 152, 153, 5, 154, 155, 156, 157, 158, 817, 818, 819, 820, 94, 386, 437, 89, 90, 42, 95, 286, 277, 278, 279, 93, 280, 281, 392, 393, 394, 395, 396, 397, 398, 399, 400, 401, 402, 403, 404, 405, 406, 407, 100, 224, 225, 226, 227, 921, 922, 923, 924, 925, 926, 927, 928, 951, 952, 953, 954, 955, 948, 949, 950] (by decide +kernel) (by decide +kernel)
set_option maxRecDepth 20000 in
theorem gL_law_X9_many : GoodIn wsL_law (wsV RL 166 RX9 yX9_many wsX9_many) := goodIn_app (goodIn_of _ (by decide +kernel)) ggL_law_X9_many
set_option maxRecDepth 20000 in
theorem ggL_law_L_bestTake : GoodIn wsL_law wsL_bestTake := goodIn_ca (goodIn_r _ [856, 116, 857, 858, 859, 2, 860, 21, 17, 30, 132, 133, 134, 121, 122, 244, 245, 246, 20, 247, 53, 50, 136, 137, 248, 249, 250, 251, 252, 16, 253, 45, 254, 255, 256, 257, 258, 43, 259, 260, 261, 262, 263, 264, 265, 266, 267, 268, 749, 750, 751, 29, 752, 753, 754, 729, 730, 731, 57, 732, 912, 913, 914, 915, 916, 917, 918, 919, 920, 932, 933, 934, 935, 936, 937, 938, 939, 929, 930, 931] (by decide +kernel) (by decide +kernel)) (goodIn_sub (fun _ h => List.mem_append_left _ (List.mem_append_left _ (List.mem_append_right _ h))) (by decide +kernel))
set_option maxRecDepth 20000 in
theorem gL_law_L_bestTake : GoodIn wsL_law (va_wsS RL 173 yL_bestTake wsL_bestTake) := goodIn_app (goodIn_of _ (by decide +kernel)) ggL_law_L_bestTake
set_option maxRecDepth 20000 in
theorem ggL_law_X9_bestTake : GoodIn wsL_law wsX9_bestTake := goodIn_r _ [864, 146, 152, 153, 5, 154, 155, 156, 157, 158, 282, 283, 284, 285, 42, 286, 87, 88, 287, 288, 289, 263, 264, 265, 89, 290, 267, 268, 291, 292, 293, 294, 295, 296, 297, 298, 299, 300, 12, 13, 301, 92, 93, 302, 303, 304, 305, 306, 97, 98, 99, 100, 101, 102, 103, 104, 105, 106, 107, 108, 109, 110, 759, 760, 761, 762, 763, 764, 738, 739, 740, 741, 865, 866, 622, 867, 868, 869, 870, 871, 872, 873, 874, 875, 921, 922, 923, 924, 925, 926, 927, 928, 951, 952, 953, 954, 955, 948, 949, 950] (by decide +kernel) (by decide +kernel)
set_option maxRecDepth 20000 in
theorem gL_law_X9_bestTake : GoodIn wsL_law (wsV RL 175 RX9 yX9_bestTake wsX9_bestTake) := goodIn_app (goodIn_of _ (by decide +kernel)) ggL_law_X9_bestTake
/-! THE LAW'S WALK: its cases -/
abbrev aA (s : State) : Nat → Prop := fun q : Nat => s.heap.size ≤ q
theorem Mod_same {G : iG} {N : Nat} {ad : Nat → Nat} {C u : Nat → va_E} {mo dz : Nat} {th : Int32} (h : Mod G N ad C mo dz th) (hs : ∀ i, mo ≤ i → i < mo + 7 → u i = C i) : Mod G N ad u mo dz th := by
  obtain ⟨hN, h0, h1, h2, h3, h4, h5, h6⟩ := h
  exact ⟨hN, (hs _ (by omega) (by omega)).trans h0, (hs _ (by omega) (by omega)).trans h1, (hs _ (by omega) (by omega)).trans h2, (hs _ (by omega) (by omega)).trans h3, (hs _ (by omega) (by omega)).trans h4, (hs _ (by omega) (by omega)).trans h5, (hs _ (by omega) (by omega)).trans h6⟩
theorem wl_shrink {D : va_G} {cl : List vw_C} {N N' : Nat} {ad ad1 : Nat → Nat} {C : Nat → va_E} {H : Heap} (hP : va_P D cl (wl N' ad1 C) H) (hN : N ≤ N') (ha : ∀ j, j < N → ad1 j = ad j) : va_P D cl (wl N ad C) H := by
  intro k q hq
  have hk : k < N := by
    have h := (List.getElem?_eq_some_iff.mp hq).1
    simpa [wl] using h
  rw [wl_get hk rfl] at hq
  cases hq
  have h := hP k _ (wl_get (Nat.lt_of_lt_of_le hk hN) rfl)
  rw [ha k hk] at h
  exact h
theorem rngN {v : Int32} {lo hi : Nat} (hh : hi < 2 ^ 31) (hl : lo < 2 ^ 31) (h : ¬ (v < nI lo ∨ nI hi < v)) : ∃ n : Nat, lo ≤ n ∧ n < hi + 1 ∧ v = nI n := by
  have h1 : ¬ v < nI lo := fun q => h (Or.inl q)
  have h2 : ¬ nI hi < v := fun q => h (Or.inr q)
  have h0 : ¬ v < 0 := fun q => h1 (Int32.lt_of_lt_of_le q (by rw [show (0 : Int32) = nI 0 from rfl]; exact nI_le (by omega) (by omega)))
  obtain ⟨j, hj, rfl⟩ := nI_of h0
  refine ⟨j, ?_, ?_, rfl⟩
  · by_cases q : lo ≤ j
    · exact q
    · exact absurd ((nI_ltI hj hl).mpr (by omega)) h1
  · by_cases q : j < hi + 1
    · exact q
    · exact absurd ((nI_ltI hh hj).mpr (by omega)) h2
theorem i_all (v : Int32) : v < 0 ∨ nI 0 ≤ v := by
  by_cases h : v < 0
  · exact Or.inl h
  · exact Or.inr (Int32.not_lt.mp h)
section LAWC
variable {p : Program} {l : Launch} {e : Env} {R : Room} {s : State} {m : MethodId} {args : Array Value} {below : List Frame} {meth : Method} {c : Code} {H : Heap} {locs : List Loc} {cells slots : Nat} {Q : State → Prop}
variable {pc : Nat} {ls : Array Slot} {rest st0 : List Value} {a : Array Value} {A : Nat → Prop} {H0 : Heap} {G : iG} {N : Nat} {ad : Nat → Nat} {C : Nat → va_E} {mc ms : Nat}
theorem iwx_i {post : Int32 → (Nat → va_E) → Prop} (hr : vx_Run p l e R s m args below meth c H locs cells slots mc ms (F0 m pc ls st0) rest (va_Qi post (iB G N ad) (iA N ad H.size) a) xN (iA N ad H.size)) (hD : va_D A (wl N ad C)) (hS : va_S A H0 H locs) (hA : ∀ q, H0.size ≤ q → A q)
    (kk : ∀ (r : Int32) (u : Nat → va_E) (H1 : Heap) (locs1 : List Loc), post r u → va_P G.1 vwB (wl N ad u) H1 → va_D A (wl N ad u) → va_S A H0 H1 locs1 → W p l e R s m args below meth c H1 locs1 (cells + mc) (slots + ms) Q (F0 m (pc + 3) ls (.int r :: rest))) : W p l e R s m args below meth c H locs cells slots Q (F0 m pc ls st0) :=
  vx_calli hr hS (fun q _ h => iA_free hD hS hA q h) (iA_free hD hS hA) (fun q _ h => h.elim) (fun E ce q9 u t H1 locs1 ht hvm hpx => hpx.elim) (fun r u t H1 locs1 ht hvm hw hB hz1 hk1 hS => kk r u H1 locs1 hw (by rw [← ht]; exact hB) (wl_D hD u) hS)
theorem iwq_i {v : Int32} {mo N' : Nat} {th : Int32} (hr : va_Run p l e R s m args below meth c H locs cells slots mc ms (F0 m pc ls st0) rest (va_Qi (fun (r : Int32) (u : iU) => (r = v) ∧ (∀ j, j < N → u.1 j = ad j) ∧ (∀ j, j < N → (j < mo ∨ mo + 7 ≤ j) → u.2 j = C j) ∧ Thr u.1 u.2 mo th) (iB2 G N' (iA N ad H.size)) (iA N ad H.size) a) (iA N ad H.size)) (hN : N ≤ N') (hmo : mo + 7 ≤ N) (hD : va_D A (wl N ad C)) (hS : va_S A H0 H locs) (hA : ∀ q, H0.size ≤ q → A q)
    (kk : ∀ (r : Int32) (u : Nat → va_E) (H1 : Heap) (locs1 : List Loc), (r = v ∧ Thr ad u mo th ∧ ∀ j, j < N → (j < mo ∨ mo + 7 ≤ j) → u j = C j) → va_P G.1 vwB (wl N ad u) H1 → va_D A (wl N ad u) → va_S A H0 H1 locs1 → W p l e R s m args below meth c H1 locs1 (cells + mc) (slots + ms) Q (F0 m (pc + 3) ls (.int r :: rest))) : W p l e R s m args below meth c H locs cells slots Q (F0 m pc ls st0) :=
  va_calli hr hS (fun q _ h => iA_free hD hS hA q h) (iA_free hD hS hA) (fun r u t H1 locs1 ht hvm hw hB hz1 hk1 hS9 => by
    obtain ⟨h1, h2, h3, d, h4⟩ := hw
    rw [h2 _ (by omega), h2 _ (by omega), h2 _ (by omega), h2 _ (by omega), h2 _ (by omega), h2 _ (by omega)] at h4
    exact kk r u.2 H1 locs1 ⟨h1, ⟨d, h4⟩, h3⟩ (wl_shrink (by rw [← ht]; exact hB.1) hN h2) (wl_D hD u.2) hS9)
theorem iwq_l {v : Int64} {mo N' : Nat} {th : Int32} (hr : va_Run p l e R s m args below meth c H locs cells slots mc ms (F0 m pc ls st0) rest (va_Ql (fun (r : Int64) (u : iU) => (r = v) ∧ (∀ j, j < N → u.1 j = ad j) ∧ (∀ j, j < N → (j < mo ∨ mo + 7 ≤ j) → u.2 j = C j) ∧ Thr u.1 u.2 mo th) (iB2 G N' (iA N ad H.size)) (iA N ad H.size) a) (iA N ad H.size)) (hN : N ≤ N') (hmo : mo + 7 ≤ N) (hD : va_D A (wl N ad C)) (hS : va_S A H0 H locs) (hA : ∀ q, H0.size ≤ q → A q)
    (kk : ∀ (r : Int64) (u : Nat → va_E) (H1 : Heap) (locs1 : List Loc), (r = v ∧ Thr ad u mo th ∧ ∀ j, j < N → (j < mo ∨ mo + 7 ≤ j) → u j = C j) → va_P G.1 vwB (wl N ad u) H1 → va_D A (wl N ad u) → va_S A H0 H1 locs1 → W p l e R s m args below meth c H1 locs1 (cells + mc) (slots + ms) Q (F0 m (pc + 3) ls (.long r :: rest))) : W p l e R s m args below meth c H locs cells slots Q (F0 m pc ls st0) :=
  va_calll hr hS (fun q _ h => iA_free hD hS hA q h) (iA_free hD hS hA) (fun r u t H1 locs1 ht hvm hw hB hz1 hk1 hS9 => by
    obtain ⟨h1, h2, h3, d, h4⟩ := hw
    rw [h2 _ (by omega), h2 _ (by omega), h2 _ (by omega), h2 _ (by omega), h2 _ (by omega), h2 _ (by omega)] at h4
    exact kk r u.2 H1 locs1 ⟨h1, ⟨d, h4⟩, h3⟩ (wl_shrink (by rw [← ht]; exact hB.1) hN h2) (wl_D hD u.2) hS9)
end LAWC
set_option maxHeartbeats 4000000 in
set_option maxRecDepth 100000 in
theorem lc_take_1 {p : Program} {l : Launch} {e : Env} {s : State} {m : MethodId} {below : List Frame} {meth : Method} {c : Code} {b dz : Nat} {xs : Nat → Int32} {G : iG} {Q : State → Prop} (hst : l.stackTraces = false) (hx : p.tables.exec = Jvm.exec) (hb : c.code = cL_law) (hml : c.maxLocals = 9) (hts : ∀ w ∈ wsL_law, w.before #[Value.ref b] s = true) (hown : s.vm.findClass RL = some m.cls) (hX : va_X b 6 xs s s.heap) (hbl : b < s.heap.size) (hK : KB G s) (hV : VX s) (hZt : ZT (aA s) s s.heap) (hZ : ZD dz (aA s) s s.heap) {ad : Nat → Nat} {C : Nat → va_E} {H : Heap} {locs : List Loc} {ls : Array Slot} (hcam : Cam G 83 ad C 0 S0) (hmod : Mod G 83 ad C 74 dz (nI 0)) (glo : C 81 = la G 1 (fun _ => 0)) (hP : va_P G.1 vwB (wl 83 ad C) H) (hD : va_D (aA s) (wl 83 ad C)) (hS : va_S (aA s) s.heap H locs) (hl : lv_has ls 9 [(5, .int (nI 0)), (4, .ref (ad 82)), (3, .ref (ad 81)), (2, .ref (ad 74)), (1, .ref (ad 0)), (0, .ref b)]) (kt : ∀ (H : Heap) (locs : List Loc) (ls : Array Slot), va_S (aA s) s.heap H locs → lv_has ls 9 [(5, .int (nI 0)), (0, .ref b)] → W p l e room_1 s m #[Value.ref b] below meth c H locs 300 6500 Q (F0 m 1906 ls [])) (t1 g1 : Int32) (h : t1 < nI 1 ∨ nI 64 < t1) (hx1 : xs 1 = t1) (hx2 : xs 2 = g1) : W p l e room_1 s m #[Value.ref b] below meth c H locs 83 1901 Q (F0 m 516 ls []) := by
  have hbA : ¬ aA s b := Nat.not_le.mpr hbl
  have hA : ∀ q : Nat, s.heap.size ≤ q → aA s q := fun _ h => h
  refine lv_aload_n hx hb dL_law_516 rfl (lv_at hl 4 rfl) ?_
  refine lv_aload_n hx hb dL_law_517 rfl (lv_at hl 5 rfl) ?_
  refine lv_iload hx hb dL_law_518 (lv_at hl 0 rfl) ?_
  refine lv_iconst (v := nI 1) hx hb dL_law_520 (by decide) ?_
  refine lv_iadd hx hb dL_law_521 ?_
  refine lv_asI (y := nI 1) (by decide) ?_
  refine va_sld hx hb hX hbl hbA hS (vp_in_nI (by decide) (by decide)) dL_law_522 ?_
  refine lv_asI (y := t1) ((congrArg xs (nI_clamp (by decide))).trans hx1) ?_
  refine lv_aload_n hx hb dL_law_523 rfl (lv_at hl 5 rfl) ?_
  refine lv_iload hx hb dL_law_524 (lv_at hl 0 rfl) ?_
  refine lv_iconst (v := nI 2) hx hb dL_law_526 (by decide) ?_
  refine lv_iadd hx hb dL_law_527 ?_
  refine lv_asI (y := nI 2) (by decide) ?_
  refine va_sld hx hb hX hbl hbA hS (vp_in_nI (by decide) (by decide)) dL_law_528 ?_
  refine lv_asI (y := g1) ((congrArg xs (nI_clamp (by decide))).trans hx2) ?_
  refine lv_aload_n hx hb dL_law_529 rfl (lv_at hl 2 rfl) ?_
  refine iwx_i (vx_runSX (hh := [(0, 10, 13, 15), (0, 10, 17, 32)]) (As := [.ref (ad 0), .int t1, .int g1, .ref (ad 81)]) (rest := []) ⟨hx, hb, hml, hown, hts⟩ (wL_take_1 l hst G 83 ad _ 0 S0 hcam 81 t1 g1 h _) (vx_cwSW 4 hts gL_law_L_take rfl rfl rfl (by decide +kernel) ⟨Nat.le_of_ble_eq_true rfl, Nat.le_of_ble_eq_true rfl⟩) (iPSX hK hV hZt hS hA hP hD [.ref (ad 0), .int t1, .int g1, .ref (ad 81)]) rfl rfl hl.1 rfl (lv_room (Nat.le_of_ble_eq_true rfl)) dL_law_530 ⟨Nat.le_of_ble_eq_true rfl, Nat.le_of_ble_eq_true rfl⟩) hD hS hA (fun r8 u8 H locs hw8 hP hD hS => ?_)
  obtain ⟨hr8, hu8⟩ := hw8
  rw [hu8] at hP hD
  refine lv_asI hr8 ?_
  refine lv_istore (lv' := [(6, .int (nI 1)), (5, .int (nI 0)), (4, .ref (ad 82)), (3, .ref (ad 81)), (2, .ref (ad 74)), (1, .ref (ad 0)), (0, .ref b)]) hx hb dL_law_533 hl (by decide) rfl (fun ls hl => ?_)
  refine lv_aload_n hx hb dL_law_535 rfl (lv_at hl 4 rfl) ?_
  refine lv_aload_n hx hb dL_law_536 rfl (lv_at hl 6 rfl) ?_
  refine lv_iload hx hb dL_law_537 (lv_at hl 1 rfl) ?_
  refine lv_iconst (v := nI 1) hx hb dL_law_539 (by decide) ?_
  refine lv_iadd hx hb dL_law_540 ?_
  refine lv_asI (y := nI 1) (by decide) ?_
  refine va_sld hx hb hX hbl hbA hS (vp_in_nI (by decide) (by decide)) dL_law_541 ?_
  refine lv_asI (y := t1) ((congrArg xs (nI_clamp (by decide))).trans hx1) ?_
  refine lv_aload_n hx hb dL_law_542 rfl (lv_at hl 6 rfl) ?_
  refine lv_iload hx hb dL_law_543 (lv_at hl 1 rfl) ?_
  refine lv_iconst (v := nI 2) hx hb dL_law_545 (by decide) ?_
  refine lv_iadd hx hb dL_law_546 ?_
  refine lv_asI (y := nI 2) (by decide) ?_
  refine va_sld hx hb hX hbl hbA hS (vp_in_nI (by decide) (by decide)) dL_law_547 ?_
  refine lv_asI (y := g1) ((congrArg xs (nI_clamp (by decide))).trans hx2) ?_
  refine iw_i (va_runV (As := [.int t1, .int g1]) (rest := []) ⟨hx, hb, hml, hown, hts⟩ (kX9_take_1 l G 83 ad _ 74 dz (nI 0) hmod t1 g1 h _) (cwV 2 hts gL_law_X9_take rfl rfl rfl (by decide +kernel) ⟨Nat.le_of_ble_eq_true rfl, Nat.le_of_ble_eq_true rfl⟩) (iPV hK hP hD (by decide) (hmod.2.1) rfl [.int t1, .int g1]) rfl rfl hl.1 rfl (lv_room (Nat.le_of_ble_eq_true rfl)) dL_law_548 ⟨Nat.le_of_ble_eq_true rfl, Nat.le_of_ble_eq_true rfl⟩) hD hS hA (fun r9 u9 H locs hw9 hP hD hS => ?_)
  obtain ⟨hr9, ⟨d9, ht9⟩, hm9⟩ := hw9
  refine lv_asI hr9 ?_
  refine lv_istore (lv' := [(7, .int (nI 0)), (6, .int (nI 1)), (5, .int (nI 0)), (4, .ref (ad 82)), (3, .ref (ad 81)), (2, .ref (ad 74)), (1, .ref (ad 0)), (0, .ref b)]) hx hb dL_law_551 hl (by decide) rfl (fun ls hl => ?_)
  refine lv_aload_n hx hb dL_law_553 rfl (lv_at hl 5 rfl) ?_
  refine iw_i (va_runV (As := []) (rest := []) ⟨hx, hb, hml, hown, hts⟩ (kX9_thrown l G 83 ad _ 74 (by decide) (nI 1) d9 ht9 _) (cwV 0 hts gL_law_X9_thrown rfl rfl rfl (by decide +kernel) ⟨Nat.le_of_ble_eq_true rfl, Nat.le_of_ble_eq_true rfl⟩) (iPV hK hP hD (by decide) (ht9) rfl []) rfl rfl hl.1 rfl (lv_room (Nat.le_of_ble_eq_true rfl)) dL_law_554 ⟨Nat.le_of_ble_eq_true rfl, Nat.le_of_ble_eq_true rfl⟩) hD hS hA (fun r7 u7 H locs hw7 hP hD hS => ?_)
  obtain ⟨hr7, hu7⟩ := hw7
  rw [hu7] at hP hD
  refine lv_asI hr7 ?_
  refine lv_iload hx hb dL_law_557 (lv_at hl 1 rfl) ?_
  refine lv_icmp_eq (tgt := 564) hx hb dL_law_559 (by decide) (fun _ => ?_) (fun c9 => absurd (by decide) c9)
  refine lv_iload hx hb dL_law_564 (lv_at hl 1 rfl) ?_
  refine lv_if_ne (tgt := 581) hx hb dL_law_566 (by decide) (fun _ => ?_) (fun c9 => absurd c9 (by decide))
  refine lv_goto (tgt := 1906) hx hb dL_law_581 (by decide) ?_
  refine W.widen (k := 300) (n := 6500) (Nat.le_of_ble_eq_true rfl) (Nat.le_of_ble_eq_true rfl) ?_
  exact kt H locs ls hS (lv_sub hl [2, 7] rfl)
set_option maxHeartbeats 4000000 in
set_option maxRecDepth 100000 in
theorem lc_take_v {p : Program} {l : Launch} {e : Env} {s : State} {m : MethodId} {below : List Frame} {meth : Method} {c : Code} {b dz : Nat} {xs : Nat → Int32} {G : iG} {Q : State → Prop} (hst : l.stackTraces = false) (hx : p.tables.exec = Jvm.exec) (hb : c.code = cL_law) (hml : c.maxLocals = 9) (hts : ∀ w ∈ wsL_law, w.before #[Value.ref b] s = true) (hown : s.vm.findClass RL = some m.cls) (hX : va_X b 6 xs s s.heap) (hbl : b < s.heap.size) (hK : KB G s) (hV : VX s) (hZt : ZT (aA s) s s.heap) (hZ : ZD dz (aA s) s s.heap) {ad : Nat → Nat} {C : Nat → va_E} {H : Heap} {locs : List Loc} {ls : Array Slot} (hcam : Cam G 83 ad C 0 S0) (hmod : Mod G 83 ad C 74 dz (nI 0)) (glo : C 81 = la G 1 (fun _ => 0)) (hP : va_P G.1 vwB (wl 83 ad C) H) (hD : va_D (aA s) (wl 83 ad C)) (hS : va_S (aA s) s.heap H locs) (hl : lv_has ls 9 [(5, .int (nI 0)), (4, .ref (ad 82)), (3, .ref (ad 81)), (2, .ref (ad 74)), (1, .ref (ad 0)), (0, .ref b)]) (kt : ∀ (H : Heap) (locs : List Loc) (ls : Array Slot), va_S (aA s) s.heap H locs → lv_has ls 9 [(5, .int (nI 0)), (0, .ref b)] → W p l e room_1 s m #[Value.ref b] below meth c H locs 300 6500 Q (F0 m 1906 ls [])) (t1 g1 : Nat) (ht : 0 < t1 ∧ t1 < 65) (hg : 0 < g1 ∧ g1 < 9) (hx1 : xs 1 = nI t1) (hx2 : xs 2 = nI g1) : W p l e room_1 s m #[Value.ref b] below meth c H locs 83 1901 Q (F0 m 516 ls []) := by
  have hbA : ¬ aA s b := Nat.not_le.mpr hbl
  have hA : ∀ q : Nat, s.heap.size ≤ q → aA s q := fun _ h => h
  refine lv_aload_n hx hb dL_law_516 rfl (lv_at hl 4 rfl) ?_
  refine lv_aload_n hx hb dL_law_517 rfl (lv_at hl 5 rfl) ?_
  refine lv_iload hx hb dL_law_518 (lv_at hl 0 rfl) ?_
  refine lv_iconst (v := nI 1) hx hb dL_law_520 (by decide) ?_
  refine lv_iadd hx hb dL_law_521 ?_
  refine lv_asI (y := nI 1) (by decide) ?_
  refine va_sld hx hb hX hbl hbA hS (vp_in_nI (by decide) (by decide)) dL_law_522 ?_
  refine lv_asI (y := nI t1) ((congrArg xs (nI_clamp (by decide))).trans hx1) ?_
  refine lv_aload_n hx hb dL_law_523 rfl (lv_at hl 5 rfl) ?_
  refine lv_iload hx hb dL_law_524 (lv_at hl 0 rfl) ?_
  refine lv_iconst (v := nI 2) hx hb dL_law_526 (by decide) ?_
  refine lv_iadd hx hb dL_law_527 ?_
  refine lv_asI (y := nI 2) (by decide) ?_
  refine va_sld hx hb hX hbl hbA hS (vp_in_nI (by decide) (by decide)) dL_law_528 ?_
  refine lv_asI (y := nI g1) ((congrArg xs (nI_clamp (by decide))).trans hx2) ?_
  refine lv_aload_n hx hb dL_law_529 rfl (lv_at hl 2 rfl) ?_
  refine iwx_i (vx_runSX (hh := [(0, 10, 13, 15), (0, 10, 17, 32)]) (As := [.ref (ad 0), .int (nI t1), .int (nI g1), .ref (ad 81)]) (rest := []) ⟨hx, hb, hml, hown, hts⟩ (wL_take l G 83 ad _ 0 S0 hcam 81 (by decide) (Or.inr (by decide)) _ glo t1 g1 ht hg (by decide) _) (vx_cwSW 4 hts gL_law_L_take rfl rfl rfl (by decide +kernel) ⟨Nat.le_of_ble_eq_true rfl, Nat.le_of_ble_eq_true rfl⟩) (iPSX hK hV hZt hS hA hP hD [.ref (ad 0), .int (nI t1), .int (nI g1), .ref (ad 81)]) rfl rfl hl.1 rfl (lv_room (Nat.le_of_ble_eq_true rfl)) dL_law_530 ⟨Nat.le_of_ble_eq_true rfl, Nat.le_of_ble_eq_true rfl⟩) hD hS hA (fun r8 u8 H locs hw8 hP hD hS => ?_)
  obtain ⟨hr8, ⟨f8, hf8, hv8⟩, hs8⟩ := hw8
  refine lv_asI hr8 ?_
  have hmod := Mod_same hmod (fun i h1 h2 => hs8 i (Or.inr (by omega)) (by omega))
  refine lv_istore (lv' := [(6, .int (nI 0)), (5, .int (nI 0)), (4, .ref (ad 82)), (3, .ref (ad 81)), (2, .ref (ad 74)), (1, .ref (ad 0)), (0, .ref b)]) hx hb dL_law_533 hl (by decide) rfl (fun ls hl => ?_)
  refine lv_aload_n hx hb dL_law_535 rfl (lv_at hl 4 rfl) ?_
  refine lv_aload_n hx hb dL_law_536 rfl (lv_at hl 6 rfl) ?_
  refine lv_iload hx hb dL_law_537 (lv_at hl 1 rfl) ?_
  refine lv_iconst (v := nI 1) hx hb dL_law_539 (by decide) ?_
  refine lv_iadd hx hb dL_law_540 ?_
  refine lv_asI (y := nI 1) (by decide) ?_
  refine va_sld hx hb hX hbl hbA hS (vp_in_nI (by decide) (by decide)) dL_law_541 ?_
  refine lv_asI (y := nI t1) ((congrArg xs (nI_clamp (by decide))).trans hx1) ?_
  refine lv_aload_n hx hb dL_law_542 rfl (lv_at hl 6 rfl) ?_
  refine lv_iload hx hb dL_law_543 (lv_at hl 1 rfl) ?_
  refine lv_iconst (v := nI 2) hx hb dL_law_545 (by decide) ?_
  refine lv_iadd hx hb dL_law_546 ?_
  refine lv_asI (y := nI 2) (by decide) ?_
  refine va_sld hx hb hX hbl hbA hS (vp_in_nI (by decide) (by decide)) dL_law_547 ?_
  refine lv_asI (y := nI g1) ((congrArg xs (nI_clamp (by decide))).trans hx2) ?_
  refine iwq_i (va_runV (As := [.int (nI t1), .int (nI g1)]) (rest := []) ⟨hx, hb, hml, hown, hts⟩ (kX9_take l G 83 ad _ 74 dz (nI 0) hmod t1 g1 ht hg _) (cwV 2 hts gL_law_X9_take rfl rfl rfl (by decide +kernel) ⟨Nat.le_of_ble_eq_true rfl, Nat.le_of_ble_eq_true rfl⟩) (iPVZ hK hV hZ hS hA hP hD (by decide) (hmod.2.1) rfl [.int (nI t1), .int (nI g1)]) rfl rfl hl.1 rfl (lv_room (Nat.le_of_ble_eq_true rfl)) dL_law_548 ⟨Nat.le_of_ble_eq_true rfl, Nat.le_of_ble_eq_true rfl⟩) (by decide) (by decide) hD hS hA (fun r9 u9 H locs hw9 hP hD hS => ?_)
  obtain ⟨hr9, ⟨d9, ht9⟩, hm9⟩ := hw9
  refine lv_asI (hr9.trans (rfl)) ?_
  refine lv_istore (lv' := [(7, .int (nI (sFn S0))), (6, .int (nI 0)), (5, .int (nI 0)), (4, .ref (ad 82)), (3, .ref (ad 81)), (2, .ref (ad 74)), (1, .ref (ad 0)), (0, .ref b)]) hx hb dL_law_551 hl (by decide) rfl (fun ls hl => ?_)
  refine lv_aload_n hx hb dL_law_553 rfl (lv_at hl 5 rfl) ?_
  refine iw_i (va_runV (As := []) (rest := []) ⟨hx, hb, hml, hown, hts⟩ (kX9_thrown l G 83 ad _ 74 (by decide) (nI 0) d9 ht9 _) (cwV 0 hts gL_law_X9_thrown rfl rfl rfl (by decide +kernel) ⟨Nat.le_of_ble_eq_true rfl, Nat.le_of_ble_eq_true rfl⟩) (iPV hK hP hD (by decide) (ht9) rfl []) rfl rfl hl.1 rfl (lv_room (Nat.le_of_ble_eq_true rfl)) dL_law_554 ⟨Nat.le_of_ble_eq_true rfl, Nat.le_of_ble_eq_true rfl⟩) hD hS hA (fun r7 u7 H locs hw7 hP hD hS => ?_)
  obtain ⟨hr7, hu7⟩ := hw7
  rw [hu7] at hP hD
  refine lv_asI hr7 ?_
  refine lv_iload hx hb dL_law_557 (lv_at hl 1 rfl) ?_
  refine lv_icmp_eq (tgt := 564) hx hb dL_law_559 (by decide) (fun _ => ?_) (fun c9 => absurd (by decide) c9)
  refine lv_iload hx hb dL_law_564 (lv_at hl 1 rfl) ?_
  refine lv_if_ne (tgt := 581) hx hb dL_law_566 (by decide) (fun c9 => absurd (by decide) c9) (fun _ => ?_)
  refine lv_aload_n hx hb dL_law_569 rfl (lv_at hl 4 rfl) ?_
  refine lv_iconst (v := nI 0) hx hb dL_law_570 (by decide) ?_
  refine iw_lald (v := ((nI (sFn S0))).toInt64) hx hb hK hP (by decide) (((hm9 81 (by decide) (Or.inr (by decide))).trans hf8)) (vp_in_nI (show 0 < 1 by omega) (by omega)) ((congrArg f8 (nI_clamp (by decide))).trans hv8) dL_law_571 ?_
  refine lv_iload hx hb dL_law_572 (lv_at hl 0 rfl) ?_
  refine lv_i2l (v := (nI (sFn S0)).toInt64) hx hb dL_law_574 rfl ?_
  refine lv_lcmpE hx hb dL_law_575 ?_
  refine lv_if_eq (tgt := 581) hx hb dL_law_576 (by decide) (fun _ => ?_) (fun c9 => absurd (by decide) c9)
  refine lv_goto (tgt := 1906) hx hb dL_law_581 (by decide) ?_
  refine W.widen (k := 300) (n := 6500) (Nat.le_of_ble_eq_true rfl) (Nat.le_of_ble_eq_true rfl) ?_
  exact kt H locs ls hS (lv_sub hl [2, 7] rfl)
set_option maxHeartbeats 4000000 in
set_option maxRecDepth 100000 in
theorem lc_take_2 {p : Program} {l : Launch} {e : Env} {s : State} {m : MethodId} {below : List Frame} {meth : Method} {c : Code} {b dz : Nat} {xs : Nat → Int32} {G : iG} {Q : State → Prop} (hst : l.stackTraces = false) (hx : p.tables.exec = Jvm.exec) (hb : c.code = cL_law) (hml : c.maxLocals = 9) (hts : ∀ w ∈ wsL_law, w.before #[Value.ref b] s = true) (hown : s.vm.findClass RL = some m.cls) (hX : va_X b 6 xs s s.heap) (hbl : b < s.heap.size) (hK : KB G s) (hV : VX s) (hZt : ZT (aA s) s s.heap) (hZ : ZD dz (aA s) s s.heap) {ad : Nat → Nat} {C : Nat → va_E} {H : Heap} {locs : List Loc} {ls : Array Slot} (hcam : Cam G 83 ad C 0 S0) (hmod : Mod G 83 ad C 74 dz (nI 0)) (glo : C 81 = la G 1 (fun _ => 0)) (hP : va_P G.1 vwB (wl 83 ad C) H) (hD : va_D (aA s) (wl 83 ad C)) (hS : va_S (aA s) s.heap H locs) (hl : lv_has ls 9 [(5, .int (nI 0)), (4, .ref (ad 82)), (3, .ref (ad 81)), (2, .ref (ad 74)), (1, .ref (ad 0)), (0, .ref b)]) (kt : ∀ (H : Heap) (locs : List Loc) (ls : Array Slot), va_S (aA s) s.heap H locs → lv_has ls 9 [(5, .int (nI 0)), (0, .ref b)] → W p l e room_1 s m #[Value.ref b] below meth c H locs 300 6500 Q (F0 m 1906 ls [])) (t1 : Nat) (ht : 0 < t1 ∧ t1 < 65) (g1 : Int32) (h : g1 < nI 1 ∨ nI 8 < g1) (hx1 : xs 1 = nI t1) (hx2 : xs 2 = g1) : W p l e room_1 s m #[Value.ref b] below meth c H locs 83 1901 Q (F0 m 516 ls []) := by
  have hbA : ¬ aA s b := Nat.not_le.mpr hbl
  have hA : ∀ q : Nat, s.heap.size ≤ q → aA s q := fun _ h => h
  refine lv_aload_n hx hb dL_law_516 rfl (lv_at hl 4 rfl) ?_
  refine lv_aload_n hx hb dL_law_517 rfl (lv_at hl 5 rfl) ?_
  refine lv_iload hx hb dL_law_518 (lv_at hl 0 rfl) ?_
  refine lv_iconst (v := nI 1) hx hb dL_law_520 (by decide) ?_
  refine lv_iadd hx hb dL_law_521 ?_
  refine lv_asI (y := nI 1) (by decide) ?_
  refine va_sld hx hb hX hbl hbA hS (vp_in_nI (by decide) (by decide)) dL_law_522 ?_
  refine lv_asI (y := nI t1) ((congrArg xs (nI_clamp (by decide))).trans hx1) ?_
  refine lv_aload_n hx hb dL_law_523 rfl (lv_at hl 5 rfl) ?_
  refine lv_iload hx hb dL_law_524 (lv_at hl 0 rfl) ?_
  refine lv_iconst (v := nI 2) hx hb dL_law_526 (by decide) ?_
  refine lv_iadd hx hb dL_law_527 ?_
  refine lv_asI (y := nI 2) (by decide) ?_
  refine va_sld hx hb hX hbl hbA hS (vp_in_nI (by decide) (by decide)) dL_law_528 ?_
  refine lv_asI (y := g1) ((congrArg xs (nI_clamp (by decide))).trans hx2) ?_
  refine lv_aload_n hx hb dL_law_529 rfl (lv_at hl 2 rfl) ?_
  refine iwx_i (vx_runSX (hh := [(0, 10, 13, 15), (0, 10, 17, 32)]) (As := [.ref (ad 0), .int (nI t1), .int g1, .ref (ad 81)]) (rest := []) ⟨hx, hb, hml, hown, hts⟩ (wL_take_2 l hst G 83 ad _ 0 S0 hcam 81 t1 ht g1 h _) (vx_cwSW 4 hts gL_law_L_take rfl rfl rfl (by decide +kernel) ⟨Nat.le_of_ble_eq_true rfl, Nat.le_of_ble_eq_true rfl⟩) (iPSX hK hV hZt hS hA hP hD [.ref (ad 0), .int (nI t1), .int g1, .ref (ad 81)]) rfl rfl hl.1 rfl (lv_room (Nat.le_of_ble_eq_true rfl)) dL_law_530 ⟨Nat.le_of_ble_eq_true rfl, Nat.le_of_ble_eq_true rfl⟩) hD hS hA (fun r8 u8 H locs hw8 hP hD hS => ?_)
  obtain ⟨hr8, hu8⟩ := hw8
  rw [hu8] at hP hD
  refine lv_asI hr8 ?_
  refine lv_istore (lv' := [(6, .int (nI 1)), (5, .int (nI 0)), (4, .ref (ad 82)), (3, .ref (ad 81)), (2, .ref (ad 74)), (1, .ref (ad 0)), (0, .ref b)]) hx hb dL_law_533 hl (by decide) rfl (fun ls hl => ?_)
  refine lv_aload_n hx hb dL_law_535 rfl (lv_at hl 4 rfl) ?_
  refine lv_aload_n hx hb dL_law_536 rfl (lv_at hl 6 rfl) ?_
  refine lv_iload hx hb dL_law_537 (lv_at hl 1 rfl) ?_
  refine lv_iconst (v := nI 1) hx hb dL_law_539 (by decide) ?_
  refine lv_iadd hx hb dL_law_540 ?_
  refine lv_asI (y := nI 1) (by decide) ?_
  refine va_sld hx hb hX hbl hbA hS (vp_in_nI (by decide) (by decide)) dL_law_541 ?_
  refine lv_asI (y := nI t1) ((congrArg xs (nI_clamp (by decide))).trans hx1) ?_
  refine lv_aload_n hx hb dL_law_542 rfl (lv_at hl 6 rfl) ?_
  refine lv_iload hx hb dL_law_543 (lv_at hl 1 rfl) ?_
  refine lv_iconst (v := nI 2) hx hb dL_law_545 (by decide) ?_
  refine lv_iadd hx hb dL_law_546 ?_
  refine lv_asI (y := nI 2) (by decide) ?_
  refine va_sld hx hb hX hbl hbA hS (vp_in_nI (by decide) (by decide)) dL_law_547 ?_
  refine lv_asI (y := g1) ((congrArg xs (nI_clamp (by decide))).trans hx2) ?_
  refine iw_i (va_runV (As := [.int (nI t1), .int g1]) (rest := []) ⟨hx, hb, hml, hown, hts⟩ (kX9_take_2 l G 83 ad _ 74 dz (nI 0) hmod t1 ht g1 h _) (cwV 2 hts gL_law_X9_take rfl rfl rfl (by decide +kernel) ⟨Nat.le_of_ble_eq_true rfl, Nat.le_of_ble_eq_true rfl⟩) (iPV hK hP hD (by decide) (hmod.2.1) rfl [.int (nI t1), .int g1]) rfl rfl hl.1 rfl (lv_room (Nat.le_of_ble_eq_true rfl)) dL_law_548 ⟨Nat.le_of_ble_eq_true rfl, Nat.le_of_ble_eq_true rfl⟩) hD hS hA (fun r9 u9 H locs hw9 hP hD hS => ?_)
  obtain ⟨hr9, ⟨d9, ht9⟩, hm9⟩ := hw9
  refine lv_asI hr9 ?_
  refine lv_istore (lv' := [(7, .int (nI 0)), (6, .int (nI 1)), (5, .int (nI 0)), (4, .ref (ad 82)), (3, .ref (ad 81)), (2, .ref (ad 74)), (1, .ref (ad 0)), (0, .ref b)]) hx hb dL_law_551 hl (by decide) rfl (fun ls hl => ?_)
  refine lv_aload_n hx hb dL_law_553 rfl (lv_at hl 5 rfl) ?_
  refine iw_i (va_runV (As := []) (rest := []) ⟨hx, hb, hml, hown, hts⟩ (kX9_thrown l G 83 ad _ 74 (by decide) (nI 1) d9 ht9 _) (cwV 0 hts gL_law_X9_thrown rfl rfl rfl (by decide +kernel) ⟨Nat.le_of_ble_eq_true rfl, Nat.le_of_ble_eq_true rfl⟩) (iPV hK hP hD (by decide) (ht9) rfl []) rfl rfl hl.1 rfl (lv_room (Nat.le_of_ble_eq_true rfl)) dL_law_554 ⟨Nat.le_of_ble_eq_true rfl, Nat.le_of_ble_eq_true rfl⟩) hD hS hA (fun r7 u7 H locs hw7 hP hD hS => ?_)
  obtain ⟨hr7, hu7⟩ := hw7
  rw [hu7] at hP hD
  refine lv_asI hr7 ?_
  refine lv_iload hx hb dL_law_557 (lv_at hl 1 rfl) ?_
  refine lv_icmp_eq (tgt := 564) hx hb dL_law_559 (by decide) (fun _ => ?_) (fun c9 => absurd (by decide) c9)
  refine lv_iload hx hb dL_law_564 (lv_at hl 1 rfl) ?_
  refine lv_if_ne (tgt := 581) hx hb dL_law_566 (by decide) (fun _ => ?_) (fun c9 => absurd c9 (by decide))
  refine lv_goto (tgt := 1906) hx hb dL_law_581 (by decide) ?_
  refine W.widen (k := 300) (n := 6500) (Nat.le_of_ble_eq_true rfl) (Nat.le_of_ble_eq_true rfl) ?_
  exact kt H locs ls hS (lv_sub hl [2, 7] rfl)
set_option maxHeartbeats 4000000 in
set_option maxRecDepth 100000 in
theorem lc_wouldClip_1 {p : Program} {l : Launch} {e : Env} {s : State} {m : MethodId} {below : List Frame} {meth : Method} {c : Code} {b dz : Nat} {xs : Nat → Int32} {G : iG} {Q : State → Prop} (hst : l.stackTraces = false) (hx : p.tables.exec = Jvm.exec) (hb : c.code = cL_law) (hml : c.maxLocals = 9) (hts : ∀ w ∈ wsL_law, w.before #[Value.ref b] s = true) (hown : s.vm.findClass RL = some m.cls) (hX : va_X b 6 xs s s.heap) (hbl : b < s.heap.size) (hK : KB G s) (hV : VX s) (hZt : ZT (aA s) s s.heap) (hZ : ZD dz (aA s) s s.heap) {ad : Nat → Nat} {C : Nat → va_E} {H : Heap} {locs : List Loc} {ls : Array Slot} (hcam : Cam G 83 ad C 0 S0) (hmod : Mod G 83 ad C 74 dz (nI 0)) (glo : C 81 = la G 1 (fun _ => 0)) (hP : va_P G.1 vwB (wl 83 ad C) H) (hD : va_D (aA s) (wl 83 ad C)) (hS : va_S (aA s) s.heap H locs) (hl : lv_has ls 9 [(5, .int (nI 0)), (4, .ref (ad 82)), (3, .ref (ad 81)), (2, .ref (ad 74)), (1, .ref (ad 0)), (0, .ref b)]) (kt : ∀ (H : Heap) (locs : List Loc) (ls : Array Slot), va_S (aA s) s.heap H locs → lv_has ls 9 [(5, .int (nI 0)), (0, .ref b)] → W p l e room_1 s m #[Value.ref b] below meth c H locs 300 6500 Q (F0 m 1906 ls [])) (t1 g1 : Int32) (h : t1 < nI 1 ∨ nI 64 < t1) (hx1 : xs 1 = t1) (hx2 : xs 2 = g1) : W p l e room_1 s m #[Value.ref b] below meth c H locs 83 1901 Q (F0 m 1700 ls []) := by
  have hbA : ¬ aA s b := Nat.not_le.mpr hbl
  have hA : ∀ q : Nat, s.heap.size ≤ q → aA s q := fun _ h => h
  refine lv_aload_n hx hb dL_law_1700 rfl (lv_at hl 4 rfl) ?_
  refine lv_aload_n hx hb dL_law_1701 rfl (lv_at hl 5 rfl) ?_
  refine lv_iload hx hb dL_law_1702 (lv_at hl 0 rfl) ?_
  refine lv_iconst (v := nI 1) hx hb dL_law_1704 (by decide) ?_
  refine lv_iadd hx hb dL_law_1705 ?_
  refine lv_asI (y := nI 1) (by decide) ?_
  refine va_sld hx hb hX hbl hbA hS (vp_in_nI (by decide) (by decide)) dL_law_1706 ?_
  refine lv_asI (y := t1) ((congrArg xs (nI_clamp (by decide))).trans hx1) ?_
  refine lv_aload_n hx hb dL_law_1707 rfl (lv_at hl 5 rfl) ?_
  refine lv_iload hx hb dL_law_1708 (lv_at hl 0 rfl) ?_
  refine lv_iconst (v := nI 2) hx hb dL_law_1710 (by decide) ?_
  refine lv_iadd hx hb dL_law_1711 ?_
  refine lv_asI (y := nI 2) (by decide) ?_
  refine va_sld hx hb hX hbl hbA hS (vp_in_nI (by decide) (by decide)) dL_law_1712 ?_
  refine lv_asI (y := g1) ((congrArg xs (nI_clamp (by decide))).trans hx2) ?_
  refine lv_aload_n hx hb dL_law_1713 rfl (lv_at hl 2 rfl) ?_
  refine iwx_i (vx_runSX (hh := [(0, 10, 13, 15)]) (As := [.ref (ad 0), .int t1, .int g1, .ref (ad 81)]) (rest := []) ⟨hx, hb, hml, hown, hts⟩ (wL_wouldClip_1 l hst G 83 ad _ 0 S0 hcam 81 t1 g1 h _) (vx_cwSW 4 hts gL_law_L_wouldClip rfl rfl rfl (by decide +kernel) ⟨Nat.le_of_ble_eq_true rfl, Nat.le_of_ble_eq_true rfl⟩) (iPSX hK hV hZt hS hA hP hD [.ref (ad 0), .int t1, .int g1, .ref (ad 81)]) rfl rfl hl.1 rfl (lv_room (Nat.le_of_ble_eq_true rfl)) dL_law_1714 ⟨Nat.le_of_ble_eq_true rfl, Nat.le_of_ble_eq_true rfl⟩) hD hS hA (fun r8 u8 H locs hw8 hP hD hS => ?_)
  obtain ⟨hr8, hu8⟩ := hw8
  rw [hu8] at hP hD
  refine lv_asI hr8 ?_
  refine lv_istore (lv' := [(6, .int (nI 1)), (5, .int (nI 0)), (4, .ref (ad 82)), (3, .ref (ad 81)), (2, .ref (ad 74)), (1, .ref (ad 0)), (0, .ref b)]) hx hb dL_law_1717 hl (by decide) rfl (fun ls hl => ?_)
  refine lv_aload_n hx hb dL_law_1719 rfl (lv_at hl 4 rfl) ?_
  refine lv_aload_n hx hb dL_law_1720 rfl (lv_at hl 6 rfl) ?_
  refine lv_iload hx hb dL_law_1721 (lv_at hl 1 rfl) ?_
  refine lv_iconst (v := nI 1) hx hb dL_law_1723 (by decide) ?_
  refine lv_iadd hx hb dL_law_1724 ?_
  refine lv_asI (y := nI 1) (by decide) ?_
  refine va_sld hx hb hX hbl hbA hS (vp_in_nI (by decide) (by decide)) dL_law_1725 ?_
  refine lv_asI (y := t1) ((congrArg xs (nI_clamp (by decide))).trans hx1) ?_
  refine lv_aload_n hx hb dL_law_1726 rfl (lv_at hl 6 rfl) ?_
  refine lv_iload hx hb dL_law_1727 (lv_at hl 1 rfl) ?_
  refine lv_iconst (v := nI 2) hx hb dL_law_1729 (by decide) ?_
  refine lv_iadd hx hb dL_law_1730 ?_
  refine lv_asI (y := nI 2) (by decide) ?_
  refine va_sld hx hb hX hbl hbA hS (vp_in_nI (by decide) (by decide)) dL_law_1731 ?_
  refine lv_asI (y := g1) ((congrArg xs (nI_clamp (by decide))).trans hx2) ?_
  refine iw_i (va_runV (As := [.int t1, .int g1]) (rest := []) ⟨hx, hb, hml, hown, hts⟩ (kX9_wouldClip_1 l G 83 ad _ 74 dz (nI 0) hmod t1 g1 h _) (cwV 2 hts gL_law_X9_wouldClip rfl rfl rfl (by decide +kernel) ⟨Nat.le_of_ble_eq_true rfl, Nat.le_of_ble_eq_true rfl⟩) (iPV hK hP hD (by decide) (hmod.2.1) rfl [.int t1, .int g1]) rfl rfl hl.1 rfl (lv_room (Nat.le_of_ble_eq_true rfl)) dL_law_1732 ⟨Nat.le_of_ble_eq_true rfl, Nat.le_of_ble_eq_true rfl⟩) hD hS hA (fun r9 u9 H locs hw9 hP hD hS => ?_)
  obtain ⟨hr9, ⟨d9, ht9⟩, hm9⟩ := hw9
  refine lv_asI hr9 ?_
  refine lv_istore (lv' := [(7, .int (nI 0)), (6, .int (nI 1)), (5, .int (nI 0)), (4, .ref (ad 82)), (3, .ref (ad 81)), (2, .ref (ad 74)), (1, .ref (ad 0)), (0, .ref b)]) hx hb dL_law_1735 hl (by decide) rfl (fun ls hl => ?_)
  refine lv_aload_n hx hb dL_law_1737 rfl (lv_at hl 5 rfl) ?_
  refine iw_i (va_runV (As := []) (rest := []) ⟨hx, hb, hml, hown, hts⟩ (kX9_thrown l G 83 ad _ 74 (by decide) (nI 1) d9 ht9 _) (cwV 0 hts gL_law_X9_thrown rfl rfl rfl (by decide +kernel) ⟨Nat.le_of_ble_eq_true rfl, Nat.le_of_ble_eq_true rfl⟩) (iPV hK hP hD (by decide) (ht9) rfl []) rfl rfl hl.1 rfl (lv_room (Nat.le_of_ble_eq_true rfl)) dL_law_1738 ⟨Nat.le_of_ble_eq_true rfl, Nat.le_of_ble_eq_true rfl⟩) hD hS hA (fun r7 u7 H locs hw7 hP hD hS => ?_)
  obtain ⟨hr7, hu7⟩ := hw7
  rw [hu7] at hP hD
  refine lv_asI hr7 ?_
  refine lv_iload hx hb dL_law_1741 (lv_at hl 1 rfl) ?_
  refine lv_icmp_eq (tgt := 1748) hx hb dL_law_1743 (by decide) (fun _ => ?_) (fun c9 => absurd (by decide) c9)
  refine lv_iload hx hb dL_law_1748 (lv_at hl 1 rfl) ?_
  refine lv_if_ne (tgt := 1765) hx hb dL_law_1750 (by decide) (fun _ => ?_) (fun c9 => absurd c9 (by decide))
  refine lv_goto (tgt := 1906) hx hb dL_law_1765 (by decide) ?_
  refine W.widen (k := 300) (n := 6500) (Nat.le_of_ble_eq_true rfl) (Nat.le_of_ble_eq_true rfl) ?_
  exact kt H locs ls hS (lv_sub hl [2, 7] rfl)
set_option maxHeartbeats 4000000 in
set_option maxRecDepth 100000 in
theorem lc_wouldClip_2 {p : Program} {l : Launch} {e : Env} {s : State} {m : MethodId} {below : List Frame} {meth : Method} {c : Code} {b dz : Nat} {xs : Nat → Int32} {G : iG} {Q : State → Prop} (hst : l.stackTraces = false) (hx : p.tables.exec = Jvm.exec) (hb : c.code = cL_law) (hml : c.maxLocals = 9) (hts : ∀ w ∈ wsL_law, w.before #[Value.ref b] s = true) (hown : s.vm.findClass RL = some m.cls) (hX : va_X b 6 xs s s.heap) (hbl : b < s.heap.size) (hK : KB G s) (hV : VX s) (hZt : ZT (aA s) s s.heap) (hZ : ZD dz (aA s) s s.heap) {ad : Nat → Nat} {C : Nat → va_E} {H : Heap} {locs : List Loc} {ls : Array Slot} (hcam : Cam G 83 ad C 0 S0) (hmod : Mod G 83 ad C 74 dz (nI 0)) (glo : C 81 = la G 1 (fun _ => 0)) (hP : va_P G.1 vwB (wl 83 ad C) H) (hD : va_D (aA s) (wl 83 ad C)) (hS : va_S (aA s) s.heap H locs) (hl : lv_has ls 9 [(5, .int (nI 0)), (4, .ref (ad 82)), (3, .ref (ad 81)), (2, .ref (ad 74)), (1, .ref (ad 0)), (0, .ref b)]) (kt : ∀ (H : Heap) (locs : List Loc) (ls : Array Slot), va_S (aA s) s.heap H locs → lv_has ls 9 [(5, .int (nI 0)), (0, .ref b)] → W p l e room_1 s m #[Value.ref b] below meth c H locs 300 6500 Q (F0 m 1906 ls [])) (t1 : Nat) (ht : 0 < t1 ∧ t1 < 65) (g1 : Int32) (h : g1 < nI 1 ∨ nI 8 < g1) (hx1 : xs 1 = nI t1) (hx2 : xs 2 = g1) : W p l e room_1 s m #[Value.ref b] below meth c H locs 83 1901 Q (F0 m 1700 ls []) := by
  have hbA : ¬ aA s b := Nat.not_le.mpr hbl
  have hA : ∀ q : Nat, s.heap.size ≤ q → aA s q := fun _ h => h
  refine lv_aload_n hx hb dL_law_1700 rfl (lv_at hl 4 rfl) ?_
  refine lv_aload_n hx hb dL_law_1701 rfl (lv_at hl 5 rfl) ?_
  refine lv_iload hx hb dL_law_1702 (lv_at hl 0 rfl) ?_
  refine lv_iconst (v := nI 1) hx hb dL_law_1704 (by decide) ?_
  refine lv_iadd hx hb dL_law_1705 ?_
  refine lv_asI (y := nI 1) (by decide) ?_
  refine va_sld hx hb hX hbl hbA hS (vp_in_nI (by decide) (by decide)) dL_law_1706 ?_
  refine lv_asI (y := nI t1) ((congrArg xs (nI_clamp (by decide))).trans hx1) ?_
  refine lv_aload_n hx hb dL_law_1707 rfl (lv_at hl 5 rfl) ?_
  refine lv_iload hx hb dL_law_1708 (lv_at hl 0 rfl) ?_
  refine lv_iconst (v := nI 2) hx hb dL_law_1710 (by decide) ?_
  refine lv_iadd hx hb dL_law_1711 ?_
  refine lv_asI (y := nI 2) (by decide) ?_
  refine va_sld hx hb hX hbl hbA hS (vp_in_nI (by decide) (by decide)) dL_law_1712 ?_
  refine lv_asI (y := g1) ((congrArg xs (nI_clamp (by decide))).trans hx2) ?_
  refine lv_aload_n hx hb dL_law_1713 rfl (lv_at hl 2 rfl) ?_
  refine iwx_i (vx_runSX (hh := [(0, 10, 13, 15)]) (As := [.ref (ad 0), .int (nI t1), .int g1, .ref (ad 81)]) (rest := []) ⟨hx, hb, hml, hown, hts⟩ (wL_wouldClip_2 l hst G 83 ad _ 0 S0 hcam 81 t1 ht g1 h _) (vx_cwSW 4 hts gL_law_L_wouldClip rfl rfl rfl (by decide +kernel) ⟨Nat.le_of_ble_eq_true rfl, Nat.le_of_ble_eq_true rfl⟩) (iPSX hK hV hZt hS hA hP hD [.ref (ad 0), .int (nI t1), .int g1, .ref (ad 81)]) rfl rfl hl.1 rfl (lv_room (Nat.le_of_ble_eq_true rfl)) dL_law_1714 ⟨Nat.le_of_ble_eq_true rfl, Nat.le_of_ble_eq_true rfl⟩) hD hS hA (fun r8 u8 H locs hw8 hP hD hS => ?_)
  obtain ⟨hr8, hu8⟩ := hw8
  rw [hu8] at hP hD
  refine lv_asI hr8 ?_
  refine lv_istore (lv' := [(6, .int (nI 1)), (5, .int (nI 0)), (4, .ref (ad 82)), (3, .ref (ad 81)), (2, .ref (ad 74)), (1, .ref (ad 0)), (0, .ref b)]) hx hb dL_law_1717 hl (by decide) rfl (fun ls hl => ?_)
  refine lv_aload_n hx hb dL_law_1719 rfl (lv_at hl 4 rfl) ?_
  refine lv_aload_n hx hb dL_law_1720 rfl (lv_at hl 6 rfl) ?_
  refine lv_iload hx hb dL_law_1721 (lv_at hl 1 rfl) ?_
  refine lv_iconst (v := nI 1) hx hb dL_law_1723 (by decide) ?_
  refine lv_iadd hx hb dL_law_1724 ?_
  refine lv_asI (y := nI 1) (by decide) ?_
  refine va_sld hx hb hX hbl hbA hS (vp_in_nI (by decide) (by decide)) dL_law_1725 ?_
  refine lv_asI (y := nI t1) ((congrArg xs (nI_clamp (by decide))).trans hx1) ?_
  refine lv_aload_n hx hb dL_law_1726 rfl (lv_at hl 6 rfl) ?_
  refine lv_iload hx hb dL_law_1727 (lv_at hl 1 rfl) ?_
  refine lv_iconst (v := nI 2) hx hb dL_law_1729 (by decide) ?_
  refine lv_iadd hx hb dL_law_1730 ?_
  refine lv_asI (y := nI 2) (by decide) ?_
  refine va_sld hx hb hX hbl hbA hS (vp_in_nI (by decide) (by decide)) dL_law_1731 ?_
  refine lv_asI (y := g1) ((congrArg xs (nI_clamp (by decide))).trans hx2) ?_
  refine iw_i (va_runV (As := [.int (nI t1), .int g1]) (rest := []) ⟨hx, hb, hml, hown, hts⟩ (kX9_wouldClip_2 l G 83 ad _ 74 dz (nI 0) hmod t1 ht g1 h _) (cwV 2 hts gL_law_X9_wouldClip rfl rfl rfl (by decide +kernel) ⟨Nat.le_of_ble_eq_true rfl, Nat.le_of_ble_eq_true rfl⟩) (iPV hK hP hD (by decide) (hmod.2.1) rfl [.int (nI t1), .int g1]) rfl rfl hl.1 rfl (lv_room (Nat.le_of_ble_eq_true rfl)) dL_law_1732 ⟨Nat.le_of_ble_eq_true rfl, Nat.le_of_ble_eq_true rfl⟩) hD hS hA (fun r9 u9 H locs hw9 hP hD hS => ?_)
  obtain ⟨hr9, ⟨d9, ht9⟩, hm9⟩ := hw9
  refine lv_asI hr9 ?_
  refine lv_istore (lv' := [(7, .int (nI 0)), (6, .int (nI 1)), (5, .int (nI 0)), (4, .ref (ad 82)), (3, .ref (ad 81)), (2, .ref (ad 74)), (1, .ref (ad 0)), (0, .ref b)]) hx hb dL_law_1735 hl (by decide) rfl (fun ls hl => ?_)
  refine lv_aload_n hx hb dL_law_1737 rfl (lv_at hl 5 rfl) ?_
  refine iw_i (va_runV (As := []) (rest := []) ⟨hx, hb, hml, hown, hts⟩ (kX9_thrown l G 83 ad _ 74 (by decide) (nI 1) d9 ht9 _) (cwV 0 hts gL_law_X9_thrown rfl rfl rfl (by decide +kernel) ⟨Nat.le_of_ble_eq_true rfl, Nat.le_of_ble_eq_true rfl⟩) (iPV hK hP hD (by decide) (ht9) rfl []) rfl rfl hl.1 rfl (lv_room (Nat.le_of_ble_eq_true rfl)) dL_law_1738 ⟨Nat.le_of_ble_eq_true rfl, Nat.le_of_ble_eq_true rfl⟩) hD hS hA (fun r7 u7 H locs hw7 hP hD hS => ?_)
  obtain ⟨hr7, hu7⟩ := hw7
  rw [hu7] at hP hD
  refine lv_asI hr7 ?_
  refine lv_iload hx hb dL_law_1741 (lv_at hl 1 rfl) ?_
  refine lv_icmp_eq (tgt := 1748) hx hb dL_law_1743 (by decide) (fun _ => ?_) (fun c9 => absurd (by decide) c9)
  refine lv_iload hx hb dL_law_1748 (lv_at hl 1 rfl) ?_
  refine lv_if_ne (tgt := 1765) hx hb dL_law_1750 (by decide) (fun _ => ?_) (fun c9 => absurd c9 (by decide))
  refine lv_goto (tgt := 1906) hx hb dL_law_1765 (by decide) ?_
  refine W.widen (k := 300) (n := 6500) (Nat.le_of_ble_eq_true rfl) (Nat.le_of_ble_eq_true rfl) ?_
  exact kt H locs ls hS (lv_sub hl [2, 7] rfl)
set_option maxHeartbeats 4000000 in
set_option maxRecDepth 100000 in
theorem lc_wouldClip_v {p : Program} {l : Launch} {e : Env} {s : State} {m : MethodId} {below : List Frame} {meth : Method} {c : Code} {b dz : Nat} {xs : Nat → Int32} {G : iG} {Q : State → Prop} (hst : l.stackTraces = false) (hx : p.tables.exec = Jvm.exec) (hb : c.code = cL_law) (hml : c.maxLocals = 9) (hts : ∀ w ∈ wsL_law, w.before #[Value.ref b] s = true) (hown : s.vm.findClass RL = some m.cls) (hX : va_X b 6 xs s s.heap) (hbl : b < s.heap.size) (hK : KB G s) (hV : VX s) (hZt : ZT (aA s) s s.heap) (hZ : ZD dz (aA s) s s.heap) {ad : Nat → Nat} {C : Nat → va_E} {H : Heap} {locs : List Loc} {ls : Array Slot} (hcam : Cam G 83 ad C 0 S0) (hmod : Mod G 83 ad C 74 dz (nI 0)) (glo : C 81 = la G 1 (fun _ => 0)) (hP : va_P G.1 vwB (wl 83 ad C) H) (hD : va_D (aA s) (wl 83 ad C)) (hS : va_S (aA s) s.heap H locs) (hl : lv_has ls 9 [(5, .int (nI 0)), (4, .ref (ad 82)), (3, .ref (ad 81)), (2, .ref (ad 74)), (1, .ref (ad 0)), (0, .ref b)]) (kt : ∀ (H : Heap) (locs : List Loc) (ls : Array Slot), va_S (aA s) s.heap H locs → lv_has ls 9 [(5, .int (nI 0)), (0, .ref b)] → W p l e room_1 s m #[Value.ref b] below meth c H locs 300 6500 Q (F0 m 1906 ls [])) (t1 g1 : Nat) (ht : 0 < t1 ∧ t1 < 65) (hg : 0 < g1 ∧ g1 < 9) (hx1 : xs 1 = nI t1) (hx2 : xs 2 = nI g1) : W p l e room_1 s m #[Value.ref b] below meth c H locs 83 1901 Q (F0 m 1700 ls []) := by
  have hbA : ¬ aA s b := Nat.not_le.mpr hbl
  have hA : ∀ q : Nat, s.heap.size ≤ q → aA s q := fun _ h => h
  refine lv_aload_n hx hb dL_law_1700 rfl (lv_at hl 4 rfl) ?_
  refine lv_aload_n hx hb dL_law_1701 rfl (lv_at hl 5 rfl) ?_
  refine lv_iload hx hb dL_law_1702 (lv_at hl 0 rfl) ?_
  refine lv_iconst (v := nI 1) hx hb dL_law_1704 (by decide) ?_
  refine lv_iadd hx hb dL_law_1705 ?_
  refine lv_asI (y := nI 1) (by decide) ?_
  refine va_sld hx hb hX hbl hbA hS (vp_in_nI (by decide) (by decide)) dL_law_1706 ?_
  refine lv_asI (y := nI t1) ((congrArg xs (nI_clamp (by decide))).trans hx1) ?_
  refine lv_aload_n hx hb dL_law_1707 rfl (lv_at hl 5 rfl) ?_
  refine lv_iload hx hb dL_law_1708 (lv_at hl 0 rfl) ?_
  refine lv_iconst (v := nI 2) hx hb dL_law_1710 (by decide) ?_
  refine lv_iadd hx hb dL_law_1711 ?_
  refine lv_asI (y := nI 2) (by decide) ?_
  refine va_sld hx hb hX hbl hbA hS (vp_in_nI (by decide) (by decide)) dL_law_1712 ?_
  refine lv_asI (y := nI g1) ((congrArg xs (nI_clamp (by decide))).trans hx2) ?_
  refine lv_aload_n hx hb dL_law_1713 rfl (lv_at hl 2 rfl) ?_
  refine iwx_i (vx_runSX (hh := [(0, 10, 13, 15)]) (As := [.ref (ad 0), .int (nI t1), .int (nI g1), .ref (ad 81)]) (rest := []) ⟨hx, hb, hml, hown, hts⟩ (wL_wouldClip l G 83 ad _ 0 S0 hcam 81 (by decide) (Or.inr (by decide)) _ glo t1 g1 ht hg _) (vx_cwSW 4 hts gL_law_L_wouldClip rfl rfl rfl (by decide +kernel) ⟨Nat.le_of_ble_eq_true rfl, Nat.le_of_ble_eq_true rfl⟩) (iPSX hK hV hZt hS hA hP hD [.ref (ad 0), .int (nI t1), .int (nI g1), .ref (ad 81)]) rfl rfl hl.1 rfl (lv_room (Nat.le_of_ble_eq_true rfl)) dL_law_1714 ⟨Nat.le_of_ble_eq_true rfl, Nat.le_of_ble_eq_true rfl⟩) hD hS hA (fun r8 u8 H locs hw8 hP hD hS => ?_)
  obtain ⟨hr8, ⟨f8, hf8, hv8⟩, hs8⟩ := hw8
  refine lv_asI hr8 ?_
  have hmod := Mod_same hmod (fun i h1 h2 => hs8 i (Or.inr (by omega)) (by omega))
  refine lv_istore (lv' := [(6, .int (nI 0)), (5, .int (nI 0)), (4, .ref (ad 82)), (3, .ref (ad 81)), (2, .ref (ad 74)), (1, .ref (ad 0)), (0, .ref b)]) hx hb dL_law_1717 hl (by decide) rfl (fun ls hl => ?_)
  refine lv_aload_n hx hb dL_law_1719 rfl (lv_at hl 4 rfl) ?_
  refine lv_aload_n hx hb dL_law_1720 rfl (lv_at hl 6 rfl) ?_
  refine lv_iload hx hb dL_law_1721 (lv_at hl 1 rfl) ?_
  refine lv_iconst (v := nI 1) hx hb dL_law_1723 (by decide) ?_
  refine lv_iadd hx hb dL_law_1724 ?_
  refine lv_asI (y := nI 1) (by decide) ?_
  refine va_sld hx hb hX hbl hbA hS (vp_in_nI (by decide) (by decide)) dL_law_1725 ?_
  refine lv_asI (y := nI t1) ((congrArg xs (nI_clamp (by decide))).trans hx1) ?_
  refine lv_aload_n hx hb dL_law_1726 rfl (lv_at hl 6 rfl) ?_
  refine lv_iload hx hb dL_law_1727 (lv_at hl 1 rfl) ?_
  refine lv_iconst (v := nI 2) hx hb dL_law_1729 (by decide) ?_
  refine lv_iadd hx hb dL_law_1730 ?_
  refine lv_asI (y := nI 2) (by decide) ?_
  refine va_sld hx hb hX hbl hbA hS (vp_in_nI (by decide) (by decide)) dL_law_1731 ?_
  refine lv_asI (y := nI g1) ((congrArg xs (nI_clamp (by decide))).trans hx2) ?_
  refine iwq_i (va_runV (As := [.int (nI t1), .int (nI g1)]) (rest := []) ⟨hx, hb, hml, hown, hts⟩ (kX9_wouldClip l G 83 ad _ 74 dz (nI 0) hmod t1 g1 ht hg _) (cwV 2 hts gL_law_X9_wouldClip rfl rfl rfl (by decide +kernel) ⟨Nat.le_of_ble_eq_true rfl, Nat.le_of_ble_eq_true rfl⟩) (iPVZ hK hV hZ hS hA hP hD (by decide) (hmod.2.1) rfl [.int (nI t1), .int (nI g1)]) rfl rfl hl.1 rfl (lv_room (Nat.le_of_ble_eq_true rfl)) dL_law_1732 ⟨Nat.le_of_ble_eq_true rfl, Nat.le_of_ble_eq_true rfl⟩) (by decide) (by decide) hD hS hA (fun r9 u9 H locs hw9 hP hD hS => ?_)
  obtain ⟨hr9, ⟨d9, ht9⟩, hm9⟩ := hw9
  refine lv_asI (hr9.trans ((by rw [hd0 t1 g1 ht.2, cl0]))) ?_
  refine lv_istore (lv' := [(7, .int (nI (clN (exN (sHw S0) (sSh S0) (sFac S0) (sDr S0) t1 g1) 64))), (6, .int (nI 0)), (5, .int (nI 0)), (4, .ref (ad 82)), (3, .ref (ad 81)), (2, .ref (ad 74)), (1, .ref (ad 0)), (0, .ref b)]) hx hb dL_law_1735 hl (by decide) rfl (fun ls hl => ?_)
  refine lv_aload_n hx hb dL_law_1737 rfl (lv_at hl 5 rfl) ?_
  refine iw_i (va_runV (As := []) (rest := []) ⟨hx, hb, hml, hown, hts⟩ (kX9_thrown l G 83 ad _ 74 (by decide) (nI 0) d9 ht9 _) (cwV 0 hts gL_law_X9_thrown rfl rfl rfl (by decide +kernel) ⟨Nat.le_of_ble_eq_true rfl, Nat.le_of_ble_eq_true rfl⟩) (iPV hK hP hD (by decide) (ht9) rfl []) rfl rfl hl.1 rfl (lv_room (Nat.le_of_ble_eq_true rfl)) dL_law_1738 ⟨Nat.le_of_ble_eq_true rfl, Nat.le_of_ble_eq_true rfl⟩) hD hS hA (fun r7 u7 H locs hw7 hP hD hS => ?_)
  obtain ⟨hr7, hu7⟩ := hw7
  rw [hu7] at hP hD
  refine lv_asI hr7 ?_
  refine lv_iload hx hb dL_law_1741 (lv_at hl 1 rfl) ?_
  refine lv_icmp_eq (tgt := 1748) hx hb dL_law_1743 (by decide) (fun _ => ?_) (fun c9 => absurd (by decide) c9)
  refine lv_iload hx hb dL_law_1748 (lv_at hl 1 rfl) ?_
  refine lv_if_ne (tgt := 1765) hx hb dL_law_1750 (by decide) (fun c9 => absurd (by decide) c9) (fun _ => ?_)
  refine lv_aload_n hx hb dL_law_1753 rfl (lv_at hl 4 rfl) ?_
  refine lv_iconst (v := nI 0) hx hb dL_law_1754 (by decide) ?_
  refine iw_lald (v := ((nI (clN (exN (sHw S0) (sSh S0) (sFac S0) (sDr S0) t1 g1) 64))).toInt64) hx hb hK hP (by decide) (((hm9 81 (by decide) (Or.inr (by decide))).trans hf8)) (vp_in_nI (show 0 < 1 by omega) (by omega)) ((congrArg f8 (nI_clamp (by decide))).trans hv8) dL_law_1755 ?_
  refine lv_iload hx hb dL_law_1756 (lv_at hl 0 rfl) ?_
  refine lv_i2l (v := (nI (clN (exN (sHw S0) (sSh S0) (sFac S0) (sDr S0) t1 g1) 64)).toInt64) hx hb dL_law_1758 rfl ?_
  refine lv_lcmpE hx hb dL_law_1759 ?_
  refine lv_if_eq (tgt := 1765) hx hb dL_law_1760 (by decide) (fun _ => ?_) (fun c9 => absurd (by decide) c9)
  refine lv_goto (tgt := 1906) hx hb dL_law_1765 (by decide) ?_
  refine W.widen (k := 300) (n := 6500) (Nat.le_of_ble_eq_true rfl) (Nat.le_of_ble_eq_true rfl) ?_
  exact kt H locs ls hS (lv_sub hl [2, 7] rfl)
set_option maxHeartbeats 4000000 in
set_option maxRecDepth 100000 in
theorem lc_paint_1 {p : Program} {l : Launch} {e : Env} {s : State} {m : MethodId} {below : List Frame} {meth : Method} {c : Code} {b dz : Nat} {xs : Nat → Int32} {G : iG} {Q : State → Prop} (hst : l.stackTraces = false) (hx : p.tables.exec = Jvm.exec) (hb : c.code = cL_law) (hml : c.maxLocals = 9) (hts : ∀ w ∈ wsL_law, w.before #[Value.ref b] s = true) (hown : s.vm.findClass RL = some m.cls) (hX : va_X b 6 xs s s.heap) (hbl : b < s.heap.size) (hK : KB G s) (hV : VX s) (hZt : ZT (aA s) s s.heap) (hZ : ZD dz (aA s) s s.heap) {ad : Nat → Nat} {C : Nat → va_E} {H : Heap} {locs : List Loc} {ls : Array Slot} (hcam : Cam G 83 ad C 0 S0) (hmod : Mod G 83 ad C 74 dz (nI 0)) (glo : C 81 = la G 1 (fun _ => 0)) (hP : va_P G.1 vwB (wl 83 ad C) H) (hD : va_D (aA s) (wl 83 ad C)) (hS : va_S (aA s) s.heap H locs) (hl : lv_has ls 9 [(5, .int (nI 0)), (4, .ref (ad 82)), (3, .ref (ad 81)), (2, .ref (ad 74)), (1, .ref (ad 0)), (0, .ref b)]) (kt : ∀ (H : Heap) (locs : List Loc) (ls : Array Slot), va_S (aA s) s.heap H locs → lv_has ls 9 [(5, .int (nI 0)), (0, .ref b)] → W p l e room_1 s m #[Value.ref b] below meth c H locs 300 6500 Q (F0 m 1906 ls [])) (x y tx ty co : Int32) (h : isPl x y = false) (hx1 : xs 1 = x) (hx2 : xs 2 = y) (hx3 : xs 3 = tx) (hx4 : xs 4 = ty) (hx5 : xs 5 = co) : W p l e room_1 s m #[Value.ref b] below meth c H locs 83 1901 Q (F0 m 156 ls []) := by
  have hbA : ¬ aA s b := Nat.not_le.mpr hbl
  have hA : ∀ q : Nat, s.heap.size ≤ q → aA s q := fun _ h => h
  refine lv_aload_n hx hb dL_law_156 rfl (lv_at hl 4 rfl) ?_
  refine lv_aload_n hx hb dL_law_157 rfl (lv_at hl 5 rfl) ?_
  refine lv_iload hx hb dL_law_158 (lv_at hl 0 rfl) ?_
  refine lv_iconst (v := nI 1) hx hb dL_law_160 (by decide) ?_
  refine lv_iadd hx hb dL_law_161 ?_
  refine lv_asI (y := nI 1) (by decide) ?_
  refine va_sld hx hb hX hbl hbA hS (vp_in_nI (by decide) (by decide)) dL_law_162 ?_
  refine lv_asI (y := x) ((congrArg xs (nI_clamp (by decide))).trans hx1) ?_
  refine lv_aload_n hx hb dL_law_163 rfl (lv_at hl 5 rfl) ?_
  refine lv_iload hx hb dL_law_164 (lv_at hl 0 rfl) ?_
  refine lv_iconst (v := nI 2) hx hb dL_law_166 (by decide) ?_
  refine lv_iadd hx hb dL_law_167 ?_
  refine lv_asI (y := nI 2) (by decide) ?_
  refine va_sld hx hb hX hbl hbA hS (vp_in_nI (by decide) (by decide)) dL_law_168 ?_
  refine lv_asI (y := y) ((congrArg xs (nI_clamp (by decide))).trans hx2) ?_
  refine lv_aload_n hx hb dL_law_169 rfl (lv_at hl 5 rfl) ?_
  refine lv_iload hx hb dL_law_170 (lv_at hl 0 rfl) ?_
  refine lv_iconst (v := nI 3) hx hb dL_law_172 (by decide) ?_
  refine lv_iadd hx hb dL_law_173 ?_
  refine lv_asI (y := nI 3) (by decide) ?_
  refine va_sld hx hb hX hbl hbA hS (vp_in_nI (by decide) (by decide)) dL_law_174 ?_
  refine lv_asI (y := tx) ((congrArg xs (nI_clamp (by decide))).trans hx3) ?_
  refine lv_aload_n hx hb dL_law_175 rfl (lv_at hl 5 rfl) ?_
  refine lv_iload hx hb dL_law_176 (lv_at hl 0 rfl) ?_
  refine lv_iconst (v := nI 4) hx hb dL_law_178 (by decide) ?_
  refine lv_iadd hx hb dL_law_179 ?_
  refine lv_asI (y := nI 4) (by decide) ?_
  refine va_sld hx hb hX hbl hbA hS (vp_in_nI (by decide) (by decide)) dL_law_180 ?_
  refine lv_asI (y := ty) ((congrArg xs (nI_clamp (by decide))).trans hx4) ?_
  refine lv_aload_n hx hb dL_law_181 rfl (lv_at hl 5 rfl) ?_
  refine lv_iload hx hb dL_law_182 (lv_at hl 0 rfl) ?_
  refine lv_iconst (v := nI 5) hx hb dL_law_184 (by decide) ?_
  refine lv_iadd hx hb dL_law_185 ?_
  refine lv_asI (y := nI 5) (by decide) ?_
  refine va_sld hx hb hX hbl hbA hS (vp_in_nI (by decide) (by decide)) dL_law_186 ?_
  refine lv_asI (y := co) ((congrArg xs (nI_clamp (by decide))).trans hx5) ?_
  refine lv_aload_n hx hb dL_law_187 rfl (lv_at hl 2 rfl) ?_
  refine iwx_i (vx_runSX (hh := [(0, 16, 19, 13), (0, 16, 23, 15)]) (As := [.ref (ad 0), .int x, .int y, .int tx, .int ty, .int co, .ref (ad 81)]) (rest := []) ⟨hx, hb, hml, hown, hts⟩ (wL_paint_1 l hst G 83 ad _ 0 S0 hcam 81 x y tx ty co h _) (vx_cwSW 7 hts gL_law_L_paint rfl rfl rfl (by decide +kernel) ⟨Nat.le_of_ble_eq_true rfl, Nat.le_of_ble_eq_true rfl⟩) (iPSX hK hV hZt hS hA hP hD [.ref (ad 0), .int x, .int y, .int tx, .int ty, .int co, .ref (ad 81)]) rfl rfl hl.1 rfl (lv_room (Nat.le_of_ble_eq_true rfl)) dL_law_188 ⟨Nat.le_of_ble_eq_true rfl, Nat.le_of_ble_eq_true rfl⟩) hD hS hA (fun r8 u8 H locs hw8 hP hD hS => ?_)
  obtain ⟨hr8, hu8⟩ := hw8
  rw [hu8] at hP hD
  refine lv_asI hr8 ?_
  refine lv_istore (lv' := [(6, .int (nI 1)), (5, .int (nI 0)), (4, .ref (ad 82)), (3, .ref (ad 81)), (2, .ref (ad 74)), (1, .ref (ad 0)), (0, .ref b)]) hx hb dL_law_191 hl (by decide) rfl (fun ls hl => ?_)
  refine lv_aload_n hx hb dL_law_193 rfl (lv_at hl 4 rfl) ?_
  refine lv_aload_n hx hb dL_law_194 rfl (lv_at hl 6 rfl) ?_
  refine lv_iload hx hb dL_law_195 (lv_at hl 1 rfl) ?_
  refine lv_iconst (v := nI 1) hx hb dL_law_197 (by decide) ?_
  refine lv_iadd hx hb dL_law_198 ?_
  refine lv_asI (y := nI 1) (by decide) ?_
  refine va_sld hx hb hX hbl hbA hS (vp_in_nI (by decide) (by decide)) dL_law_199 ?_
  refine lv_asI (y := x) ((congrArg xs (nI_clamp (by decide))).trans hx1) ?_
  refine lv_aload_n hx hb dL_law_200 rfl (lv_at hl 6 rfl) ?_
  refine lv_iload hx hb dL_law_201 (lv_at hl 1 rfl) ?_
  refine lv_iconst (v := nI 2) hx hb dL_law_203 (by decide) ?_
  refine lv_iadd hx hb dL_law_204 ?_
  refine lv_asI (y := nI 2) (by decide) ?_
  refine va_sld hx hb hX hbl hbA hS (vp_in_nI (by decide) (by decide)) dL_law_205 ?_
  refine lv_asI (y := y) ((congrArg xs (nI_clamp (by decide))).trans hx2) ?_
  refine lv_aload_n hx hb dL_law_206 rfl (lv_at hl 6 rfl) ?_
  refine lv_iload hx hb dL_law_207 (lv_at hl 1 rfl) ?_
  refine lv_iconst (v := nI 3) hx hb dL_law_209 (by decide) ?_
  refine lv_iadd hx hb dL_law_210 ?_
  refine lv_asI (y := nI 3) (by decide) ?_
  refine va_sld hx hb hX hbl hbA hS (vp_in_nI (by decide) (by decide)) dL_law_211 ?_
  refine lv_asI (y := tx) ((congrArg xs (nI_clamp (by decide))).trans hx3) ?_
  refine lv_aload_n hx hb dL_law_212 rfl (lv_at hl 6 rfl) ?_
  refine lv_iload hx hb dL_law_213 (lv_at hl 1 rfl) ?_
  refine lv_iconst (v := nI 4) hx hb dL_law_215 (by decide) ?_
  refine lv_iadd hx hb dL_law_216 ?_
  refine lv_asI (y := nI 4) (by decide) ?_
  refine va_sld hx hb hX hbl hbA hS (vp_in_nI (by decide) (by decide)) dL_law_217 ?_
  refine lv_asI (y := ty) ((congrArg xs (nI_clamp (by decide))).trans hx4) ?_
  refine lv_aload_n hx hb dL_law_218 rfl (lv_at hl 6 rfl) ?_
  refine lv_iload hx hb dL_law_219 (lv_at hl 1 rfl) ?_
  refine lv_iconst (v := nI 5) hx hb dL_law_221 (by decide) ?_
  refine lv_iadd hx hb dL_law_222 ?_
  refine lv_asI (y := nI 5) (by decide) ?_
  refine va_sld hx hb hX hbl hbA hS (vp_in_nI (by decide) (by decide)) dL_law_223 ?_
  refine lv_asI (y := co) ((congrArg xs (nI_clamp (by decide))).trans hx5) ?_
  refine iw_i (va_runV (As := [.int x, .int y, .int tx, .int ty, .int co]) (rest := []) ⟨hx, hb, hml, hown, hts⟩ (kX9_paint_1 l G 83 ad _ 74 dz (nI 0) hmod x y tx ty co h _) (cwV 5 hts gL_law_X9_paint rfl rfl rfl (by decide +kernel) ⟨Nat.le_of_ble_eq_true rfl, Nat.le_of_ble_eq_true rfl⟩) (iPV hK hP hD (by decide) (hmod.2.1) rfl [.int x, .int y, .int tx, .int ty, .int co]) rfl rfl hl.1 rfl (lv_room (Nat.le_of_ble_eq_true rfl)) dL_law_224 ⟨Nat.le_of_ble_eq_true rfl, Nat.le_of_ble_eq_true rfl⟩) hD hS hA (fun r9 u9 H locs hw9 hP hD hS => ?_)
  obtain ⟨hr9, ⟨d9, ht9⟩, hm9⟩ := hw9
  refine lv_asI hr9 ?_
  refine lv_istore (lv' := [(7, .int (nI 0)), (6, .int (nI 1)), (5, .int (nI 0)), (4, .ref (ad 82)), (3, .ref (ad 81)), (2, .ref (ad 74)), (1, .ref (ad 0)), (0, .ref b)]) hx hb dL_law_227 hl (by decide) rfl (fun ls hl => ?_)
  refine lv_aload_n hx hb dL_law_229 rfl (lv_at hl 5 rfl) ?_
  refine iw_i (va_runV (As := []) (rest := []) ⟨hx, hb, hml, hown, hts⟩ (kX9_thrown l G 83 ad _ 74 (by decide) (nI 1) d9 ht9 _) (cwV 0 hts gL_law_X9_thrown rfl rfl rfl (by decide +kernel) ⟨Nat.le_of_ble_eq_true rfl, Nat.le_of_ble_eq_true rfl⟩) (iPV hK hP hD (by decide) (ht9) rfl []) rfl rfl hl.1 rfl (lv_room (Nat.le_of_ble_eq_true rfl)) dL_law_230 ⟨Nat.le_of_ble_eq_true rfl, Nat.le_of_ble_eq_true rfl⟩) hD hS hA (fun r7 u7 H locs hw7 hP hD hS => ?_)
  obtain ⟨hr7, hu7⟩ := hw7
  rw [hu7] at hP hD
  refine lv_asI hr7 ?_
  refine lv_iload hx hb dL_law_233 (lv_at hl 1 rfl) ?_
  refine lv_icmp_eq (tgt := 240) hx hb dL_law_235 (by decide) (fun _ => ?_) (fun c9 => absurd (by decide) c9)
  refine lv_iload hx hb dL_law_240 (lv_at hl 1 rfl) ?_
  refine lv_if_ne (tgt := 257) hx hb dL_law_242 (by decide) (fun _ => ?_) (fun c9 => absurd c9 (by decide))
  refine lv_goto (tgt := 1906) hx hb dL_law_257 (by decide) ?_
  refine W.widen (k := 300) (n := 6500) (Nat.le_of_ble_eq_true rfl) (Nat.le_of_ble_eq_true rfl) ?_
  exact kt H locs ls hS (lv_sub hl [2, 7] rfl)
set_option maxHeartbeats 4000000 in
set_option maxRecDepth 100000 in
theorem lc_paint_2 {p : Program} {l : Launch} {e : Env} {s : State} {m : MethodId} {below : List Frame} {meth : Method} {c : Code} {b dz : Nat} {xs : Nat → Int32} {G : iG} {Q : State → Prop} (hst : l.stackTraces = false) (hx : p.tables.exec = Jvm.exec) (hb : c.code = cL_law) (hml : c.maxLocals = 9) (hts : ∀ w ∈ wsL_law, w.before #[Value.ref b] s = true) (hown : s.vm.findClass RL = some m.cls) (hX : va_X b 6 xs s s.heap) (hbl : b < s.heap.size) (hK : KB G s) (hV : VX s) (hZt : ZT (aA s) s s.heap) (hZ : ZD dz (aA s) s s.heap) {ad : Nat → Nat} {C : Nat → va_E} {H : Heap} {locs : List Loc} {ls : Array Slot} (hcam : Cam G 83 ad C 0 S0) (hmod : Mod G 83 ad C 74 dz (nI 0)) (glo : C 81 = la G 1 (fun _ => 0)) (hP : va_P G.1 vwB (wl 83 ad C) H) (hD : va_D (aA s) (wl 83 ad C)) (hS : va_S (aA s) s.heap H locs) (hl : lv_has ls 9 [(5, .int (nI 0)), (4, .ref (ad 82)), (3, .ref (ad 81)), (2, .ref (ad 74)), (1, .ref (ad 0)), (0, .ref b)]) (kt : ∀ (H : Heap) (locs : List Loc) (ls : Array Slot), va_S (aA s) s.heap H locs → lv_has ls 9 [(5, .int (nI 0)), (0, .ref b)] → W p l e room_1 s m #[Value.ref b] below meth c H locs 300 6500 Q (F0 m 1906 ls [])) (x y : Nat) (hx8 : x < 8) (hy8 : y < 8) (tx ty co : Int32) (h : isPl tx ty = false) (hx1 : xs 1 = nI x) (hx2 : xs 2 = nI y) (hx3 : xs 3 = tx) (hx4 : xs 4 = ty) (hx5 : xs 5 = co) : W p l e room_1 s m #[Value.ref b] below meth c H locs 83 1901 Q (F0 m 156 ls []) := by
  have hbA : ¬ aA s b := Nat.not_le.mpr hbl
  have hA : ∀ q : Nat, s.heap.size ≤ q → aA s q := fun _ h => h
  refine lv_aload_n hx hb dL_law_156 rfl (lv_at hl 4 rfl) ?_
  refine lv_aload_n hx hb dL_law_157 rfl (lv_at hl 5 rfl) ?_
  refine lv_iload hx hb dL_law_158 (lv_at hl 0 rfl) ?_
  refine lv_iconst (v := nI 1) hx hb dL_law_160 (by decide) ?_
  refine lv_iadd hx hb dL_law_161 ?_
  refine lv_asI (y := nI 1) (by decide) ?_
  refine va_sld hx hb hX hbl hbA hS (vp_in_nI (by decide) (by decide)) dL_law_162 ?_
  refine lv_asI (y := nI x) ((congrArg xs (nI_clamp (by decide))).trans hx1) ?_
  refine lv_aload_n hx hb dL_law_163 rfl (lv_at hl 5 rfl) ?_
  refine lv_iload hx hb dL_law_164 (lv_at hl 0 rfl) ?_
  refine lv_iconst (v := nI 2) hx hb dL_law_166 (by decide) ?_
  refine lv_iadd hx hb dL_law_167 ?_
  refine lv_asI (y := nI 2) (by decide) ?_
  refine va_sld hx hb hX hbl hbA hS (vp_in_nI (by decide) (by decide)) dL_law_168 ?_
  refine lv_asI (y := nI y) ((congrArg xs (nI_clamp (by decide))).trans hx2) ?_
  refine lv_aload_n hx hb dL_law_169 rfl (lv_at hl 5 rfl) ?_
  refine lv_iload hx hb dL_law_170 (lv_at hl 0 rfl) ?_
  refine lv_iconst (v := nI 3) hx hb dL_law_172 (by decide) ?_
  refine lv_iadd hx hb dL_law_173 ?_
  refine lv_asI (y := nI 3) (by decide) ?_
  refine va_sld hx hb hX hbl hbA hS (vp_in_nI (by decide) (by decide)) dL_law_174 ?_
  refine lv_asI (y := tx) ((congrArg xs (nI_clamp (by decide))).trans hx3) ?_
  refine lv_aload_n hx hb dL_law_175 rfl (lv_at hl 5 rfl) ?_
  refine lv_iload hx hb dL_law_176 (lv_at hl 0 rfl) ?_
  refine lv_iconst (v := nI 4) hx hb dL_law_178 (by decide) ?_
  refine lv_iadd hx hb dL_law_179 ?_
  refine lv_asI (y := nI 4) (by decide) ?_
  refine va_sld hx hb hX hbl hbA hS (vp_in_nI (by decide) (by decide)) dL_law_180 ?_
  refine lv_asI (y := ty) ((congrArg xs (nI_clamp (by decide))).trans hx4) ?_
  refine lv_aload_n hx hb dL_law_181 rfl (lv_at hl 5 rfl) ?_
  refine lv_iload hx hb dL_law_182 (lv_at hl 0 rfl) ?_
  refine lv_iconst (v := nI 5) hx hb dL_law_184 (by decide) ?_
  refine lv_iadd hx hb dL_law_185 ?_
  refine lv_asI (y := nI 5) (by decide) ?_
  refine va_sld hx hb hX hbl hbA hS (vp_in_nI (by decide) (by decide)) dL_law_186 ?_
  refine lv_asI (y := co) ((congrArg xs (nI_clamp (by decide))).trans hx5) ?_
  refine lv_aload_n hx hb dL_law_187 rfl (lv_at hl 2 rfl) ?_
  refine iwx_i (vx_runSX (hh := [(0, 16, 19, 13), (0, 16, 23, 15)]) (As := [.ref (ad 0), .int (nI x), .int (nI y), .int tx, .int ty, .int co, .ref (ad 81)]) (rest := []) ⟨hx, hb, hml, hown, hts⟩ (wL_paint_2 l hst G 83 ad _ 0 S0 hcam 81 x y hx8 hy8 tx ty co h _) (vx_cwSW 7 hts gL_law_L_paint rfl rfl rfl (by decide +kernel) ⟨Nat.le_of_ble_eq_true rfl, Nat.le_of_ble_eq_true rfl⟩) (iPSX hK hV hZt hS hA hP hD [.ref (ad 0), .int (nI x), .int (nI y), .int tx, .int ty, .int co, .ref (ad 81)]) rfl rfl hl.1 rfl (lv_room (Nat.le_of_ble_eq_true rfl)) dL_law_188 ⟨Nat.le_of_ble_eq_true rfl, Nat.le_of_ble_eq_true rfl⟩) hD hS hA (fun r8 u8 H locs hw8 hP hD hS => ?_)
  obtain ⟨hr8, hu8⟩ := hw8
  rw [hu8] at hP hD
  refine lv_asI hr8 ?_
  refine lv_istore (lv' := [(6, .int (nI 1)), (5, .int (nI 0)), (4, .ref (ad 82)), (3, .ref (ad 81)), (2, .ref (ad 74)), (1, .ref (ad 0)), (0, .ref b)]) hx hb dL_law_191 hl (by decide) rfl (fun ls hl => ?_)
  refine lv_aload_n hx hb dL_law_193 rfl (lv_at hl 4 rfl) ?_
  refine lv_aload_n hx hb dL_law_194 rfl (lv_at hl 6 rfl) ?_
  refine lv_iload hx hb dL_law_195 (lv_at hl 1 rfl) ?_
  refine lv_iconst (v := nI 1) hx hb dL_law_197 (by decide) ?_
  refine lv_iadd hx hb dL_law_198 ?_
  refine lv_asI (y := nI 1) (by decide) ?_
  refine va_sld hx hb hX hbl hbA hS (vp_in_nI (by decide) (by decide)) dL_law_199 ?_
  refine lv_asI (y := nI x) ((congrArg xs (nI_clamp (by decide))).trans hx1) ?_
  refine lv_aload_n hx hb dL_law_200 rfl (lv_at hl 6 rfl) ?_
  refine lv_iload hx hb dL_law_201 (lv_at hl 1 rfl) ?_
  refine lv_iconst (v := nI 2) hx hb dL_law_203 (by decide) ?_
  refine lv_iadd hx hb dL_law_204 ?_
  refine lv_asI (y := nI 2) (by decide) ?_
  refine va_sld hx hb hX hbl hbA hS (vp_in_nI (by decide) (by decide)) dL_law_205 ?_
  refine lv_asI (y := nI y) ((congrArg xs (nI_clamp (by decide))).trans hx2) ?_
  refine lv_aload_n hx hb dL_law_206 rfl (lv_at hl 6 rfl) ?_
  refine lv_iload hx hb dL_law_207 (lv_at hl 1 rfl) ?_
  refine lv_iconst (v := nI 3) hx hb dL_law_209 (by decide) ?_
  refine lv_iadd hx hb dL_law_210 ?_
  refine lv_asI (y := nI 3) (by decide) ?_
  refine va_sld hx hb hX hbl hbA hS (vp_in_nI (by decide) (by decide)) dL_law_211 ?_
  refine lv_asI (y := tx) ((congrArg xs (nI_clamp (by decide))).trans hx3) ?_
  refine lv_aload_n hx hb dL_law_212 rfl (lv_at hl 6 rfl) ?_
  refine lv_iload hx hb dL_law_213 (lv_at hl 1 rfl) ?_
  refine lv_iconst (v := nI 4) hx hb dL_law_215 (by decide) ?_
  refine lv_iadd hx hb dL_law_216 ?_
  refine lv_asI (y := nI 4) (by decide) ?_
  refine va_sld hx hb hX hbl hbA hS (vp_in_nI (by decide) (by decide)) dL_law_217 ?_
  refine lv_asI (y := ty) ((congrArg xs (nI_clamp (by decide))).trans hx4) ?_
  refine lv_aload_n hx hb dL_law_218 rfl (lv_at hl 6 rfl) ?_
  refine lv_iload hx hb dL_law_219 (lv_at hl 1 rfl) ?_
  refine lv_iconst (v := nI 5) hx hb dL_law_221 (by decide) ?_
  refine lv_iadd hx hb dL_law_222 ?_
  refine lv_asI (y := nI 5) (by decide) ?_
  refine va_sld hx hb hX hbl hbA hS (vp_in_nI (by decide) (by decide)) dL_law_223 ?_
  refine lv_asI (y := co) ((congrArg xs (nI_clamp (by decide))).trans hx5) ?_
  refine iw_i (va_runV (As := [.int (nI x), .int (nI y), .int tx, .int ty, .int co]) (rest := []) ⟨hx, hb, hml, hown, hts⟩ (kX9_paint_2 l G 83 ad _ 74 dz (nI 0) hmod x y hx8 hy8 tx ty co h _) (cwV 5 hts gL_law_X9_paint rfl rfl rfl (by decide +kernel) ⟨Nat.le_of_ble_eq_true rfl, Nat.le_of_ble_eq_true rfl⟩) (iPV hK hP hD (by decide) (hmod.2.1) rfl [.int (nI x), .int (nI y), .int tx, .int ty, .int co]) rfl rfl hl.1 rfl (lv_room (Nat.le_of_ble_eq_true rfl)) dL_law_224 ⟨Nat.le_of_ble_eq_true rfl, Nat.le_of_ble_eq_true rfl⟩) hD hS hA (fun r9 u9 H locs hw9 hP hD hS => ?_)
  obtain ⟨hr9, ⟨d9, ht9⟩, hm9⟩ := hw9
  refine lv_asI hr9 ?_
  refine lv_istore (lv' := [(7, .int (nI 0)), (6, .int (nI 1)), (5, .int (nI 0)), (4, .ref (ad 82)), (3, .ref (ad 81)), (2, .ref (ad 74)), (1, .ref (ad 0)), (0, .ref b)]) hx hb dL_law_227 hl (by decide) rfl (fun ls hl => ?_)
  refine lv_aload_n hx hb dL_law_229 rfl (lv_at hl 5 rfl) ?_
  refine iw_i (va_runV (As := []) (rest := []) ⟨hx, hb, hml, hown, hts⟩ (kX9_thrown l G 83 ad _ 74 (by decide) (nI 1) d9 ht9 _) (cwV 0 hts gL_law_X9_thrown rfl rfl rfl (by decide +kernel) ⟨Nat.le_of_ble_eq_true rfl, Nat.le_of_ble_eq_true rfl⟩) (iPV hK hP hD (by decide) (ht9) rfl []) rfl rfl hl.1 rfl (lv_room (Nat.le_of_ble_eq_true rfl)) dL_law_230 ⟨Nat.le_of_ble_eq_true rfl, Nat.le_of_ble_eq_true rfl⟩) hD hS hA (fun r7 u7 H locs hw7 hP hD hS => ?_)
  obtain ⟨hr7, hu7⟩ := hw7
  rw [hu7] at hP hD
  refine lv_asI hr7 ?_
  refine lv_iload hx hb dL_law_233 (lv_at hl 1 rfl) ?_
  refine lv_icmp_eq (tgt := 240) hx hb dL_law_235 (by decide) (fun _ => ?_) (fun c9 => absurd (by decide) c9)
  refine lv_iload hx hb dL_law_240 (lv_at hl 1 rfl) ?_
  refine lv_if_ne (tgt := 257) hx hb dL_law_242 (by decide) (fun _ => ?_) (fun c9 => absurd c9 (by decide))
  refine lv_goto (tgt := 1906) hx hb dL_law_257 (by decide) ?_
  refine W.widen (k := 300) (n := 6500) (Nat.le_of_ble_eq_true rfl) (Nat.le_of_ble_eq_true rfl) ?_
  exact kt H locs ls hS (lv_sub hl [2, 7] rfl)
set_option maxHeartbeats 4000000 in
set_option maxRecDepth 100000 in
theorem lc_paint_3 {p : Program} {l : Launch} {e : Env} {s : State} {m : MethodId} {below : List Frame} {meth : Method} {c : Code} {b dz : Nat} {xs : Nat → Int32} {G : iG} {Q : State → Prop} (hst : l.stackTraces = false) (hx : p.tables.exec = Jvm.exec) (hb : c.code = cL_law) (hml : c.maxLocals = 9) (hts : ∀ w ∈ wsL_law, w.before #[Value.ref b] s = true) (hown : s.vm.findClass RL = some m.cls) (hX : va_X b 6 xs s s.heap) (hbl : b < s.heap.size) (hK : KB G s) (hV : VX s) (hZt : ZT (aA s) s s.heap) (hZ : ZD dz (aA s) s s.heap) {ad : Nat → Nat} {C : Nat → va_E} {H : Heap} {locs : List Loc} {ls : Array Slot} (hcam : Cam G 83 ad C 0 S0) (hmod : Mod G 83 ad C 74 dz (nI 0)) (glo : C 81 = la G 1 (fun _ => 0)) (hP : va_P G.1 vwB (wl 83 ad C) H) (hD : va_D (aA s) (wl 83 ad C)) (hS : va_S (aA s) s.heap H locs) (hl : lv_has ls 9 [(5, .int (nI 0)), (4, .ref (ad 82)), (3, .ref (ad 81)), (2, .ref (ad 74)), (1, .ref (ad 0)), (0, .ref b)]) (kt : ∀ (H : Heap) (locs : List Loc) (ls : Array Slot), va_S (aA s) s.heap H locs → lv_has ls 9 [(5, .int (nI 0)), (0, .ref b)] → W p l e room_1 s m #[Value.ref b] below meth c H locs 300 6500 Q (F0 m 1906 ls [])) (x y tx ty : Nat) (hx8 : x < 8) (hy8 : y < 8) (htx : tx < 8) (hty : ty < 8) (co : Int32) (h : tx < x) (hx1 : xs 1 = nI x) (hx2 : xs 2 = nI y) (hx3 : xs 3 = nI tx) (hx4 : xs 4 = nI ty) (hx5 : xs 5 = co) : W p l e room_1 s m #[Value.ref b] below meth c H locs 83 1901 Q (F0 m 156 ls []) := by
  have hbA : ¬ aA s b := Nat.not_le.mpr hbl
  have hA : ∀ q : Nat, s.heap.size ≤ q → aA s q := fun _ h => h
  refine lv_aload_n hx hb dL_law_156 rfl (lv_at hl 4 rfl) ?_
  refine lv_aload_n hx hb dL_law_157 rfl (lv_at hl 5 rfl) ?_
  refine lv_iload hx hb dL_law_158 (lv_at hl 0 rfl) ?_
  refine lv_iconst (v := nI 1) hx hb dL_law_160 (by decide) ?_
  refine lv_iadd hx hb dL_law_161 ?_
  refine lv_asI (y := nI 1) (by decide) ?_
  refine va_sld hx hb hX hbl hbA hS (vp_in_nI (by decide) (by decide)) dL_law_162 ?_
  refine lv_asI (y := nI x) ((congrArg xs (nI_clamp (by decide))).trans hx1) ?_
  refine lv_aload_n hx hb dL_law_163 rfl (lv_at hl 5 rfl) ?_
  refine lv_iload hx hb dL_law_164 (lv_at hl 0 rfl) ?_
  refine lv_iconst (v := nI 2) hx hb dL_law_166 (by decide) ?_
  refine lv_iadd hx hb dL_law_167 ?_
  refine lv_asI (y := nI 2) (by decide) ?_
  refine va_sld hx hb hX hbl hbA hS (vp_in_nI (by decide) (by decide)) dL_law_168 ?_
  refine lv_asI (y := nI y) ((congrArg xs (nI_clamp (by decide))).trans hx2) ?_
  refine lv_aload_n hx hb dL_law_169 rfl (lv_at hl 5 rfl) ?_
  refine lv_iload hx hb dL_law_170 (lv_at hl 0 rfl) ?_
  refine lv_iconst (v := nI 3) hx hb dL_law_172 (by decide) ?_
  refine lv_iadd hx hb dL_law_173 ?_
  refine lv_asI (y := nI 3) (by decide) ?_
  refine va_sld hx hb hX hbl hbA hS (vp_in_nI (by decide) (by decide)) dL_law_174 ?_
  refine lv_asI (y := nI tx) ((congrArg xs (nI_clamp (by decide))).trans hx3) ?_
  refine lv_aload_n hx hb dL_law_175 rfl (lv_at hl 5 rfl) ?_
  refine lv_iload hx hb dL_law_176 (lv_at hl 0 rfl) ?_
  refine lv_iconst (v := nI 4) hx hb dL_law_178 (by decide) ?_
  refine lv_iadd hx hb dL_law_179 ?_
  refine lv_asI (y := nI 4) (by decide) ?_
  refine va_sld hx hb hX hbl hbA hS (vp_in_nI (by decide) (by decide)) dL_law_180 ?_
  refine lv_asI (y := nI ty) ((congrArg xs (nI_clamp (by decide))).trans hx4) ?_
  refine lv_aload_n hx hb dL_law_181 rfl (lv_at hl 5 rfl) ?_
  refine lv_iload hx hb dL_law_182 (lv_at hl 0 rfl) ?_
  refine lv_iconst (v := nI 5) hx hb dL_law_184 (by decide) ?_
  refine lv_iadd hx hb dL_law_185 ?_
  refine lv_asI (y := nI 5) (by decide) ?_
  refine va_sld hx hb hX hbl hbA hS (vp_in_nI (by decide) (by decide)) dL_law_186 ?_
  refine lv_asI (y := co) ((congrArg xs (nI_clamp (by decide))).trans hx5) ?_
  refine lv_aload_n hx hb dL_law_187 rfl (lv_at hl 2 rfl) ?_
  refine iwx_i (vx_runSX (hh := [(0, 16, 19, 13), (0, 16, 23, 15)]) (As := [.ref (ad 0), .int (nI x), .int (nI y), .int (nI tx), .int (nI ty), .int co, .ref (ad 81)]) (rest := []) ⟨hx, hb, hml, hown, hts⟩ (wL_paint_3 l hst G 83 ad _ 0 S0 hcam 81 x y tx ty hx8 hy8 htx hty co h _) (vx_cwSW 7 hts gL_law_L_paint rfl rfl rfl (by decide +kernel) ⟨Nat.le_of_ble_eq_true rfl, Nat.le_of_ble_eq_true rfl⟩) (iPSX hK hV hZt hS hA hP hD [.ref (ad 0), .int (nI x), .int (nI y), .int (nI tx), .int (nI ty), .int co, .ref (ad 81)]) rfl rfl hl.1 rfl (lv_room (Nat.le_of_ble_eq_true rfl)) dL_law_188 ⟨Nat.le_of_ble_eq_true rfl, Nat.le_of_ble_eq_true rfl⟩) hD hS hA (fun r8 u8 H locs hw8 hP hD hS => ?_)
  obtain ⟨hr8, hu8⟩ := hw8
  rw [hu8] at hP hD
  refine lv_asI hr8 ?_
  refine lv_istore (lv' := [(6, .int (nI 2)), (5, .int (nI 0)), (4, .ref (ad 82)), (3, .ref (ad 81)), (2, .ref (ad 74)), (1, .ref (ad 0)), (0, .ref b)]) hx hb dL_law_191 hl (by decide) rfl (fun ls hl => ?_)
  refine lv_aload_n hx hb dL_law_193 rfl (lv_at hl 4 rfl) ?_
  refine lv_aload_n hx hb dL_law_194 rfl (lv_at hl 6 rfl) ?_
  refine lv_iload hx hb dL_law_195 (lv_at hl 1 rfl) ?_
  refine lv_iconst (v := nI 1) hx hb dL_law_197 (by decide) ?_
  refine lv_iadd hx hb dL_law_198 ?_
  refine lv_asI (y := nI 1) (by decide) ?_
  refine va_sld hx hb hX hbl hbA hS (vp_in_nI (by decide) (by decide)) dL_law_199 ?_
  refine lv_asI (y := nI x) ((congrArg xs (nI_clamp (by decide))).trans hx1) ?_
  refine lv_aload_n hx hb dL_law_200 rfl (lv_at hl 6 rfl) ?_
  refine lv_iload hx hb dL_law_201 (lv_at hl 1 rfl) ?_
  refine lv_iconst (v := nI 2) hx hb dL_law_203 (by decide) ?_
  refine lv_iadd hx hb dL_law_204 ?_
  refine lv_asI (y := nI 2) (by decide) ?_
  refine va_sld hx hb hX hbl hbA hS (vp_in_nI (by decide) (by decide)) dL_law_205 ?_
  refine lv_asI (y := nI y) ((congrArg xs (nI_clamp (by decide))).trans hx2) ?_
  refine lv_aload_n hx hb dL_law_206 rfl (lv_at hl 6 rfl) ?_
  refine lv_iload hx hb dL_law_207 (lv_at hl 1 rfl) ?_
  refine lv_iconst (v := nI 3) hx hb dL_law_209 (by decide) ?_
  refine lv_iadd hx hb dL_law_210 ?_
  refine lv_asI (y := nI 3) (by decide) ?_
  refine va_sld hx hb hX hbl hbA hS (vp_in_nI (by decide) (by decide)) dL_law_211 ?_
  refine lv_asI (y := nI tx) ((congrArg xs (nI_clamp (by decide))).trans hx3) ?_
  refine lv_aload_n hx hb dL_law_212 rfl (lv_at hl 6 rfl) ?_
  refine lv_iload hx hb dL_law_213 (lv_at hl 1 rfl) ?_
  refine lv_iconst (v := nI 4) hx hb dL_law_215 (by decide) ?_
  refine lv_iadd hx hb dL_law_216 ?_
  refine lv_asI (y := nI 4) (by decide) ?_
  refine va_sld hx hb hX hbl hbA hS (vp_in_nI (by decide) (by decide)) dL_law_217 ?_
  refine lv_asI (y := nI ty) ((congrArg xs (nI_clamp (by decide))).trans hx4) ?_
  refine lv_aload_n hx hb dL_law_218 rfl (lv_at hl 6 rfl) ?_
  refine lv_iload hx hb dL_law_219 (lv_at hl 1 rfl) ?_
  refine lv_iconst (v := nI 5) hx hb dL_law_221 (by decide) ?_
  refine lv_iadd hx hb dL_law_222 ?_
  refine lv_asI (y := nI 5) (by decide) ?_
  refine va_sld hx hb hX hbl hbA hS (vp_in_nI (by decide) (by decide)) dL_law_223 ?_
  refine lv_asI (y := co) ((congrArg xs (nI_clamp (by decide))).trans hx5) ?_
  refine iw_i (va_runV (As := [.int (nI x), .int (nI y), .int (nI tx), .int (nI ty), .int co]) (rest := []) ⟨hx, hb, hml, hown, hts⟩ (kX9_paint_3 l G 83 ad _ 74 dz (nI 0) hmod x y tx ty hx8 hy8 htx hty co h _) (cwV 5 hts gL_law_X9_paint rfl rfl rfl (by decide +kernel) ⟨Nat.le_of_ble_eq_true rfl, Nat.le_of_ble_eq_true rfl⟩) (iPV hK hP hD (by decide) (hmod.2.1) rfl [.int (nI x), .int (nI y), .int (nI tx), .int (nI ty), .int co]) rfl rfl hl.1 rfl (lv_room (Nat.le_of_ble_eq_true rfl)) dL_law_224 ⟨Nat.le_of_ble_eq_true rfl, Nat.le_of_ble_eq_true rfl⟩) hD hS hA (fun r9 u9 H locs hw9 hP hD hS => ?_)
  obtain ⟨hr9, ⟨d9, ht9⟩, hm9⟩ := hw9
  refine lv_asI hr9 ?_
  refine lv_istore (lv' := [(7, .int (nI 0)), (6, .int (nI 2)), (5, .int (nI 0)), (4, .ref (ad 82)), (3, .ref (ad 81)), (2, .ref (ad 74)), (1, .ref (ad 0)), (0, .ref b)]) hx hb dL_law_227 hl (by decide) rfl (fun ls hl => ?_)
  refine lv_aload_n hx hb dL_law_229 rfl (lv_at hl 5 rfl) ?_
  refine iw_i (va_runV (As := []) (rest := []) ⟨hx, hb, hml, hown, hts⟩ (kX9_thrown l G 83 ad _ 74 (by decide) (nI 2) d9 ht9 _) (cwV 0 hts gL_law_X9_thrown rfl rfl rfl (by decide +kernel) ⟨Nat.le_of_ble_eq_true rfl, Nat.le_of_ble_eq_true rfl⟩) (iPV hK hP hD (by decide) (ht9) rfl []) rfl rfl hl.1 rfl (lv_room (Nat.le_of_ble_eq_true rfl)) dL_law_230 ⟨Nat.le_of_ble_eq_true rfl, Nat.le_of_ble_eq_true rfl⟩) hD hS hA (fun r7 u7 H locs hw7 hP hD hS => ?_)
  obtain ⟨hr7, hu7⟩ := hw7
  rw [hu7] at hP hD
  refine lv_asI hr7 ?_
  refine lv_iload hx hb dL_law_233 (lv_at hl 1 rfl) ?_
  refine lv_icmp_eq (tgt := 240) hx hb dL_law_235 (by decide) (fun _ => ?_) (fun c9 => absurd (by decide) c9)
  refine lv_iload hx hb dL_law_240 (lv_at hl 1 rfl) ?_
  refine lv_if_ne (tgt := 257) hx hb dL_law_242 (by decide) (fun _ => ?_) (fun c9 => absurd c9 (by decide))
  refine lv_goto (tgt := 1906) hx hb dL_law_257 (by decide) ?_
  refine W.widen (k := 300) (n := 6500) (Nat.le_of_ble_eq_true rfl) (Nat.le_of_ble_eq_true rfl) ?_
  exact kt H locs ls hS (lv_sub hl [2, 7] rfl)
set_option maxHeartbeats 4000000 in
set_option maxRecDepth 100000 in
theorem lc_paint_4 {p : Program} {l : Launch} {e : Env} {s : State} {m : MethodId} {below : List Frame} {meth : Method} {c : Code} {b dz : Nat} {xs : Nat → Int32} {G : iG} {Q : State → Prop} (hst : l.stackTraces = false) (hx : p.tables.exec = Jvm.exec) (hb : c.code = cL_law) (hml : c.maxLocals = 9) (hts : ∀ w ∈ wsL_law, w.before #[Value.ref b] s = true) (hown : s.vm.findClass RL = some m.cls) (hX : va_X b 6 xs s s.heap) (hbl : b < s.heap.size) (hK : KB G s) (hV : VX s) (hZt : ZT (aA s) s s.heap) (hZ : ZD dz (aA s) s s.heap) {ad : Nat → Nat} {C : Nat → va_E} {H : Heap} {locs : List Loc} {ls : Array Slot} (hcam : Cam G 83 ad C 0 S0) (hmod : Mod G 83 ad C 74 dz (nI 0)) (glo : C 81 = la G 1 (fun _ => 0)) (hP : va_P G.1 vwB (wl 83 ad C) H) (hD : va_D (aA s) (wl 83 ad C)) (hS : va_S (aA s) s.heap H locs) (hl : lv_has ls 9 [(5, .int (nI 0)), (4, .ref (ad 82)), (3, .ref (ad 81)), (2, .ref (ad 74)), (1, .ref (ad 0)), (0, .ref b)]) (kt : ∀ (H : Heap) (locs : List Loc) (ls : Array Slot), va_S (aA s) s.heap H locs → lv_has ls 9 [(5, .int (nI 0)), (0, .ref b)] → W p l e room_1 s m #[Value.ref b] below meth c H locs 300 6500 Q (F0 m 1906 ls [])) (x y tx ty : Nat) (hx8 : x < 8) (hy8 : y < 8) (htx : tx < 8) (hty : ty < 8) (co : Int32) (h1 : x ≤ tx) (h : ty < y) (hx1 : xs 1 = nI x) (hx2 : xs 2 = nI y) (hx3 : xs 3 = nI tx) (hx4 : xs 4 = nI ty) (hx5 : xs 5 = co) : W p l e room_1 s m #[Value.ref b] below meth c H locs 83 1901 Q (F0 m 156 ls []) := by
  have hbA : ¬ aA s b := Nat.not_le.mpr hbl
  have hA : ∀ q : Nat, s.heap.size ≤ q → aA s q := fun _ h => h
  refine lv_aload_n hx hb dL_law_156 rfl (lv_at hl 4 rfl) ?_
  refine lv_aload_n hx hb dL_law_157 rfl (lv_at hl 5 rfl) ?_
  refine lv_iload hx hb dL_law_158 (lv_at hl 0 rfl) ?_
  refine lv_iconst (v := nI 1) hx hb dL_law_160 (by decide) ?_
  refine lv_iadd hx hb dL_law_161 ?_
  refine lv_asI (y := nI 1) (by decide) ?_
  refine va_sld hx hb hX hbl hbA hS (vp_in_nI (by decide) (by decide)) dL_law_162 ?_
  refine lv_asI (y := nI x) ((congrArg xs (nI_clamp (by decide))).trans hx1) ?_
  refine lv_aload_n hx hb dL_law_163 rfl (lv_at hl 5 rfl) ?_
  refine lv_iload hx hb dL_law_164 (lv_at hl 0 rfl) ?_
  refine lv_iconst (v := nI 2) hx hb dL_law_166 (by decide) ?_
  refine lv_iadd hx hb dL_law_167 ?_
  refine lv_asI (y := nI 2) (by decide) ?_
  refine va_sld hx hb hX hbl hbA hS (vp_in_nI (by decide) (by decide)) dL_law_168 ?_
  refine lv_asI (y := nI y) ((congrArg xs (nI_clamp (by decide))).trans hx2) ?_
  refine lv_aload_n hx hb dL_law_169 rfl (lv_at hl 5 rfl) ?_
  refine lv_iload hx hb dL_law_170 (lv_at hl 0 rfl) ?_
  refine lv_iconst (v := nI 3) hx hb dL_law_172 (by decide) ?_
  refine lv_iadd hx hb dL_law_173 ?_
  refine lv_asI (y := nI 3) (by decide) ?_
  refine va_sld hx hb hX hbl hbA hS (vp_in_nI (by decide) (by decide)) dL_law_174 ?_
  refine lv_asI (y := nI tx) ((congrArg xs (nI_clamp (by decide))).trans hx3) ?_
  refine lv_aload_n hx hb dL_law_175 rfl (lv_at hl 5 rfl) ?_
  refine lv_iload hx hb dL_law_176 (lv_at hl 0 rfl) ?_
  refine lv_iconst (v := nI 4) hx hb dL_law_178 (by decide) ?_
  refine lv_iadd hx hb dL_law_179 ?_
  refine lv_asI (y := nI 4) (by decide) ?_
  refine va_sld hx hb hX hbl hbA hS (vp_in_nI (by decide) (by decide)) dL_law_180 ?_
  refine lv_asI (y := nI ty) ((congrArg xs (nI_clamp (by decide))).trans hx4) ?_
  refine lv_aload_n hx hb dL_law_181 rfl (lv_at hl 5 rfl) ?_
  refine lv_iload hx hb dL_law_182 (lv_at hl 0 rfl) ?_
  refine lv_iconst (v := nI 5) hx hb dL_law_184 (by decide) ?_
  refine lv_iadd hx hb dL_law_185 ?_
  refine lv_asI (y := nI 5) (by decide) ?_
  refine va_sld hx hb hX hbl hbA hS (vp_in_nI (by decide) (by decide)) dL_law_186 ?_
  refine lv_asI (y := co) ((congrArg xs (nI_clamp (by decide))).trans hx5) ?_
  refine lv_aload_n hx hb dL_law_187 rfl (lv_at hl 2 rfl) ?_
  refine iwx_i (vx_runSX (hh := [(0, 16, 19, 13), (0, 16, 23, 15)]) (As := [.ref (ad 0), .int (nI x), .int (nI y), .int (nI tx), .int (nI ty), .int co, .ref (ad 81)]) (rest := []) ⟨hx, hb, hml, hown, hts⟩ (wL_paint_4 l hst G 83 ad _ 0 S0 hcam 81 x y tx ty hx8 hy8 htx hty co h1 h _) (vx_cwSW 7 hts gL_law_L_paint rfl rfl rfl (by decide +kernel) ⟨Nat.le_of_ble_eq_true rfl, Nat.le_of_ble_eq_true rfl⟩) (iPSX hK hV hZt hS hA hP hD [.ref (ad 0), .int (nI x), .int (nI y), .int (nI tx), .int (nI ty), .int co, .ref (ad 81)]) rfl rfl hl.1 rfl (lv_room (Nat.le_of_ble_eq_true rfl)) dL_law_188 ⟨Nat.le_of_ble_eq_true rfl, Nat.le_of_ble_eq_true rfl⟩) hD hS hA (fun r8 u8 H locs hw8 hP hD hS => ?_)
  obtain ⟨hr8, hu8⟩ := hw8
  rw [hu8] at hP hD
  refine lv_asI hr8 ?_
  refine lv_istore (lv' := [(6, .int (nI 2)), (5, .int (nI 0)), (4, .ref (ad 82)), (3, .ref (ad 81)), (2, .ref (ad 74)), (1, .ref (ad 0)), (0, .ref b)]) hx hb dL_law_191 hl (by decide) rfl (fun ls hl => ?_)
  refine lv_aload_n hx hb dL_law_193 rfl (lv_at hl 4 rfl) ?_
  refine lv_aload_n hx hb dL_law_194 rfl (lv_at hl 6 rfl) ?_
  refine lv_iload hx hb dL_law_195 (lv_at hl 1 rfl) ?_
  refine lv_iconst (v := nI 1) hx hb dL_law_197 (by decide) ?_
  refine lv_iadd hx hb dL_law_198 ?_
  refine lv_asI (y := nI 1) (by decide) ?_
  refine va_sld hx hb hX hbl hbA hS (vp_in_nI (by decide) (by decide)) dL_law_199 ?_
  refine lv_asI (y := nI x) ((congrArg xs (nI_clamp (by decide))).trans hx1) ?_
  refine lv_aload_n hx hb dL_law_200 rfl (lv_at hl 6 rfl) ?_
  refine lv_iload hx hb dL_law_201 (lv_at hl 1 rfl) ?_
  refine lv_iconst (v := nI 2) hx hb dL_law_203 (by decide) ?_
  refine lv_iadd hx hb dL_law_204 ?_
  refine lv_asI (y := nI 2) (by decide) ?_
  refine va_sld hx hb hX hbl hbA hS (vp_in_nI (by decide) (by decide)) dL_law_205 ?_
  refine lv_asI (y := nI y) ((congrArg xs (nI_clamp (by decide))).trans hx2) ?_
  refine lv_aload_n hx hb dL_law_206 rfl (lv_at hl 6 rfl) ?_
  refine lv_iload hx hb dL_law_207 (lv_at hl 1 rfl) ?_
  refine lv_iconst (v := nI 3) hx hb dL_law_209 (by decide) ?_
  refine lv_iadd hx hb dL_law_210 ?_
  refine lv_asI (y := nI 3) (by decide) ?_
  refine va_sld hx hb hX hbl hbA hS (vp_in_nI (by decide) (by decide)) dL_law_211 ?_
  refine lv_asI (y := nI tx) ((congrArg xs (nI_clamp (by decide))).trans hx3) ?_
  refine lv_aload_n hx hb dL_law_212 rfl (lv_at hl 6 rfl) ?_
  refine lv_iload hx hb dL_law_213 (lv_at hl 1 rfl) ?_
  refine lv_iconst (v := nI 4) hx hb dL_law_215 (by decide) ?_
  refine lv_iadd hx hb dL_law_216 ?_
  refine lv_asI (y := nI 4) (by decide) ?_
  refine va_sld hx hb hX hbl hbA hS (vp_in_nI (by decide) (by decide)) dL_law_217 ?_
  refine lv_asI (y := nI ty) ((congrArg xs (nI_clamp (by decide))).trans hx4) ?_
  refine lv_aload_n hx hb dL_law_218 rfl (lv_at hl 6 rfl) ?_
  refine lv_iload hx hb dL_law_219 (lv_at hl 1 rfl) ?_
  refine lv_iconst (v := nI 5) hx hb dL_law_221 (by decide) ?_
  refine lv_iadd hx hb dL_law_222 ?_
  refine lv_asI (y := nI 5) (by decide) ?_
  refine va_sld hx hb hX hbl hbA hS (vp_in_nI (by decide) (by decide)) dL_law_223 ?_
  refine lv_asI (y := co) ((congrArg xs (nI_clamp (by decide))).trans hx5) ?_
  refine iw_i (va_runV (As := [.int (nI x), .int (nI y), .int (nI tx), .int (nI ty), .int co]) (rest := []) ⟨hx, hb, hml, hown, hts⟩ (kX9_paint_4 l G 83 ad _ 74 dz (nI 0) hmod x y tx ty hx8 hy8 htx hty co h1 h _) (cwV 5 hts gL_law_X9_paint rfl rfl rfl (by decide +kernel) ⟨Nat.le_of_ble_eq_true rfl, Nat.le_of_ble_eq_true rfl⟩) (iPV hK hP hD (by decide) (hmod.2.1) rfl [.int (nI x), .int (nI y), .int (nI tx), .int (nI ty), .int co]) rfl rfl hl.1 rfl (lv_room (Nat.le_of_ble_eq_true rfl)) dL_law_224 ⟨Nat.le_of_ble_eq_true rfl, Nat.le_of_ble_eq_true rfl⟩) hD hS hA (fun r9 u9 H locs hw9 hP hD hS => ?_)
  obtain ⟨hr9, ⟨d9, ht9⟩, hm9⟩ := hw9
  refine lv_asI hr9 ?_
  refine lv_istore (lv' := [(7, .int (nI 0)), (6, .int (nI 2)), (5, .int (nI 0)), (4, .ref (ad 82)), (3, .ref (ad 81)), (2, .ref (ad 74)), (1, .ref (ad 0)), (0, .ref b)]) hx hb dL_law_227 hl (by decide) rfl (fun ls hl => ?_)
  refine lv_aload_n hx hb dL_law_229 rfl (lv_at hl 5 rfl) ?_
  refine iw_i (va_runV (As := []) (rest := []) ⟨hx, hb, hml, hown, hts⟩ (kX9_thrown l G 83 ad _ 74 (by decide) (nI 2) d9 ht9 _) (cwV 0 hts gL_law_X9_thrown rfl rfl rfl (by decide +kernel) ⟨Nat.le_of_ble_eq_true rfl, Nat.le_of_ble_eq_true rfl⟩) (iPV hK hP hD (by decide) (ht9) rfl []) rfl rfl hl.1 rfl (lv_room (Nat.le_of_ble_eq_true rfl)) dL_law_230 ⟨Nat.le_of_ble_eq_true rfl, Nat.le_of_ble_eq_true rfl⟩) hD hS hA (fun r7 u7 H locs hw7 hP hD hS => ?_)
  obtain ⟨hr7, hu7⟩ := hw7
  rw [hu7] at hP hD
  refine lv_asI hr7 ?_
  refine lv_iload hx hb dL_law_233 (lv_at hl 1 rfl) ?_
  refine lv_icmp_eq (tgt := 240) hx hb dL_law_235 (by decide) (fun _ => ?_) (fun c9 => absurd (by decide) c9)
  refine lv_iload hx hb dL_law_240 (lv_at hl 1 rfl) ?_
  refine lv_if_ne (tgt := 257) hx hb dL_law_242 (by decide) (fun _ => ?_) (fun c9 => absurd c9 (by decide))
  refine lv_goto (tgt := 1906) hx hb dL_law_257 (by decide) ?_
  refine W.widen (k := 300) (n := 6500) (Nat.le_of_ble_eq_true rfl) (Nat.le_of_ble_eq_true rfl) ?_
  exact kt H locs ls hS (lv_sub hl [2, 7] rfl)
set_option maxHeartbeats 4000000 in
set_option maxRecDepth 100000 in
theorem lc_paint_5 {p : Program} {l : Launch} {e : Env} {s : State} {m : MethodId} {below : List Frame} {meth : Method} {c : Code} {b dz : Nat} {xs : Nat → Int32} {G : iG} {Q : State → Prop} (hst : l.stackTraces = false) (hx : p.tables.exec = Jvm.exec) (hb : c.code = cL_law) (hml : c.maxLocals = 9) (hts : ∀ w ∈ wsL_law, w.before #[Value.ref b] s = true) (hown : s.vm.findClass RL = some m.cls) (hX : va_X b 6 xs s s.heap) (hbl : b < s.heap.size) (hK : KB G s) (hV : VX s) (hZt : ZT (aA s) s s.heap) (hZ : ZD dz (aA s) s s.heap) {ad : Nat → Nat} {C : Nat → va_E} {H : Heap} {locs : List Loc} {ls : Array Slot} (hcam : Cam G 83 ad C 0 S0) (hmod : Mod G 83 ad C 74 dz (nI 0)) (glo : C 81 = la G 1 (fun _ => 0)) (hP : va_P G.1 vwB (wl 83 ad C) H) (hD : va_D (aA s) (wl 83 ad C)) (hS : va_S (aA s) s.heap H locs) (hl : lv_has ls 9 [(5, .int (nI 0)), (4, .ref (ad 82)), (3, .ref (ad 81)), (2, .ref (ad 74)), (1, .ref (ad 0)), (0, .ref b)]) (kt : ∀ (H : Heap) (locs : List Loc) (ls : Array Slot), va_S (aA s) s.heap H locs → lv_has ls 9 [(5, .int (nI 0)), (0, .ref b)] → W p l e room_1 s m #[Value.ref b] below meth c H locs 300 6500 Q (F0 m 1906 ls [])) (x y tx ty : Nat) (hx8 : x < 8) (hy8 : y < 8) (htx : tx < 8) (hty : ty < 8) (co : Int32) (h1 : x ≤ tx) (h2 : y ≤ ty) (h : co < nI 0 ∨ nI 16777215 < co) (hx1 : xs 1 = nI x) (hx2 : xs 2 = nI y) (hx3 : xs 3 = nI tx) (hx4 : xs 4 = nI ty) (hx5 : xs 5 = co) : W p l e room_1 s m #[Value.ref b] below meth c H locs 83 1901 Q (F0 m 156 ls []) := by
  have hbA : ¬ aA s b := Nat.not_le.mpr hbl
  have hA : ∀ q : Nat, s.heap.size ≤ q → aA s q := fun _ h => h
  refine lv_aload_n hx hb dL_law_156 rfl (lv_at hl 4 rfl) ?_
  refine lv_aload_n hx hb dL_law_157 rfl (lv_at hl 5 rfl) ?_
  refine lv_iload hx hb dL_law_158 (lv_at hl 0 rfl) ?_
  refine lv_iconst (v := nI 1) hx hb dL_law_160 (by decide) ?_
  refine lv_iadd hx hb dL_law_161 ?_
  refine lv_asI (y := nI 1) (by decide) ?_
  refine va_sld hx hb hX hbl hbA hS (vp_in_nI (by decide) (by decide)) dL_law_162 ?_
  refine lv_asI (y := nI x) ((congrArg xs (nI_clamp (by decide))).trans hx1) ?_
  refine lv_aload_n hx hb dL_law_163 rfl (lv_at hl 5 rfl) ?_
  refine lv_iload hx hb dL_law_164 (lv_at hl 0 rfl) ?_
  refine lv_iconst (v := nI 2) hx hb dL_law_166 (by decide) ?_
  refine lv_iadd hx hb dL_law_167 ?_
  refine lv_asI (y := nI 2) (by decide) ?_
  refine va_sld hx hb hX hbl hbA hS (vp_in_nI (by decide) (by decide)) dL_law_168 ?_
  refine lv_asI (y := nI y) ((congrArg xs (nI_clamp (by decide))).trans hx2) ?_
  refine lv_aload_n hx hb dL_law_169 rfl (lv_at hl 5 rfl) ?_
  refine lv_iload hx hb dL_law_170 (lv_at hl 0 rfl) ?_
  refine lv_iconst (v := nI 3) hx hb dL_law_172 (by decide) ?_
  refine lv_iadd hx hb dL_law_173 ?_
  refine lv_asI (y := nI 3) (by decide) ?_
  refine va_sld hx hb hX hbl hbA hS (vp_in_nI (by decide) (by decide)) dL_law_174 ?_
  refine lv_asI (y := nI tx) ((congrArg xs (nI_clamp (by decide))).trans hx3) ?_
  refine lv_aload_n hx hb dL_law_175 rfl (lv_at hl 5 rfl) ?_
  refine lv_iload hx hb dL_law_176 (lv_at hl 0 rfl) ?_
  refine lv_iconst (v := nI 4) hx hb dL_law_178 (by decide) ?_
  refine lv_iadd hx hb dL_law_179 ?_
  refine lv_asI (y := nI 4) (by decide) ?_
  refine va_sld hx hb hX hbl hbA hS (vp_in_nI (by decide) (by decide)) dL_law_180 ?_
  refine lv_asI (y := nI ty) ((congrArg xs (nI_clamp (by decide))).trans hx4) ?_
  refine lv_aload_n hx hb dL_law_181 rfl (lv_at hl 5 rfl) ?_
  refine lv_iload hx hb dL_law_182 (lv_at hl 0 rfl) ?_
  refine lv_iconst (v := nI 5) hx hb dL_law_184 (by decide) ?_
  refine lv_iadd hx hb dL_law_185 ?_
  refine lv_asI (y := nI 5) (by decide) ?_
  refine va_sld hx hb hX hbl hbA hS (vp_in_nI (by decide) (by decide)) dL_law_186 ?_
  refine lv_asI (y := co) ((congrArg xs (nI_clamp (by decide))).trans hx5) ?_
  refine lv_aload_n hx hb dL_law_187 rfl (lv_at hl 2 rfl) ?_
  refine iwx_i (vx_runSX (hh := [(0, 16, 19, 13), (0, 16, 23, 15)]) (As := [.ref (ad 0), .int (nI x), .int (nI y), .int (nI tx), .int (nI ty), .int co, .ref (ad 81)]) (rest := []) ⟨hx, hb, hml, hown, hts⟩ (wL_paint_5 l hst G 83 ad _ 0 S0 hcam 81 x y tx ty hx8 hy8 htx hty co h1 h2 h _) (vx_cwSW 7 hts gL_law_L_paint rfl rfl rfl (by decide +kernel) ⟨Nat.le_of_ble_eq_true rfl, Nat.le_of_ble_eq_true rfl⟩) (iPSX hK hV hZt hS hA hP hD [.ref (ad 0), .int (nI x), .int (nI y), .int (nI tx), .int (nI ty), .int co, .ref (ad 81)]) rfl rfl hl.1 rfl (lv_room (Nat.le_of_ble_eq_true rfl)) dL_law_188 ⟨Nat.le_of_ble_eq_true rfl, Nat.le_of_ble_eq_true rfl⟩) hD hS hA (fun r8 u8 H locs hw8 hP hD hS => ?_)
  obtain ⟨hr8, hu8⟩ := hw8
  rw [hu8] at hP hD
  refine lv_asI hr8 ?_
  refine lv_istore (lv' := [(6, .int (nI 2)), (5, .int (nI 0)), (4, .ref (ad 82)), (3, .ref (ad 81)), (2, .ref (ad 74)), (1, .ref (ad 0)), (0, .ref b)]) hx hb dL_law_191 hl (by decide) rfl (fun ls hl => ?_)
  refine lv_aload_n hx hb dL_law_193 rfl (lv_at hl 4 rfl) ?_
  refine lv_aload_n hx hb dL_law_194 rfl (lv_at hl 6 rfl) ?_
  refine lv_iload hx hb dL_law_195 (lv_at hl 1 rfl) ?_
  refine lv_iconst (v := nI 1) hx hb dL_law_197 (by decide) ?_
  refine lv_iadd hx hb dL_law_198 ?_
  refine lv_asI (y := nI 1) (by decide) ?_
  refine va_sld hx hb hX hbl hbA hS (vp_in_nI (by decide) (by decide)) dL_law_199 ?_
  refine lv_asI (y := nI x) ((congrArg xs (nI_clamp (by decide))).trans hx1) ?_
  refine lv_aload_n hx hb dL_law_200 rfl (lv_at hl 6 rfl) ?_
  refine lv_iload hx hb dL_law_201 (lv_at hl 1 rfl) ?_
  refine lv_iconst (v := nI 2) hx hb dL_law_203 (by decide) ?_
  refine lv_iadd hx hb dL_law_204 ?_
  refine lv_asI (y := nI 2) (by decide) ?_
  refine va_sld hx hb hX hbl hbA hS (vp_in_nI (by decide) (by decide)) dL_law_205 ?_
  refine lv_asI (y := nI y) ((congrArg xs (nI_clamp (by decide))).trans hx2) ?_
  refine lv_aload_n hx hb dL_law_206 rfl (lv_at hl 6 rfl) ?_
  refine lv_iload hx hb dL_law_207 (lv_at hl 1 rfl) ?_
  refine lv_iconst (v := nI 3) hx hb dL_law_209 (by decide) ?_
  refine lv_iadd hx hb dL_law_210 ?_
  refine lv_asI (y := nI 3) (by decide) ?_
  refine va_sld hx hb hX hbl hbA hS (vp_in_nI (by decide) (by decide)) dL_law_211 ?_
  refine lv_asI (y := nI tx) ((congrArg xs (nI_clamp (by decide))).trans hx3) ?_
  refine lv_aload_n hx hb dL_law_212 rfl (lv_at hl 6 rfl) ?_
  refine lv_iload hx hb dL_law_213 (lv_at hl 1 rfl) ?_
  refine lv_iconst (v := nI 4) hx hb dL_law_215 (by decide) ?_
  refine lv_iadd hx hb dL_law_216 ?_
  refine lv_asI (y := nI 4) (by decide) ?_
  refine va_sld hx hb hX hbl hbA hS (vp_in_nI (by decide) (by decide)) dL_law_217 ?_
  refine lv_asI (y := nI ty) ((congrArg xs (nI_clamp (by decide))).trans hx4) ?_
  refine lv_aload_n hx hb dL_law_218 rfl (lv_at hl 6 rfl) ?_
  refine lv_iload hx hb dL_law_219 (lv_at hl 1 rfl) ?_
  refine lv_iconst (v := nI 5) hx hb dL_law_221 (by decide) ?_
  refine lv_iadd hx hb dL_law_222 ?_
  refine lv_asI (y := nI 5) (by decide) ?_
  refine va_sld hx hb hX hbl hbA hS (vp_in_nI (by decide) (by decide)) dL_law_223 ?_
  refine lv_asI (y := co) ((congrArg xs (nI_clamp (by decide))).trans hx5) ?_
  refine iw_i (va_runV (As := [.int (nI x), .int (nI y), .int (nI tx), .int (nI ty), .int co]) (rest := []) ⟨hx, hb, hml, hown, hts⟩ (kX9_paint_5 l G 83 ad _ 74 dz (nI 0) hmod x y tx ty hx8 hy8 htx hty co h1 h2 h _) (cwV 5 hts gL_law_X9_paint rfl rfl rfl (by decide +kernel) ⟨Nat.le_of_ble_eq_true rfl, Nat.le_of_ble_eq_true rfl⟩) (iPV hK hP hD (by decide) (hmod.2.1) rfl [.int (nI x), .int (nI y), .int (nI tx), .int (nI ty), .int co]) rfl rfl hl.1 rfl (lv_room (Nat.le_of_ble_eq_true rfl)) dL_law_224 ⟨Nat.le_of_ble_eq_true rfl, Nat.le_of_ble_eq_true rfl⟩) hD hS hA (fun r9 u9 H locs hw9 hP hD hS => ?_)
  obtain ⟨hr9, ⟨d9, ht9⟩, hm9⟩ := hw9
  refine lv_asI hr9 ?_
  refine lv_istore (lv' := [(7, .int (nI 0)), (6, .int (nI 2)), (5, .int (nI 0)), (4, .ref (ad 82)), (3, .ref (ad 81)), (2, .ref (ad 74)), (1, .ref (ad 0)), (0, .ref b)]) hx hb dL_law_227 hl (by decide) rfl (fun ls hl => ?_)
  refine lv_aload_n hx hb dL_law_229 rfl (lv_at hl 5 rfl) ?_
  refine iw_i (va_runV (As := []) (rest := []) ⟨hx, hb, hml, hown, hts⟩ (kX9_thrown l G 83 ad _ 74 (by decide) (nI 2) d9 ht9 _) (cwV 0 hts gL_law_X9_thrown rfl rfl rfl (by decide +kernel) ⟨Nat.le_of_ble_eq_true rfl, Nat.le_of_ble_eq_true rfl⟩) (iPV hK hP hD (by decide) (ht9) rfl []) rfl rfl hl.1 rfl (lv_room (Nat.le_of_ble_eq_true rfl)) dL_law_230 ⟨Nat.le_of_ble_eq_true rfl, Nat.le_of_ble_eq_true rfl⟩) hD hS hA (fun r7 u7 H locs hw7 hP hD hS => ?_)
  obtain ⟨hr7, hu7⟩ := hw7
  rw [hu7] at hP hD
  refine lv_asI hr7 ?_
  refine lv_iload hx hb dL_law_233 (lv_at hl 1 rfl) ?_
  refine lv_icmp_eq (tgt := 240) hx hb dL_law_235 (by decide) (fun _ => ?_) (fun c9 => absurd (by decide) c9)
  refine lv_iload hx hb dL_law_240 (lv_at hl 1 rfl) ?_
  refine lv_if_ne (tgt := 257) hx hb dL_law_242 (by decide) (fun _ => ?_) (fun c9 => absurd c9 (by decide))
  refine lv_goto (tgt := 1906) hx hb dL_law_257 (by decide) ?_
  refine W.widen (k := 300) (n := 6500) (Nat.le_of_ble_eq_true rfl) (Nat.le_of_ble_eq_true rfl) ?_
  exact kt H locs ls hS (lv_sub hl [2, 7] rfl)
set_option maxHeartbeats 4000000 in
set_option maxRecDepth 100000 in
theorem lc_paint_v {p : Program} {l : Launch} {e : Env} {s : State} {m : MethodId} {below : List Frame} {meth : Method} {c : Code} {b dz : Nat} {xs : Nat → Int32} {G : iG} {Q : State → Prop} (hst : l.stackTraces = false) (hx : p.tables.exec = Jvm.exec) (hb : c.code = cL_law) (hml : c.maxLocals = 9) (hts : ∀ w ∈ wsL_law, w.before #[Value.ref b] s = true) (hown : s.vm.findClass RL = some m.cls) (hX : va_X b 6 xs s s.heap) (hbl : b < s.heap.size) (hK : KB G s) (hV : VX s) (hZt : ZT (aA s) s s.heap) (hZ : ZD dz (aA s) s s.heap) {ad : Nat → Nat} {C : Nat → va_E} {H : Heap} {locs : List Loc} {ls : Array Slot} (hcam : Cam G 83 ad C 0 S0) (hmod : Mod G 83 ad C 74 dz (nI 0)) (glo : C 81 = la G 1 (fun _ => 0)) (hP : va_P G.1 vwB (wl 83 ad C) H) (hD : va_D (aA s) (wl 83 ad C)) (hS : va_S (aA s) s.heap H locs) (hl : lv_has ls 9 [(5, .int (nI 0)), (4, .ref (ad 82)), (3, .ref (ad 81)), (2, .ref (ad 74)), (1, .ref (ad 0)), (0, .ref b)]) (kt : ∀ (H : Heap) (locs : List Loc) (ls : Array Slot), va_S (aA s) s.heap H locs → lv_has ls 9 [(5, .int (nI 0)), (0, .ref b)] → W p l e room_1 s m #[Value.ref b] below meth c H locs 300 6500 Q (F0 m 1906 ls [])) (x y tx ty co : Nat) (hxy : x ≤ tx ∧ tx < 8 ∧ y ≤ ty ∧ ty < 8) (hco : co < 16777216) (hx1 : xs 1 = nI x) (hx2 : xs 2 = nI y) (hx3 : xs 3 = nI tx) (hx4 : xs 4 = nI ty) (hx5 : xs 5 = nI co) : W p l e room_1 s m #[Value.ref b] below meth c H locs 83 1901 Q (F0 m 156 ls []) := by
  have hbA : ¬ aA s b := Nat.not_le.mpr hbl
  have hA : ∀ q : Nat, s.heap.size ≤ q → aA s q := fun _ h => h
  refine lv_aload_n hx hb dL_law_156 rfl (lv_at hl 4 rfl) ?_
  refine lv_aload_n hx hb dL_law_157 rfl (lv_at hl 5 rfl) ?_
  refine lv_iload hx hb dL_law_158 (lv_at hl 0 rfl) ?_
  refine lv_iconst (v := nI 1) hx hb dL_law_160 (by decide) ?_
  refine lv_iadd hx hb dL_law_161 ?_
  refine lv_asI (y := nI 1) (by decide) ?_
  refine va_sld hx hb hX hbl hbA hS (vp_in_nI (by decide) (by decide)) dL_law_162 ?_
  refine lv_asI (y := nI x) ((congrArg xs (nI_clamp (by decide))).trans hx1) ?_
  refine lv_aload_n hx hb dL_law_163 rfl (lv_at hl 5 rfl) ?_
  refine lv_iload hx hb dL_law_164 (lv_at hl 0 rfl) ?_
  refine lv_iconst (v := nI 2) hx hb dL_law_166 (by decide) ?_
  refine lv_iadd hx hb dL_law_167 ?_
  refine lv_asI (y := nI 2) (by decide) ?_
  refine va_sld hx hb hX hbl hbA hS (vp_in_nI (by decide) (by decide)) dL_law_168 ?_
  refine lv_asI (y := nI y) ((congrArg xs (nI_clamp (by decide))).trans hx2) ?_
  refine lv_aload_n hx hb dL_law_169 rfl (lv_at hl 5 rfl) ?_
  refine lv_iload hx hb dL_law_170 (lv_at hl 0 rfl) ?_
  refine lv_iconst (v := nI 3) hx hb dL_law_172 (by decide) ?_
  refine lv_iadd hx hb dL_law_173 ?_
  refine lv_asI (y := nI 3) (by decide) ?_
  refine va_sld hx hb hX hbl hbA hS (vp_in_nI (by decide) (by decide)) dL_law_174 ?_
  refine lv_asI (y := nI tx) ((congrArg xs (nI_clamp (by decide))).trans hx3) ?_
  refine lv_aload_n hx hb dL_law_175 rfl (lv_at hl 5 rfl) ?_
  refine lv_iload hx hb dL_law_176 (lv_at hl 0 rfl) ?_
  refine lv_iconst (v := nI 4) hx hb dL_law_178 (by decide) ?_
  refine lv_iadd hx hb dL_law_179 ?_
  refine lv_asI (y := nI 4) (by decide) ?_
  refine va_sld hx hb hX hbl hbA hS (vp_in_nI (by decide) (by decide)) dL_law_180 ?_
  refine lv_asI (y := nI ty) ((congrArg xs (nI_clamp (by decide))).trans hx4) ?_
  refine lv_aload_n hx hb dL_law_181 rfl (lv_at hl 5 rfl) ?_
  refine lv_iload hx hb dL_law_182 (lv_at hl 0 rfl) ?_
  refine lv_iconst (v := nI 5) hx hb dL_law_184 (by decide) ?_
  refine lv_iadd hx hb dL_law_185 ?_
  refine lv_asI (y := nI 5) (by decide) ?_
  refine va_sld hx hb hX hbl hbA hS (vp_in_nI (by decide) (by decide)) dL_law_186 ?_
  refine lv_asI (y := nI co) ((congrArg xs (nI_clamp (by decide))).trans hx5) ?_
  refine lv_aload_n hx hb dL_law_187 rfl (lv_at hl 2 rfl) ?_
  refine iwx_i (vx_runSX (hh := [(0, 16, 19, 13), (0, 16, 23, 15)]) (As := [.ref (ad 0), .int (nI x), .int (nI y), .int (nI tx), .int (nI ty), .int (nI co), .ref (ad 81)]) (rest := []) ⟨hx, hb, hml, hown, hts⟩ (wL_paint l G 83 ad _ 0 S0 hcam 81 (by decide) (Or.inr (by decide)) _ glo x y tx ty co hxy hco _) (vx_cwSW 7 hts gL_law_L_paint rfl rfl rfl (by decide +kernel) ⟨Nat.le_of_ble_eq_true rfl, Nat.le_of_ble_eq_true rfl⟩) (iPSX hK hV hZt hS hA hP hD [.ref (ad 0), .int (nI x), .int (nI y), .int (nI tx), .int (nI ty), .int (nI co), .ref (ad 81)]) rfl rfl hl.1 rfl (lv_room (Nat.le_of_ble_eq_true rfl)) dL_law_188 ⟨Nat.le_of_ble_eq_true rfl, Nat.le_of_ble_eq_true rfl⟩) hD hS hA (fun r8 u8 H locs hw8 hP hD hS => ?_)
  obtain ⟨hr8, ⟨f8, hf8, hv8⟩, hs8⟩ := hw8
  refine lv_asI hr8 ?_
  have hmod := Mod_same hmod (fun i h1 h2 => hs8 i (Or.inr (by omega)) (by omega))
  refine lv_istore (lv' := [(6, .int (nI 0)), (5, .int (nI 0)), (4, .ref (ad 82)), (3, .ref (ad 81)), (2, .ref (ad 74)), (1, .ref (ad 0)), (0, .ref b)]) hx hb dL_law_191 hl (by decide) rfl (fun ls hl => ?_)
  refine lv_aload_n hx hb dL_law_193 rfl (lv_at hl 4 rfl) ?_
  refine lv_aload_n hx hb dL_law_194 rfl (lv_at hl 6 rfl) ?_
  refine lv_iload hx hb dL_law_195 (lv_at hl 1 rfl) ?_
  refine lv_iconst (v := nI 1) hx hb dL_law_197 (by decide) ?_
  refine lv_iadd hx hb dL_law_198 ?_
  refine lv_asI (y := nI 1) (by decide) ?_
  refine va_sld hx hb hX hbl hbA hS (vp_in_nI (by decide) (by decide)) dL_law_199 ?_
  refine lv_asI (y := nI x) ((congrArg xs (nI_clamp (by decide))).trans hx1) ?_
  refine lv_aload_n hx hb dL_law_200 rfl (lv_at hl 6 rfl) ?_
  refine lv_iload hx hb dL_law_201 (lv_at hl 1 rfl) ?_
  refine lv_iconst (v := nI 2) hx hb dL_law_203 (by decide) ?_
  refine lv_iadd hx hb dL_law_204 ?_
  refine lv_asI (y := nI 2) (by decide) ?_
  refine va_sld hx hb hX hbl hbA hS (vp_in_nI (by decide) (by decide)) dL_law_205 ?_
  refine lv_asI (y := nI y) ((congrArg xs (nI_clamp (by decide))).trans hx2) ?_
  refine lv_aload_n hx hb dL_law_206 rfl (lv_at hl 6 rfl) ?_
  refine lv_iload hx hb dL_law_207 (lv_at hl 1 rfl) ?_
  refine lv_iconst (v := nI 3) hx hb dL_law_209 (by decide) ?_
  refine lv_iadd hx hb dL_law_210 ?_
  refine lv_asI (y := nI 3) (by decide) ?_
  refine va_sld hx hb hX hbl hbA hS (vp_in_nI (by decide) (by decide)) dL_law_211 ?_
  refine lv_asI (y := nI tx) ((congrArg xs (nI_clamp (by decide))).trans hx3) ?_
  refine lv_aload_n hx hb dL_law_212 rfl (lv_at hl 6 rfl) ?_
  refine lv_iload hx hb dL_law_213 (lv_at hl 1 rfl) ?_
  refine lv_iconst (v := nI 4) hx hb dL_law_215 (by decide) ?_
  refine lv_iadd hx hb dL_law_216 ?_
  refine lv_asI (y := nI 4) (by decide) ?_
  refine va_sld hx hb hX hbl hbA hS (vp_in_nI (by decide) (by decide)) dL_law_217 ?_
  refine lv_asI (y := nI ty) ((congrArg xs (nI_clamp (by decide))).trans hx4) ?_
  refine lv_aload_n hx hb dL_law_218 rfl (lv_at hl 6 rfl) ?_
  refine lv_iload hx hb dL_law_219 (lv_at hl 1 rfl) ?_
  refine lv_iconst (v := nI 5) hx hb dL_law_221 (by decide) ?_
  refine lv_iadd hx hb dL_law_222 ?_
  refine lv_asI (y := nI 5) (by decide) ?_
  refine va_sld hx hb hX hbl hbA hS (vp_in_nI (by decide) (by decide)) dL_law_223 ?_
  refine lv_asI (y := nI co) ((congrArg xs (nI_clamp (by decide))).trans hx5) ?_
  refine iw_i (va_runV (As := [.int (nI x), .int (nI y), .int (nI tx), .int (nI ty), .int (nI co)]) (rest := []) ⟨hx, hb, hml, hown, hts⟩ (kX9_paint l G 83 ad _ 74 dz (nI 0) hmod x y tx ty co hxy hco _) (cwV 5 hts gL_law_X9_paint rfl rfl rfl (by decide +kernel) ⟨Nat.le_of_ble_eq_true rfl, Nat.le_of_ble_eq_true rfl⟩) (iPV hK hP hD (by decide) (hmod.2.1) rfl [.int (nI x), .int (nI y), .int (nI tx), .int (nI ty), .int (nI co)]) rfl rfl hl.1 rfl (lv_room (Nat.le_of_ble_eq_true rfl)) dL_law_224 ⟨Nat.le_of_ble_eq_true rfl, Nat.le_of_ble_eq_true rfl⟩) hD hS hA (fun r9 u9 H locs hw9 hP hD hS => ?_)
  obtain ⟨hr9, ⟨d9, ht9⟩, hm9⟩ := hw9
  refine lv_asI hr9 ?_
  refine lv_istore (lv' := [(7, .int (nI ((tx - x + 1) * (ty - y + 1)))), (6, .int (nI 0)), (5, .int (nI 0)), (4, .ref (ad 82)), (3, .ref (ad 81)), (2, .ref (ad 74)), (1, .ref (ad 0)), (0, .ref b)]) hx hb dL_law_227 hl (by decide) rfl (fun ls hl => ?_)
  refine lv_aload_n hx hb dL_law_229 rfl (lv_at hl 5 rfl) ?_
  refine iw_i (va_runV (As := []) (rest := []) ⟨hx, hb, hml, hown, hts⟩ (kX9_thrown l G 83 ad _ 74 (by decide) (nI 0) d9 ht9 _) (cwV 0 hts gL_law_X9_thrown rfl rfl rfl (by decide +kernel) ⟨Nat.le_of_ble_eq_true rfl, Nat.le_of_ble_eq_true rfl⟩) (iPV hK hP hD (by decide) (ht9) rfl []) rfl rfl hl.1 rfl (lv_room (Nat.le_of_ble_eq_true rfl)) dL_law_230 ⟨Nat.le_of_ble_eq_true rfl, Nat.le_of_ble_eq_true rfl⟩) hD hS hA (fun r7 u7 H locs hw7 hP hD hS => ?_)
  obtain ⟨hr7, hu7⟩ := hw7
  rw [hu7] at hP hD
  refine lv_asI hr7 ?_
  refine lv_iload hx hb dL_law_233 (lv_at hl 1 rfl) ?_
  refine lv_icmp_eq (tgt := 240) hx hb dL_law_235 (by decide) (fun _ => ?_) (fun c9 => absurd (by decide) c9)
  refine lv_iload hx hb dL_law_240 (lv_at hl 1 rfl) ?_
  refine lv_if_ne (tgt := 257) hx hb dL_law_242 (by decide) (fun c9 => absurd (by decide) c9) (fun _ => ?_)
  refine lv_aload_n hx hb dL_law_245 rfl (lv_at hl 4 rfl) ?_
  refine lv_iconst (v := nI 0) hx hb dL_law_246 (by decide) ?_
  refine iw_lald (v := ((nI ((tx - x + 1) * (ty - y + 1)))).toInt64) hx hb hK hP (by decide) (((hm9 81 (Or.inr (by decide))).trans hf8)) (vp_in_nI (show 0 < 1 by omega) (by omega)) ((congrArg f8 (nI_clamp (by decide))).trans hv8) dL_law_247 ?_
  refine lv_iload hx hb dL_law_248 (lv_at hl 0 rfl) ?_
  refine lv_i2l (v := (nI ((tx - x + 1) * (ty - y + 1))).toInt64) hx hb dL_law_250 rfl ?_
  refine lv_lcmpE hx hb dL_law_251 ?_
  refine lv_if_eq (tgt := 257) hx hb dL_law_252 (by decide) (fun _ => ?_) (fun c9 => absurd (by decide) c9)
  refine lv_goto (tgt := 1906) hx hb dL_law_257 (by decide) ?_
  refine W.widen (k := 300) (n := 6500) (Nat.le_of_ble_eq_true rfl) (Nat.le_of_ble_eq_true rfl) ?_
  exact kt H locs ls hS (lv_sub hl [2, 7] rfl)
set_option maxHeartbeats 4000000 in
set_option maxRecDepth 100000 in
theorem lc_lamp_1 {p : Program} {l : Launch} {e : Env} {s : State} {m : MethodId} {below : List Frame} {meth : Method} {c : Code} {b dz : Nat} {xs : Nat → Int32} {G : iG} {Q : State → Prop} (hst : l.stackTraces = false) (hx : p.tables.exec = Jvm.exec) (hb : c.code = cL_law) (hml : c.maxLocals = 9) (hts : ∀ w ∈ wsL_law, w.before #[Value.ref b] s = true) (hown : s.vm.findClass RL = some m.cls) (hX : va_X b 6 xs s s.heap) (hbl : b < s.heap.size) (hK : KB G s) (hV : VX s) (hZt : ZT (aA s) s s.heap) (hZ : ZD dz (aA s) s s.heap) {ad : Nat → Nat} {C : Nat → va_E} {H : Heap} {locs : List Loc} {ls : Array Slot} (hcam : Cam G 83 ad C 0 S0) (hmod : Mod G 83 ad C 74 dz (nI 0)) (glo : C 81 = la G 1 (fun _ => 0)) (hP : va_P G.1 vwB (wl 83 ad C) H) (hD : va_D (aA s) (wl 83 ad C)) (hS : va_S (aA s) s.heap H locs) (hl : lv_has ls 9 [(5, .int (nI 0)), (4, .ref (ad 82)), (3, .ref (ad 81)), (2, .ref (ad 74)), (1, .ref (ad 0)), (0, .ref b)]) (kt : ∀ (H : Heap) (locs : List Loc) (ls : Array Slot), va_S (aA s) s.heap H locs → lv_has ls 9 [(5, .int (nI 0)), (0, .ref b)] → W p l e room_1 s m #[Value.ref b] below meth c H locs 300 6500 Q (F0 m 1906 ls [])) (r1 g1 b1 : Int32) (h : r1 < nI 1 ∨ nI 16 < r1) (hx1 : xs 1 = r1) (hx2 : xs 2 = g1) (hx3 : xs 3 = b1) : W p l e room_1 s m #[Value.ref b] below meth c H locs 83 1901 Q (F0 m 260 ls []) := by
  have hbA : ¬ aA s b := Nat.not_le.mpr hbl
  have hA : ∀ q : Nat, s.heap.size ≤ q → aA s q := fun _ h => h
  refine lv_aload_n hx hb dL_law_260 rfl (lv_at hl 4 rfl) ?_
  refine lv_aload_n hx hb dL_law_261 rfl (lv_at hl 5 rfl) ?_
  refine lv_iload hx hb dL_law_262 (lv_at hl 0 rfl) ?_
  refine lv_iconst (v := nI 1) hx hb dL_law_264 (by decide) ?_
  refine lv_iadd hx hb dL_law_265 ?_
  refine lv_asI (y := nI 1) (by decide) ?_
  refine va_sld hx hb hX hbl hbA hS (vp_in_nI (by decide) (by decide)) dL_law_266 ?_
  refine lv_asI (y := r1) ((congrArg xs (nI_clamp (by decide))).trans hx1) ?_
  refine lv_aload_n hx hb dL_law_267 rfl (lv_at hl 5 rfl) ?_
  refine lv_iload hx hb dL_law_268 (lv_at hl 0 rfl) ?_
  refine lv_iconst (v := nI 2) hx hb dL_law_270 (by decide) ?_
  refine lv_iadd hx hb dL_law_271 ?_
  refine lv_asI (y := nI 2) (by decide) ?_
  refine va_sld hx hb hX hbl hbA hS (vp_in_nI (by decide) (by decide)) dL_law_272 ?_
  refine lv_asI (y := g1) ((congrArg xs (nI_clamp (by decide))).trans hx2) ?_
  refine lv_aload_n hx hb dL_law_273 rfl (lv_at hl 5 rfl) ?_
  refine lv_iload hx hb dL_law_274 (lv_at hl 0 rfl) ?_
  refine lv_iconst (v := nI 3) hx hb dL_law_276 (by decide) ?_
  refine lv_iadd hx hb dL_law_277 ?_
  refine lv_asI (y := nI 3) (by decide) ?_
  refine va_sld hx hb hX hbl hbA hS (vp_in_nI (by decide) (by decide)) dL_law_278 ?_
  refine lv_asI (y := b1) ((congrArg xs (nI_clamp (by decide))).trans hx3) ?_
  refine lv_aload_n hx hb dL_law_279 rfl (lv_at hl 2 rfl) ?_
  refine iwx_i (vx_runSX (hh := [(0, 12, 15, 15)]) (As := [.ref (ad 0), .int r1, .int g1, .int b1, .ref (ad 81)]) (rest := []) ⟨hx, hb, hml, hown, hts⟩ (wL_lamp_1 l hst G 83 ad _ 0 S0 hcam 81 r1 g1 b1 h _) (vx_cwSW 5 hts gL_law_L_lamp rfl rfl rfl (by decide +kernel) ⟨Nat.le_of_ble_eq_true rfl, Nat.le_of_ble_eq_true rfl⟩) (iPSX hK hV hZt hS hA hP hD [.ref (ad 0), .int r1, .int g1, .int b1, .ref (ad 81)]) rfl rfl hl.1 rfl (lv_room (Nat.le_of_ble_eq_true rfl)) dL_law_280 ⟨Nat.le_of_ble_eq_true rfl, Nat.le_of_ble_eq_true rfl⟩) hD hS hA (fun r8 u8 H locs hw8 hP hD hS => ?_)
  obtain ⟨hr8, hu8⟩ := hw8
  rw [hu8] at hP hD
  refine lv_asI hr8 ?_
  refine lv_istore (lv' := [(6, .int (nI 1)), (5, .int (nI 0)), (4, .ref (ad 82)), (3, .ref (ad 81)), (2, .ref (ad 74)), (1, .ref (ad 0)), (0, .ref b)]) hx hb dL_law_283 hl (by decide) rfl (fun ls hl => ?_)
  refine lv_aload_n hx hb dL_law_285 rfl (lv_at hl 4 rfl) ?_
  refine lv_aload_n hx hb dL_law_286 rfl (lv_at hl 6 rfl) ?_
  refine lv_iload hx hb dL_law_287 (lv_at hl 1 rfl) ?_
  refine lv_iconst (v := nI 1) hx hb dL_law_289 (by decide) ?_
  refine lv_iadd hx hb dL_law_290 ?_
  refine lv_asI (y := nI 1) (by decide) ?_
  refine va_sld hx hb hX hbl hbA hS (vp_in_nI (by decide) (by decide)) dL_law_291 ?_
  refine lv_asI (y := r1) ((congrArg xs (nI_clamp (by decide))).trans hx1) ?_
  refine lv_aload_n hx hb dL_law_292 rfl (lv_at hl 6 rfl) ?_
  refine lv_iload hx hb dL_law_293 (lv_at hl 1 rfl) ?_
  refine lv_iconst (v := nI 2) hx hb dL_law_295 (by decide) ?_
  refine lv_iadd hx hb dL_law_296 ?_
  refine lv_asI (y := nI 2) (by decide) ?_
  refine va_sld hx hb hX hbl hbA hS (vp_in_nI (by decide) (by decide)) dL_law_297 ?_
  refine lv_asI (y := g1) ((congrArg xs (nI_clamp (by decide))).trans hx2) ?_
  refine lv_aload_n hx hb dL_law_298 rfl (lv_at hl 6 rfl) ?_
  refine lv_iload hx hb dL_law_299 (lv_at hl 1 rfl) ?_
  refine lv_iconst (v := nI 3) hx hb dL_law_301 (by decide) ?_
  refine lv_iadd hx hb dL_law_302 ?_
  refine lv_asI (y := nI 3) (by decide) ?_
  refine va_sld hx hb hX hbl hbA hS (vp_in_nI (by decide) (by decide)) dL_law_303 ?_
  refine lv_asI (y := b1) ((congrArg xs (nI_clamp (by decide))).trans hx3) ?_
  refine iw_i (va_runV (As := [.int r1, .int g1, .int b1]) (rest := []) ⟨hx, hb, hml, hown, hts⟩ (kX9_lamp_1 l G 83 ad _ 74 dz (nI 0) hmod r1 g1 b1 h _) (cwV 3 hts gL_law_X9_lamp rfl rfl rfl (by decide +kernel) ⟨Nat.le_of_ble_eq_true rfl, Nat.le_of_ble_eq_true rfl⟩) (iPV hK hP hD (by decide) (hmod.2.1) rfl [.int r1, .int g1, .int b1]) rfl rfl hl.1 rfl (lv_room (Nat.le_of_ble_eq_true rfl)) dL_law_304 ⟨Nat.le_of_ble_eq_true rfl, Nat.le_of_ble_eq_true rfl⟩) hD hS hA (fun r9 u9 H locs hw9 hP hD hS => ?_)
  obtain ⟨hr9, ⟨d9, ht9⟩, hm9⟩ := hw9
  refine lv_asI hr9 ?_
  refine lv_istore (lv' := [(7, .int (nI 0)), (6, .int (nI 1)), (5, .int (nI 0)), (4, .ref (ad 82)), (3, .ref (ad 81)), (2, .ref (ad 74)), (1, .ref (ad 0)), (0, .ref b)]) hx hb dL_law_307 hl (by decide) rfl (fun ls hl => ?_)
  refine lv_aload_n hx hb dL_law_309 rfl (lv_at hl 5 rfl) ?_
  refine iw_i (va_runV (As := []) (rest := []) ⟨hx, hb, hml, hown, hts⟩ (kX9_thrown l G 83 ad _ 74 (by decide) (nI 1) d9 ht9 _) (cwV 0 hts gL_law_X9_thrown rfl rfl rfl (by decide +kernel) ⟨Nat.le_of_ble_eq_true rfl, Nat.le_of_ble_eq_true rfl⟩) (iPV hK hP hD (by decide) (ht9) rfl []) rfl rfl hl.1 rfl (lv_room (Nat.le_of_ble_eq_true rfl)) dL_law_310 ⟨Nat.le_of_ble_eq_true rfl, Nat.le_of_ble_eq_true rfl⟩) hD hS hA (fun r7 u7 H locs hw7 hP hD hS => ?_)
  obtain ⟨hr7, hu7⟩ := hw7
  rw [hu7] at hP hD
  refine lv_asI hr7 ?_
  refine lv_iload hx hb dL_law_313 (lv_at hl 1 rfl) ?_
  refine lv_icmp_eq (tgt := 320) hx hb dL_law_315 (by decide) (fun _ => ?_) (fun c9 => absurd (by decide) c9)
  refine lv_iload hx hb dL_law_320 (lv_at hl 1 rfl) ?_
  refine lv_if_ne (tgt := 337) hx hb dL_law_322 (by decide) (fun _ => ?_) (fun c9 => absurd c9 (by decide))
  refine lv_goto (tgt := 1906) hx hb dL_law_337 (by decide) ?_
  refine W.widen (k := 300) (n := 6500) (Nat.le_of_ble_eq_true rfl) (Nat.le_of_ble_eq_true rfl) ?_
  exact kt H locs ls hS (lv_sub hl [2, 7] rfl)
set_option maxHeartbeats 4000000 in
set_option maxRecDepth 100000 in
theorem lc_lamp_2 {p : Program} {l : Launch} {e : Env} {s : State} {m : MethodId} {below : List Frame} {meth : Method} {c : Code} {b dz : Nat} {xs : Nat → Int32} {G : iG} {Q : State → Prop} (hst : l.stackTraces = false) (hx : p.tables.exec = Jvm.exec) (hb : c.code = cL_law) (hml : c.maxLocals = 9) (hts : ∀ w ∈ wsL_law, w.before #[Value.ref b] s = true) (hown : s.vm.findClass RL = some m.cls) (hX : va_X b 6 xs s s.heap) (hbl : b < s.heap.size) (hK : KB G s) (hV : VX s) (hZt : ZT (aA s) s s.heap) (hZ : ZD dz (aA s) s s.heap) {ad : Nat → Nat} {C : Nat → va_E} {H : Heap} {locs : List Loc} {ls : Array Slot} (hcam : Cam G 83 ad C 0 S0) (hmod : Mod G 83 ad C 74 dz (nI 0)) (glo : C 81 = la G 1 (fun _ => 0)) (hP : va_P G.1 vwB (wl 83 ad C) H) (hD : va_D (aA s) (wl 83 ad C)) (hS : va_S (aA s) s.heap H locs) (hl : lv_has ls 9 [(5, .int (nI 0)), (4, .ref (ad 82)), (3, .ref (ad 81)), (2, .ref (ad 74)), (1, .ref (ad 0)), (0, .ref b)]) (kt : ∀ (H : Heap) (locs : List Loc) (ls : Array Slot), va_S (aA s) s.heap H locs → lv_has ls 9 [(5, .int (nI 0)), (0, .ref b)] → W p l e room_1 s m #[Value.ref b] below meth c H locs 300 6500 Q (F0 m 1906 ls [])) (r1 : Nat) (hr1 : 0 < r1 ∧ r1 < 17) (g1 b1 : Int32) (h : g1 < nI 1 ∨ nI 16 < g1) (hx1 : xs 1 = nI r1) (hx2 : xs 2 = g1) (hx3 : xs 3 = b1) : W p l e room_1 s m #[Value.ref b] below meth c H locs 83 1901 Q (F0 m 260 ls []) := by
  have hbA : ¬ aA s b := Nat.not_le.mpr hbl
  have hA : ∀ q : Nat, s.heap.size ≤ q → aA s q := fun _ h => h
  refine lv_aload_n hx hb dL_law_260 rfl (lv_at hl 4 rfl) ?_
  refine lv_aload_n hx hb dL_law_261 rfl (lv_at hl 5 rfl) ?_
  refine lv_iload hx hb dL_law_262 (lv_at hl 0 rfl) ?_
  refine lv_iconst (v := nI 1) hx hb dL_law_264 (by decide) ?_
  refine lv_iadd hx hb dL_law_265 ?_
  refine lv_asI (y := nI 1) (by decide) ?_
  refine va_sld hx hb hX hbl hbA hS (vp_in_nI (by decide) (by decide)) dL_law_266 ?_
  refine lv_asI (y := nI r1) ((congrArg xs (nI_clamp (by decide))).trans hx1) ?_
  refine lv_aload_n hx hb dL_law_267 rfl (lv_at hl 5 rfl) ?_
  refine lv_iload hx hb dL_law_268 (lv_at hl 0 rfl) ?_
  refine lv_iconst (v := nI 2) hx hb dL_law_270 (by decide) ?_
  refine lv_iadd hx hb dL_law_271 ?_
  refine lv_asI (y := nI 2) (by decide) ?_
  refine va_sld hx hb hX hbl hbA hS (vp_in_nI (by decide) (by decide)) dL_law_272 ?_
  refine lv_asI (y := g1) ((congrArg xs (nI_clamp (by decide))).trans hx2) ?_
  refine lv_aload_n hx hb dL_law_273 rfl (lv_at hl 5 rfl) ?_
  refine lv_iload hx hb dL_law_274 (lv_at hl 0 rfl) ?_
  refine lv_iconst (v := nI 3) hx hb dL_law_276 (by decide) ?_
  refine lv_iadd hx hb dL_law_277 ?_
  refine lv_asI (y := nI 3) (by decide) ?_
  refine va_sld hx hb hX hbl hbA hS (vp_in_nI (by decide) (by decide)) dL_law_278 ?_
  refine lv_asI (y := b1) ((congrArg xs (nI_clamp (by decide))).trans hx3) ?_
  refine lv_aload_n hx hb dL_law_279 rfl (lv_at hl 2 rfl) ?_
  refine iwx_i (vx_runSX (hh := [(0, 12, 15, 15)]) (As := [.ref (ad 0), .int (nI r1), .int g1, .int b1, .ref (ad 81)]) (rest := []) ⟨hx, hb, hml, hown, hts⟩ (wL_lamp_2 l hst G 83 ad _ 0 S0 hcam 81 r1 hr1 g1 b1 h _) (vx_cwSW 5 hts gL_law_L_lamp rfl rfl rfl (by decide +kernel) ⟨Nat.le_of_ble_eq_true rfl, Nat.le_of_ble_eq_true rfl⟩) (iPSX hK hV hZt hS hA hP hD [.ref (ad 0), .int (nI r1), .int g1, .int b1, .ref (ad 81)]) rfl rfl hl.1 rfl (lv_room (Nat.le_of_ble_eq_true rfl)) dL_law_280 ⟨Nat.le_of_ble_eq_true rfl, Nat.le_of_ble_eq_true rfl⟩) hD hS hA (fun r8 u8 H locs hw8 hP hD hS => ?_)
  obtain ⟨hr8, hu8⟩ := hw8
  rw [hu8] at hP hD
  refine lv_asI hr8 ?_
  refine lv_istore (lv' := [(6, .int (nI 1)), (5, .int (nI 0)), (4, .ref (ad 82)), (3, .ref (ad 81)), (2, .ref (ad 74)), (1, .ref (ad 0)), (0, .ref b)]) hx hb dL_law_283 hl (by decide) rfl (fun ls hl => ?_)
  refine lv_aload_n hx hb dL_law_285 rfl (lv_at hl 4 rfl) ?_
  refine lv_aload_n hx hb dL_law_286 rfl (lv_at hl 6 rfl) ?_
  refine lv_iload hx hb dL_law_287 (lv_at hl 1 rfl) ?_
  refine lv_iconst (v := nI 1) hx hb dL_law_289 (by decide) ?_
  refine lv_iadd hx hb dL_law_290 ?_
  refine lv_asI (y := nI 1) (by decide) ?_
  refine va_sld hx hb hX hbl hbA hS (vp_in_nI (by decide) (by decide)) dL_law_291 ?_
  refine lv_asI (y := nI r1) ((congrArg xs (nI_clamp (by decide))).trans hx1) ?_
  refine lv_aload_n hx hb dL_law_292 rfl (lv_at hl 6 rfl) ?_
  refine lv_iload hx hb dL_law_293 (lv_at hl 1 rfl) ?_
  refine lv_iconst (v := nI 2) hx hb dL_law_295 (by decide) ?_
  refine lv_iadd hx hb dL_law_296 ?_
  refine lv_asI (y := nI 2) (by decide) ?_
  refine va_sld hx hb hX hbl hbA hS (vp_in_nI (by decide) (by decide)) dL_law_297 ?_
  refine lv_asI (y := g1) ((congrArg xs (nI_clamp (by decide))).trans hx2) ?_
  refine lv_aload_n hx hb dL_law_298 rfl (lv_at hl 6 rfl) ?_
  refine lv_iload hx hb dL_law_299 (lv_at hl 1 rfl) ?_
  refine lv_iconst (v := nI 3) hx hb dL_law_301 (by decide) ?_
  refine lv_iadd hx hb dL_law_302 ?_
  refine lv_asI (y := nI 3) (by decide) ?_
  refine va_sld hx hb hX hbl hbA hS (vp_in_nI (by decide) (by decide)) dL_law_303 ?_
  refine lv_asI (y := b1) ((congrArg xs (nI_clamp (by decide))).trans hx3) ?_
  refine iw_i (va_runV (As := [.int (nI r1), .int g1, .int b1]) (rest := []) ⟨hx, hb, hml, hown, hts⟩ (kX9_lamp_2 l G 83 ad _ 74 dz (nI 0) hmod r1 hr1 g1 b1 h _) (cwV 3 hts gL_law_X9_lamp rfl rfl rfl (by decide +kernel) ⟨Nat.le_of_ble_eq_true rfl, Nat.le_of_ble_eq_true rfl⟩) (iPV hK hP hD (by decide) (hmod.2.1) rfl [.int (nI r1), .int g1, .int b1]) rfl rfl hl.1 rfl (lv_room (Nat.le_of_ble_eq_true rfl)) dL_law_304 ⟨Nat.le_of_ble_eq_true rfl, Nat.le_of_ble_eq_true rfl⟩) hD hS hA (fun r9 u9 H locs hw9 hP hD hS => ?_)
  obtain ⟨hr9, ⟨d9, ht9⟩, hm9⟩ := hw9
  refine lv_asI hr9 ?_
  refine lv_istore (lv' := [(7, .int (nI 0)), (6, .int (nI 1)), (5, .int (nI 0)), (4, .ref (ad 82)), (3, .ref (ad 81)), (2, .ref (ad 74)), (1, .ref (ad 0)), (0, .ref b)]) hx hb dL_law_307 hl (by decide) rfl (fun ls hl => ?_)
  refine lv_aload_n hx hb dL_law_309 rfl (lv_at hl 5 rfl) ?_
  refine iw_i (va_runV (As := []) (rest := []) ⟨hx, hb, hml, hown, hts⟩ (kX9_thrown l G 83 ad _ 74 (by decide) (nI 1) d9 ht9 _) (cwV 0 hts gL_law_X9_thrown rfl rfl rfl (by decide +kernel) ⟨Nat.le_of_ble_eq_true rfl, Nat.le_of_ble_eq_true rfl⟩) (iPV hK hP hD (by decide) (ht9) rfl []) rfl rfl hl.1 rfl (lv_room (Nat.le_of_ble_eq_true rfl)) dL_law_310 ⟨Nat.le_of_ble_eq_true rfl, Nat.le_of_ble_eq_true rfl⟩) hD hS hA (fun r7 u7 H locs hw7 hP hD hS => ?_)
  obtain ⟨hr7, hu7⟩ := hw7
  rw [hu7] at hP hD
  refine lv_asI hr7 ?_
  refine lv_iload hx hb dL_law_313 (lv_at hl 1 rfl) ?_
  refine lv_icmp_eq (tgt := 320) hx hb dL_law_315 (by decide) (fun _ => ?_) (fun c9 => absurd (by decide) c9)
  refine lv_iload hx hb dL_law_320 (lv_at hl 1 rfl) ?_
  refine lv_if_ne (tgt := 337) hx hb dL_law_322 (by decide) (fun _ => ?_) (fun c9 => absurd c9 (by decide))
  refine lv_goto (tgt := 1906) hx hb dL_law_337 (by decide) ?_
  refine W.widen (k := 300) (n := 6500) (Nat.le_of_ble_eq_true rfl) (Nat.le_of_ble_eq_true rfl) ?_
  exact kt H locs ls hS (lv_sub hl [2, 7] rfl)
set_option maxHeartbeats 4000000 in
set_option maxRecDepth 100000 in
theorem lc_lamp_3 {p : Program} {l : Launch} {e : Env} {s : State} {m : MethodId} {below : List Frame} {meth : Method} {c : Code} {b dz : Nat} {xs : Nat → Int32} {G : iG} {Q : State → Prop} (hst : l.stackTraces = false) (hx : p.tables.exec = Jvm.exec) (hb : c.code = cL_law) (hml : c.maxLocals = 9) (hts : ∀ w ∈ wsL_law, w.before #[Value.ref b] s = true) (hown : s.vm.findClass RL = some m.cls) (hX : va_X b 6 xs s s.heap) (hbl : b < s.heap.size) (hK : KB G s) (hV : VX s) (hZt : ZT (aA s) s s.heap) (hZ : ZD dz (aA s) s s.heap) {ad : Nat → Nat} {C : Nat → va_E} {H : Heap} {locs : List Loc} {ls : Array Slot} (hcam : Cam G 83 ad C 0 S0) (hmod : Mod G 83 ad C 74 dz (nI 0)) (glo : C 81 = la G 1 (fun _ => 0)) (hP : va_P G.1 vwB (wl 83 ad C) H) (hD : va_D (aA s) (wl 83 ad C)) (hS : va_S (aA s) s.heap H locs) (hl : lv_has ls 9 [(5, .int (nI 0)), (4, .ref (ad 82)), (3, .ref (ad 81)), (2, .ref (ad 74)), (1, .ref (ad 0)), (0, .ref b)]) (kt : ∀ (H : Heap) (locs : List Loc) (ls : Array Slot), va_S (aA s) s.heap H locs → lv_has ls 9 [(5, .int (nI 0)), (0, .ref b)] → W p l e room_1 s m #[Value.ref b] below meth c H locs 300 6500 Q (F0 m 1906 ls [])) (r1 g1 : Nat) (hr1 : 0 < r1 ∧ r1 < 17) (hg1 : 0 < g1 ∧ g1 < 17) (b1 : Int32) (h : b1 < nI 1 ∨ nI 16 < b1) (hx1 : xs 1 = nI r1) (hx2 : xs 2 = nI g1) (hx3 : xs 3 = b1) : W p l e room_1 s m #[Value.ref b] below meth c H locs 83 1901 Q (F0 m 260 ls []) := by
  have hbA : ¬ aA s b := Nat.not_le.mpr hbl
  have hA : ∀ q : Nat, s.heap.size ≤ q → aA s q := fun _ h => h
  refine lv_aload_n hx hb dL_law_260 rfl (lv_at hl 4 rfl) ?_
  refine lv_aload_n hx hb dL_law_261 rfl (lv_at hl 5 rfl) ?_
  refine lv_iload hx hb dL_law_262 (lv_at hl 0 rfl) ?_
  refine lv_iconst (v := nI 1) hx hb dL_law_264 (by decide) ?_
  refine lv_iadd hx hb dL_law_265 ?_
  refine lv_asI (y := nI 1) (by decide) ?_
  refine va_sld hx hb hX hbl hbA hS (vp_in_nI (by decide) (by decide)) dL_law_266 ?_
  refine lv_asI (y := nI r1) ((congrArg xs (nI_clamp (by decide))).trans hx1) ?_
  refine lv_aload_n hx hb dL_law_267 rfl (lv_at hl 5 rfl) ?_
  refine lv_iload hx hb dL_law_268 (lv_at hl 0 rfl) ?_
  refine lv_iconst (v := nI 2) hx hb dL_law_270 (by decide) ?_
  refine lv_iadd hx hb dL_law_271 ?_
  refine lv_asI (y := nI 2) (by decide) ?_
  refine va_sld hx hb hX hbl hbA hS (vp_in_nI (by decide) (by decide)) dL_law_272 ?_
  refine lv_asI (y := nI g1) ((congrArg xs (nI_clamp (by decide))).trans hx2) ?_
  refine lv_aload_n hx hb dL_law_273 rfl (lv_at hl 5 rfl) ?_
  refine lv_iload hx hb dL_law_274 (lv_at hl 0 rfl) ?_
  refine lv_iconst (v := nI 3) hx hb dL_law_276 (by decide) ?_
  refine lv_iadd hx hb dL_law_277 ?_
  refine lv_asI (y := nI 3) (by decide) ?_
  refine va_sld hx hb hX hbl hbA hS (vp_in_nI (by decide) (by decide)) dL_law_278 ?_
  refine lv_asI (y := b1) ((congrArg xs (nI_clamp (by decide))).trans hx3) ?_
  refine lv_aload_n hx hb dL_law_279 rfl (lv_at hl 2 rfl) ?_
  refine iwx_i (vx_runSX (hh := [(0, 12, 15, 15)]) (As := [.ref (ad 0), .int (nI r1), .int (nI g1), .int b1, .ref (ad 81)]) (rest := []) ⟨hx, hb, hml, hown, hts⟩ (wL_lamp_3 l hst G 83 ad _ 0 S0 hcam 81 r1 g1 hr1 hg1 b1 h _) (vx_cwSW 5 hts gL_law_L_lamp rfl rfl rfl (by decide +kernel) ⟨Nat.le_of_ble_eq_true rfl, Nat.le_of_ble_eq_true rfl⟩) (iPSX hK hV hZt hS hA hP hD [.ref (ad 0), .int (nI r1), .int (nI g1), .int b1, .ref (ad 81)]) rfl rfl hl.1 rfl (lv_room (Nat.le_of_ble_eq_true rfl)) dL_law_280 ⟨Nat.le_of_ble_eq_true rfl, Nat.le_of_ble_eq_true rfl⟩) hD hS hA (fun r8 u8 H locs hw8 hP hD hS => ?_)
  obtain ⟨hr8, hu8⟩ := hw8
  rw [hu8] at hP hD
  refine lv_asI hr8 ?_
  refine lv_istore (lv' := [(6, .int (nI 1)), (5, .int (nI 0)), (4, .ref (ad 82)), (3, .ref (ad 81)), (2, .ref (ad 74)), (1, .ref (ad 0)), (0, .ref b)]) hx hb dL_law_283 hl (by decide) rfl (fun ls hl => ?_)
  refine lv_aload_n hx hb dL_law_285 rfl (lv_at hl 4 rfl) ?_
  refine lv_aload_n hx hb dL_law_286 rfl (lv_at hl 6 rfl) ?_
  refine lv_iload hx hb dL_law_287 (lv_at hl 1 rfl) ?_
  refine lv_iconst (v := nI 1) hx hb dL_law_289 (by decide) ?_
  refine lv_iadd hx hb dL_law_290 ?_
  refine lv_asI (y := nI 1) (by decide) ?_
  refine va_sld hx hb hX hbl hbA hS (vp_in_nI (by decide) (by decide)) dL_law_291 ?_
  refine lv_asI (y := nI r1) ((congrArg xs (nI_clamp (by decide))).trans hx1) ?_
  refine lv_aload_n hx hb dL_law_292 rfl (lv_at hl 6 rfl) ?_
  refine lv_iload hx hb dL_law_293 (lv_at hl 1 rfl) ?_
  refine lv_iconst (v := nI 2) hx hb dL_law_295 (by decide) ?_
  refine lv_iadd hx hb dL_law_296 ?_
  refine lv_asI (y := nI 2) (by decide) ?_
  refine va_sld hx hb hX hbl hbA hS (vp_in_nI (by decide) (by decide)) dL_law_297 ?_
  refine lv_asI (y := nI g1) ((congrArg xs (nI_clamp (by decide))).trans hx2) ?_
  refine lv_aload_n hx hb dL_law_298 rfl (lv_at hl 6 rfl) ?_
  refine lv_iload hx hb dL_law_299 (lv_at hl 1 rfl) ?_
  refine lv_iconst (v := nI 3) hx hb dL_law_301 (by decide) ?_
  refine lv_iadd hx hb dL_law_302 ?_
  refine lv_asI (y := nI 3) (by decide) ?_
  refine va_sld hx hb hX hbl hbA hS (vp_in_nI (by decide) (by decide)) dL_law_303 ?_
  refine lv_asI (y := b1) ((congrArg xs (nI_clamp (by decide))).trans hx3) ?_
  refine iw_i (va_runV (As := [.int (nI r1), .int (nI g1), .int b1]) (rest := []) ⟨hx, hb, hml, hown, hts⟩ (kX9_lamp_3 l G 83 ad _ 74 dz (nI 0) hmod r1 g1 hr1 hg1 b1 h _) (cwV 3 hts gL_law_X9_lamp rfl rfl rfl (by decide +kernel) ⟨Nat.le_of_ble_eq_true rfl, Nat.le_of_ble_eq_true rfl⟩) (iPV hK hP hD (by decide) (hmod.2.1) rfl [.int (nI r1), .int (nI g1), .int b1]) rfl rfl hl.1 rfl (lv_room (Nat.le_of_ble_eq_true rfl)) dL_law_304 ⟨Nat.le_of_ble_eq_true rfl, Nat.le_of_ble_eq_true rfl⟩) hD hS hA (fun r9 u9 H locs hw9 hP hD hS => ?_)
  obtain ⟨hr9, ⟨d9, ht9⟩, hm9⟩ := hw9
  refine lv_asI hr9 ?_
  refine lv_istore (lv' := [(7, .int (nI 0)), (6, .int (nI 1)), (5, .int (nI 0)), (4, .ref (ad 82)), (3, .ref (ad 81)), (2, .ref (ad 74)), (1, .ref (ad 0)), (0, .ref b)]) hx hb dL_law_307 hl (by decide) rfl (fun ls hl => ?_)
  refine lv_aload_n hx hb dL_law_309 rfl (lv_at hl 5 rfl) ?_
  refine iw_i (va_runV (As := []) (rest := []) ⟨hx, hb, hml, hown, hts⟩ (kX9_thrown l G 83 ad _ 74 (by decide) (nI 1) d9 ht9 _) (cwV 0 hts gL_law_X9_thrown rfl rfl rfl (by decide +kernel) ⟨Nat.le_of_ble_eq_true rfl, Nat.le_of_ble_eq_true rfl⟩) (iPV hK hP hD (by decide) (ht9) rfl []) rfl rfl hl.1 rfl (lv_room (Nat.le_of_ble_eq_true rfl)) dL_law_310 ⟨Nat.le_of_ble_eq_true rfl, Nat.le_of_ble_eq_true rfl⟩) hD hS hA (fun r7 u7 H locs hw7 hP hD hS => ?_)
  obtain ⟨hr7, hu7⟩ := hw7
  rw [hu7] at hP hD
  refine lv_asI hr7 ?_
  refine lv_iload hx hb dL_law_313 (lv_at hl 1 rfl) ?_
  refine lv_icmp_eq (tgt := 320) hx hb dL_law_315 (by decide) (fun _ => ?_) (fun c9 => absurd (by decide) c9)
  refine lv_iload hx hb dL_law_320 (lv_at hl 1 rfl) ?_
  refine lv_if_ne (tgt := 337) hx hb dL_law_322 (by decide) (fun _ => ?_) (fun c9 => absurd c9 (by decide))
  refine lv_goto (tgt := 1906) hx hb dL_law_337 (by decide) ?_
  refine W.widen (k := 300) (n := 6500) (Nat.le_of_ble_eq_true rfl) (Nat.le_of_ble_eq_true rfl) ?_
  exact kt H locs ls hS (lv_sub hl [2, 7] rfl)
set_option maxHeartbeats 4000000 in
set_option maxRecDepth 100000 in
theorem lc_lamp_v {p : Program} {l : Launch} {e : Env} {s : State} {m : MethodId} {below : List Frame} {meth : Method} {c : Code} {b dz : Nat} {xs : Nat → Int32} {G : iG} {Q : State → Prop} (hst : l.stackTraces = false) (hx : p.tables.exec = Jvm.exec) (hb : c.code = cL_law) (hml : c.maxLocals = 9) (hts : ∀ w ∈ wsL_law, w.before #[Value.ref b] s = true) (hown : s.vm.findClass RL = some m.cls) (hX : va_X b 6 xs s s.heap) (hbl : b < s.heap.size) (hK : KB G s) (hV : VX s) (hZt : ZT (aA s) s s.heap) (hZ : ZD dz (aA s) s s.heap) {ad : Nat → Nat} {C : Nat → va_E} {H : Heap} {locs : List Loc} {ls : Array Slot} (hcam : Cam G 83 ad C 0 S0) (hmod : Mod G 83 ad C 74 dz (nI 0)) (glo : C 81 = la G 1 (fun _ => 0)) (hP : va_P G.1 vwB (wl 83 ad C) H) (hD : va_D (aA s) (wl 83 ad C)) (hS : va_S (aA s) s.heap H locs) (hl : lv_has ls 9 [(5, .int (nI 0)), (4, .ref (ad 82)), (3, .ref (ad 81)), (2, .ref (ad 74)), (1, .ref (ad 0)), (0, .ref b)]) (kt : ∀ (H : Heap) (locs : List Loc) (ls : Array Slot), va_S (aA s) s.heap H locs → lv_has ls 9 [(5, .int (nI 0)), (0, .ref b)] → W p l e room_1 s m #[Value.ref b] below meth c H locs 300 6500 Q (F0 m 1906 ls [])) (r1 g1 b1 : Nat) (hr1 : 0 < r1 ∧ r1 < 17) (hg1 : 0 < g1 ∧ g1 < 17) (hb1 : 0 < b1 ∧ b1 < 17) (hx1 : xs 1 = nI r1) (hx2 : xs 2 = nI g1) (hx3 : xs 3 = nI b1) : W p l e room_1 s m #[Value.ref b] below meth c H locs 83 1901 Q (F0 m 260 ls []) := by
  have hbA : ¬ aA s b := Nat.not_le.mpr hbl
  have hA : ∀ q : Nat, s.heap.size ≤ q → aA s q := fun _ h => h
  refine lv_aload_n hx hb dL_law_260 rfl (lv_at hl 4 rfl) ?_
  refine lv_aload_n hx hb dL_law_261 rfl (lv_at hl 5 rfl) ?_
  refine lv_iload hx hb dL_law_262 (lv_at hl 0 rfl) ?_
  refine lv_iconst (v := nI 1) hx hb dL_law_264 (by decide) ?_
  refine lv_iadd hx hb dL_law_265 ?_
  refine lv_asI (y := nI 1) (by decide) ?_
  refine va_sld hx hb hX hbl hbA hS (vp_in_nI (by decide) (by decide)) dL_law_266 ?_
  refine lv_asI (y := nI r1) ((congrArg xs (nI_clamp (by decide))).trans hx1) ?_
  refine lv_aload_n hx hb dL_law_267 rfl (lv_at hl 5 rfl) ?_
  refine lv_iload hx hb dL_law_268 (lv_at hl 0 rfl) ?_
  refine lv_iconst (v := nI 2) hx hb dL_law_270 (by decide) ?_
  refine lv_iadd hx hb dL_law_271 ?_
  refine lv_asI (y := nI 2) (by decide) ?_
  refine va_sld hx hb hX hbl hbA hS (vp_in_nI (by decide) (by decide)) dL_law_272 ?_
  refine lv_asI (y := nI g1) ((congrArg xs (nI_clamp (by decide))).trans hx2) ?_
  refine lv_aload_n hx hb dL_law_273 rfl (lv_at hl 5 rfl) ?_
  refine lv_iload hx hb dL_law_274 (lv_at hl 0 rfl) ?_
  refine lv_iconst (v := nI 3) hx hb dL_law_276 (by decide) ?_
  refine lv_iadd hx hb dL_law_277 ?_
  refine lv_asI (y := nI 3) (by decide) ?_
  refine va_sld hx hb hX hbl hbA hS (vp_in_nI (by decide) (by decide)) dL_law_278 ?_
  refine lv_asI (y := nI b1) ((congrArg xs (nI_clamp (by decide))).trans hx3) ?_
  refine lv_aload_n hx hb dL_law_279 rfl (lv_at hl 2 rfl) ?_
  refine iwx_i (vx_runSX (hh := [(0, 12, 15, 15)]) (As := [.ref (ad 0), .int (nI r1), .int (nI g1), .int (nI b1), .ref (ad 81)]) (rest := []) ⟨hx, hb, hml, hown, hts⟩ (wL_lamp l G 83 ad _ 0 S0 hcam 81 (by decide) (Or.inr (by decide)) _ glo r1 g1 b1 hr1 hg1 hb1 _) (vx_cwSW 5 hts gL_law_L_lamp rfl rfl rfl (by decide +kernel) ⟨Nat.le_of_ble_eq_true rfl, Nat.le_of_ble_eq_true rfl⟩) (iPSX hK hV hZt hS hA hP hD [.ref (ad 0), .int (nI r1), .int (nI g1), .int (nI b1), .ref (ad 81)]) rfl rfl hl.1 rfl (lv_room (Nat.le_of_ble_eq_true rfl)) dL_law_280 ⟨Nat.le_of_ble_eq_true rfl, Nat.le_of_ble_eq_true rfl⟩) hD hS hA (fun r8 u8 H locs hw8 hP hD hS => ?_)
  obtain ⟨hr8, ⟨f8, hf8, hv8⟩, hs8⟩ := hw8
  refine lv_asI hr8 ?_
  have hmod := Mod_same hmod (fun i h1 h2 => hs8 i (Or.inr (by omega)) (by omega))
  refine lv_istore (lv' := [(6, .int (nI 0)), (5, .int (nI 0)), (4, .ref (ad 82)), (3, .ref (ad 81)), (2, .ref (ad 74)), (1, .ref (ad 0)), (0, .ref b)]) hx hb dL_law_283 hl (by decide) rfl (fun ls hl => ?_)
  refine lv_aload_n hx hb dL_law_285 rfl (lv_at hl 4 rfl) ?_
  refine lv_aload_n hx hb dL_law_286 rfl (lv_at hl 6 rfl) ?_
  refine lv_iload hx hb dL_law_287 (lv_at hl 1 rfl) ?_
  refine lv_iconst (v := nI 1) hx hb dL_law_289 (by decide) ?_
  refine lv_iadd hx hb dL_law_290 ?_
  refine lv_asI (y := nI 1) (by decide) ?_
  refine va_sld hx hb hX hbl hbA hS (vp_in_nI (by decide) (by decide)) dL_law_291 ?_
  refine lv_asI (y := nI r1) ((congrArg xs (nI_clamp (by decide))).trans hx1) ?_
  refine lv_aload_n hx hb dL_law_292 rfl (lv_at hl 6 rfl) ?_
  refine lv_iload hx hb dL_law_293 (lv_at hl 1 rfl) ?_
  refine lv_iconst (v := nI 2) hx hb dL_law_295 (by decide) ?_
  refine lv_iadd hx hb dL_law_296 ?_
  refine lv_asI (y := nI 2) (by decide) ?_
  refine va_sld hx hb hX hbl hbA hS (vp_in_nI (by decide) (by decide)) dL_law_297 ?_
  refine lv_asI (y := nI g1) ((congrArg xs (nI_clamp (by decide))).trans hx2) ?_
  refine lv_aload_n hx hb dL_law_298 rfl (lv_at hl 6 rfl) ?_
  refine lv_iload hx hb dL_law_299 (lv_at hl 1 rfl) ?_
  refine lv_iconst (v := nI 3) hx hb dL_law_301 (by decide) ?_
  refine lv_iadd hx hb dL_law_302 ?_
  refine lv_asI (y := nI 3) (by decide) ?_
  refine va_sld hx hb hX hbl hbA hS (vp_in_nI (by decide) (by decide)) dL_law_303 ?_
  refine lv_asI (y := nI b1) ((congrArg xs (nI_clamp (by decide))).trans hx3) ?_
  refine iw_i (va_runV (As := [.int (nI r1), .int (nI g1), .int (nI b1)]) (rest := []) ⟨hx, hb, hml, hown, hts⟩ (kX9_lamp l G 83 ad _ 74 dz (nI 0) hmod r1 g1 b1 hr1 hg1 hb1 _) (cwV 3 hts gL_law_X9_lamp rfl rfl rfl (by decide +kernel) ⟨Nat.le_of_ble_eq_true rfl, Nat.le_of_ble_eq_true rfl⟩) (iPV hK hP hD (by decide) (hmod.2.1) rfl [.int (nI r1), .int (nI g1), .int (nI b1)]) rfl rfl hl.1 rfl (lv_room (Nat.le_of_ble_eq_true rfl)) dL_law_304 ⟨Nat.le_of_ble_eq_true rfl, Nat.le_of_ble_eq_true rfl⟩) hD hS hA (fun r9 u9 H locs hw9 hP hD hS => ?_)
  obtain ⟨hr9, ⟨d9, ht9⟩, hm9⟩ := hw9
  refine lv_asI (hr9.trans (rfl)) ?_
  refine lv_istore (lv' := [(7, .int (nI (sGq S0))), (6, .int (nI 0)), (5, .int (nI 0)), (4, .ref (ad 82)), (3, .ref (ad 81)), (2, .ref (ad 74)), (1, .ref (ad 0)), (0, .ref b)]) hx hb dL_law_307 hl (by decide) rfl (fun ls hl => ?_)
  refine lv_aload_n hx hb dL_law_309 rfl (lv_at hl 5 rfl) ?_
  refine iw_i (va_runV (As := []) (rest := []) ⟨hx, hb, hml, hown, hts⟩ (kX9_thrown l G 83 ad _ 74 (by decide) (nI 0) d9 ht9 _) (cwV 0 hts gL_law_X9_thrown rfl rfl rfl (by decide +kernel) ⟨Nat.le_of_ble_eq_true rfl, Nat.le_of_ble_eq_true rfl⟩) (iPV hK hP hD (by decide) (ht9) rfl []) rfl rfl hl.1 rfl (lv_room (Nat.le_of_ble_eq_true rfl)) dL_law_310 ⟨Nat.le_of_ble_eq_true rfl, Nat.le_of_ble_eq_true rfl⟩) hD hS hA (fun r7 u7 H locs hw7 hP hD hS => ?_)
  obtain ⟨hr7, hu7⟩ := hw7
  rw [hu7] at hP hD
  refine lv_asI hr7 ?_
  refine lv_iload hx hb dL_law_313 (lv_at hl 1 rfl) ?_
  refine lv_icmp_eq (tgt := 320) hx hb dL_law_315 (by decide) (fun _ => ?_) (fun c9 => absurd (by decide) c9)
  refine lv_iload hx hb dL_law_320 (lv_at hl 1 rfl) ?_
  refine lv_if_ne (tgt := 337) hx hb dL_law_322 (by decide) (fun c9 => absurd (by decide) c9) (fun _ => ?_)
  refine lv_aload_n hx hb dL_law_325 rfl (lv_at hl 4 rfl) ?_
  refine lv_iconst (v := nI 0) hx hb dL_law_326 (by decide) ?_
  refine iw_lald (v := ((nI (sGq S0))).toInt64) hx hb hK hP (by decide) (((hm9 81 (Or.inr (by decide))).trans hf8)) (vp_in_nI (show 0 < 1 by omega) (by omega)) ((congrArg f8 (nI_clamp (by decide))).trans hv8) dL_law_327 ?_
  refine lv_iload hx hb dL_law_328 (lv_at hl 0 rfl) ?_
  refine lv_i2l (v := (nI (sGq S0)).toInt64) hx hb dL_law_330 rfl ?_
  refine lv_lcmpE hx hb dL_law_331 ?_
  refine lv_if_eq (tgt := 337) hx hb dL_law_332 (by decide) (fun _ => ?_) (fun c9 => absurd (by decide) c9)
  refine lv_goto (tgt := 1906) hx hb dL_law_337 (by decide) ?_
  refine W.widen (k := 300) (n := 6500) (Nat.le_of_ble_eq_true rfl) (Nat.le_of_ble_eq_true rfl) ?_
  exact kt H locs ls hS (lv_sub hl [2, 7] rfl)
set_option maxHeartbeats 4000000 in
set_option maxRecDepth 100000 in
theorem lc_spoil_1 {p : Program} {l : Launch} {e : Env} {s : State} {m : MethodId} {below : List Frame} {meth : Method} {c : Code} {b dz : Nat} {xs : Nat → Int32} {G : iG} {Q : State → Prop} (hst : l.stackTraces = false) (hx : p.tables.exec = Jvm.exec) (hb : c.code = cL_law) (hml : c.maxLocals = 9) (hts : ∀ w ∈ wsL_law, w.before #[Value.ref b] s = true) (hown : s.vm.findClass RL = some m.cls) (hX : va_X b 6 xs s s.heap) (hbl : b < s.heap.size) (hK : KB G s) (hV : VX s) (hZt : ZT (aA s) s s.heap) (hZ : ZD dz (aA s) s s.heap) {ad : Nat → Nat} {C : Nat → va_E} {H : Heap} {locs : List Loc} {ls : Array Slot} (hcam : Cam G 83 ad C 0 S0) (hmod : Mod G 83 ad C 74 dz (nI 0)) (glo : C 81 = la G 1 (fun _ => 0)) (hP : va_P G.1 vwB (wl 83 ad C) H) (hD : va_D (aA s) (wl 83 ad C)) (hS : va_S (aA s) s.heap H locs) (hl : lv_has ls 9 [(5, .int (nI 0)), (4, .ref (ad 82)), (3, .ref (ad 81)), (2, .ref (ad 74)), (1, .ref (ad 0)), (0, .ref b)]) (kt : ∀ (H : Heap) (locs : List Loc) (ls : Array Slot), va_S (aA s) s.heap H locs → lv_has ls 9 [(5, .int (nI 0)), (0, .ref b)] → W p l e room_1 s m #[Value.ref b] below meth c H locs 300 6500 Q (F0 m 1906 ls [])) (x y v : Int32) (h : isPl x y = false) (hx1 : xs 1 = x) (hx2 : xs 2 = y) (hx3 : xs 3 = v) : W p l e room_1 s m #[Value.ref b] below meth c H locs 83 1901 Q (F0 m 340 ls []) := by
  have hbA : ¬ aA s b := Nat.not_le.mpr hbl
  have hA : ∀ q : Nat, s.heap.size ≤ q → aA s q := fun _ h => h
  refine lv_aload_n hx hb dL_law_340 rfl (lv_at hl 4 rfl) ?_
  refine lv_aload_n hx hb dL_law_341 rfl (lv_at hl 5 rfl) ?_
  refine lv_iload hx hb dL_law_342 (lv_at hl 0 rfl) ?_
  refine lv_iconst (v := nI 1) hx hb dL_law_344 (by decide) ?_
  refine lv_iadd hx hb dL_law_345 ?_
  refine lv_asI (y := nI 1) (by decide) ?_
  refine va_sld hx hb hX hbl hbA hS (vp_in_nI (by decide) (by decide)) dL_law_346 ?_
  refine lv_asI (y := x) ((congrArg xs (nI_clamp (by decide))).trans hx1) ?_
  refine lv_aload_n hx hb dL_law_347 rfl (lv_at hl 5 rfl) ?_
  refine lv_iload hx hb dL_law_348 (lv_at hl 0 rfl) ?_
  refine lv_iconst (v := nI 2) hx hb dL_law_350 (by decide) ?_
  refine lv_iadd hx hb dL_law_351 ?_
  refine lv_asI (y := nI 2) (by decide) ?_
  refine va_sld hx hb hX hbl hbA hS (vp_in_nI (by decide) (by decide)) dL_law_352 ?_
  refine lv_asI (y := y) ((congrArg xs (nI_clamp (by decide))).trans hx2) ?_
  refine lv_aload_n hx hb dL_law_353 rfl (lv_at hl 5 rfl) ?_
  refine lv_iload hx hb dL_law_354 (lv_at hl 0 rfl) ?_
  refine lv_iconst (v := nI 3) hx hb dL_law_356 (by decide) ?_
  refine lv_iadd hx hb dL_law_357 ?_
  refine lv_asI (y := nI 3) (by decide) ?_
  refine va_sld hx hb hX hbl hbA hS (vp_in_nI (by decide) (by decide)) dL_law_358 ?_
  refine lv_asI (y := v) ((congrArg xs (nI_clamp (by decide))).trans hx3) ?_
  refine lv_aload_n hx hb dL_law_359 rfl (lv_at hl 2 rfl) ?_
  refine iwx_i (vx_runSX (hh := [(0, 12, 15, 13), (0, 12, 19, 15)]) (As := [.ref (ad 0), .int x, .int y, .int v, .ref (ad 81)]) (rest := []) ⟨hx, hb, hml, hown, hts⟩ (wL_spoil_1 l hst G 83 ad _ 0 S0 hcam 81 x y v h _) (vx_cwSW 5 hts gL_law_L_spoil rfl rfl rfl (by decide +kernel) ⟨Nat.le_of_ble_eq_true rfl, Nat.le_of_ble_eq_true rfl⟩) (iPSX hK hV hZt hS hA hP hD [.ref (ad 0), .int x, .int y, .int v, .ref (ad 81)]) rfl rfl hl.1 rfl (lv_room (Nat.le_of_ble_eq_true rfl)) dL_law_360 ⟨Nat.le_of_ble_eq_true rfl, Nat.le_of_ble_eq_true rfl⟩) hD hS hA (fun r8 u8 H locs hw8 hP hD hS => ?_)
  obtain ⟨hr8, hu8⟩ := hw8
  rw [hu8] at hP hD
  refine lv_asI hr8 ?_
  refine lv_istore (lv' := [(6, .int (nI 1)), (5, .int (nI 0)), (4, .ref (ad 82)), (3, .ref (ad 81)), (2, .ref (ad 74)), (1, .ref (ad 0)), (0, .ref b)]) hx hb dL_law_363 hl (by decide) rfl (fun ls hl => ?_)
  refine lv_aload_n hx hb dL_law_365 rfl (lv_at hl 4 rfl) ?_
  refine lv_aload_n hx hb dL_law_366 rfl (lv_at hl 6 rfl) ?_
  refine lv_iload hx hb dL_law_367 (lv_at hl 1 rfl) ?_
  refine lv_iconst (v := nI 1) hx hb dL_law_369 (by decide) ?_
  refine lv_iadd hx hb dL_law_370 ?_
  refine lv_asI (y := nI 1) (by decide) ?_
  refine va_sld hx hb hX hbl hbA hS (vp_in_nI (by decide) (by decide)) dL_law_371 ?_
  refine lv_asI (y := x) ((congrArg xs (nI_clamp (by decide))).trans hx1) ?_
  refine lv_aload_n hx hb dL_law_372 rfl (lv_at hl 6 rfl) ?_
  refine lv_iload hx hb dL_law_373 (lv_at hl 1 rfl) ?_
  refine lv_iconst (v := nI 2) hx hb dL_law_375 (by decide) ?_
  refine lv_iadd hx hb dL_law_376 ?_
  refine lv_asI (y := nI 2) (by decide) ?_
  refine va_sld hx hb hX hbl hbA hS (vp_in_nI (by decide) (by decide)) dL_law_377 ?_
  refine lv_asI (y := y) ((congrArg xs (nI_clamp (by decide))).trans hx2) ?_
  refine lv_aload_n hx hb dL_law_378 rfl (lv_at hl 6 rfl) ?_
  refine lv_iload hx hb dL_law_379 (lv_at hl 1 rfl) ?_
  refine lv_iconst (v := nI 3) hx hb dL_law_381 (by decide) ?_
  refine lv_iadd hx hb dL_law_382 ?_
  refine lv_asI (y := nI 3) (by decide) ?_
  refine va_sld hx hb hX hbl hbA hS (vp_in_nI (by decide) (by decide)) dL_law_383 ?_
  refine lv_asI (y := v) ((congrArg xs (nI_clamp (by decide))).trans hx3) ?_
  refine iw_i (va_runV (As := [.int x, .int y, .int v]) (rest := []) ⟨hx, hb, hml, hown, hts⟩ (kX9_spoil_1 l G 83 ad _ 74 dz (nI 0) hmod x y v h _) (cwV 3 hts gL_law_X9_spoil rfl rfl rfl (by decide +kernel) ⟨Nat.le_of_ble_eq_true rfl, Nat.le_of_ble_eq_true rfl⟩) (iPV hK hP hD (by decide) (hmod.2.1) rfl [.int x, .int y, .int v]) rfl rfl hl.1 rfl (lv_room (Nat.le_of_ble_eq_true rfl)) dL_law_384 ⟨Nat.le_of_ble_eq_true rfl, Nat.le_of_ble_eq_true rfl⟩) hD hS hA (fun r9 u9 H locs hw9 hP hD hS => ?_)
  obtain ⟨hr9, ⟨d9, ht9⟩, hm9⟩ := hw9
  refine lv_asI hr9 ?_
  refine lv_istore (lv' := [(7, .int (nI 0)), (6, .int (nI 1)), (5, .int (nI 0)), (4, .ref (ad 82)), (3, .ref (ad 81)), (2, .ref (ad 74)), (1, .ref (ad 0)), (0, .ref b)]) hx hb dL_law_387 hl (by decide) rfl (fun ls hl => ?_)
  refine lv_aload_n hx hb dL_law_389 rfl (lv_at hl 5 rfl) ?_
  refine iw_i (va_runV (As := []) (rest := []) ⟨hx, hb, hml, hown, hts⟩ (kX9_thrown l G 83 ad _ 74 (by decide) (nI 1) d9 ht9 _) (cwV 0 hts gL_law_X9_thrown rfl rfl rfl (by decide +kernel) ⟨Nat.le_of_ble_eq_true rfl, Nat.le_of_ble_eq_true rfl⟩) (iPV hK hP hD (by decide) (ht9) rfl []) rfl rfl hl.1 rfl (lv_room (Nat.le_of_ble_eq_true rfl)) dL_law_390 ⟨Nat.le_of_ble_eq_true rfl, Nat.le_of_ble_eq_true rfl⟩) hD hS hA (fun r7 u7 H locs hw7 hP hD hS => ?_)
  obtain ⟨hr7, hu7⟩ := hw7
  rw [hu7] at hP hD
  refine lv_asI hr7 ?_
  refine lv_iload hx hb dL_law_393 (lv_at hl 1 rfl) ?_
  refine lv_icmp_eq (tgt := 400) hx hb dL_law_395 (by decide) (fun _ => ?_) (fun c9 => absurd (by decide) c9)
  refine lv_iload hx hb dL_law_400 (lv_at hl 1 rfl) ?_
  refine lv_if_ne (tgt := 417) hx hb dL_law_402 (by decide) (fun _ => ?_) (fun c9 => absurd c9 (by decide))
  refine lv_goto (tgt := 1906) hx hb dL_law_417 (by decide) ?_
  refine W.widen (k := 300) (n := 6500) (Nat.le_of_ble_eq_true rfl) (Nat.le_of_ble_eq_true rfl) ?_
  exact kt H locs ls hS (lv_sub hl [2, 7] rfl)
set_option maxHeartbeats 4000000 in
set_option maxRecDepth 100000 in
theorem lc_spoil_2 {p : Program} {l : Launch} {e : Env} {s : State} {m : MethodId} {below : List Frame} {meth : Method} {c : Code} {b dz : Nat} {xs : Nat → Int32} {G : iG} {Q : State → Prop} (hst : l.stackTraces = false) (hx : p.tables.exec = Jvm.exec) (hb : c.code = cL_law) (hml : c.maxLocals = 9) (hts : ∀ w ∈ wsL_law, w.before #[Value.ref b] s = true) (hown : s.vm.findClass RL = some m.cls) (hX : va_X b 6 xs s s.heap) (hbl : b < s.heap.size) (hK : KB G s) (hV : VX s) (hZt : ZT (aA s) s s.heap) (hZ : ZD dz (aA s) s s.heap) {ad : Nat → Nat} {C : Nat → va_E} {H : Heap} {locs : List Loc} {ls : Array Slot} (hcam : Cam G 83 ad C 0 S0) (hmod : Mod G 83 ad C 74 dz (nI 0)) (glo : C 81 = la G 1 (fun _ => 0)) (hP : va_P G.1 vwB (wl 83 ad C) H) (hD : va_D (aA s) (wl 83 ad C)) (hS : va_S (aA s) s.heap H locs) (hl : lv_has ls 9 [(5, .int (nI 0)), (4, .ref (ad 82)), (3, .ref (ad 81)), (2, .ref (ad 74)), (1, .ref (ad 0)), (0, .ref b)]) (kt : ∀ (H : Heap) (locs : List Loc) (ls : Array Slot), va_S (aA s) s.heap H locs → lv_has ls 9 [(5, .int (nI 0)), (0, .ref b)] → W p l e room_1 s m #[Value.ref b] below meth c H locs 300 6500 Q (F0 m 1906 ls [])) (x y : Nat) (hx8 : x < 8) (hy8 : y < 8) (v : Int32) (h : v < nI 0 ∨ nI 2 < v) (hx1 : xs 1 = nI x) (hx2 : xs 2 = nI y) (hx3 : xs 3 = v) : W p l e room_1 s m #[Value.ref b] below meth c H locs 83 1901 Q (F0 m 340 ls []) := by
  have hbA : ¬ aA s b := Nat.not_le.mpr hbl
  have hA : ∀ q : Nat, s.heap.size ≤ q → aA s q := fun _ h => h
  refine lv_aload_n hx hb dL_law_340 rfl (lv_at hl 4 rfl) ?_
  refine lv_aload_n hx hb dL_law_341 rfl (lv_at hl 5 rfl) ?_
  refine lv_iload hx hb dL_law_342 (lv_at hl 0 rfl) ?_
  refine lv_iconst (v := nI 1) hx hb dL_law_344 (by decide) ?_
  refine lv_iadd hx hb dL_law_345 ?_
  refine lv_asI (y := nI 1) (by decide) ?_
  refine va_sld hx hb hX hbl hbA hS (vp_in_nI (by decide) (by decide)) dL_law_346 ?_
  refine lv_asI (y := nI x) ((congrArg xs (nI_clamp (by decide))).trans hx1) ?_
  refine lv_aload_n hx hb dL_law_347 rfl (lv_at hl 5 rfl) ?_
  refine lv_iload hx hb dL_law_348 (lv_at hl 0 rfl) ?_
  refine lv_iconst (v := nI 2) hx hb dL_law_350 (by decide) ?_
  refine lv_iadd hx hb dL_law_351 ?_
  refine lv_asI (y := nI 2) (by decide) ?_
  refine va_sld hx hb hX hbl hbA hS (vp_in_nI (by decide) (by decide)) dL_law_352 ?_
  refine lv_asI (y := nI y) ((congrArg xs (nI_clamp (by decide))).trans hx2) ?_
  refine lv_aload_n hx hb dL_law_353 rfl (lv_at hl 5 rfl) ?_
  refine lv_iload hx hb dL_law_354 (lv_at hl 0 rfl) ?_
  refine lv_iconst (v := nI 3) hx hb dL_law_356 (by decide) ?_
  refine lv_iadd hx hb dL_law_357 ?_
  refine lv_asI (y := nI 3) (by decide) ?_
  refine va_sld hx hb hX hbl hbA hS (vp_in_nI (by decide) (by decide)) dL_law_358 ?_
  refine lv_asI (y := v) ((congrArg xs (nI_clamp (by decide))).trans hx3) ?_
  refine lv_aload_n hx hb dL_law_359 rfl (lv_at hl 2 rfl) ?_
  refine iwx_i (vx_runSX (hh := [(0, 12, 15, 13), (0, 12, 19, 15)]) (As := [.ref (ad 0), .int (nI x), .int (nI y), .int v, .ref (ad 81)]) (rest := []) ⟨hx, hb, hml, hown, hts⟩ (wL_spoil_2 l hst G 83 ad _ 0 S0 hcam 81 x y hx8 hy8 v h _) (vx_cwSW 5 hts gL_law_L_spoil rfl rfl rfl (by decide +kernel) ⟨Nat.le_of_ble_eq_true rfl, Nat.le_of_ble_eq_true rfl⟩) (iPSX hK hV hZt hS hA hP hD [.ref (ad 0), .int (nI x), .int (nI y), .int v, .ref (ad 81)]) rfl rfl hl.1 rfl (lv_room (Nat.le_of_ble_eq_true rfl)) dL_law_360 ⟨Nat.le_of_ble_eq_true rfl, Nat.le_of_ble_eq_true rfl⟩) hD hS hA (fun r8 u8 H locs hw8 hP hD hS => ?_)
  obtain ⟨hr8, hu8⟩ := hw8
  rw [hu8] at hP hD
  refine lv_asI hr8 ?_
  refine lv_istore (lv' := [(6, .int (nI 2)), (5, .int (nI 0)), (4, .ref (ad 82)), (3, .ref (ad 81)), (2, .ref (ad 74)), (1, .ref (ad 0)), (0, .ref b)]) hx hb dL_law_363 hl (by decide) rfl (fun ls hl => ?_)
  refine lv_aload_n hx hb dL_law_365 rfl (lv_at hl 4 rfl) ?_
  refine lv_aload_n hx hb dL_law_366 rfl (lv_at hl 6 rfl) ?_
  refine lv_iload hx hb dL_law_367 (lv_at hl 1 rfl) ?_
  refine lv_iconst (v := nI 1) hx hb dL_law_369 (by decide) ?_
  refine lv_iadd hx hb dL_law_370 ?_
  refine lv_asI (y := nI 1) (by decide) ?_
  refine va_sld hx hb hX hbl hbA hS (vp_in_nI (by decide) (by decide)) dL_law_371 ?_
  refine lv_asI (y := nI x) ((congrArg xs (nI_clamp (by decide))).trans hx1) ?_
  refine lv_aload_n hx hb dL_law_372 rfl (lv_at hl 6 rfl) ?_
  refine lv_iload hx hb dL_law_373 (lv_at hl 1 rfl) ?_
  refine lv_iconst (v := nI 2) hx hb dL_law_375 (by decide) ?_
  refine lv_iadd hx hb dL_law_376 ?_
  refine lv_asI (y := nI 2) (by decide) ?_
  refine va_sld hx hb hX hbl hbA hS (vp_in_nI (by decide) (by decide)) dL_law_377 ?_
  refine lv_asI (y := nI y) ((congrArg xs (nI_clamp (by decide))).trans hx2) ?_
  refine lv_aload_n hx hb dL_law_378 rfl (lv_at hl 6 rfl) ?_
  refine lv_iload hx hb dL_law_379 (lv_at hl 1 rfl) ?_
  refine lv_iconst (v := nI 3) hx hb dL_law_381 (by decide) ?_
  refine lv_iadd hx hb dL_law_382 ?_
  refine lv_asI (y := nI 3) (by decide) ?_
  refine va_sld hx hb hX hbl hbA hS (vp_in_nI (by decide) (by decide)) dL_law_383 ?_
  refine lv_asI (y := v) ((congrArg xs (nI_clamp (by decide))).trans hx3) ?_
  refine iw_i (va_runV (As := [.int (nI x), .int (nI y), .int v]) (rest := []) ⟨hx, hb, hml, hown, hts⟩ (kX9_spoil_2 l G 83 ad _ 74 dz (nI 0) hmod x y hx8 hy8 v h _) (cwV 3 hts gL_law_X9_spoil rfl rfl rfl (by decide +kernel) ⟨Nat.le_of_ble_eq_true rfl, Nat.le_of_ble_eq_true rfl⟩) (iPV hK hP hD (by decide) (hmod.2.1) rfl [.int (nI x), .int (nI y), .int v]) rfl rfl hl.1 rfl (lv_room (Nat.le_of_ble_eq_true rfl)) dL_law_384 ⟨Nat.le_of_ble_eq_true rfl, Nat.le_of_ble_eq_true rfl⟩) hD hS hA (fun r9 u9 H locs hw9 hP hD hS => ?_)
  obtain ⟨hr9, ⟨d9, ht9⟩, hm9⟩ := hw9
  refine lv_asI hr9 ?_
  refine lv_istore (lv' := [(7, .int (nI 0)), (6, .int (nI 2)), (5, .int (nI 0)), (4, .ref (ad 82)), (3, .ref (ad 81)), (2, .ref (ad 74)), (1, .ref (ad 0)), (0, .ref b)]) hx hb dL_law_387 hl (by decide) rfl (fun ls hl => ?_)
  refine lv_aload_n hx hb dL_law_389 rfl (lv_at hl 5 rfl) ?_
  refine iw_i (va_runV (As := []) (rest := []) ⟨hx, hb, hml, hown, hts⟩ (kX9_thrown l G 83 ad _ 74 (by decide) (nI 2) d9 ht9 _) (cwV 0 hts gL_law_X9_thrown rfl rfl rfl (by decide +kernel) ⟨Nat.le_of_ble_eq_true rfl, Nat.le_of_ble_eq_true rfl⟩) (iPV hK hP hD (by decide) (ht9) rfl []) rfl rfl hl.1 rfl (lv_room (Nat.le_of_ble_eq_true rfl)) dL_law_390 ⟨Nat.le_of_ble_eq_true rfl, Nat.le_of_ble_eq_true rfl⟩) hD hS hA (fun r7 u7 H locs hw7 hP hD hS => ?_)
  obtain ⟨hr7, hu7⟩ := hw7
  rw [hu7] at hP hD
  refine lv_asI hr7 ?_
  refine lv_iload hx hb dL_law_393 (lv_at hl 1 rfl) ?_
  refine lv_icmp_eq (tgt := 400) hx hb dL_law_395 (by decide) (fun _ => ?_) (fun c9 => absurd (by decide) c9)
  refine lv_iload hx hb dL_law_400 (lv_at hl 1 rfl) ?_
  refine lv_if_ne (tgt := 417) hx hb dL_law_402 (by decide) (fun _ => ?_) (fun c9 => absurd c9 (by decide))
  refine lv_goto (tgt := 1906) hx hb dL_law_417 (by decide) ?_
  refine W.widen (k := 300) (n := 6500) (Nat.le_of_ble_eq_true rfl) (Nat.le_of_ble_eq_true rfl) ?_
  exact kt H locs ls hS (lv_sub hl [2, 7] rfl)
set_option maxHeartbeats 4000000 in
set_option maxRecDepth 100000 in
theorem lc_spoil_v {p : Program} {l : Launch} {e : Env} {s : State} {m : MethodId} {below : List Frame} {meth : Method} {c : Code} {b dz : Nat} {xs : Nat → Int32} {G : iG} {Q : State → Prop} (hst : l.stackTraces = false) (hx : p.tables.exec = Jvm.exec) (hb : c.code = cL_law) (hml : c.maxLocals = 9) (hts : ∀ w ∈ wsL_law, w.before #[Value.ref b] s = true) (hown : s.vm.findClass RL = some m.cls) (hX : va_X b 6 xs s s.heap) (hbl : b < s.heap.size) (hK : KB G s) (hV : VX s) (hZt : ZT (aA s) s s.heap) (hZ : ZD dz (aA s) s s.heap) {ad : Nat → Nat} {C : Nat → va_E} {H : Heap} {locs : List Loc} {ls : Array Slot} (hcam : Cam G 83 ad C 0 S0) (hmod : Mod G 83 ad C 74 dz (nI 0)) (glo : C 81 = la G 1 (fun _ => 0)) (hP : va_P G.1 vwB (wl 83 ad C) H) (hD : va_D (aA s) (wl 83 ad C)) (hS : va_S (aA s) s.heap H locs) (hl : lv_has ls 9 [(5, .int (nI 0)), (4, .ref (ad 82)), (3, .ref (ad 81)), (2, .ref (ad 74)), (1, .ref (ad 0)), (0, .ref b)]) (kt : ∀ (H : Heap) (locs : List Loc) (ls : Array Slot), va_S (aA s) s.heap H locs → lv_has ls 9 [(5, .int (nI 0)), (0, .ref b)] → W p l e room_1 s m #[Value.ref b] below meth c H locs 300 6500 Q (F0 m 1906 ls [])) (x y : Nat) (hx8 : x < 8) (hy8 : y < 8) (v : Nat) (hv3 : v < 3) (hx1 : xs 1 = nI x) (hx2 : xs 2 = nI y) (hx3 : xs 3 = nI v) : W p l e room_1 s m #[Value.ref b] below meth c H locs 83 1901 Q (F0 m 340 ls []) := by
  have hbA : ¬ aA s b := Nat.not_le.mpr hbl
  have hA : ∀ q : Nat, s.heap.size ≤ q → aA s q := fun _ h => h
  refine lv_aload_n hx hb dL_law_340 rfl (lv_at hl 4 rfl) ?_
  refine lv_aload_n hx hb dL_law_341 rfl (lv_at hl 5 rfl) ?_
  refine lv_iload hx hb dL_law_342 (lv_at hl 0 rfl) ?_
  refine lv_iconst (v := nI 1) hx hb dL_law_344 (by decide) ?_
  refine lv_iadd hx hb dL_law_345 ?_
  refine lv_asI (y := nI 1) (by decide) ?_
  refine va_sld hx hb hX hbl hbA hS (vp_in_nI (by decide) (by decide)) dL_law_346 ?_
  refine lv_asI (y := nI x) ((congrArg xs (nI_clamp (by decide))).trans hx1) ?_
  refine lv_aload_n hx hb dL_law_347 rfl (lv_at hl 5 rfl) ?_
  refine lv_iload hx hb dL_law_348 (lv_at hl 0 rfl) ?_
  refine lv_iconst (v := nI 2) hx hb dL_law_350 (by decide) ?_
  refine lv_iadd hx hb dL_law_351 ?_
  refine lv_asI (y := nI 2) (by decide) ?_
  refine va_sld hx hb hX hbl hbA hS (vp_in_nI (by decide) (by decide)) dL_law_352 ?_
  refine lv_asI (y := nI y) ((congrArg xs (nI_clamp (by decide))).trans hx2) ?_
  refine lv_aload_n hx hb dL_law_353 rfl (lv_at hl 5 rfl) ?_
  refine lv_iload hx hb dL_law_354 (lv_at hl 0 rfl) ?_
  refine lv_iconst (v := nI 3) hx hb dL_law_356 (by decide) ?_
  refine lv_iadd hx hb dL_law_357 ?_
  refine lv_asI (y := nI 3) (by decide) ?_
  refine va_sld hx hb hX hbl hbA hS (vp_in_nI (by decide) (by decide)) dL_law_358 ?_
  refine lv_asI (y := nI v) ((congrArg xs (nI_clamp (by decide))).trans hx3) ?_
  refine lv_aload_n hx hb dL_law_359 rfl (lv_at hl 2 rfl) ?_
  refine iwx_i (vx_runSX (hh := [(0, 12, 15, 13), (0, 12, 19, 15)]) (As := [.ref (ad 0), .int (nI x), .int (nI y), .int (nI v), .ref (ad 81)]) (rest := []) ⟨hx, hb, hml, hown, hts⟩ (wL_spoil l G 83 ad _ 0 S0 hcam 81 (by decide) (Or.inr (by decide)) _ glo x y hx8 hy8 v hv3 _) (vx_cwSW 5 hts gL_law_L_spoil rfl rfl rfl (by decide +kernel) ⟨Nat.le_of_ble_eq_true rfl, Nat.le_of_ble_eq_true rfl⟩) (iPSX hK hV hZt hS hA hP hD [.ref (ad 0), .int (nI x), .int (nI y), .int (nI v), .ref (ad 81)]) rfl rfl hl.1 rfl (lv_room (Nat.le_of_ble_eq_true rfl)) dL_law_360 ⟨Nat.le_of_ble_eq_true rfl, Nat.le_of_ble_eq_true rfl⟩) hD hS hA (fun r8 u8 H locs hw8 hP hD hS => ?_)
  obtain ⟨hr8, ⟨f8, hf8, hv8⟩, hs8⟩ := hw8
  refine lv_asI hr8 ?_
  have hmod := Mod_same hmod (fun i h1 h2 => hs8 i (Or.inr (by omega)) (by omega))
  refine lv_istore (lv' := [(6, .int (nI 0)), (5, .int (nI 0)), (4, .ref (ad 82)), (3, .ref (ad 81)), (2, .ref (ad 74)), (1, .ref (ad 0)), (0, .ref b)]) hx hb dL_law_363 hl (by decide) rfl (fun ls hl => ?_)
  refine lv_aload_n hx hb dL_law_365 rfl (lv_at hl 4 rfl) ?_
  refine lv_aload_n hx hb dL_law_366 rfl (lv_at hl 6 rfl) ?_
  refine lv_iload hx hb dL_law_367 (lv_at hl 1 rfl) ?_
  refine lv_iconst (v := nI 1) hx hb dL_law_369 (by decide) ?_
  refine lv_iadd hx hb dL_law_370 ?_
  refine lv_asI (y := nI 1) (by decide) ?_
  refine va_sld hx hb hX hbl hbA hS (vp_in_nI (by decide) (by decide)) dL_law_371 ?_
  refine lv_asI (y := nI x) ((congrArg xs (nI_clamp (by decide))).trans hx1) ?_
  refine lv_aload_n hx hb dL_law_372 rfl (lv_at hl 6 rfl) ?_
  refine lv_iload hx hb dL_law_373 (lv_at hl 1 rfl) ?_
  refine lv_iconst (v := nI 2) hx hb dL_law_375 (by decide) ?_
  refine lv_iadd hx hb dL_law_376 ?_
  refine lv_asI (y := nI 2) (by decide) ?_
  refine va_sld hx hb hX hbl hbA hS (vp_in_nI (by decide) (by decide)) dL_law_377 ?_
  refine lv_asI (y := nI y) ((congrArg xs (nI_clamp (by decide))).trans hx2) ?_
  refine lv_aload_n hx hb dL_law_378 rfl (lv_at hl 6 rfl) ?_
  refine lv_iload hx hb dL_law_379 (lv_at hl 1 rfl) ?_
  refine lv_iconst (v := nI 3) hx hb dL_law_381 (by decide) ?_
  refine lv_iadd hx hb dL_law_382 ?_
  refine lv_asI (y := nI 3) (by decide) ?_
  refine va_sld hx hb hX hbl hbA hS (vp_in_nI (by decide) (by decide)) dL_law_383 ?_
  refine lv_asI (y := nI v) ((congrArg xs (nI_clamp (by decide))).trans hx3) ?_
  refine iw_i (va_runV (As := [.int (nI x), .int (nI y), .int (nI v)]) (rest := []) ⟨hx, hb, hml, hown, hts⟩ (kX9_spoil l G 83 ad _ 74 dz (nI 0) hmod x y hx8 hy8 v hv3 _) (cwV 3 hts gL_law_X9_spoil rfl rfl rfl (by decide +kernel) ⟨Nat.le_of_ble_eq_true rfl, Nat.le_of_ble_eq_true rfl⟩) (iPV hK hP hD (by decide) (hmod.2.1) rfl [.int (nI x), .int (nI y), .int (nI v)]) rfl rfl hl.1 rfl (lv_room (Nat.le_of_ble_eq_true rfl)) dL_law_384 ⟨Nat.le_of_ble_eq_true rfl, Nat.le_of_ble_eq_true rfl⟩) hD hS hA (fun r9 u9 H locs hw9 hP hD hS => ?_)
  obtain ⟨hr9, ⟨d9, ht9⟩, hm9⟩ := hw9
  refine lv_asI (hr9.trans (rfl)) ?_
  refine lv_istore (lv' := [(7, .int (nI (sHw S0 (8 * y + x)))), (6, .int (nI 0)), (5, .int (nI 0)), (4, .ref (ad 82)), (3, .ref (ad 81)), (2, .ref (ad 74)), (1, .ref (ad 0)), (0, .ref b)]) hx hb dL_law_387 hl (by decide) rfl (fun ls hl => ?_)
  refine lv_aload_n hx hb dL_law_389 rfl (lv_at hl 5 rfl) ?_
  refine iw_i (va_runV (As := []) (rest := []) ⟨hx, hb, hml, hown, hts⟩ (kX9_thrown l G 83 ad _ 74 (by decide) (nI 0) d9 ht9 _) (cwV 0 hts gL_law_X9_thrown rfl rfl rfl (by decide +kernel) ⟨Nat.le_of_ble_eq_true rfl, Nat.le_of_ble_eq_true rfl⟩) (iPV hK hP hD (by decide) (ht9) rfl []) rfl rfl hl.1 rfl (lv_room (Nat.le_of_ble_eq_true rfl)) dL_law_390 ⟨Nat.le_of_ble_eq_true rfl, Nat.le_of_ble_eq_true rfl⟩) hD hS hA (fun r7 u7 H locs hw7 hP hD hS => ?_)
  obtain ⟨hr7, hu7⟩ := hw7
  rw [hu7] at hP hD
  refine lv_asI hr7 ?_
  refine lv_iload hx hb dL_law_393 (lv_at hl 1 rfl) ?_
  refine lv_icmp_eq (tgt := 400) hx hb dL_law_395 (by decide) (fun _ => ?_) (fun c9 => absurd (by decide) c9)
  refine lv_iload hx hb dL_law_400 (lv_at hl 1 rfl) ?_
  refine lv_if_ne (tgt := 417) hx hb dL_law_402 (by decide) (fun c9 => absurd (by decide) c9) (fun _ => ?_)
  refine lv_aload_n hx hb dL_law_405 rfl (lv_at hl 4 rfl) ?_
  refine lv_iconst (v := nI 0) hx hb dL_law_406 (by decide) ?_
  refine iw_lald (v := ((nI (sHw S0 (8 * y + x)))).toInt64) hx hb hK hP (by decide) (((hm9 81 (Or.inr (by decide))).trans hf8)) (vp_in_nI (show 0 < 1 by omega) (by omega)) ((congrArg f8 (nI_clamp (by decide))).trans hv8) dL_law_407 ?_
  refine lv_iload hx hb dL_law_408 (lv_at hl 0 rfl) ?_
  refine lv_i2l (v := (nI (sHw S0 (8 * y + x))).toInt64) hx hb dL_law_410 rfl ?_
  refine lv_lcmpE hx hb dL_law_411 ?_
  refine lv_if_eq (tgt := 417) hx hb dL_law_412 (by decide) (fun _ => ?_) (fun c9 => absurd (by decide) c9)
  refine lv_goto (tgt := 1906) hx hb dL_law_417 (by decide) ?_
  refine W.widen (k := 300) (n := 6500) (Nat.le_of_ble_eq_true rfl) (Nat.le_of_ble_eq_true rfl) ?_
  exact kt H locs ls hS (lv_sub hl [2, 7] rfl)
set_option maxHeartbeats 4000000 in
set_option maxRecDepth 100000 in
theorem lc_map_1t {p : Program} {l : Launch} {e : Env} {s : State} {m : MethodId} {below : List Frame} {meth : Method} {c : Code} {b dz : Nat} {xs : Nat → Int32} {G : iG} {Q : State → Prop} (hst : l.stackTraces = false) (hx : p.tables.exec = Jvm.exec) (hb : c.code = cL_law) (hml : c.maxLocals = 9) (hts : ∀ w ∈ wsL_law, w.before #[Value.ref b] s = true) (hown : s.vm.findClass RL = some m.cls) (hX : va_X b 6 xs s s.heap) (hbl : b < s.heap.size) (hK : KB G s) (hV : VX s) (hZt : ZT (aA s) s s.heap) (hZ : ZD dz (aA s) s s.heap) {ad : Nat → Nat} {C : Nat → va_E} {H : Heap} {locs : List Loc} {ls : Array Slot} (hcam : Cam G 83 ad C 0 S0) (hmod : Mod G 83 ad C 74 dz (nI 0)) (glo : C 81 = la G 1 (fun _ => 0)) (hP : va_P G.1 vwB (wl 83 ad C) H) (hD : va_D (aA s) (wl 83 ad C)) (hS : va_S (aA s) s.heap H locs) (hl : lv_has ls 9 [(5, .int (nI 0)), (4, .ref (ad 82)), (3, .ref (ad 81)), (2, .ref (ad 74)), (1, .ref (ad 0)), (0, .ref b)]) (kt : ∀ (H : Heap) (locs : List Loc) (ls : Array Slot), va_S (aA s) s.heap H locs → lv_has ls 9 [(5, .int (nI 0)), (0, .ref b)] → W p l e room_1 s m #[Value.ref b] below meth c H locs 300 6500 Q (F0 m 1906 ls [])) (x y b3 : Int32) (h : isPl x y = false) (hx1 : xs 1 = x) (hx2 : xs 2 = y) (hx3 : xs 3 = b3) (h3 : b3 ≠ 0) : W p l e room_1 s m #[Value.ref b] below meth c H locs 83 1901 Q (F0 m 420 ls []) := by
  have hbA : ¬ aA s b := Nat.not_le.mpr hbl
  have hA : ∀ q : Nat, s.heap.size ≤ q → aA s q := fun _ h => h
  refine lv_aload_n hx hb dL_law_420 rfl (lv_at hl 4 rfl) ?_
  refine lv_aload_n hx hb dL_law_421 rfl (lv_at hl 5 rfl) ?_
  refine lv_iload hx hb dL_law_422 (lv_at hl 0 rfl) ?_
  refine lv_iconst (v := nI 1) hx hb dL_law_424 (by decide) ?_
  refine lv_iadd hx hb dL_law_425 ?_
  refine lv_asI (y := nI 1) (by decide) ?_
  refine va_sld hx hb hX hbl hbA hS (vp_in_nI (by decide) (by decide)) dL_law_426 ?_
  refine lv_asI (y := x) ((congrArg xs (nI_clamp (by decide))).trans hx1) ?_
  refine lv_aload_n hx hb dL_law_427 rfl (lv_at hl 5 rfl) ?_
  refine lv_iload hx hb dL_law_428 (lv_at hl 0 rfl) ?_
  refine lv_iconst (v := nI 2) hx hb dL_law_430 (by decide) ?_
  refine lv_iadd hx hb dL_law_431 ?_
  refine lv_asI (y := nI 2) (by decide) ?_
  refine va_sld hx hb hX hbl hbA hS (vp_in_nI (by decide) (by decide)) dL_law_432 ?_
  refine lv_asI (y := y) ((congrArg xs (nI_clamp (by decide))).trans hx2) ?_
  refine lv_aload_n hx hb dL_law_433 rfl (lv_at hl 5 rfl) ?_
  refine lv_iload hx hb dL_law_434 (lv_at hl 0 rfl) ?_
  refine lv_iconst (v := nI 3) hx hb dL_law_436 (by decide) ?_
  refine lv_iadd hx hb dL_law_437 ?_
  refine lv_asI (y := nI 3) (by decide) ?_
  refine va_sld hx hb hX hbl hbA hS (vp_in_nI (by decide) (by decide)) dL_law_438 ?_
  refine lv_asI (y := b3) ((congrArg xs (nI_clamp (by decide))).trans hx3) ?_
  refine lv_if_eq (tgt := 446) hx hb dL_law_439 (by decide) (fun c9 => absurd c9 (h3)) (fun _ => ?_)
  refine lv_iconst (v := nI 1) hx hb dL_law_442 (by decide) ?_
  refine lv_goto (tgt := 447) hx hb dL_law_443 (by decide) ?_
  refine lv_aload_n hx hb dL_law_447 rfl (lv_at hl 2 rfl) ?_
  refine iwx_i (vx_runSX (hh := [(0, 12, 15, 13)]) (As := [.ref (ad 0), .int x, .int y, .int (nI 1), .ref (ad 81)]) (rest := []) ⟨hx, hb, hml, hown, hts⟩ (wL_map_1 l hst G 83 ad _ 0 S0 hcam 81 x y (nI 1) h _) (vx_cwSW 5 hts gL_law_L_map rfl rfl rfl (by decide +kernel) ⟨Nat.le_of_ble_eq_true rfl, Nat.le_of_ble_eq_true rfl⟩) (iPSX hK hV hZt hS hA hP hD [.ref (ad 0), .int x, .int y, .int (nI 1), .ref (ad 81)]) rfl rfl hl.1 rfl (lv_room (Nat.le_of_ble_eq_true rfl)) dL_law_448 ⟨Nat.le_of_ble_eq_true rfl, Nat.le_of_ble_eq_true rfl⟩) hD hS hA (fun r8 u8 H locs hw8 hP hD hS => ?_)
  obtain ⟨hr8, hu8⟩ := hw8
  rw [hu8] at hP hD
  refine lv_asI hr8 ?_
  refine lv_istore (lv' := [(6, .int (nI 1)), (5, .int (nI 0)), (4, .ref (ad 82)), (3, .ref (ad 81)), (2, .ref (ad 74)), (1, .ref (ad 0)), (0, .ref b)]) hx hb dL_law_451 hl (by decide) rfl (fun ls hl => ?_)
  refine lv_aload_n hx hb dL_law_453 rfl (lv_at hl 4 rfl) ?_
  refine lv_aload_n hx hb dL_law_454 rfl (lv_at hl 6 rfl) ?_
  refine lv_iload hx hb dL_law_455 (lv_at hl 1 rfl) ?_
  refine lv_iconst (v := nI 1) hx hb dL_law_457 (by decide) ?_
  refine lv_iadd hx hb dL_law_458 ?_
  refine lv_asI (y := nI 1) (by decide) ?_
  refine va_sld hx hb hX hbl hbA hS (vp_in_nI (by decide) (by decide)) dL_law_459 ?_
  refine lv_asI (y := x) ((congrArg xs (nI_clamp (by decide))).trans hx1) ?_
  refine lv_aload_n hx hb dL_law_460 rfl (lv_at hl 6 rfl) ?_
  refine lv_iload hx hb dL_law_461 (lv_at hl 1 rfl) ?_
  refine lv_iconst (v := nI 2) hx hb dL_law_463 (by decide) ?_
  refine lv_iadd hx hb dL_law_464 ?_
  refine lv_asI (y := nI 2) (by decide) ?_
  refine va_sld hx hb hX hbl hbA hS (vp_in_nI (by decide) (by decide)) dL_law_465 ?_
  refine lv_asI (y := y) ((congrArg xs (nI_clamp (by decide))).trans hx2) ?_
  refine lv_aload_n hx hb dL_law_466 rfl (lv_at hl 6 rfl) ?_
  refine lv_iload hx hb dL_law_467 (lv_at hl 1 rfl) ?_
  refine lv_iconst (v := nI 3) hx hb dL_law_469 (by decide) ?_
  refine lv_iadd hx hb dL_law_470 ?_
  refine lv_asI (y := nI 3) (by decide) ?_
  refine va_sld hx hb hX hbl hbA hS (vp_in_nI (by decide) (by decide)) dL_law_471 ?_
  refine lv_asI (y := b3) ((congrArg xs (nI_clamp (by decide))).trans hx3) ?_
  refine lv_if_eq (tgt := 479) hx hb dL_law_472 (by decide) (fun c9 => absurd c9 (h3)) (fun _ => ?_)
  refine lv_iconst (v := nI 1) hx hb dL_law_475 (by decide) ?_
  refine lv_goto (tgt := 480) hx hb dL_law_476 (by decide) ?_
  refine iw_i (va_runV (As := [.int x, .int y, .int (nI 1)]) (rest := []) ⟨hx, hb, hml, hown, hts⟩ (kX9_map_1 l G 83 ad _ 74 dz (nI 0) hmod x y (nI 1) h _) (cwV 3 hts gL_law_X9_map rfl rfl rfl (by decide +kernel) ⟨Nat.le_of_ble_eq_true rfl, Nat.le_of_ble_eq_true rfl⟩) (iPV hK hP hD (by decide) (hmod.2.1) rfl [.int x, .int y, .int (nI 1)]) rfl rfl hl.1 rfl (lv_room (Nat.le_of_ble_eq_true rfl)) dL_law_480 ⟨Nat.le_of_ble_eq_true rfl, Nat.le_of_ble_eq_true rfl⟩) hD hS hA (fun r9 u9 H locs hw9 hP hD hS => ?_)
  obtain ⟨hr9, ⟨d9, ht9⟩, hm9⟩ := hw9
  refine lv_asI hr9 ?_
  refine lv_istore (lv' := [(7, .int (nI 0)), (6, .int (nI 1)), (5, .int (nI 0)), (4, .ref (ad 82)), (3, .ref (ad 81)), (2, .ref (ad 74)), (1, .ref (ad 0)), (0, .ref b)]) hx hb dL_law_483 hl (by decide) rfl (fun ls hl => ?_)
  refine lv_aload_n hx hb dL_law_485 rfl (lv_at hl 5 rfl) ?_
  refine iw_i (va_runV (As := []) (rest := []) ⟨hx, hb, hml, hown, hts⟩ (kX9_thrown l G 83 ad _ 74 (by decide) (nI 1) d9 ht9 _) (cwV 0 hts gL_law_X9_thrown rfl rfl rfl (by decide +kernel) ⟨Nat.le_of_ble_eq_true rfl, Nat.le_of_ble_eq_true rfl⟩) (iPV hK hP hD (by decide) (ht9) rfl []) rfl rfl hl.1 rfl (lv_room (Nat.le_of_ble_eq_true rfl)) dL_law_486 ⟨Nat.le_of_ble_eq_true rfl, Nat.le_of_ble_eq_true rfl⟩) hD hS hA (fun r7 u7 H locs hw7 hP hD hS => ?_)
  obtain ⟨hr7, hu7⟩ := hw7
  rw [hu7] at hP hD
  refine lv_asI hr7 ?_
  refine lv_iload hx hb dL_law_489 (lv_at hl 1 rfl) ?_
  refine lv_icmp_eq (tgt := 496) hx hb dL_law_491 (by decide) (fun _ => ?_) (fun c9 => absurd (by decide) c9)
  refine lv_iload hx hb dL_law_496 (lv_at hl 1 rfl) ?_
  refine lv_if_ne (tgt := 513) hx hb dL_law_498 (by decide) (fun _ => ?_) (fun c9 => absurd c9 (by decide))
  refine lv_goto (tgt := 1906) hx hb dL_law_513 (by decide) ?_
  refine W.widen (k := 300) (n := 6500) (Nat.le_of_ble_eq_true rfl) (Nat.le_of_ble_eq_true rfl) ?_
  exact kt H locs ls hS (lv_sub hl [2, 7] rfl)
set_option maxHeartbeats 4000000 in
set_option maxRecDepth 100000 in
theorem lc_map_vt {p : Program} {l : Launch} {e : Env} {s : State} {m : MethodId} {below : List Frame} {meth : Method} {c : Code} {b dz : Nat} {xs : Nat → Int32} {G : iG} {Q : State → Prop} (hst : l.stackTraces = false) (hx : p.tables.exec = Jvm.exec) (hb : c.code = cL_law) (hml : c.maxLocals = 9) (hts : ∀ w ∈ wsL_law, w.before #[Value.ref b] s = true) (hown : s.vm.findClass RL = some m.cls) (hX : va_X b 6 xs s s.heap) (hbl : b < s.heap.size) (hK : KB G s) (hV : VX s) (hZt : ZT (aA s) s s.heap) (hZ : ZD dz (aA s) s s.heap) {ad : Nat → Nat} {C : Nat → va_E} {H : Heap} {locs : List Loc} {ls : Array Slot} (hcam : Cam G 83 ad C 0 S0) (hmod : Mod G 83 ad C 74 dz (nI 0)) (glo : C 81 = la G 1 (fun _ => 0)) (hP : va_P G.1 vwB (wl 83 ad C) H) (hD : va_D (aA s) (wl 83 ad C)) (hS : va_S (aA s) s.heap H locs) (hl : lv_has ls 9 [(5, .int (nI 0)), (4, .ref (ad 82)), (3, .ref (ad 81)), (2, .ref (ad 74)), (1, .ref (ad 0)), (0, .ref b)]) (kt : ∀ (H : Heap) (locs : List Loc) (ls : Array Slot), va_S (aA s) s.heap H locs → lv_has ls 9 [(5, .int (nI 0)), (0, .ref b)] → W p l e room_1 s m #[Value.ref b] below meth c H locs 300 6500 Q (F0 m 1906 ls [])) (x y : Nat) (hx8 : x < 8) (hy8 : y < 8) (b3 : Int32) (hx1 : xs 1 = nI x) (hx2 : xs 2 = nI y) (hx3 : xs 3 = b3) (h3 : b3 ≠ 0) : W p l e room_1 s m #[Value.ref b] below meth c H locs 83 1901 Q (F0 m 420 ls []) := by
  have hbA : ¬ aA s b := Nat.not_le.mpr hbl
  have hA : ∀ q : Nat, s.heap.size ≤ q → aA s q := fun _ h => h
  refine lv_aload_n hx hb dL_law_420 rfl (lv_at hl 4 rfl) ?_
  refine lv_aload_n hx hb dL_law_421 rfl (lv_at hl 5 rfl) ?_
  refine lv_iload hx hb dL_law_422 (lv_at hl 0 rfl) ?_
  refine lv_iconst (v := nI 1) hx hb dL_law_424 (by decide) ?_
  refine lv_iadd hx hb dL_law_425 ?_
  refine lv_asI (y := nI 1) (by decide) ?_
  refine va_sld hx hb hX hbl hbA hS (vp_in_nI (by decide) (by decide)) dL_law_426 ?_
  refine lv_asI (y := nI x) ((congrArg xs (nI_clamp (by decide))).trans hx1) ?_
  refine lv_aload_n hx hb dL_law_427 rfl (lv_at hl 5 rfl) ?_
  refine lv_iload hx hb dL_law_428 (lv_at hl 0 rfl) ?_
  refine lv_iconst (v := nI 2) hx hb dL_law_430 (by decide) ?_
  refine lv_iadd hx hb dL_law_431 ?_
  refine lv_asI (y := nI 2) (by decide) ?_
  refine va_sld hx hb hX hbl hbA hS (vp_in_nI (by decide) (by decide)) dL_law_432 ?_
  refine lv_asI (y := nI y) ((congrArg xs (nI_clamp (by decide))).trans hx2) ?_
  refine lv_aload_n hx hb dL_law_433 rfl (lv_at hl 5 rfl) ?_
  refine lv_iload hx hb dL_law_434 (lv_at hl 0 rfl) ?_
  refine lv_iconst (v := nI 3) hx hb dL_law_436 (by decide) ?_
  refine lv_iadd hx hb dL_law_437 ?_
  refine lv_asI (y := nI 3) (by decide) ?_
  refine va_sld hx hb hX hbl hbA hS (vp_in_nI (by decide) (by decide)) dL_law_438 ?_
  refine lv_asI (y := b3) ((congrArg xs (nI_clamp (by decide))).trans hx3) ?_
  refine lv_if_eq (tgt := 446) hx hb dL_law_439 (by decide) (fun c9 => absurd c9 (h3)) (fun _ => ?_)
  refine lv_iconst (v := nI 1) hx hb dL_law_442 (by decide) ?_
  refine lv_goto (tgt := 447) hx hb dL_law_443 (by decide) ?_
  refine lv_aload_n hx hb dL_law_447 rfl (lv_at hl 2 rfl) ?_
  refine iwx_i (vx_runSX (hh := [(0, 12, 15, 13)]) (As := [.ref (ad 0), .int (nI x), .int (nI y), .int (nI 1), .ref (ad 81)]) (rest := []) ⟨hx, hb, hml, hown, hts⟩ (wL_map l G 83 ad _ 0 S0 hcam 81 (by decide) (Or.inr (by decide)) _ glo x y hx8 hy8 true _) (vx_cwSW 5 hts gL_law_L_map rfl rfl rfl (by decide +kernel) ⟨Nat.le_of_ble_eq_true rfl, Nat.le_of_ble_eq_true rfl⟩) (iPSX hK hV hZt hS hA hP hD [.ref (ad 0), .int (nI x), .int (nI y), .int (nI 1), .ref (ad 81)]) rfl rfl hl.1 rfl (lv_room (Nat.le_of_ble_eq_true rfl)) dL_law_448 ⟨Nat.le_of_ble_eq_true rfl, Nat.le_of_ble_eq_true rfl⟩) hD hS hA (fun r8 u8 H locs hw8 hP hD hS => ?_)
  obtain ⟨hr8, ⟨f8, hf8, hv8⟩, hs8⟩ := hw8
  refine lv_asI hr8 ?_
  have hmod := Mod_same hmod (fun i h1 h2 => hs8 i (Or.inr (by omega)) (by omega))
  refine lv_istore (lv' := [(6, .int (nI 0)), (5, .int (nI 0)), (4, .ref (ad 82)), (3, .ref (ad 81)), (2, .ref (ad 74)), (1, .ref (ad 0)), (0, .ref b)]) hx hb dL_law_451 hl (by decide) rfl (fun ls hl => ?_)
  refine lv_aload_n hx hb dL_law_453 rfl (lv_at hl 4 rfl) ?_
  refine lv_aload_n hx hb dL_law_454 rfl (lv_at hl 6 rfl) ?_
  refine lv_iload hx hb dL_law_455 (lv_at hl 1 rfl) ?_
  refine lv_iconst (v := nI 1) hx hb dL_law_457 (by decide) ?_
  refine lv_iadd hx hb dL_law_458 ?_
  refine lv_asI (y := nI 1) (by decide) ?_
  refine va_sld hx hb hX hbl hbA hS (vp_in_nI (by decide) (by decide)) dL_law_459 ?_
  refine lv_asI (y := nI x) ((congrArg xs (nI_clamp (by decide))).trans hx1) ?_
  refine lv_aload_n hx hb dL_law_460 rfl (lv_at hl 6 rfl) ?_
  refine lv_iload hx hb dL_law_461 (lv_at hl 1 rfl) ?_
  refine lv_iconst (v := nI 2) hx hb dL_law_463 (by decide) ?_
  refine lv_iadd hx hb dL_law_464 ?_
  refine lv_asI (y := nI 2) (by decide) ?_
  refine va_sld hx hb hX hbl hbA hS (vp_in_nI (by decide) (by decide)) dL_law_465 ?_
  refine lv_asI (y := nI y) ((congrArg xs (nI_clamp (by decide))).trans hx2) ?_
  refine lv_aload_n hx hb dL_law_466 rfl (lv_at hl 6 rfl) ?_
  refine lv_iload hx hb dL_law_467 (lv_at hl 1 rfl) ?_
  refine lv_iconst (v := nI 3) hx hb dL_law_469 (by decide) ?_
  refine lv_iadd hx hb dL_law_470 ?_
  refine lv_asI (y := nI 3) (by decide) ?_
  refine va_sld hx hb hX hbl hbA hS (vp_in_nI (by decide) (by decide)) dL_law_471 ?_
  refine lv_asI (y := b3) ((congrArg xs (nI_clamp (by decide))).trans hx3) ?_
  refine lv_if_eq (tgt := 479) hx hb dL_law_472 (by decide) (fun c9 => absurd c9 (h3)) (fun _ => ?_)
  refine lv_iconst (v := nI 1) hx hb dL_law_475 (by decide) ?_
  refine lv_goto (tgt := 480) hx hb dL_law_476 (by decide) ?_
  refine iw_i (va_runV (As := [.int (nI x), .int (nI y), .int (nI 1)]) (rest := []) ⟨hx, hb, hml, hown, hts⟩ (kX9_map l G 83 ad _ 74 dz (nI 0) hmod x y hx8 hy8 true _) (cwV 3 hts gL_law_X9_map rfl rfl rfl (by decide +kernel) ⟨Nat.le_of_ble_eq_true rfl, Nat.le_of_ble_eq_true rfl⟩) (iPV hK hP hD (by decide) (hmod.2.1) rfl [.int (nI x), .int (nI y), .int (nI 1)]) rfl rfl hl.1 rfl (lv_room (Nat.le_of_ble_eq_true rfl)) dL_law_480 ⟨Nat.le_of_ble_eq_true rfl, Nat.le_of_ble_eq_true rfl⟩) hD hS hA (fun r9 u9 H locs hw9 hP hD hS => ?_)
  obtain ⟨hr9, ⟨d9, ht9⟩, hm9⟩ := hw9
  refine lv_asI (hr9.trans (rfl)) ?_
  refine lv_istore (lv' := [(7, .int (nI (ctN (va_up (sMp S0) (8 * y + x) true) 64))), (6, .int (nI 0)), (5, .int (nI 0)), (4, .ref (ad 82)), (3, .ref (ad 81)), (2, .ref (ad 74)), (1, .ref (ad 0)), (0, .ref b)]) hx hb dL_law_483 hl (by decide) rfl (fun ls hl => ?_)
  refine lv_aload_n hx hb dL_law_485 rfl (lv_at hl 5 rfl) ?_
  refine iw_i (va_runV (As := []) (rest := []) ⟨hx, hb, hml, hown, hts⟩ (kX9_thrown l G 83 ad _ 74 (by decide) (nI 0) d9 ht9 _) (cwV 0 hts gL_law_X9_thrown rfl rfl rfl (by decide +kernel) ⟨Nat.le_of_ble_eq_true rfl, Nat.le_of_ble_eq_true rfl⟩) (iPV hK hP hD (by decide) (ht9) rfl []) rfl rfl hl.1 rfl (lv_room (Nat.le_of_ble_eq_true rfl)) dL_law_486 ⟨Nat.le_of_ble_eq_true rfl, Nat.le_of_ble_eq_true rfl⟩) hD hS hA (fun r7 u7 H locs hw7 hP hD hS => ?_)
  obtain ⟨hr7, hu7⟩ := hw7
  rw [hu7] at hP hD
  refine lv_asI hr7 ?_
  refine lv_iload hx hb dL_law_489 (lv_at hl 1 rfl) ?_
  refine lv_icmp_eq (tgt := 496) hx hb dL_law_491 (by decide) (fun _ => ?_) (fun c9 => absurd (by decide) c9)
  refine lv_iload hx hb dL_law_496 (lv_at hl 1 rfl) ?_
  refine lv_if_ne (tgt := 513) hx hb dL_law_498 (by decide) (fun c9 => absurd (by decide) c9) (fun _ => ?_)
  refine lv_aload_n hx hb dL_law_501 rfl (lv_at hl 4 rfl) ?_
  refine lv_iconst (v := nI 0) hx hb dL_law_502 (by decide) ?_
  refine iw_lald (v := ((nI (ctN (va_up (sMp S0) (8 * y + x) true) 64))).toInt64) hx hb hK hP (by decide) (((hm9 81 (Or.inr (by decide))).trans hf8)) (vp_in_nI (show 0 < 1 by omega) (by omega)) ((congrArg f8 (nI_clamp (by decide))).trans hv8) dL_law_503 ?_
  refine lv_iload hx hb dL_law_504 (lv_at hl 0 rfl) ?_
  refine lv_i2l (v := (nI (ctN (va_up (sMp S0) (8 * y + x) true) 64)).toInt64) hx hb dL_law_506 rfl ?_
  refine lv_lcmpE hx hb dL_law_507 ?_
  refine lv_if_eq (tgt := 513) hx hb dL_law_508 (by decide) (fun _ => ?_) (fun c9 => absurd (by decide) c9)
  refine lv_goto (tgt := 1906) hx hb dL_law_513 (by decide) ?_
  refine W.widen (k := 300) (n := 6500) (Nat.le_of_ble_eq_true rfl) (Nat.le_of_ble_eq_true rfl) ?_
  exact kt H locs ls hS (lv_sub hl [2, 7] rfl)
set_option maxHeartbeats 4000000 in
set_option maxRecDepth 100000 in
theorem lc_map_1f {p : Program} {l : Launch} {e : Env} {s : State} {m : MethodId} {below : List Frame} {meth : Method} {c : Code} {b dz : Nat} {xs : Nat → Int32} {G : iG} {Q : State → Prop} (hst : l.stackTraces = false) (hx : p.tables.exec = Jvm.exec) (hb : c.code = cL_law) (hml : c.maxLocals = 9) (hts : ∀ w ∈ wsL_law, w.before #[Value.ref b] s = true) (hown : s.vm.findClass RL = some m.cls) (hX : va_X b 6 xs s s.heap) (hbl : b < s.heap.size) (hK : KB G s) (hV : VX s) (hZt : ZT (aA s) s s.heap) (hZ : ZD dz (aA s) s s.heap) {ad : Nat → Nat} {C : Nat → va_E} {H : Heap} {locs : List Loc} {ls : Array Slot} (hcam : Cam G 83 ad C 0 S0) (hmod : Mod G 83 ad C 74 dz (nI 0)) (glo : C 81 = la G 1 (fun _ => 0)) (hP : va_P G.1 vwB (wl 83 ad C) H) (hD : va_D (aA s) (wl 83 ad C)) (hS : va_S (aA s) s.heap H locs) (hl : lv_has ls 9 [(5, .int (nI 0)), (4, .ref (ad 82)), (3, .ref (ad 81)), (2, .ref (ad 74)), (1, .ref (ad 0)), (0, .ref b)]) (kt : ∀ (H : Heap) (locs : List Loc) (ls : Array Slot), va_S (aA s) s.heap H locs → lv_has ls 9 [(5, .int (nI 0)), (0, .ref b)] → W p l e room_1 s m #[Value.ref b] below meth c H locs 300 6500 Q (F0 m 1906 ls [])) (x y b3 : Int32) (h : isPl x y = false) (hx1 : xs 1 = x) (hx2 : xs 2 = y) (hx3 : xs 3 = b3) (h3 : b3 = 0) : W p l e room_1 s m #[Value.ref b] below meth c H locs 83 1901 Q (F0 m 420 ls []) := by
  have hbA : ¬ aA s b := Nat.not_le.mpr hbl
  have hA : ∀ q : Nat, s.heap.size ≤ q → aA s q := fun _ h => h
  refine lv_aload_n hx hb dL_law_420 rfl (lv_at hl 4 rfl) ?_
  refine lv_aload_n hx hb dL_law_421 rfl (lv_at hl 5 rfl) ?_
  refine lv_iload hx hb dL_law_422 (lv_at hl 0 rfl) ?_
  refine lv_iconst (v := nI 1) hx hb dL_law_424 (by decide) ?_
  refine lv_iadd hx hb dL_law_425 ?_
  refine lv_asI (y := nI 1) (by decide) ?_
  refine va_sld hx hb hX hbl hbA hS (vp_in_nI (by decide) (by decide)) dL_law_426 ?_
  refine lv_asI (y := x) ((congrArg xs (nI_clamp (by decide))).trans hx1) ?_
  refine lv_aload_n hx hb dL_law_427 rfl (lv_at hl 5 rfl) ?_
  refine lv_iload hx hb dL_law_428 (lv_at hl 0 rfl) ?_
  refine lv_iconst (v := nI 2) hx hb dL_law_430 (by decide) ?_
  refine lv_iadd hx hb dL_law_431 ?_
  refine lv_asI (y := nI 2) (by decide) ?_
  refine va_sld hx hb hX hbl hbA hS (vp_in_nI (by decide) (by decide)) dL_law_432 ?_
  refine lv_asI (y := y) ((congrArg xs (nI_clamp (by decide))).trans hx2) ?_
  refine lv_aload_n hx hb dL_law_433 rfl (lv_at hl 5 rfl) ?_
  refine lv_iload hx hb dL_law_434 (lv_at hl 0 rfl) ?_
  refine lv_iconst (v := nI 3) hx hb dL_law_436 (by decide) ?_
  refine lv_iadd hx hb dL_law_437 ?_
  refine lv_asI (y := nI 3) (by decide) ?_
  refine va_sld hx hb hX hbl hbA hS (vp_in_nI (by decide) (by decide)) dL_law_438 ?_
  refine lv_asI (y := b3) ((congrArg xs (nI_clamp (by decide))).trans hx3) ?_
  refine lv_if_eq (tgt := 446) hx hb dL_law_439 (by decide) (fun _ => ?_) (fun c9 => absurd (h3) c9)
  refine lv_iconst (v := nI 0) hx hb dL_law_446 (by decide) ?_
  refine lv_aload_n hx hb dL_law_447 rfl (lv_at hl 2 rfl) ?_
  refine iwx_i (vx_runSX (hh := [(0, 12, 15, 13)]) (As := [.ref (ad 0), .int x, .int y, .int (nI 0), .ref (ad 81)]) (rest := []) ⟨hx, hb, hml, hown, hts⟩ (wL_map_1 l hst G 83 ad _ 0 S0 hcam 81 x y (nI 0) h _) (vx_cwSW 5 hts gL_law_L_map rfl rfl rfl (by decide +kernel) ⟨Nat.le_of_ble_eq_true rfl, Nat.le_of_ble_eq_true rfl⟩) (iPSX hK hV hZt hS hA hP hD [.ref (ad 0), .int x, .int y, .int (nI 0), .ref (ad 81)]) rfl rfl hl.1 rfl (lv_room (Nat.le_of_ble_eq_true rfl)) dL_law_448 ⟨Nat.le_of_ble_eq_true rfl, Nat.le_of_ble_eq_true rfl⟩) hD hS hA (fun r8 u8 H locs hw8 hP hD hS => ?_)
  obtain ⟨hr8, hu8⟩ := hw8
  rw [hu8] at hP hD
  refine lv_asI hr8 ?_
  refine lv_istore (lv' := [(6, .int (nI 1)), (5, .int (nI 0)), (4, .ref (ad 82)), (3, .ref (ad 81)), (2, .ref (ad 74)), (1, .ref (ad 0)), (0, .ref b)]) hx hb dL_law_451 hl (by decide) rfl (fun ls hl => ?_)
  refine lv_aload_n hx hb dL_law_453 rfl (lv_at hl 4 rfl) ?_
  refine lv_aload_n hx hb dL_law_454 rfl (lv_at hl 6 rfl) ?_
  refine lv_iload hx hb dL_law_455 (lv_at hl 1 rfl) ?_
  refine lv_iconst (v := nI 1) hx hb dL_law_457 (by decide) ?_
  refine lv_iadd hx hb dL_law_458 ?_
  refine lv_asI (y := nI 1) (by decide) ?_
  refine va_sld hx hb hX hbl hbA hS (vp_in_nI (by decide) (by decide)) dL_law_459 ?_
  refine lv_asI (y := x) ((congrArg xs (nI_clamp (by decide))).trans hx1) ?_
  refine lv_aload_n hx hb dL_law_460 rfl (lv_at hl 6 rfl) ?_
  refine lv_iload hx hb dL_law_461 (lv_at hl 1 rfl) ?_
  refine lv_iconst (v := nI 2) hx hb dL_law_463 (by decide) ?_
  refine lv_iadd hx hb dL_law_464 ?_
  refine lv_asI (y := nI 2) (by decide) ?_
  refine va_sld hx hb hX hbl hbA hS (vp_in_nI (by decide) (by decide)) dL_law_465 ?_
  refine lv_asI (y := y) ((congrArg xs (nI_clamp (by decide))).trans hx2) ?_
  refine lv_aload_n hx hb dL_law_466 rfl (lv_at hl 6 rfl) ?_
  refine lv_iload hx hb dL_law_467 (lv_at hl 1 rfl) ?_
  refine lv_iconst (v := nI 3) hx hb dL_law_469 (by decide) ?_
  refine lv_iadd hx hb dL_law_470 ?_
  refine lv_asI (y := nI 3) (by decide) ?_
  refine va_sld hx hb hX hbl hbA hS (vp_in_nI (by decide) (by decide)) dL_law_471 ?_
  refine lv_asI (y := b3) ((congrArg xs (nI_clamp (by decide))).trans hx3) ?_
  refine lv_if_eq (tgt := 479) hx hb dL_law_472 (by decide) (fun _ => ?_) (fun c9 => absurd (h3) c9)
  refine lv_iconst (v := nI 0) hx hb dL_law_479 (by decide) ?_
  refine iw_i (va_runV (As := [.int x, .int y, .int (nI 0)]) (rest := []) ⟨hx, hb, hml, hown, hts⟩ (kX9_map_1 l G 83 ad _ 74 dz (nI 0) hmod x y (nI 0) h _) (cwV 3 hts gL_law_X9_map rfl rfl rfl (by decide +kernel) ⟨Nat.le_of_ble_eq_true rfl, Nat.le_of_ble_eq_true rfl⟩) (iPV hK hP hD (by decide) (hmod.2.1) rfl [.int x, .int y, .int (nI 0)]) rfl rfl hl.1 rfl (lv_room (Nat.le_of_ble_eq_true rfl)) dL_law_480 ⟨Nat.le_of_ble_eq_true rfl, Nat.le_of_ble_eq_true rfl⟩) hD hS hA (fun r9 u9 H locs hw9 hP hD hS => ?_)
  obtain ⟨hr9, ⟨d9, ht9⟩, hm9⟩ := hw9
  refine lv_asI hr9 ?_
  refine lv_istore (lv' := [(7, .int (nI 0)), (6, .int (nI 1)), (5, .int (nI 0)), (4, .ref (ad 82)), (3, .ref (ad 81)), (2, .ref (ad 74)), (1, .ref (ad 0)), (0, .ref b)]) hx hb dL_law_483 hl (by decide) rfl (fun ls hl => ?_)
  refine lv_aload_n hx hb dL_law_485 rfl (lv_at hl 5 rfl) ?_
  refine iw_i (va_runV (As := []) (rest := []) ⟨hx, hb, hml, hown, hts⟩ (kX9_thrown l G 83 ad _ 74 (by decide) (nI 1) d9 ht9 _) (cwV 0 hts gL_law_X9_thrown rfl rfl rfl (by decide +kernel) ⟨Nat.le_of_ble_eq_true rfl, Nat.le_of_ble_eq_true rfl⟩) (iPV hK hP hD (by decide) (ht9) rfl []) rfl rfl hl.1 rfl (lv_room (Nat.le_of_ble_eq_true rfl)) dL_law_486 ⟨Nat.le_of_ble_eq_true rfl, Nat.le_of_ble_eq_true rfl⟩) hD hS hA (fun r7 u7 H locs hw7 hP hD hS => ?_)
  obtain ⟨hr7, hu7⟩ := hw7
  rw [hu7] at hP hD
  refine lv_asI hr7 ?_
  refine lv_iload hx hb dL_law_489 (lv_at hl 1 rfl) ?_
  refine lv_icmp_eq (tgt := 496) hx hb dL_law_491 (by decide) (fun _ => ?_) (fun c9 => absurd (by decide) c9)
  refine lv_iload hx hb dL_law_496 (lv_at hl 1 rfl) ?_
  refine lv_if_ne (tgt := 513) hx hb dL_law_498 (by decide) (fun _ => ?_) (fun c9 => absurd c9 (by decide))
  refine lv_goto (tgt := 1906) hx hb dL_law_513 (by decide) ?_
  refine W.widen (k := 300) (n := 6500) (Nat.le_of_ble_eq_true rfl) (Nat.le_of_ble_eq_true rfl) ?_
  exact kt H locs ls hS (lv_sub hl [2, 7] rfl)
set_option maxHeartbeats 4000000 in
set_option maxRecDepth 100000 in
theorem lc_map_vf {p : Program} {l : Launch} {e : Env} {s : State} {m : MethodId} {below : List Frame} {meth : Method} {c : Code} {b dz : Nat} {xs : Nat → Int32} {G : iG} {Q : State → Prop} (hst : l.stackTraces = false) (hx : p.tables.exec = Jvm.exec) (hb : c.code = cL_law) (hml : c.maxLocals = 9) (hts : ∀ w ∈ wsL_law, w.before #[Value.ref b] s = true) (hown : s.vm.findClass RL = some m.cls) (hX : va_X b 6 xs s s.heap) (hbl : b < s.heap.size) (hK : KB G s) (hV : VX s) (hZt : ZT (aA s) s s.heap) (hZ : ZD dz (aA s) s s.heap) {ad : Nat → Nat} {C : Nat → va_E} {H : Heap} {locs : List Loc} {ls : Array Slot} (hcam : Cam G 83 ad C 0 S0) (hmod : Mod G 83 ad C 74 dz (nI 0)) (glo : C 81 = la G 1 (fun _ => 0)) (hP : va_P G.1 vwB (wl 83 ad C) H) (hD : va_D (aA s) (wl 83 ad C)) (hS : va_S (aA s) s.heap H locs) (hl : lv_has ls 9 [(5, .int (nI 0)), (4, .ref (ad 82)), (3, .ref (ad 81)), (2, .ref (ad 74)), (1, .ref (ad 0)), (0, .ref b)]) (kt : ∀ (H : Heap) (locs : List Loc) (ls : Array Slot), va_S (aA s) s.heap H locs → lv_has ls 9 [(5, .int (nI 0)), (0, .ref b)] → W p l e room_1 s m #[Value.ref b] below meth c H locs 300 6500 Q (F0 m 1906 ls [])) (x y : Nat) (hx8 : x < 8) (hy8 : y < 8) (b3 : Int32) (hx1 : xs 1 = nI x) (hx2 : xs 2 = nI y) (hx3 : xs 3 = b3) (h3 : b3 = 0) : W p l e room_1 s m #[Value.ref b] below meth c H locs 83 1901 Q (F0 m 420 ls []) := by
  have hbA : ¬ aA s b := Nat.not_le.mpr hbl
  have hA : ∀ q : Nat, s.heap.size ≤ q → aA s q := fun _ h => h
  refine lv_aload_n hx hb dL_law_420 rfl (lv_at hl 4 rfl) ?_
  refine lv_aload_n hx hb dL_law_421 rfl (lv_at hl 5 rfl) ?_
  refine lv_iload hx hb dL_law_422 (lv_at hl 0 rfl) ?_
  refine lv_iconst (v := nI 1) hx hb dL_law_424 (by decide) ?_
  refine lv_iadd hx hb dL_law_425 ?_
  refine lv_asI (y := nI 1) (by decide) ?_
  refine va_sld hx hb hX hbl hbA hS (vp_in_nI (by decide) (by decide)) dL_law_426 ?_
  refine lv_asI (y := nI x) ((congrArg xs (nI_clamp (by decide))).trans hx1) ?_
  refine lv_aload_n hx hb dL_law_427 rfl (lv_at hl 5 rfl) ?_
  refine lv_iload hx hb dL_law_428 (lv_at hl 0 rfl) ?_
  refine lv_iconst (v := nI 2) hx hb dL_law_430 (by decide) ?_
  refine lv_iadd hx hb dL_law_431 ?_
  refine lv_asI (y := nI 2) (by decide) ?_
  refine va_sld hx hb hX hbl hbA hS (vp_in_nI (by decide) (by decide)) dL_law_432 ?_
  refine lv_asI (y := nI y) ((congrArg xs (nI_clamp (by decide))).trans hx2) ?_
  refine lv_aload_n hx hb dL_law_433 rfl (lv_at hl 5 rfl) ?_
  refine lv_iload hx hb dL_law_434 (lv_at hl 0 rfl) ?_
  refine lv_iconst (v := nI 3) hx hb dL_law_436 (by decide) ?_
  refine lv_iadd hx hb dL_law_437 ?_
  refine lv_asI (y := nI 3) (by decide) ?_
  refine va_sld hx hb hX hbl hbA hS (vp_in_nI (by decide) (by decide)) dL_law_438 ?_
  refine lv_asI (y := b3) ((congrArg xs (nI_clamp (by decide))).trans hx3) ?_
  refine lv_if_eq (tgt := 446) hx hb dL_law_439 (by decide) (fun _ => ?_) (fun c9 => absurd (h3) c9)
  refine lv_iconst (v := nI 0) hx hb dL_law_446 (by decide) ?_
  refine lv_aload_n hx hb dL_law_447 rfl (lv_at hl 2 rfl) ?_
  refine iwx_i (vx_runSX (hh := [(0, 12, 15, 13)]) (As := [.ref (ad 0), .int (nI x), .int (nI y), .int (nI 0), .ref (ad 81)]) (rest := []) ⟨hx, hb, hml, hown, hts⟩ (wL_map l G 83 ad _ 0 S0 hcam 81 (by decide) (Or.inr (by decide)) _ glo x y hx8 hy8 false _) (vx_cwSW 5 hts gL_law_L_map rfl rfl rfl (by decide +kernel) ⟨Nat.le_of_ble_eq_true rfl, Nat.le_of_ble_eq_true rfl⟩) (iPSX hK hV hZt hS hA hP hD [.ref (ad 0), .int (nI x), .int (nI y), .int (nI 0), .ref (ad 81)]) rfl rfl hl.1 rfl (lv_room (Nat.le_of_ble_eq_true rfl)) dL_law_448 ⟨Nat.le_of_ble_eq_true rfl, Nat.le_of_ble_eq_true rfl⟩) hD hS hA (fun r8 u8 H locs hw8 hP hD hS => ?_)
  obtain ⟨hr8, ⟨f8, hf8, hv8⟩, hs8⟩ := hw8
  refine lv_asI hr8 ?_
  have hmod := Mod_same hmod (fun i h1 h2 => hs8 i (Or.inr (by omega)) (by omega))
  refine lv_istore (lv' := [(6, .int (nI 0)), (5, .int (nI 0)), (4, .ref (ad 82)), (3, .ref (ad 81)), (2, .ref (ad 74)), (1, .ref (ad 0)), (0, .ref b)]) hx hb dL_law_451 hl (by decide) rfl (fun ls hl => ?_)
  refine lv_aload_n hx hb dL_law_453 rfl (lv_at hl 4 rfl) ?_
  refine lv_aload_n hx hb dL_law_454 rfl (lv_at hl 6 rfl) ?_
  refine lv_iload hx hb dL_law_455 (lv_at hl 1 rfl) ?_
  refine lv_iconst (v := nI 1) hx hb dL_law_457 (by decide) ?_
  refine lv_iadd hx hb dL_law_458 ?_
  refine lv_asI (y := nI 1) (by decide) ?_
  refine va_sld hx hb hX hbl hbA hS (vp_in_nI (by decide) (by decide)) dL_law_459 ?_
  refine lv_asI (y := nI x) ((congrArg xs (nI_clamp (by decide))).trans hx1) ?_
  refine lv_aload_n hx hb dL_law_460 rfl (lv_at hl 6 rfl) ?_
  refine lv_iload hx hb dL_law_461 (lv_at hl 1 rfl) ?_
  refine lv_iconst (v := nI 2) hx hb dL_law_463 (by decide) ?_
  refine lv_iadd hx hb dL_law_464 ?_
  refine lv_asI (y := nI 2) (by decide) ?_
  refine va_sld hx hb hX hbl hbA hS (vp_in_nI (by decide) (by decide)) dL_law_465 ?_
  refine lv_asI (y := nI y) ((congrArg xs (nI_clamp (by decide))).trans hx2) ?_
  refine lv_aload_n hx hb dL_law_466 rfl (lv_at hl 6 rfl) ?_
  refine lv_iload hx hb dL_law_467 (lv_at hl 1 rfl) ?_
  refine lv_iconst (v := nI 3) hx hb dL_law_469 (by decide) ?_
  refine lv_iadd hx hb dL_law_470 ?_
  refine lv_asI (y := nI 3) (by decide) ?_
  refine va_sld hx hb hX hbl hbA hS (vp_in_nI (by decide) (by decide)) dL_law_471 ?_
  refine lv_asI (y := b3) ((congrArg xs (nI_clamp (by decide))).trans hx3) ?_
  refine lv_if_eq (tgt := 479) hx hb dL_law_472 (by decide) (fun _ => ?_) (fun c9 => absurd (h3) c9)
  refine lv_iconst (v := nI 0) hx hb dL_law_479 (by decide) ?_
  refine iw_i (va_runV (As := [.int (nI x), .int (nI y), .int (nI 0)]) (rest := []) ⟨hx, hb, hml, hown, hts⟩ (kX9_map l G 83 ad _ 74 dz (nI 0) hmod x y hx8 hy8 false _) (cwV 3 hts gL_law_X9_map rfl rfl rfl (by decide +kernel) ⟨Nat.le_of_ble_eq_true rfl, Nat.le_of_ble_eq_true rfl⟩) (iPV hK hP hD (by decide) (hmod.2.1) rfl [.int (nI x), .int (nI y), .int (nI 0)]) rfl rfl hl.1 rfl (lv_room (Nat.le_of_ble_eq_true rfl)) dL_law_480 ⟨Nat.le_of_ble_eq_true rfl, Nat.le_of_ble_eq_true rfl⟩) hD hS hA (fun r9 u9 H locs hw9 hP hD hS => ?_)
  obtain ⟨hr9, ⟨d9, ht9⟩, hm9⟩ := hw9
  refine lv_asI (hr9.trans (rfl)) ?_
  refine lv_istore (lv' := [(7, .int (nI (ctN (va_up (sMp S0) (8 * y + x) false) 64))), (6, .int (nI 0)), (5, .int (nI 0)), (4, .ref (ad 82)), (3, .ref (ad 81)), (2, .ref (ad 74)), (1, .ref (ad 0)), (0, .ref b)]) hx hb dL_law_483 hl (by decide) rfl (fun ls hl => ?_)
  refine lv_aload_n hx hb dL_law_485 rfl (lv_at hl 5 rfl) ?_
  refine iw_i (va_runV (As := []) (rest := []) ⟨hx, hb, hml, hown, hts⟩ (kX9_thrown l G 83 ad _ 74 (by decide) (nI 0) d9 ht9 _) (cwV 0 hts gL_law_X9_thrown rfl rfl rfl (by decide +kernel) ⟨Nat.le_of_ble_eq_true rfl, Nat.le_of_ble_eq_true rfl⟩) (iPV hK hP hD (by decide) (ht9) rfl []) rfl rfl hl.1 rfl (lv_room (Nat.le_of_ble_eq_true rfl)) dL_law_486 ⟨Nat.le_of_ble_eq_true rfl, Nat.le_of_ble_eq_true rfl⟩) hD hS hA (fun r7 u7 H locs hw7 hP hD hS => ?_)
  obtain ⟨hr7, hu7⟩ := hw7
  rw [hu7] at hP hD
  refine lv_asI hr7 ?_
  refine lv_iload hx hb dL_law_489 (lv_at hl 1 rfl) ?_
  refine lv_icmp_eq (tgt := 496) hx hb dL_law_491 (by decide) (fun _ => ?_) (fun c9 => absurd (by decide) c9)
  refine lv_iload hx hb dL_law_496 (lv_at hl 1 rfl) ?_
  refine lv_if_ne (tgt := 513) hx hb dL_law_498 (by decide) (fun c9 => absurd (by decide) c9) (fun _ => ?_)
  refine lv_aload_n hx hb dL_law_501 rfl (lv_at hl 4 rfl) ?_
  refine lv_iconst (v := nI 0) hx hb dL_law_502 (by decide) ?_
  refine iw_lald (v := ((nI (ctN (va_up (sMp S0) (8 * y + x) false) 64))).toInt64) hx hb hK hP (by decide) (((hm9 81 (Or.inr (by decide))).trans hf8)) (vp_in_nI (show 0 < 1 by omega) (by omega)) ((congrArg f8 (nI_clamp (by decide))).trans hv8) dL_law_503 ?_
  refine lv_iload hx hb dL_law_504 (lv_at hl 0 rfl) ?_
  refine lv_i2l (v := (nI (ctN (va_up (sMp S0) (8 * y + x) false) 64)).toInt64) hx hb dL_law_506 rfl ?_
  refine lv_lcmpE hx hb dL_law_507 ?_
  refine lv_if_eq (tgt := 513) hx hb dL_law_508 (by decide) (fun _ => ?_) (fun c9 => absurd (by decide) c9)
  refine lv_goto (tgt := 1906) hx hb dL_law_513 (by decide) ?_
  refine W.widen (k := 300) (n := 6500) (Nat.le_of_ble_eq_true rfl) (Nat.le_of_ble_eq_true rfl) ?_
  exact kt H locs ls hS (lv_sub hl [2, 7] rfl)
set_option maxHeartbeats 4000000 in
set_option maxRecDepth 100000 in
theorem lc_merge_1 {p : Program} {l : Launch} {e : Env} {s : State} {m : MethodId} {below : List Frame} {meth : Method} {c : Code} {b dz : Nat} {xs : Nat → Int32} {G : iG} {Q : State → Prop} (hst : l.stackTraces = false) (hx : p.tables.exec = Jvm.exec) (hb : c.code = cL_law) (hml : c.maxLocals = 9) (hts : ∀ w ∈ wsL_law, w.before #[Value.ref b] s = true) (hown : s.vm.findClass RL = some m.cls) (hX : va_X b 6 xs s s.heap) (hbl : b < s.heap.size) (hK : KB G s) (hV : VX s) (hZt : ZT (aA s) s s.heap) (hZ : ZD dz (aA s) s s.heap) {ad : Nat → Nat} {C : Nat → va_E} {H : Heap} {locs : List Loc} {ls : Array Slot} (hcam : Cam G 83 ad C 0 S0) (hmod : Mod G 83 ad C 74 dz (nI 0)) (glo : C 81 = la G 1 (fun _ => 0)) (hP : va_P G.1 vwB (wl 83 ad C) H) (hD : va_D (aA s) (wl 83 ad C)) (hS : va_S (aA s) s.heap H locs) (hl : lv_has ls 9 [(5, .int (nI 0)), (4, .ref (ad 82)), (3, .ref (ad 81)), (2, .ref (ad 74)), (1, .ref (ad 0)), (0, .ref b)]) (kt : ∀ (H : Heap) (locs : List Loc) (ls : Array Slot), va_S (aA s) s.heap H locs → lv_has ls 9 [(5, .int (nI 0)), (0, .ref b)] → W p l e room_1 s m #[Value.ref b] below meth c H locs 300 6500 Q (F0 m 1906 ls [])) (k li : Int32) (h : k < nI 0 ∨ nI 0 < k) (hx1 : xs 1 = k) (hx2 : xs 2 = li) : W p l e room_1 s m #[Value.ref b] below meth c H locs 83 1901 Q (F0 m 584 ls []) := by
  have hbA : ¬ aA s b := Nat.not_le.mpr hbl
  have hA : ∀ q : Nat, s.heap.size ≤ q → aA s q := fun _ h => h
  refine lv_aload_n hx hb dL_law_584 rfl (lv_at hl 4 rfl) ?_
  refine lv_aload_n hx hb dL_law_585 rfl (lv_at hl 5 rfl) ?_
  refine lv_iload hx hb dL_law_586 (lv_at hl 0 rfl) ?_
  refine lv_iconst (v := nI 1) hx hb dL_law_588 (by decide) ?_
  refine lv_iadd hx hb dL_law_589 ?_
  refine lv_asI (y := nI 1) (by decide) ?_
  refine va_sld hx hb hX hbl hbA hS (vp_in_nI (by decide) (by decide)) dL_law_590 ?_
  refine lv_asI (y := k) ((congrArg xs (nI_clamp (by decide))).trans hx1) ?_
  refine lv_aload_n hx hb dL_law_591 rfl (lv_at hl 5 rfl) ?_
  refine lv_iload hx hb dL_law_592 (lv_at hl 0 rfl) ?_
  refine lv_iconst (v := nI 2) hx hb dL_law_594 (by decide) ?_
  refine lv_iadd hx hb dL_law_595 ?_
  refine lv_asI (y := nI 2) (by decide) ?_
  refine va_sld hx hb hX hbl hbA hS (vp_in_nI (by decide) (by decide)) dL_law_596 ?_
  refine lv_asI (y := li) ((congrArg xs (nI_clamp (by decide))).trans hx2) ?_
  refine lv_aload_n hx hb dL_law_597 rfl (lv_at hl 2 rfl) ?_
  refine iwx_i (vx_runSX (hh := [(0, 10, 13, 15), (0, 10, 17, 32)]) (As := [.ref (ad 0), .int k, .int li, .ref (ad 81)]) (rest := []) ⟨hx, hb, hml, hown, hts⟩ (wL_merge_1 l hst G 83 ad _ 0 S0 hcam 81 rfl k li h _) (vx_cwSW 4 hts gL_law_L_merge rfl rfl rfl (by decide +kernel) ⟨Nat.le_of_ble_eq_true rfl, Nat.le_of_ble_eq_true rfl⟩) (iPSX hK hV hZt hS hA hP hD [.ref (ad 0), .int k, .int li, .ref (ad 81)]) rfl rfl hl.1 rfl (lv_room (Nat.le_of_ble_eq_true rfl)) dL_law_598 ⟨Nat.le_of_ble_eq_true rfl, Nat.le_of_ble_eq_true rfl⟩) hD hS hA (fun r8 u8 H locs hw8 hP hD hS => ?_)
  obtain ⟨hr8, hu8⟩ := hw8
  rw [hu8] at hP hD
  refine lv_asI hr8 ?_
  refine lv_istore (lv' := [(6, .int (nI 1)), (5, .int (nI 0)), (4, .ref (ad 82)), (3, .ref (ad 81)), (2, .ref (ad 74)), (1, .ref (ad 0)), (0, .ref b)]) hx hb dL_law_601 hl (by decide) rfl (fun ls hl => ?_)
  refine lv_aload_n hx hb dL_law_603 rfl (lv_at hl 4 rfl) ?_
  refine lv_aload_n hx hb dL_law_604 rfl (lv_at hl 6 rfl) ?_
  refine lv_iload hx hb dL_law_605 (lv_at hl 1 rfl) ?_
  refine lv_iconst (v := nI 1) hx hb dL_law_607 (by decide) ?_
  refine lv_iadd hx hb dL_law_608 ?_
  refine lv_asI (y := nI 1) (by decide) ?_
  refine va_sld hx hb hX hbl hbA hS (vp_in_nI (by decide) (by decide)) dL_law_609 ?_
  refine lv_asI (y := k) ((congrArg xs (nI_clamp (by decide))).trans hx1) ?_
  refine lv_aload_n hx hb dL_law_610 rfl (lv_at hl 6 rfl) ?_
  refine lv_iload hx hb dL_law_611 (lv_at hl 1 rfl) ?_
  refine lv_iconst (v := nI 2) hx hb dL_law_613 (by decide) ?_
  refine lv_iadd hx hb dL_law_614 ?_
  refine lv_asI (y := nI 2) (by decide) ?_
  refine va_sld hx hb hX hbl hbA hS (vp_in_nI (by decide) (by decide)) dL_law_615 ?_
  refine lv_asI (y := li) ((congrArg xs (nI_clamp (by decide))).trans hx2) ?_
  refine iw_i (va_runV (As := [.int k, .int li]) (rest := []) ⟨hx, hb, hml, hown, hts⟩ (kX9_merge l G 83 ad _ 74 dz (nI 0) hmod k li _) (cwV 2 hts gL_law_X9_merge rfl rfl rfl (by decide +kernel) ⟨Nat.le_of_ble_eq_true rfl, Nat.le_of_ble_eq_true rfl⟩) (iPVV hK hV hP hD (by decide) (hmod.2.1) rfl [.int k, .int li]) rfl rfl hl.1 rfl (lv_room (Nat.le_of_ble_eq_true rfl)) dL_law_616 ⟨Nat.le_of_ble_eq_true rfl, Nat.le_of_ble_eq_true rfl⟩) hD hS hA (fun r9 u9 H locs hw9 hP hD hS => ?_)
  obtain ⟨hr9, ⟨d9, ht9⟩, hm9⟩ := hw9
  refine lv_asI hr9 ?_
  refine lv_istore (lv' := [(7, .int (nI 0)), (6, .int (nI 1)), (5, .int (nI 0)), (4, .ref (ad 82)), (3, .ref (ad 81)), (2, .ref (ad 74)), (1, .ref (ad 0)), (0, .ref b)]) hx hb dL_law_619 hl (by decide) rfl (fun ls hl => ?_)
  refine lv_aload_n hx hb dL_law_621 rfl (lv_at hl 5 rfl) ?_
  refine iw_i (va_runV (As := []) (rest := []) ⟨hx, hb, hml, hown, hts⟩ (kX9_thrown l G 83 ad _ 74 (by decide) (nI 1) d9 ht9 _) (cwV 0 hts gL_law_X9_thrown rfl rfl rfl (by decide +kernel) ⟨Nat.le_of_ble_eq_true rfl, Nat.le_of_ble_eq_true rfl⟩) (iPV hK hP hD (by decide) (ht9) rfl []) rfl rfl hl.1 rfl (lv_room (Nat.le_of_ble_eq_true rfl)) dL_law_622 ⟨Nat.le_of_ble_eq_true rfl, Nat.le_of_ble_eq_true rfl⟩) hD hS hA (fun r7 u7 H locs hw7 hP hD hS => ?_)
  obtain ⟨hr7, hu7⟩ := hw7
  rw [hu7] at hP hD
  refine lv_asI hr7 ?_
  refine lv_iload hx hb dL_law_625 (lv_at hl 1 rfl) ?_
  refine lv_icmp_eq (tgt := 632) hx hb dL_law_627 (by decide) (fun _ => ?_) (fun c9 => absurd (by decide) c9)
  refine lv_iload hx hb dL_law_632 (lv_at hl 1 rfl) ?_
  refine lv_if_ne (tgt := 649) hx hb dL_law_634 (by decide) (fun _ => ?_) (fun c9 => absurd c9 (by decide))
  refine lv_goto (tgt := 1906) hx hb dL_law_649 (by decide) ?_
  refine W.widen (k := 300) (n := 6500) (Nat.le_of_ble_eq_true rfl) (Nat.le_of_ble_eq_true rfl) ?_
  exact kt H locs ls hS (lv_sub hl [2, 7] rfl)
set_option maxHeartbeats 4000000 in
set_option maxRecDepth 100000 in
theorem lc_merge_2 {p : Program} {l : Launch} {e : Env} {s : State} {m : MethodId} {below : List Frame} {meth : Method} {c : Code} {b dz : Nat} {xs : Nat → Int32} {G : iG} {Q : State → Prop} (hst : l.stackTraces = false) (hx : p.tables.exec = Jvm.exec) (hb : c.code = cL_law) (hml : c.maxLocals = 9) (hts : ∀ w ∈ wsL_law, w.before #[Value.ref b] s = true) (hown : s.vm.findClass RL = some m.cls) (hX : va_X b 6 xs s s.heap) (hbl : b < s.heap.size) (hK : KB G s) (hV : VX s) (hZt : ZT (aA s) s s.heap) (hZ : ZD dz (aA s) s s.heap) {ad : Nat → Nat} {C : Nat → va_E} {H : Heap} {locs : List Loc} {ls : Array Slot} (hcam : Cam G 83 ad C 0 S0) (hmod : Mod G 83 ad C 74 dz (nI 0)) (glo : C 81 = la G 1 (fun _ => 0)) (hP : va_P G.1 vwB (wl 83 ad C) H) (hD : va_D (aA s) (wl 83 ad C)) (hS : va_S (aA s) s.heap H locs) (hl : lv_has ls 9 [(5, .int (nI 0)), (4, .ref (ad 82)), (3, .ref (ad 81)), (2, .ref (ad 74)), (1, .ref (ad 0)), (0, .ref b)]) (kt : ∀ (H : Heap) (locs : List Loc) (ls : Array Slot), va_S (aA s) s.heap H locs → lv_has ls 9 [(5, .int (nI 0)), (0, .ref b)] → W p l e room_1 s m #[Value.ref b] below meth c H locs 300 6500 Q (F0 m 1906 ls [])) (li : Int32) (hx1 : xs 1 = nI 0) (hx2 : xs 2 = li) : W p l e room_1 s m #[Value.ref b] below meth c H locs 83 1901 Q (F0 m 584 ls []) := by
  have hbA : ¬ aA s b := Nat.not_le.mpr hbl
  have hA : ∀ q : Nat, s.heap.size ≤ q → aA s q := fun _ h => h
  refine lv_aload_n hx hb dL_law_584 rfl (lv_at hl 4 rfl) ?_
  refine lv_aload_n hx hb dL_law_585 rfl (lv_at hl 5 rfl) ?_
  refine lv_iload hx hb dL_law_586 (lv_at hl 0 rfl) ?_
  refine lv_iconst (v := nI 1) hx hb dL_law_588 (by decide) ?_
  refine lv_iadd hx hb dL_law_589 ?_
  refine lv_asI (y := nI 1) (by decide) ?_
  refine va_sld hx hb hX hbl hbA hS (vp_in_nI (by decide) (by decide)) dL_law_590 ?_
  refine lv_asI (y := nI 0) ((congrArg xs (nI_clamp (by decide))).trans hx1) ?_
  refine lv_aload_n hx hb dL_law_591 rfl (lv_at hl 5 rfl) ?_
  refine lv_iload hx hb dL_law_592 (lv_at hl 0 rfl) ?_
  refine lv_iconst (v := nI 2) hx hb dL_law_594 (by decide) ?_
  refine lv_iadd hx hb dL_law_595 ?_
  refine lv_asI (y := nI 2) (by decide) ?_
  refine va_sld hx hb hX hbl hbA hS (vp_in_nI (by decide) (by decide)) dL_law_596 ?_
  refine lv_asI (y := li) ((congrArg xs (nI_clamp (by decide))).trans hx2) ?_
  refine lv_aload_n hx hb dL_law_597 rfl (lv_at hl 2 rfl) ?_
  refine iwx_i (vx_runSX (hh := [(0, 10, 13, 15), (0, 10, 17, 32)]) (As := [.ref (ad 0), .int (nI 0), .int li, .ref (ad 81)]) (rest := []) ⟨hx, hb, hml, hown, hts⟩ (wL_merge_2 l hst G 83 ad _ 0 S0 hcam 81 rfl li _) (vx_cwSW 4 hts gL_law_L_merge rfl rfl rfl (by decide +kernel) ⟨Nat.le_of_ble_eq_true rfl, Nat.le_of_ble_eq_true rfl⟩) (iPSX hK hV hZt hS hA hP hD [.ref (ad 0), .int (nI 0), .int li, .ref (ad 81)]) rfl rfl hl.1 rfl (lv_room (Nat.le_of_ble_eq_true rfl)) dL_law_598 ⟨Nat.le_of_ble_eq_true rfl, Nat.le_of_ble_eq_true rfl⟩) hD hS hA (fun r8 u8 H locs hw8 hP hD hS => ?_)
  obtain ⟨hr8, hu8⟩ := hw8
  rw [hu8] at hP hD
  refine lv_asI hr8 ?_
  refine lv_istore (lv' := [(6, .int (nI 1)), (5, .int (nI 0)), (4, .ref (ad 82)), (3, .ref (ad 81)), (2, .ref (ad 74)), (1, .ref (ad 0)), (0, .ref b)]) hx hb dL_law_601 hl (by decide) rfl (fun ls hl => ?_)
  refine lv_aload_n hx hb dL_law_603 rfl (lv_at hl 4 rfl) ?_
  refine lv_aload_n hx hb dL_law_604 rfl (lv_at hl 6 rfl) ?_
  refine lv_iload hx hb dL_law_605 (lv_at hl 1 rfl) ?_
  refine lv_iconst (v := nI 1) hx hb dL_law_607 (by decide) ?_
  refine lv_iadd hx hb dL_law_608 ?_
  refine lv_asI (y := nI 1) (by decide) ?_
  refine va_sld hx hb hX hbl hbA hS (vp_in_nI (by decide) (by decide)) dL_law_609 ?_
  refine lv_asI (y := nI 0) ((congrArg xs (nI_clamp (by decide))).trans hx1) ?_
  refine lv_aload_n hx hb dL_law_610 rfl (lv_at hl 6 rfl) ?_
  refine lv_iload hx hb dL_law_611 (lv_at hl 1 rfl) ?_
  refine lv_iconst (v := nI 2) hx hb dL_law_613 (by decide) ?_
  refine lv_iadd hx hb dL_law_614 ?_
  refine lv_asI (y := nI 2) (by decide) ?_
  refine va_sld hx hb hX hbl hbA hS (vp_in_nI (by decide) (by decide)) dL_law_615 ?_
  refine lv_asI (y := li) ((congrArg xs (nI_clamp (by decide))).trans hx2) ?_
  refine iw_i (va_runV (As := [.int (nI 0), .int li]) (rest := []) ⟨hx, hb, hml, hown, hts⟩ (kX9_merge l G 83 ad _ 74 dz (nI 0) hmod (nI 0) li _) (cwV 2 hts gL_law_X9_merge rfl rfl rfl (by decide +kernel) ⟨Nat.le_of_ble_eq_true rfl, Nat.le_of_ble_eq_true rfl⟩) (iPVV hK hV hP hD (by decide) (hmod.2.1) rfl [.int (nI 0), .int li]) rfl rfl hl.1 rfl (lv_room (Nat.le_of_ble_eq_true rfl)) dL_law_616 ⟨Nat.le_of_ble_eq_true rfl, Nat.le_of_ble_eq_true rfl⟩) hD hS hA (fun r9 u9 H locs hw9 hP hD hS => ?_)
  obtain ⟨hr9, ⟨d9, ht9⟩, hm9⟩ := hw9
  refine lv_asI hr9 ?_
  refine lv_istore (lv' := [(7, .int (nI 0)), (6, .int (nI 1)), (5, .int (nI 0)), (4, .ref (ad 82)), (3, .ref (ad 81)), (2, .ref (ad 74)), (1, .ref (ad 0)), (0, .ref b)]) hx hb dL_law_619 hl (by decide) rfl (fun ls hl => ?_)
  refine lv_aload_n hx hb dL_law_621 rfl (lv_at hl 5 rfl) ?_
  refine iw_i (va_runV (As := []) (rest := []) ⟨hx, hb, hml, hown, hts⟩ (kX9_thrown l G 83 ad _ 74 (by decide) (nI 1) d9 ht9 _) (cwV 0 hts gL_law_X9_thrown rfl rfl rfl (by decide +kernel) ⟨Nat.le_of_ble_eq_true rfl, Nat.le_of_ble_eq_true rfl⟩) (iPV hK hP hD (by decide) (ht9) rfl []) rfl rfl hl.1 rfl (lv_room (Nat.le_of_ble_eq_true rfl)) dL_law_622 ⟨Nat.le_of_ble_eq_true rfl, Nat.le_of_ble_eq_true rfl⟩) hD hS hA (fun r7 u7 H locs hw7 hP hD hS => ?_)
  obtain ⟨hr7, hu7⟩ := hw7
  rw [hu7] at hP hD
  refine lv_asI hr7 ?_
  refine lv_iload hx hb dL_law_625 (lv_at hl 1 rfl) ?_
  refine lv_icmp_eq (tgt := 632) hx hb dL_law_627 (by decide) (fun _ => ?_) (fun c9 => absurd (by decide) c9)
  refine lv_iload hx hb dL_law_632 (lv_at hl 1 rfl) ?_
  refine lv_if_ne (tgt := 649) hx hb dL_law_634 (by decide) (fun _ => ?_) (fun c9 => absurd c9 (by decide))
  refine lv_goto (tgt := 1906) hx hb dL_law_649 (by decide) ?_
  refine W.widen (k := 300) (n := 6500) (Nat.le_of_ble_eq_true rfl) (Nat.le_of_ble_eq_true rfl) ?_
  exact kt H locs ls hS (lv_sub hl [2, 7] rfl)
set_option maxHeartbeats 4000000 in
set_option maxRecDepth 100000 in
theorem lc_edit_1 {p : Program} {l : Launch} {e : Env} {s : State} {m : MethodId} {below : List Frame} {meth : Method} {c : Code} {b dz : Nat} {xs : Nat → Int32} {G : iG} {Q : State → Prop} (hst : l.stackTraces = false) (hx : p.tables.exec = Jvm.exec) (hb : c.code = cL_law) (hml : c.maxLocals = 9) (hts : ∀ w ∈ wsL_law, w.before #[Value.ref b] s = true) (hown : s.vm.findClass RL = some m.cls) (hX : va_X b 6 xs s s.heap) (hbl : b < s.heap.size) (hK : KB G s) (hV : VX s) (hZt : ZT (aA s) s s.heap) (hZ : ZD dz (aA s) s s.heap) {ad : Nat → Nat} {C : Nat → va_E} {H : Heap} {locs : List Loc} {ls : Array Slot} (hcam : Cam G 83 ad C 0 S0) (hmod : Mod G 83 ad C 74 dz (nI 0)) (glo : C 81 = la G 1 (fun _ => 0)) (hP : va_P G.1 vwB (wl 83 ad C) H) (hD : va_D (aA s) (wl 83 ad C)) (hS : va_S (aA s) s.heap H locs) (hl : lv_has ls 9 [(5, .int (nI 0)), (4, .ref (ad 82)), (3, .ref (ad 81)), (2, .ref (ad 74)), (1, .ref (ad 0)), (0, .ref b)]) (kt : ∀ (H : Heap) (locs : List Loc) (ls : Array Slot), va_S (aA s) s.heap H locs → lv_has ls 9 [(5, .int (nI 0)), (0, .ref b)] → W p l e room_1 s m #[Value.ref b] below meth c H locs 300 6500 Q (F0 m 1906 ls [])) (k y0 y1 : Int32) (hx1 : xs 1 = k) (hx2 : xs 2 = y0) (hx3 : xs 3 = y1) : W p l e room_1 s m #[Value.ref b] below meth c H locs 83 1901 Q (F0 m 652 ls []) := by
  have hbA : ¬ aA s b := Nat.not_le.mpr hbl
  have hA : ∀ q : Nat, s.heap.size ≤ q → aA s q := fun _ h => h
  refine lv_aload_n hx hb dL_law_652 rfl (lv_at hl 4 rfl) ?_
  refine lv_aload_n hx hb dL_law_653 rfl (lv_at hl 5 rfl) ?_
  refine lv_iload hx hb dL_law_654 (lv_at hl 0 rfl) ?_
  refine lv_iconst (v := nI 1) hx hb dL_law_656 (by decide) ?_
  refine lv_iadd hx hb dL_law_657 ?_
  refine lv_asI (y := nI 1) (by decide) ?_
  refine va_sld hx hb hX hbl hbA hS (vp_in_nI (by decide) (by decide)) dL_law_658 ?_
  refine lv_asI (y := k) ((congrArg xs (nI_clamp (by decide))).trans hx1) ?_
  refine lv_aload_n hx hb dL_law_659 rfl (lv_at hl 5 rfl) ?_
  refine lv_iload hx hb dL_law_660 (lv_at hl 0 rfl) ?_
  refine lv_iconst (v := nI 2) hx hb dL_law_662 (by decide) ?_
  refine lv_iadd hx hb dL_law_663 ?_
  refine lv_asI (y := nI 2) (by decide) ?_
  refine va_sld hx hb hX hbl hbA hS (vp_in_nI (by decide) (by decide)) dL_law_664 ?_
  refine lv_asI (y := y0) ((congrArg xs (nI_clamp (by decide))).trans hx2) ?_
  refine lv_aload_n hx hb dL_law_665 rfl (lv_at hl 5 rfl) ?_
  refine lv_iload hx hb dL_law_666 (lv_at hl 0 rfl) ?_
  refine lv_iconst (v := nI 3) hx hb dL_law_668 (by decide) ?_
  refine lv_iadd hx hb dL_law_669 ?_
  refine lv_asI (y := nI 3) (by decide) ?_
  refine va_sld hx hb hX hbl hbA hS (vp_in_nI (by decide) (by decide)) dL_law_670 ?_
  refine lv_asI (y := y1) ((congrArg xs (nI_clamp (by decide))).trans hx3) ?_
  refine lv_aload_n hx hb dL_law_671 rfl (lv_at hl 2 rfl) ?_
  refine iwx_i (vx_runSX (hh := [(0, 12, 15, 13), (0, 12, 19, 15), (0, 12, 23, 32)]) (As := [.ref (ad 0), .int k, .int y0, .int y1, .ref (ad 81)]) (rest := []) ⟨hx, hb, hml, hown, hts⟩ (wL_edit_1 l hst G 83 ad _ 0 S0 hcam 81 k y0 y1 (i_all k) _) (vx_cwSW 5 hts gL_law_L_edit rfl rfl rfl (by decide +kernel) ⟨Nat.le_of_ble_eq_true rfl, Nat.le_of_ble_eq_true rfl⟩) (iPSX hK hV hZt hS hA hP hD [.ref (ad 0), .int k, .int y0, .int y1, .ref (ad 81)]) rfl rfl hl.1 rfl (lv_room (Nat.le_of_ble_eq_true rfl)) dL_law_672 ⟨Nat.le_of_ble_eq_true rfl, Nat.le_of_ble_eq_true rfl⟩) hD hS hA (fun r8 u8 H locs hw8 hP hD hS => ?_)
  obtain ⟨hr8, hu8⟩ := hw8
  rw [hu8] at hP hD
  refine lv_asI hr8 ?_
  refine lv_istore (lv' := [(6, .int (nI 1)), (5, .int (nI 0)), (4, .ref (ad 82)), (3, .ref (ad 81)), (2, .ref (ad 74)), (1, .ref (ad 0)), (0, .ref b)]) hx hb dL_law_675 hl (by decide) rfl (fun ls hl => ?_)
  refine lv_aload_n hx hb dL_law_677 rfl (lv_at hl 4 rfl) ?_
  refine lv_aload_n hx hb dL_law_678 rfl (lv_at hl 6 rfl) ?_
  refine lv_iload hx hb dL_law_679 (lv_at hl 1 rfl) ?_
  refine lv_iconst (v := nI 1) hx hb dL_law_681 (by decide) ?_
  refine lv_iadd hx hb dL_law_682 ?_
  refine lv_asI (y := nI 1) (by decide) ?_
  refine va_sld hx hb hX hbl hbA hS (vp_in_nI (by decide) (by decide)) dL_law_683 ?_
  refine lv_asI (y := k) ((congrArg xs (nI_clamp (by decide))).trans hx1) ?_
  refine lv_aload_n hx hb dL_law_684 rfl (lv_at hl 6 rfl) ?_
  refine lv_iload hx hb dL_law_685 (lv_at hl 1 rfl) ?_
  refine lv_iconst (v := nI 2) hx hb dL_law_687 (by decide) ?_
  refine lv_iadd hx hb dL_law_688 ?_
  refine lv_asI (y := nI 2) (by decide) ?_
  refine va_sld hx hb hX hbl hbA hS (vp_in_nI (by decide) (by decide)) dL_law_689 ?_
  refine lv_asI (y := y0) ((congrArg xs (nI_clamp (by decide))).trans hx2) ?_
  refine lv_aload_n hx hb dL_law_690 rfl (lv_at hl 6 rfl) ?_
  refine lv_iload hx hb dL_law_691 (lv_at hl 1 rfl) ?_
  refine lv_iconst (v := nI 3) hx hb dL_law_693 (by decide) ?_
  refine lv_iadd hx hb dL_law_694 ?_
  refine lv_asI (y := nI 3) (by decide) ?_
  refine va_sld hx hb hX hbl hbA hS (vp_in_nI (by decide) (by decide)) dL_law_695 ?_
  refine lv_asI (y := y1) ((congrArg xs (nI_clamp (by decide))).trans hx3) ?_
  refine iw_i (va_runV (As := [.int k, .int y0, .int y1]) (rest := []) ⟨hx, hb, hml, hown, hts⟩ (kX9_edit l G 83 ad _ 74 dz (nI 0) hmod k y0 y1 _) (cwV 3 hts gL_law_X9_edit rfl rfl rfl (by decide +kernel) ⟨Nat.le_of_ble_eq_true rfl, Nat.le_of_ble_eq_true rfl⟩) (iPVV hK hV hP hD (by decide) (hmod.2.1) rfl [.int k, .int y0, .int y1]) rfl rfl hl.1 rfl (lv_room (Nat.le_of_ble_eq_true rfl)) dL_law_696 ⟨Nat.le_of_ble_eq_true rfl, Nat.le_of_ble_eq_true rfl⟩) hD hS hA (fun r9 u9 H locs hw9 hP hD hS => ?_)
  obtain ⟨hr9, ⟨d9, ht9⟩, hm9⟩ := hw9
  refine lv_asI hr9 ?_
  refine lv_istore (lv' := [(7, .int (nI 0)), (6, .int (nI 1)), (5, .int (nI 0)), (4, .ref (ad 82)), (3, .ref (ad 81)), (2, .ref (ad 74)), (1, .ref (ad 0)), (0, .ref b)]) hx hb dL_law_699 hl (by decide) rfl (fun ls hl => ?_)
  refine lv_aload_n hx hb dL_law_701 rfl (lv_at hl 5 rfl) ?_
  refine iw_i (va_runV (As := []) (rest := []) ⟨hx, hb, hml, hown, hts⟩ (kX9_thrown l G 83 ad _ 74 (by decide) (nI 1) d9 ht9 _) (cwV 0 hts gL_law_X9_thrown rfl rfl rfl (by decide +kernel) ⟨Nat.le_of_ble_eq_true rfl, Nat.le_of_ble_eq_true rfl⟩) (iPV hK hP hD (by decide) (ht9) rfl []) rfl rfl hl.1 rfl (lv_room (Nat.le_of_ble_eq_true rfl)) dL_law_702 ⟨Nat.le_of_ble_eq_true rfl, Nat.le_of_ble_eq_true rfl⟩) hD hS hA (fun r7 u7 H locs hw7 hP hD hS => ?_)
  obtain ⟨hr7, hu7⟩ := hw7
  rw [hu7] at hP hD
  refine lv_asI hr7 ?_
  refine lv_iload hx hb dL_law_705 (lv_at hl 1 rfl) ?_
  refine lv_icmp_eq (tgt := 712) hx hb dL_law_707 (by decide) (fun _ => ?_) (fun c9 => absurd (by decide) c9)
  refine lv_iload hx hb dL_law_712 (lv_at hl 1 rfl) ?_
  refine lv_if_ne (tgt := 729) hx hb dL_law_714 (by decide) (fun _ => ?_) (fun c9 => absurd c9 (by decide))
  refine lv_goto (tgt := 1906) hx hb dL_law_729 (by decide) ?_
  refine W.widen (k := 300) (n := 6500) (Nat.le_of_ble_eq_true rfl) (Nat.le_of_ble_eq_true rfl) ?_
  exact kt H locs ls hS (lv_sub hl [2, 7] rfl)
set_option maxHeartbeats 4000000 in
set_option maxRecDepth 100000 in
theorem lc_undo_1 {p : Program} {l : Launch} {e : Env} {s : State} {m : MethodId} {below : List Frame} {meth : Method} {c : Code} {b dz : Nat} {xs : Nat → Int32} {G : iG} {Q : State → Prop} (hst : l.stackTraces = false) (hx : p.tables.exec = Jvm.exec) (hb : c.code = cL_law) (hml : c.maxLocals = 9) (hts : ∀ w ∈ wsL_law, w.before #[Value.ref b] s = true) (hown : s.vm.findClass RL = some m.cls) (hX : va_X b 6 xs s s.heap) (hbl : b < s.heap.size) (hK : KB G s) (hV : VX s) (hZt : ZT (aA s) s s.heap) (hZ : ZD dz (aA s) s s.heap) {ad : Nat → Nat} {C : Nat → va_E} {H : Heap} {locs : List Loc} {ls : Array Slot} (hcam : Cam G 83 ad C 0 S0) (hmod : Mod G 83 ad C 74 dz (nI 0)) (glo : C 81 = la G 1 (fun _ => 0)) (hP : va_P G.1 vwB (wl 83 ad C) H) (hD : va_D (aA s) (wl 83 ad C)) (hS : va_S (aA s) s.heap H locs) (hl : lv_has ls 9 [(5, .int (nI 0)), (4, .ref (ad 82)), (3, .ref (ad 81)), (2, .ref (ad 74)), (1, .ref (ad 0)), (0, .ref b)]) (kt : ∀ (H : Heap) (locs : List Loc) (ls : Array Slot), va_S (aA s) s.heap H locs → lv_has ls 9 [(5, .int (nI 0)), (0, .ref b)] → W p l e room_1 s m #[Value.ref b] below meth c H locs 300 6500 Q (F0 m 1906 ls [])) (k : Int32) (hx1 : xs 1 = k) : W p l e room_1 s m #[Value.ref b] below meth c H locs 83 1901 Q (F0 m 732 ls []) := by
  have hbA : ¬ aA s b := Nat.not_le.mpr hbl
  have hA : ∀ q : Nat, s.heap.size ≤ q → aA s q := fun _ h => h
  refine lv_aload_n hx hb dL_law_732 rfl (lv_at hl 4 rfl) ?_
  refine lv_aload_n hx hb dL_law_733 rfl (lv_at hl 5 rfl) ?_
  refine lv_iload hx hb dL_law_734 (lv_at hl 0 rfl) ?_
  refine lv_iconst (v := nI 1) hx hb dL_law_736 (by decide) ?_
  refine lv_iadd hx hb dL_law_737 ?_
  refine lv_asI (y := nI 1) (by decide) ?_
  refine va_sld hx hb hX hbl hbA hS (vp_in_nI (by decide) (by decide)) dL_law_738 ?_
  refine lv_asI (y := k) ((congrArg xs (nI_clamp (by decide))).trans hx1) ?_
  refine lv_aload_n hx hb dL_law_739 rfl (lv_at hl 2 rfl) ?_
  refine iwx_i (vx_runSX (hh := [(0, 9, 12, 13)]) (As := [.ref (ad 0), .int k, .ref (ad 81)]) (rest := []) ⟨hx, hb, hml, hown, hts⟩ (wL_undo_1 l hst G 83 ad _ 0 S0 hcam 81 k (i_all k) _) (vx_cwSW 3 hts gL_law_L_undo rfl rfl rfl (by decide +kernel) ⟨Nat.le_of_ble_eq_true rfl, Nat.le_of_ble_eq_true rfl⟩) (iPSX hK hV hZt hS hA hP hD [.ref (ad 0), .int k, .ref (ad 81)]) rfl rfl hl.1 rfl (lv_room (Nat.le_of_ble_eq_true rfl)) dL_law_740 ⟨Nat.le_of_ble_eq_true rfl, Nat.le_of_ble_eq_true rfl⟩) hD hS hA (fun r8 u8 H locs hw8 hP hD hS => ?_)
  obtain ⟨hr8, hu8⟩ := hw8
  rw [hu8] at hP hD
  refine lv_asI hr8 ?_
  refine lv_istore (lv' := [(6, .int (nI 1)), (5, .int (nI 0)), (4, .ref (ad 82)), (3, .ref (ad 81)), (2, .ref (ad 74)), (1, .ref (ad 0)), (0, .ref b)]) hx hb dL_law_743 hl (by decide) rfl (fun ls hl => ?_)
  refine lv_aload_n hx hb dL_law_745 rfl (lv_at hl 4 rfl) ?_
  refine lv_aload_n hx hb dL_law_746 rfl (lv_at hl 6 rfl) ?_
  refine lv_iload hx hb dL_law_747 (lv_at hl 1 rfl) ?_
  refine lv_iconst (v := nI 1) hx hb dL_law_749 (by decide) ?_
  refine lv_iadd hx hb dL_law_750 ?_
  refine lv_asI (y := nI 1) (by decide) ?_
  refine va_sld hx hb hX hbl hbA hS (vp_in_nI (by decide) (by decide)) dL_law_751 ?_
  refine lv_asI (y := k) ((congrArg xs (nI_clamp (by decide))).trans hx1) ?_
  refine iw_i (va_runV (As := [.int k]) (rest := []) ⟨hx, hb, hml, hown, hts⟩ (kX9_undo l G 83 ad _ 74 dz (nI 0) hmod k _) (cwV 1 hts gL_law_X9_undo rfl rfl rfl (by decide +kernel) ⟨Nat.le_of_ble_eq_true rfl, Nat.le_of_ble_eq_true rfl⟩) (iPVV hK hV hP hD (by decide) (hmod.2.1) rfl [.int k]) rfl rfl hl.1 rfl (lv_room (Nat.le_of_ble_eq_true rfl)) dL_law_752 ⟨Nat.le_of_ble_eq_true rfl, Nat.le_of_ble_eq_true rfl⟩) hD hS hA (fun r9 u9 H locs hw9 hP hD hS => ?_)
  obtain ⟨hr9, ⟨d9, ht9⟩, hm9⟩ := hw9
  refine lv_asI hr9 ?_
  refine lv_istore (lv' := [(7, .int (nI 0)), (6, .int (nI 1)), (5, .int (nI 0)), (4, .ref (ad 82)), (3, .ref (ad 81)), (2, .ref (ad 74)), (1, .ref (ad 0)), (0, .ref b)]) hx hb dL_law_755 hl (by decide) rfl (fun ls hl => ?_)
  refine lv_aload_n hx hb dL_law_757 rfl (lv_at hl 5 rfl) ?_
  refine iw_i (va_runV (As := []) (rest := []) ⟨hx, hb, hml, hown, hts⟩ (kX9_thrown l G 83 ad _ 74 (by decide) (nI 1) d9 ht9 _) (cwV 0 hts gL_law_X9_thrown rfl rfl rfl (by decide +kernel) ⟨Nat.le_of_ble_eq_true rfl, Nat.le_of_ble_eq_true rfl⟩) (iPV hK hP hD (by decide) (ht9) rfl []) rfl rfl hl.1 rfl (lv_room (Nat.le_of_ble_eq_true rfl)) dL_law_758 ⟨Nat.le_of_ble_eq_true rfl, Nat.le_of_ble_eq_true rfl⟩) hD hS hA (fun r7 u7 H locs hw7 hP hD hS => ?_)
  obtain ⟨hr7, hu7⟩ := hw7
  rw [hu7] at hP hD
  refine lv_asI hr7 ?_
  refine lv_iload hx hb dL_law_761 (lv_at hl 1 rfl) ?_
  refine lv_icmp_eq (tgt := 768) hx hb dL_law_763 (by decide) (fun _ => ?_) (fun c9 => absurd (by decide) c9)
  refine lv_iload hx hb dL_law_768 (lv_at hl 1 rfl) ?_
  refine lv_if_ne (tgt := 785) hx hb dL_law_770 (by decide) (fun _ => ?_) (fun c9 => absurd c9 (by decide))
  refine lv_goto (tgt := 1906) hx hb dL_law_785 (by decide) ?_
  refine W.widen (k := 300) (n := 6500) (Nat.le_of_ble_eq_true rfl) (Nat.le_of_ble_eq_true rfl) ?_
  exact kt H locs ls hS (lv_sub hl [2, 7] rfl)
set_option maxHeartbeats 4000000 in
set_option maxRecDepth 100000 in
theorem lc_save_1 {p : Program} {l : Launch} {e : Env} {s : State} {m : MethodId} {below : List Frame} {meth : Method} {c : Code} {b dz : Nat} {xs : Nat → Int32} {G : iG} {Q : State → Prop} (hst : l.stackTraces = false) (hx : p.tables.exec = Jvm.exec) (hb : c.code = cL_law) (hml : c.maxLocals = 9) (hts : ∀ w ∈ wsL_law, w.before #[Value.ref b] s = true) (hown : s.vm.findClass RL = some m.cls) (hX : va_X b 6 xs s s.heap) (hbl : b < s.heap.size) (hK : KB G s) (hV : VX s) (hZt : ZT (aA s) s s.heap) (hZ : ZD dz (aA s) s s.heap) {ad : Nat → Nat} {C : Nat → va_E} {H : Heap} {locs : List Loc} {ls : Array Slot} (hcam : Cam G 83 ad C 0 S0) (hmod : Mod G 83 ad C 74 dz (nI 0)) (glo : C 81 = la G 1 (fun _ => 0)) (hP : va_P G.1 vwB (wl 83 ad C) H) (hD : va_D (aA s) (wl 83 ad C)) (hS : va_S (aA s) s.heap H locs) (hl : lv_has ls 9 [(5, .int (nI 0)), (4, .ref (ad 82)), (3, .ref (ad 81)), (2, .ref (ad 74)), (1, .ref (ad 0)), (0, .ref b)]) (kt : ∀ (H : Heap) (locs : List Loc) (ls : Array Slot), va_S (aA s) s.heap H locs → lv_has ls 9 [(5, .int (nI 0)), (0, .ref b)] → W p l e room_1 s m #[Value.ref b] below meth c H locs 300 6500 Q (F0 m 1906 ls [])) (k : Int32) (hx1 : xs 1 = k) : W p l e room_1 s m #[Value.ref b] below meth c H locs 83 1901 Q (F0 m 788 ls []) := by
  have hbA : ¬ aA s b := Nat.not_le.mpr hbl
  have hA : ∀ q : Nat, s.heap.size ≤ q → aA s q := fun _ h => h
  refine lv_aload_n hx hb dL_law_788 rfl (lv_at hl 4 rfl) ?_
  refine lv_aload_n hx hb dL_law_789 rfl (lv_at hl 5 rfl) ?_
  refine lv_iload hx hb dL_law_790 (lv_at hl 0 rfl) ?_
  refine lv_iconst (v := nI 1) hx hb dL_law_792 (by decide) ?_
  refine lv_iadd hx hb dL_law_793 ?_
  refine lv_asI (y := nI 1) (by decide) ?_
  refine va_sld hx hb hX hbl hbA hS (vp_in_nI (by decide) (by decide)) dL_law_794 ?_
  refine lv_asI (y := k) ((congrArg xs (nI_clamp (by decide))).trans hx1) ?_
  refine lv_aload_n hx hb dL_law_795 rfl (lv_at hl 2 rfl) ?_
  refine iwx_i (vx_runSX (hh := [(0, 9, 12, 13), (0, 9, 15, 32)]) (As := [.ref (ad 0), .int k, .ref (ad 81)]) (rest := []) ⟨hx, hb, hml, hown, hts⟩ (wL_save_1 l hst G 83 ad _ 0 S0 hcam 81 k (i_all k) _) (vx_cwSW 3 hts gL_law_L_save rfl rfl rfl (by decide +kernel) ⟨Nat.le_of_ble_eq_true rfl, Nat.le_of_ble_eq_true rfl⟩) (iPSX hK hV hZt hS hA hP hD [.ref (ad 0), .int k, .ref (ad 81)]) rfl rfl hl.1 rfl (lv_room (Nat.le_of_ble_eq_true rfl)) dL_law_796 ⟨Nat.le_of_ble_eq_true rfl, Nat.le_of_ble_eq_true rfl⟩) hD hS hA (fun r8 u8 H locs hw8 hP hD hS => ?_)
  obtain ⟨hr8, hu8⟩ := hw8
  rw [hu8] at hP hD
  refine lv_asI hr8 ?_
  refine lv_istore (lv' := [(6, .int (nI 1)), (5, .int (nI 0)), (4, .ref (ad 82)), (3, .ref (ad 81)), (2, .ref (ad 74)), (1, .ref (ad 0)), (0, .ref b)]) hx hb dL_law_799 hl (by decide) rfl (fun ls hl => ?_)
  refine lv_aload_n hx hb dL_law_801 rfl (lv_at hl 4 rfl) ?_
  refine lv_aload_n hx hb dL_law_802 rfl (lv_at hl 6 rfl) ?_
  refine lv_iload hx hb dL_law_803 (lv_at hl 1 rfl) ?_
  refine lv_iconst (v := nI 1) hx hb dL_law_805 (by decide) ?_
  refine lv_iadd hx hb dL_law_806 ?_
  refine lv_asI (y := nI 1) (by decide) ?_
  refine va_sld hx hb hX hbl hbA hS (vp_in_nI (by decide) (by decide)) dL_law_807 ?_
  refine lv_asI (y := k) ((congrArg xs (nI_clamp (by decide))).trans hx1) ?_
  refine iw_i (va_runV (As := [.int k]) (rest := []) ⟨hx, hb, hml, hown, hts⟩ (kX9_save l G 83 ad _ 74 dz (nI 0) hmod k _) (cwV 1 hts gL_law_X9_save rfl rfl rfl (by decide +kernel) ⟨Nat.le_of_ble_eq_true rfl, Nat.le_of_ble_eq_true rfl⟩) (iPVV hK hV hP hD (by decide) (hmod.2.1) rfl [.int k]) rfl rfl hl.1 rfl (lv_room (Nat.le_of_ble_eq_true rfl)) dL_law_808 ⟨Nat.le_of_ble_eq_true rfl, Nat.le_of_ble_eq_true rfl⟩) hD hS hA (fun r9 u9 H locs hw9 hP hD hS => ?_)
  obtain ⟨hr9, ⟨d9, ht9⟩, hm9⟩ := hw9
  refine lv_asI hr9 ?_
  refine lv_istore (lv' := [(7, .int (nI 0)), (6, .int (nI 1)), (5, .int (nI 0)), (4, .ref (ad 82)), (3, .ref (ad 81)), (2, .ref (ad 74)), (1, .ref (ad 0)), (0, .ref b)]) hx hb dL_law_811 hl (by decide) rfl (fun ls hl => ?_)
  refine lv_aload_n hx hb dL_law_813 rfl (lv_at hl 5 rfl) ?_
  refine iw_i (va_runV (As := []) (rest := []) ⟨hx, hb, hml, hown, hts⟩ (kX9_thrown l G 83 ad _ 74 (by decide) (nI 1) d9 ht9 _) (cwV 0 hts gL_law_X9_thrown rfl rfl rfl (by decide +kernel) ⟨Nat.le_of_ble_eq_true rfl, Nat.le_of_ble_eq_true rfl⟩) (iPV hK hP hD (by decide) (ht9) rfl []) rfl rfl hl.1 rfl (lv_room (Nat.le_of_ble_eq_true rfl)) dL_law_814 ⟨Nat.le_of_ble_eq_true rfl, Nat.le_of_ble_eq_true rfl⟩) hD hS hA (fun r7 u7 H locs hw7 hP hD hS => ?_)
  obtain ⟨hr7, hu7⟩ := hw7
  rw [hu7] at hP hD
  refine lv_asI hr7 ?_
  refine lv_iload hx hb dL_law_817 (lv_at hl 1 rfl) ?_
  refine lv_icmp_eq (tgt := 824) hx hb dL_law_819 (by decide) (fun _ => ?_) (fun c9 => absurd (by decide) c9)
  refine lv_iload hx hb dL_law_824 (lv_at hl 1 rfl) ?_
  refine lv_if_ne (tgt := 841) hx hb dL_law_826 (by decide) (fun _ => ?_) (fun c9 => absurd c9 (by decide))
  refine lv_goto (tgt := 1906) hx hb dL_law_841 (by decide) ?_
  refine W.widen (k := 300) (n := 6500) (Nat.le_of_ble_eq_true rfl) (Nat.le_of_ble_eq_true rfl) ?_
  exact kt H locs ls hS (lv_sub hl [2, 7] rfl)
set_option maxHeartbeats 4000000 in
set_option maxRecDepth 100000 in
theorem lc_raw_1 {p : Program} {l : Launch} {e : Env} {s : State} {m : MethodId} {below : List Frame} {meth : Method} {c : Code} {b dz : Nat} {xs : Nat → Int32} {G : iG} {Q : State → Prop} (hst : l.stackTraces = false) (hx : p.tables.exec = Jvm.exec) (hb : c.code = cL_law) (hml : c.maxLocals = 9) (hts : ∀ w ∈ wsL_law, w.before #[Value.ref b] s = true) (hown : s.vm.findClass RL = some m.cls) (hX : va_X b 6 xs s s.heap) (hbl : b < s.heap.size) (hK : KB G s) (hV : VX s) (hZt : ZT (aA s) s s.heap) (hZ : ZD dz (aA s) s s.heap) {ad : Nat → Nat} {C : Nat → va_E} {H : Heap} {locs : List Loc} {ls : Array Slot} (hcam : Cam G 83 ad C 0 S0) (hmod : Mod G 83 ad C 74 dz (nI 0)) (glo : C 81 = la G 1 (fun _ => 0)) (hP : va_P G.1 vwB (wl 83 ad C) H) (hD : va_D (aA s) (wl 83 ad C)) (hS : va_S (aA s) s.heap H locs) (hl : lv_has ls 9 [(5, .int (nI 0)), (4, .ref (ad 82)), (3, .ref (ad 81)), (2, .ref (ad 74)), (1, .ref (ad 0)), (0, .ref b)]) (kt : ∀ (H : Heap) (locs : List Loc) (ls : Array Slot), va_S (aA s) s.heap H locs → lv_has ls 9 [(5, .int (nI 0)), (0, .ref b)] → W p l e room_1 s m #[Value.ref b] below meth c H locs 300 6500 Q (F0 m 1906 ls [])) (k y0 y1 : Int32) (hx1 : xs 1 = k) (hx2 : xs 2 = y0) (hx3 : xs 3 = y1) : W p l e room_1 s m #[Value.ref b] below meth c H locs 83 1901 Q (F0 m 844 ls []) := by
  have hbA : ¬ aA s b := Nat.not_le.mpr hbl
  have hA : ∀ q : Nat, s.heap.size ≤ q → aA s q := fun _ h => h
  refine lv_aload_n hx hb dL_law_844 rfl (lv_at hl 4 rfl) ?_
  refine lv_aload_n hx hb dL_law_845 rfl (lv_at hl 5 rfl) ?_
  refine lv_iload hx hb dL_law_846 (lv_at hl 0 rfl) ?_
  refine lv_iconst (v := nI 1) hx hb dL_law_848 (by decide) ?_
  refine lv_iadd hx hb dL_law_849 ?_
  refine lv_asI (y := nI 1) (by decide) ?_
  refine va_sld hx hb hX hbl hbA hS (vp_in_nI (by decide) (by decide)) dL_law_850 ?_
  refine lv_asI (y := k) ((congrArg xs (nI_clamp (by decide))).trans hx1) ?_
  refine lv_aload_n hx hb dL_law_851 rfl (lv_at hl 5 rfl) ?_
  refine lv_iload hx hb dL_law_852 (lv_at hl 0 rfl) ?_
  refine lv_iconst (v := nI 2) hx hb dL_law_854 (by decide) ?_
  refine lv_iadd hx hb dL_law_855 ?_
  refine lv_asI (y := nI 2) (by decide) ?_
  refine va_sld hx hb hX hbl hbA hS (vp_in_nI (by decide) (by decide)) dL_law_856 ?_
  refine lv_asI (y := y0) ((congrArg xs (nI_clamp (by decide))).trans hx2) ?_
  refine lv_aload_n hx hb dL_law_857 rfl (lv_at hl 5 rfl) ?_
  refine lv_iload hx hb dL_law_858 (lv_at hl 0 rfl) ?_
  refine lv_iconst (v := nI 3) hx hb dL_law_860 (by decide) ?_
  refine lv_iadd hx hb dL_law_861 ?_
  refine lv_asI (y := nI 3) (by decide) ?_
  refine va_sld hx hb hX hbl hbA hS (vp_in_nI (by decide) (by decide)) dL_law_862 ?_
  refine lv_asI (y := y1) ((congrArg xs (nI_clamp (by decide))).trans hx3) ?_
  refine lv_aload_n hx hb dL_law_863 rfl (lv_at hl 2 rfl) ?_
  refine iwx_i (vx_runSX (hh := [(0, 12, 15, 13)]) (As := [.ref (ad 0), .int k, .int y0, .int y1, .ref (ad 81)]) (rest := []) ⟨hx, hb, hml, hown, hts⟩ (wL_raw_1 l hst G 83 ad _ 0 S0 hcam 81 k y0 y1 (i_all k) _) (vx_cwSW 5 hts gL_law_L_raw rfl rfl rfl (by decide +kernel) ⟨Nat.le_of_ble_eq_true rfl, Nat.le_of_ble_eq_true rfl⟩) (iPSX hK hV hZt hS hA hP hD [.ref (ad 0), .int k, .int y0, .int y1, .ref (ad 81)]) rfl rfl hl.1 rfl (lv_room (Nat.le_of_ble_eq_true rfl)) dL_law_864 ⟨Nat.le_of_ble_eq_true rfl, Nat.le_of_ble_eq_true rfl⟩) hD hS hA (fun r8 u8 H locs hw8 hP hD hS => ?_)
  obtain ⟨hr8, hu8⟩ := hw8
  rw [hu8] at hP hD
  refine lv_asI hr8 ?_
  refine lv_istore (lv' := [(6, .int (nI 1)), (5, .int (nI 0)), (4, .ref (ad 82)), (3, .ref (ad 81)), (2, .ref (ad 74)), (1, .ref (ad 0)), (0, .ref b)]) hx hb dL_law_867 hl (by decide) rfl (fun ls hl => ?_)
  refine lv_aload_n hx hb dL_law_869 rfl (lv_at hl 4 rfl) ?_
  refine lv_aload_n hx hb dL_law_870 rfl (lv_at hl 6 rfl) ?_
  refine lv_iload hx hb dL_law_871 (lv_at hl 1 rfl) ?_
  refine lv_iconst (v := nI 1) hx hb dL_law_873 (by decide) ?_
  refine lv_iadd hx hb dL_law_874 ?_
  refine lv_asI (y := nI 1) (by decide) ?_
  refine va_sld hx hb hX hbl hbA hS (vp_in_nI (by decide) (by decide)) dL_law_875 ?_
  refine lv_asI (y := k) ((congrArg xs (nI_clamp (by decide))).trans hx1) ?_
  refine lv_aload_n hx hb dL_law_876 rfl (lv_at hl 6 rfl) ?_
  refine lv_iload hx hb dL_law_877 (lv_at hl 1 rfl) ?_
  refine lv_iconst (v := nI 2) hx hb dL_law_879 (by decide) ?_
  refine lv_iadd hx hb dL_law_880 ?_
  refine lv_asI (y := nI 2) (by decide) ?_
  refine va_sld hx hb hX hbl hbA hS (vp_in_nI (by decide) (by decide)) dL_law_881 ?_
  refine lv_asI (y := y0) ((congrArg xs (nI_clamp (by decide))).trans hx2) ?_
  refine lv_aload_n hx hb dL_law_882 rfl (lv_at hl 6 rfl) ?_
  refine lv_iload hx hb dL_law_883 (lv_at hl 1 rfl) ?_
  refine lv_iconst (v := nI 3) hx hb dL_law_885 (by decide) ?_
  refine lv_iadd hx hb dL_law_886 ?_
  refine lv_asI (y := nI 3) (by decide) ?_
  refine va_sld hx hb hX hbl hbA hS (vp_in_nI (by decide) (by decide)) dL_law_887 ?_
  refine lv_asI (y := y1) ((congrArg xs (nI_clamp (by decide))).trans hx3) ?_
  refine iw_i (va_runV (As := [.int k, .int y0, .int y1]) (rest := []) ⟨hx, hb, hml, hown, hts⟩ (kX9_raw l G 83 ad _ 74 dz (nI 0) hmod k y0 y1 _) (cwV 3 hts gL_law_X9_raw rfl rfl rfl (by decide +kernel) ⟨Nat.le_of_ble_eq_true rfl, Nat.le_of_ble_eq_true rfl⟩) (iPVV hK hV hP hD (by decide) (hmod.2.1) rfl [.int k, .int y0, .int y1]) rfl rfl hl.1 rfl (lv_room (Nat.le_of_ble_eq_true rfl)) dL_law_888 ⟨Nat.le_of_ble_eq_true rfl, Nat.le_of_ble_eq_true rfl⟩) hD hS hA (fun r9 u9 H locs hw9 hP hD hS => ?_)
  obtain ⟨hr9, ⟨d9, ht9⟩, hm9⟩ := hw9
  refine lv_asI hr9 ?_
  refine lv_istore (lv' := [(7, .int (nI 0)), (6, .int (nI 1)), (5, .int (nI 0)), (4, .ref (ad 82)), (3, .ref (ad 81)), (2, .ref (ad 74)), (1, .ref (ad 0)), (0, .ref b)]) hx hb dL_law_891 hl (by decide) rfl (fun ls hl => ?_)
  refine lv_aload_n hx hb dL_law_893 rfl (lv_at hl 5 rfl) ?_
  refine iw_i (va_runV (As := []) (rest := []) ⟨hx, hb, hml, hown, hts⟩ (kX9_thrown l G 83 ad _ 74 (by decide) (nI 1) d9 ht9 _) (cwV 0 hts gL_law_X9_thrown rfl rfl rfl (by decide +kernel) ⟨Nat.le_of_ble_eq_true rfl, Nat.le_of_ble_eq_true rfl⟩) (iPV hK hP hD (by decide) (ht9) rfl []) rfl rfl hl.1 rfl (lv_room (Nat.le_of_ble_eq_true rfl)) dL_law_894 ⟨Nat.le_of_ble_eq_true rfl, Nat.le_of_ble_eq_true rfl⟩) hD hS hA (fun r7 u7 H locs hw7 hP hD hS => ?_)
  obtain ⟨hr7, hu7⟩ := hw7
  rw [hu7] at hP hD
  refine lv_asI hr7 ?_
  refine lv_iload hx hb dL_law_897 (lv_at hl 1 rfl) ?_
  refine lv_icmp_eq (tgt := 904) hx hb dL_law_899 (by decide) (fun _ => ?_) (fun c9 => absurd (by decide) c9)
  refine lv_iload hx hb dL_law_904 (lv_at hl 1 rfl) ?_
  refine lv_if_ne (tgt := 921) hx hb dL_law_906 (by decide) (fun _ => ?_) (fun c9 => absurd c9 (by decide))
  refine lv_goto (tgt := 1906) hx hb dL_law_921 (by decide) ?_
  refine W.widen (k := 300) (n := 6500) (Nat.le_of_ble_eq_true rfl) (Nat.le_of_ble_eq_true rfl) ?_
  exact kt H locs ls hS (lv_sub hl [2, 7] rfl)
set_option maxHeartbeats 4000000 in
set_option maxRecDepth 100000 in
theorem lc_picture_1 {p : Program} {l : Launch} {e : Env} {s : State} {m : MethodId} {below : List Frame} {meth : Method} {c : Code} {b dz : Nat} {xs : Nat → Int32} {G : iG} {Q : State → Prop} (hst : l.stackTraces = false) (hx : p.tables.exec = Jvm.exec) (hb : c.code = cL_law) (hml : c.maxLocals = 9) (hts : ∀ w ∈ wsL_law, w.before #[Value.ref b] s = true) (hown : s.vm.findClass RL = some m.cls) (hX : va_X b 6 xs s s.heap) (hbl : b < s.heap.size) (hK : KB G s) (hV : VX s) (hZt : ZT (aA s) s s.heap) (hZ : ZD dz (aA s) s s.heap) {ad : Nat → Nat} {C : Nat → va_E} {H : Heap} {locs : List Loc} {ls : Array Slot} (hcam : Cam G 83 ad C 0 S0) (hmod : Mod G 83 ad C 74 dz (nI 0)) (glo : C 81 = la G 1 (fun _ => 0)) (hP : va_P G.1 vwB (wl 83 ad C) H) (hD : va_D (aA s) (wl 83 ad C)) (hS : va_S (aA s) s.heap H locs) (hl : lv_has ls 9 [(5, .int (nI 0)), (4, .ref (ad 82)), (3, .ref (ad 81)), (2, .ref (ad 74)), (1, .ref (ad 0)), (0, .ref b)]) (kt : ∀ (H : Heap) (locs : List Loc) (ls : Array Slot), va_S (aA s) s.heap H locs → lv_has ls 9 [(5, .int (nI 0)), (0, .ref b)] → W p l e room_1 s m #[Value.ref b] below meth c H locs 300 6500 Q (F0 m 1906 ls [])) (k y0 y1 y2 : Int32) (hx1 : xs 1 = k) (hx2 : xs 2 = y0) (hx3 : xs 3 = y1) (hx4 : xs 4 = y2) : W p l e room_1 s m #[Value.ref b] below meth c H locs 83 1901 Q (F0 m 924 ls []) := by
  have hbA : ¬ aA s b := Nat.not_le.mpr hbl
  have hA : ∀ q : Nat, s.heap.size ≤ q → aA s q := fun _ h => h
  refine lv_aload_n hx hb dL_law_924 rfl (lv_at hl 4 rfl) ?_
  refine lv_aload_n hx hb dL_law_925 rfl (lv_at hl 5 rfl) ?_
  refine lv_iload hx hb dL_law_926 (lv_at hl 0 rfl) ?_
  refine lv_iconst (v := nI 1) hx hb dL_law_928 (by decide) ?_
  refine lv_iadd hx hb dL_law_929 ?_
  refine lv_asI (y := nI 1) (by decide) ?_
  refine va_sld hx hb hX hbl hbA hS (vp_in_nI (by decide) (by decide)) dL_law_930 ?_
  refine lv_asI (y := k) ((congrArg xs (nI_clamp (by decide))).trans hx1) ?_
  refine lv_aload_n hx hb dL_law_931 rfl (lv_at hl 5 rfl) ?_
  refine lv_iload hx hb dL_law_932 (lv_at hl 0 rfl) ?_
  refine lv_iconst (v := nI 2) hx hb dL_law_934 (by decide) ?_
  refine lv_iadd hx hb dL_law_935 ?_
  refine lv_asI (y := nI 2) (by decide) ?_
  refine va_sld hx hb hX hbl hbA hS (vp_in_nI (by decide) (by decide)) dL_law_936 ?_
  refine lv_asI (y := y0) ((congrArg xs (nI_clamp (by decide))).trans hx2) ?_
  refine lv_aload_n hx hb dL_law_937 rfl (lv_at hl 5 rfl) ?_
  refine lv_iload hx hb dL_law_938 (lv_at hl 0 rfl) ?_
  refine lv_iconst (v := nI 3) hx hb dL_law_940 (by decide) ?_
  refine lv_iadd hx hb dL_law_941 ?_
  refine lv_asI (y := nI 3) (by decide) ?_
  refine va_sld hx hb hX hbl hbA hS (vp_in_nI (by decide) (by decide)) dL_law_942 ?_
  refine lv_asI (y := y1) ((congrArg xs (nI_clamp (by decide))).trans hx3) ?_
  refine lv_aload_n hx hb dL_law_943 rfl (lv_at hl 5 rfl) ?_
  refine lv_iload hx hb dL_law_944 (lv_at hl 0 rfl) ?_
  refine lv_iconst (v := nI 4) hx hb dL_law_946 (by decide) ?_
  refine lv_iadd hx hb dL_law_947 ?_
  refine lv_asI (y := nI 4) (by decide) ?_
  refine va_sld hx hb hX hbl hbA hS (vp_in_nI (by decide) (by decide)) dL_law_948 ?_
  refine lv_asI (y := y2) ((congrArg xs (nI_clamp (by decide))).trans hx4) ?_
  refine lv_aload hx hb dL_law_949 (lv_at hl 1 rfl) ?_
  refine iwx_i (vx_runSX (hh := [(0, 13, 16, 13), (0, 13, 20, 15)]) (As := [.ref (ad 0), .int k, .int y0, .int y1, .int y2, .ref (ad 82)]) (rest := []) ⟨hx, hb, hml, hown, hts⟩ (wL_picture_1 l hst G 83 ad _ 0 S0 hcam 82 k y0 y1 y2 (i_all k) _) (vx_cwSW 6 hts gL_law_L_picture rfl rfl rfl (by decide +kernel) ⟨Nat.le_of_ble_eq_true rfl, Nat.le_of_ble_eq_true rfl⟩) (iPSX hK hV hZt hS hA hP hD [.ref (ad 0), .int k, .int y0, .int y1, .int y2, .ref (ad 82)]) rfl rfl hl.1 rfl (lv_room (Nat.le_of_ble_eq_true rfl)) dL_law_951 ⟨Nat.le_of_ble_eq_true rfl, Nat.le_of_ble_eq_true rfl⟩) hD hS hA (fun r8 u8 H locs hw8 hP hD hS => ?_)
  obtain ⟨hr8, hu8⟩ := hw8
  rw [hu8] at hP hD
  refine lv_asI hr8 ?_
  refine lv_istore (lv' := [(6, .int (nI 1)), (5, .int (nI 0)), (4, .ref (ad 82)), (3, .ref (ad 81)), (2, .ref (ad 74)), (1, .ref (ad 0)), (0, .ref b)]) hx hb dL_law_954 hl (by decide) rfl (fun ls hl => ?_)
  refine lv_aload_n hx hb dL_law_956 rfl (lv_at hl 4 rfl) ?_
  refine lv_aload_n hx hb dL_law_957 rfl (lv_at hl 6 rfl) ?_
  refine lv_iload hx hb dL_law_958 (lv_at hl 1 rfl) ?_
  refine lv_iconst (v := nI 1) hx hb dL_law_960 (by decide) ?_
  refine lv_iadd hx hb dL_law_961 ?_
  refine lv_asI (y := nI 1) (by decide) ?_
  refine va_sld hx hb hX hbl hbA hS (vp_in_nI (by decide) (by decide)) dL_law_962 ?_
  refine lv_asI (y := k) ((congrArg xs (nI_clamp (by decide))).trans hx1) ?_
  refine lv_aload_n hx hb dL_law_963 rfl (lv_at hl 6 rfl) ?_
  refine lv_iload hx hb dL_law_964 (lv_at hl 1 rfl) ?_
  refine lv_iconst (v := nI 2) hx hb dL_law_966 (by decide) ?_
  refine lv_iadd hx hb dL_law_967 ?_
  refine lv_asI (y := nI 2) (by decide) ?_
  refine va_sld hx hb hX hbl hbA hS (vp_in_nI (by decide) (by decide)) dL_law_968 ?_
  refine lv_asI (y := y0) ((congrArg xs (nI_clamp (by decide))).trans hx2) ?_
  refine lv_aload_n hx hb dL_law_969 rfl (lv_at hl 6 rfl) ?_
  refine lv_iload hx hb dL_law_970 (lv_at hl 1 rfl) ?_
  refine lv_iconst (v := nI 3) hx hb dL_law_972 (by decide) ?_
  refine lv_iadd hx hb dL_law_973 ?_
  refine lv_asI (y := nI 3) (by decide) ?_
  refine va_sld hx hb hX hbl hbA hS (vp_in_nI (by decide) (by decide)) dL_law_974 ?_
  refine lv_asI (y := y1) ((congrArg xs (nI_clamp (by decide))).trans hx3) ?_
  refine lv_aload_n hx hb dL_law_975 rfl (lv_at hl 6 rfl) ?_
  refine lv_iload hx hb dL_law_976 (lv_at hl 1 rfl) ?_
  refine lv_iconst (v := nI 4) hx hb dL_law_978 (by decide) ?_
  refine lv_iadd hx hb dL_law_979 ?_
  refine lv_asI (y := nI 4) (by decide) ?_
  refine va_sld hx hb hX hbl hbA hS (vp_in_nI (by decide) (by decide)) dL_law_980 ?_
  refine lv_asI (y := y2) ((congrArg xs (nI_clamp (by decide))).trans hx4) ?_
  refine iw_d (va_runV (As := [.int k, .int y0, .int y1, .int y2]) (rest := []) ⟨hx, hb, hml, hown, hts⟩ (kX9_picture__ l G 83 ad _ 74 dz (nI 0) hmod k y0 y1 y2 _) (cwV 4 hts gL_law_X9_picture__ rfl rfl rfl (by decide +kernel) ⟨Nat.le_of_ble_eq_true rfl, Nat.le_of_ble_eq_true rfl⟩) (iPVV hK hV hP hD (by decide) (hmod.2.1) rfl [.int k, .int y0, .int y1, .int y2]) rfl rfl hl.1 rfl (lv_room (Nat.le_of_ble_eq_true rfl)) dL_law_981 ⟨Nat.le_of_ble_eq_true rfl, Nat.le_of_ble_eq_true rfl⟩) hD hS hA (fun r9 u9 H locs hw9 hP hD hS => ?_)
  obtain ⟨hr9, ⟨d9, ht9⟩, hm9⟩ := hw9
  refine lv_asD hr9 ?_
  refine lv_dstore (lv' := [(7, .double (FP.i2d (nI 0))), (6, .int (nI 1)), (5, .int (nI 0)), (4, .ref (ad 82)), (3, .ref (ad 81)), (2, .ref (ad 74)), (1, .ref (ad 0)), (0, .ref b)]) hx hb dL_law_984 hl (by decide) rfl (fun ls hl => ?_)
  refine lv_aload_n hx hb dL_law_986 rfl (lv_at hl 5 rfl) ?_
  refine iw_i (va_runV (As := []) (rest := []) ⟨hx, hb, hml, hown, hts⟩ (kX9_thrown l G 83 ad _ 74 (by decide) (nI 1) d9 ht9 _) (cwV 0 hts gL_law_X9_thrown rfl rfl rfl (by decide +kernel) ⟨Nat.le_of_ble_eq_true rfl, Nat.le_of_ble_eq_true rfl⟩) (iPV hK hP hD (by decide) (ht9) rfl []) rfl rfl hl.1 rfl (lv_room (Nat.le_of_ble_eq_true rfl)) dL_law_987 ⟨Nat.le_of_ble_eq_true rfl, Nat.le_of_ble_eq_true rfl⟩) hD hS hA (fun r7 u7 H locs hw7 hP hD hS => ?_)
  obtain ⟨hr7, hu7⟩ := hw7
  rw [hu7] at hP hD
  refine lv_asI hr7 ?_
  refine lv_iload hx hb dL_law_990 (lv_at hl 1 rfl) ?_
  refine lv_icmp_eq (tgt := 997) hx hb dL_law_992 (by decide) (fun _ => ?_) (fun c9 => absurd (by decide) c9)
  refine lv_iload hx hb dL_law_997 (lv_at hl 1 rfl) ?_
  refine lv_if_ne (tgt := 1034) hx hb dL_law_999 (by decide) (fun _ => ?_) (fun c9 => absurd c9 (by decide))
  refine lv_goto (tgt := 1906) hx hb dL_law_1034 (by decide) ?_
  refine W.widen (k := 300) (n := 6500) (Nat.le_of_ble_eq_true rfl) (Nat.le_of_ble_eq_true rfl) ?_
  exact kt H locs ls hS (lv_sub hl [2, 7] rfl)
set_option maxHeartbeats 4000000 in
set_option maxRecDepth 100000 in
theorem lc_word_1 {p : Program} {l : Launch} {e : Env} {s : State} {m : MethodId} {below : List Frame} {meth : Method} {c : Code} {b dz : Nat} {xs : Nat → Int32} {G : iG} {Q : State → Prop} (hst : l.stackTraces = false) (hx : p.tables.exec = Jvm.exec) (hb : c.code = cL_law) (hml : c.maxLocals = 9) (hts : ∀ w ∈ wsL_law, w.before #[Value.ref b] s = true) (hown : s.vm.findClass RL = some m.cls) (hX : va_X b 6 xs s s.heap) (hbl : b < s.heap.size) (hK : KB G s) (hV : VX s) (hZt : ZT (aA s) s s.heap) (hZ : ZD dz (aA s) s s.heap) {ad : Nat → Nat} {C : Nat → va_E} {H : Heap} {locs : List Loc} {ls : Array Slot} (hcam : Cam G 83 ad C 0 S0) (hmod : Mod G 83 ad C 74 dz (nI 0)) (glo : C 81 = la G 1 (fun _ => 0)) (hP : va_P G.1 vwB (wl 83 ad C) H) (hD : va_D (aA s) (wl 83 ad C)) (hS : va_S (aA s) s.heap H locs) (hl : lv_has ls 9 [(5, .int (nI 0)), (4, .ref (ad 82)), (3, .ref (ad 81)), (2, .ref (ad 74)), (1, .ref (ad 0)), (0, .ref b)]) (kt : ∀ (H : Heap) (locs : List Loc) (ls : Array Slot), va_S (aA s) s.heap H locs → lv_has ls 9 [(5, .int (nI 0)), (0, .ref b)] → W p l e room_1 s m #[Value.ref b] below meth c H locs 300 6500 Q (F0 m 1906 ls [])) (k : Int32) (hx1 : xs 1 = k) : W p l e room_1 s m #[Value.ref b] below meth c H locs 83 1901 Q (F0 m 1037 ls []) := by
  have hbA : ¬ aA s b := Nat.not_le.mpr hbl
  have hA : ∀ q : Nat, s.heap.size ≤ q → aA s q := fun _ h => h
  refine lv_aload_n hx hb dL_law_1037 rfl (lv_at hl 4 rfl) ?_
  refine lv_aload_n hx hb dL_law_1038 rfl (lv_at hl 5 rfl) ?_
  refine lv_iload hx hb dL_law_1039 (lv_at hl 0 rfl) ?_
  refine lv_iconst (v := nI 1) hx hb dL_law_1041 (by decide) ?_
  refine lv_iadd hx hb dL_law_1042 ?_
  refine lv_asI (y := nI 1) (by decide) ?_
  refine va_sld hx hb hX hbl hbA hS (vp_in_nI (by decide) (by decide)) dL_law_1043 ?_
  refine lv_asI (y := k) ((congrArg xs (nI_clamp (by decide))).trans hx1) ?_
  refine lv_aload_n hx hb dL_law_1044 rfl (lv_at hl 2 rfl) ?_
  refine iwx_i (vx_runSX (hh := [(0, 9, 12, 13)]) (As := [.ref (ad 0), .int k, .ref (ad 81)]) (rest := []) ⟨hx, hb, hml, hown, hts⟩ (wL_word_1 l hst G 83 ad _ 0 S0 hcam 81 k (i_all k) _) (vx_cwSW 3 hts gL_law_L_word rfl rfl rfl (by decide +kernel) ⟨Nat.le_of_ble_eq_true rfl, Nat.le_of_ble_eq_true rfl⟩) (iPSX hK hV hZt hS hA hP hD [.ref (ad 0), .int k, .ref (ad 81)]) rfl rfl hl.1 rfl (lv_room (Nat.le_of_ble_eq_true rfl)) dL_law_1045 ⟨Nat.le_of_ble_eq_true rfl, Nat.le_of_ble_eq_true rfl⟩) hD hS hA (fun r8 u8 H locs hw8 hP hD hS => ?_)
  obtain ⟨hr8, hu8⟩ := hw8
  rw [hu8] at hP hD
  refine lv_asI hr8 ?_
  refine lv_istore (lv' := [(6, .int (nI 1)), (5, .int (nI 0)), (4, .ref (ad 82)), (3, .ref (ad 81)), (2, .ref (ad 74)), (1, .ref (ad 0)), (0, .ref b)]) hx hb dL_law_1048 hl (by decide) rfl (fun ls hl => ?_)
  refine lv_aload_n hx hb dL_law_1050 rfl (lv_at hl 4 rfl) ?_
  refine lv_aload_n hx hb dL_law_1051 rfl (lv_at hl 6 rfl) ?_
  refine lv_iload hx hb dL_law_1052 (lv_at hl 1 rfl) ?_
  refine lv_iconst (v := nI 1) hx hb dL_law_1054 (by decide) ?_
  refine lv_iadd hx hb dL_law_1055 ?_
  refine lv_asI (y := nI 1) (by decide) ?_
  refine va_sld hx hb hX hbl hbA hS (vp_in_nI (by decide) (by decide)) dL_law_1056 ?_
  refine lv_asI (y := k) ((congrArg xs (nI_clamp (by decide))).trans hx1) ?_
  refine iw_i (va_runV (As := [.int k]) (rest := []) ⟨hx, hb, hml, hown, hts⟩ (kX9_word_ l G 83 ad _ 74 dz (nI 0) hmod k _) (cwV 1 hts gL_law_X9_word_ rfl rfl rfl (by decide +kernel) ⟨Nat.le_of_ble_eq_true rfl, Nat.le_of_ble_eq_true rfl⟩) (iPVV hK hV hP hD (by decide) (hmod.2.1) rfl [.int k]) rfl rfl hl.1 rfl (lv_room (Nat.le_of_ble_eq_true rfl)) dL_law_1057 ⟨Nat.le_of_ble_eq_true rfl, Nat.le_of_ble_eq_true rfl⟩) hD hS hA (fun r9 u9 H locs hw9 hP hD hS => ?_)
  obtain ⟨hr9, ⟨d9, ht9⟩, hm9⟩ := hw9
  refine lv_asI hr9 ?_
  refine lv_istore (lv' := [(7, .int (nI 0)), (6, .int (nI 1)), (5, .int (nI 0)), (4, .ref (ad 82)), (3, .ref (ad 81)), (2, .ref (ad 74)), (1, .ref (ad 0)), (0, .ref b)]) hx hb dL_law_1060 hl (by decide) rfl (fun ls hl => ?_)
  refine lv_aload_n hx hb dL_law_1062 rfl (lv_at hl 5 rfl) ?_
  refine iw_i (va_runV (As := []) (rest := []) ⟨hx, hb, hml, hown, hts⟩ (kX9_thrown l G 83 ad _ 74 (by decide) (nI 1) d9 ht9 _) (cwV 0 hts gL_law_X9_thrown rfl rfl rfl (by decide +kernel) ⟨Nat.le_of_ble_eq_true rfl, Nat.le_of_ble_eq_true rfl⟩) (iPV hK hP hD (by decide) (ht9) rfl []) rfl rfl hl.1 rfl (lv_room (Nat.le_of_ble_eq_true rfl)) dL_law_1063 ⟨Nat.le_of_ble_eq_true rfl, Nat.le_of_ble_eq_true rfl⟩) hD hS hA (fun r7 u7 H locs hw7 hP hD hS => ?_)
  obtain ⟨hr7, hu7⟩ := hw7
  rw [hu7] at hP hD
  refine lv_asI hr7 ?_
  refine lv_iload hx hb dL_law_1066 (lv_at hl 1 rfl) ?_
  refine lv_icmp_eq (tgt := 1073) hx hb dL_law_1068 (by decide) (fun _ => ?_) (fun c9 => absurd (by decide) c9)
  refine lv_iload hx hb dL_law_1073 (lv_at hl 1 rfl) ?_
  refine lv_if_ne (tgt := 1090) hx hb dL_law_1075 (by decide) (fun _ => ?_) (fun c9 => absurd c9 (by decide))
  refine lv_goto (tgt := 1906) hx hb dL_law_1090 (by decide) ?_
  refine W.widen (k := 300) (n := 6500) (Nat.le_of_ble_eq_true rfl) (Nat.le_of_ble_eq_true rfl) ?_
  exact kt H locs ls hS (lv_sub hl [2, 7] rfl)
set_option maxHeartbeats 4000000 in
set_option maxRecDepth 100000 in
theorem lc_ofFrame_1 {p : Program} {l : Launch} {e : Env} {s : State} {m : MethodId} {below : List Frame} {meth : Method} {c : Code} {b dz : Nat} {xs : Nat → Int32} {G : iG} {Q : State → Prop} (hst : l.stackTraces = false) (hx : p.tables.exec = Jvm.exec) (hb : c.code = cL_law) (hml : c.maxLocals = 9) (hts : ∀ w ∈ wsL_law, w.before #[Value.ref b] s = true) (hown : s.vm.findClass RL = some m.cls) (hX : va_X b 6 xs s s.heap) (hbl : b < s.heap.size) (hK : KB G s) (hV : VX s) (hZt : ZT (aA s) s s.heap) (hZ : ZD dz (aA s) s s.heap) {ad : Nat → Nat} {C : Nat → va_E} {H : Heap} {locs : List Loc} {ls : Array Slot} (hcam : Cam G 83 ad C 0 S0) (hmod : Mod G 83 ad C 74 dz (nI 0)) (glo : C 81 = la G 1 (fun _ => 0)) (hP : va_P G.1 vwB (wl 83 ad C) H) (hD : va_D (aA s) (wl 83 ad C)) (hS : va_S (aA s) s.heap H locs) (hl : lv_has ls 9 [(5, .int (nI 0)), (4, .ref (ad 82)), (3, .ref (ad 81)), (2, .ref (ad 74)), (1, .ref (ad 0)), (0, .ref b)]) (kt : ∀ (H : Heap) (locs : List Loc) (ls : Array Slot), va_S (aA s) s.heap H locs → lv_has ls 9 [(5, .int (nI 0)), (0, .ref b)] → W p l e room_1 s m #[Value.ref b] below meth c H locs 300 6500 Q (F0 m 1906 ls [])) (k y0 : Int32) (hx1 : xs 1 = k) (hx2 : xs 2 = y0) : W p l e room_1 s m #[Value.ref b] below meth c H locs 83 1901 Q (F0 m 1093 ls []) := by
  have hbA : ¬ aA s b := Nat.not_le.mpr hbl
  have hA : ∀ q : Nat, s.heap.size ≤ q → aA s q := fun _ h => h
  refine lv_aload_n hx hb dL_law_1093 rfl (lv_at hl 4 rfl) ?_
  refine lv_aload_n hx hb dL_law_1094 rfl (lv_at hl 5 rfl) ?_
  refine lv_iload hx hb dL_law_1095 (lv_at hl 0 rfl) ?_
  refine lv_iconst (v := nI 1) hx hb dL_law_1097 (by decide) ?_
  refine lv_iadd hx hb dL_law_1098 ?_
  refine lv_asI (y := nI 1) (by decide) ?_
  refine va_sld hx hb hX hbl hbA hS (vp_in_nI (by decide) (by decide)) dL_law_1099 ?_
  refine lv_asI (y := k) ((congrArg xs (nI_clamp (by decide))).trans hx1) ?_
  refine lv_aload_n hx hb dL_law_1100 rfl (lv_at hl 5 rfl) ?_
  refine lv_iload hx hb dL_law_1101 (lv_at hl 0 rfl) ?_
  refine lv_iconst (v := nI 2) hx hb dL_law_1103 (by decide) ?_
  refine lv_iadd hx hb dL_law_1104 ?_
  refine lv_asI (y := nI 2) (by decide) ?_
  refine va_sld hx hb hX hbl hbA hS (vp_in_nI (by decide) (by decide)) dL_law_1105 ?_
  refine lv_asI (y := y0) ((congrArg xs (nI_clamp (by decide))).trans hx2) ?_
  refine lv_aload_n hx hb dL_law_1106 rfl (lv_at hl 2 rfl) ?_
  refine iwx_i (vx_runSX (hh := [(0, 10, 13, 13), (0, 10, 17, 15)]) (As := [.ref (ad 0), .int k, .int y0, .ref (ad 81)]) (rest := []) ⟨hx, hb, hml, hown, hts⟩ (wL_ofFrame_1 l hst G 83 ad _ 0 S0 hcam 81 k y0 (i_all k) _) (vx_cwSW 4 hts gL_law_L_ofFrame rfl rfl rfl (by decide +kernel) ⟨Nat.le_of_ble_eq_true rfl, Nat.le_of_ble_eq_true rfl⟩) (iPSX hK hV hZt hS hA hP hD [.ref (ad 0), .int k, .int y0, .ref (ad 81)]) rfl rfl hl.1 rfl (lv_room (Nat.le_of_ble_eq_true rfl)) dL_law_1107 ⟨Nat.le_of_ble_eq_true rfl, Nat.le_of_ble_eq_true rfl⟩) hD hS hA (fun r8 u8 H locs hw8 hP hD hS => ?_)
  obtain ⟨hr8, hu8⟩ := hw8
  rw [hu8] at hP hD
  refine lv_asI hr8 ?_
  refine lv_istore (lv' := [(6, .int (nI 1)), (5, .int (nI 0)), (4, .ref (ad 82)), (3, .ref (ad 81)), (2, .ref (ad 74)), (1, .ref (ad 0)), (0, .ref b)]) hx hb dL_law_1110 hl (by decide) rfl (fun ls hl => ?_)
  refine lv_aload_n hx hb dL_law_1112 rfl (lv_at hl 4 rfl) ?_
  refine lv_aload_n hx hb dL_law_1113 rfl (lv_at hl 6 rfl) ?_
  refine lv_iload hx hb dL_law_1114 (lv_at hl 1 rfl) ?_
  refine lv_iconst (v := nI 1) hx hb dL_law_1116 (by decide) ?_
  refine lv_iadd hx hb dL_law_1117 ?_
  refine lv_asI (y := nI 1) (by decide) ?_
  refine va_sld hx hb hX hbl hbA hS (vp_in_nI (by decide) (by decide)) dL_law_1118 ?_
  refine lv_asI (y := k) ((congrArg xs (nI_clamp (by decide))).trans hx1) ?_
  refine lv_aload_n hx hb dL_law_1119 rfl (lv_at hl 6 rfl) ?_
  refine lv_iload hx hb dL_law_1120 (lv_at hl 1 rfl) ?_
  refine lv_iconst (v := nI 2) hx hb dL_law_1122 (by decide) ?_
  refine lv_iadd hx hb dL_law_1123 ?_
  refine lv_asI (y := nI 2) (by decide) ?_
  refine va_sld hx hb hX hbl hbA hS (vp_in_nI (by decide) (by decide)) dL_law_1124 ?_
  refine lv_asI (y := y0) ((congrArg xs (nI_clamp (by decide))).trans hx2) ?_
  refine iw_i (va_runV (As := [.int k, .int y0]) (rest := []) ⟨hx, hb, hml, hown, hts⟩ (kX9_ofFrame l G 83 ad _ 74 dz (nI 0) hmod k y0 _) (cwV 2 hts gL_law_X9_ofFrame rfl rfl rfl (by decide +kernel) ⟨Nat.le_of_ble_eq_true rfl, Nat.le_of_ble_eq_true rfl⟩) (iPVV hK hV hP hD (by decide) (hmod.2.1) rfl [.int k, .int y0]) rfl rfl hl.1 rfl (lv_room (Nat.le_of_ble_eq_true rfl)) dL_law_1125 ⟨Nat.le_of_ble_eq_true rfl, Nat.le_of_ble_eq_true rfl⟩) hD hS hA (fun r9 u9 H locs hw9 hP hD hS => ?_)
  obtain ⟨hr9, ⟨d9, ht9⟩, hm9⟩ := hw9
  refine lv_asI hr9 ?_
  refine lv_istore (lv' := [(7, .int (nI 0)), (6, .int (nI 1)), (5, .int (nI 0)), (4, .ref (ad 82)), (3, .ref (ad 81)), (2, .ref (ad 74)), (1, .ref (ad 0)), (0, .ref b)]) hx hb dL_law_1128 hl (by decide) rfl (fun ls hl => ?_)
  refine lv_aload_n hx hb dL_law_1130 rfl (lv_at hl 5 rfl) ?_
  refine iw_i (va_runV (As := []) (rest := []) ⟨hx, hb, hml, hown, hts⟩ (kX9_thrown l G 83 ad _ 74 (by decide) (nI 1) d9 ht9 _) (cwV 0 hts gL_law_X9_thrown rfl rfl rfl (by decide +kernel) ⟨Nat.le_of_ble_eq_true rfl, Nat.le_of_ble_eq_true rfl⟩) (iPV hK hP hD (by decide) (ht9) rfl []) rfl rfl hl.1 rfl (lv_room (Nat.le_of_ble_eq_true rfl)) dL_law_1131 ⟨Nat.le_of_ble_eq_true rfl, Nat.le_of_ble_eq_true rfl⟩) hD hS hA (fun r7 u7 H locs hw7 hP hD hS => ?_)
  obtain ⟨hr7, hu7⟩ := hw7
  rw [hu7] at hP hD
  refine lv_asI hr7 ?_
  refine lv_iload hx hb dL_law_1134 (lv_at hl 1 rfl) ?_
  refine lv_icmp_eq (tgt := 1141) hx hb dL_law_1136 (by decide) (fun _ => ?_) (fun c9 => absurd (by decide) c9)
  refine lv_iload hx hb dL_law_1141 (lv_at hl 1 rfl) ?_
  refine lv_if_ne (tgt := 1158) hx hb dL_law_1143 (by decide) (fun _ => ?_) (fun c9 => absurd c9 (by decide))
  refine lv_goto (tgt := 1906) hx hb dL_law_1158 (by decide) ?_
  refine W.widen (k := 300) (n := 6500) (Nat.le_of_ble_eq_true rfl) (Nat.le_of_ble_eq_true rfl) ?_
  exact kt H locs ls hS (lv_sub hl [2, 7] rfl)
set_option maxHeartbeats 4000000 in
set_option maxRecDepth 100000 in
theorem lc_ofEdit_1 {p : Program} {l : Launch} {e : Env} {s : State} {m : MethodId} {below : List Frame} {meth : Method} {c : Code} {b dz : Nat} {xs : Nat → Int32} {G : iG} {Q : State → Prop} (hst : l.stackTraces = false) (hx : p.tables.exec = Jvm.exec) (hb : c.code = cL_law) (hml : c.maxLocals = 9) (hts : ∀ w ∈ wsL_law, w.before #[Value.ref b] s = true) (hown : s.vm.findClass RL = some m.cls) (hX : va_X b 6 xs s s.heap) (hbl : b < s.heap.size) (hK : KB G s) (hV : VX s) (hZt : ZT (aA s) s s.heap) (hZ : ZD dz (aA s) s s.heap) {ad : Nat → Nat} {C : Nat → va_E} {H : Heap} {locs : List Loc} {ls : Array Slot} (hcam : Cam G 83 ad C 0 S0) (hmod : Mod G 83 ad C 74 dz (nI 0)) (glo : C 81 = la G 1 (fun _ => 0)) (hP : va_P G.1 vwB (wl 83 ad C) H) (hD : va_D (aA s) (wl 83 ad C)) (hS : va_S (aA s) s.heap H locs) (hl : lv_has ls 9 [(5, .int (nI 0)), (4, .ref (ad 82)), (3, .ref (ad 81)), (2, .ref (ad 74)), (1, .ref (ad 0)), (0, .ref b)]) (kt : ∀ (H : Heap) (locs : List Loc) (ls : Array Slot), va_S (aA s) s.heap H locs → lv_has ls 9 [(5, .int (nI 0)), (0, .ref b)] → W p l e room_1 s m #[Value.ref b] below meth c H locs 300 6500 Q (F0 m 1906 ls [])) (k y0 y1 : Int32) (hx1 : xs 1 = k) (hx2 : xs 2 = y0) (hx3 : xs 3 = y1) : W p l e room_1 s m #[Value.ref b] below meth c H locs 83 1901 Q (F0 m 1161 ls []) := by
  have hbA : ¬ aA s b := Nat.not_le.mpr hbl
  have hA : ∀ q : Nat, s.heap.size ≤ q → aA s q := fun _ h => h
  refine lv_aload_n hx hb dL_law_1161 rfl (lv_at hl 4 rfl) ?_
  refine lv_aload_n hx hb dL_law_1162 rfl (lv_at hl 5 rfl) ?_
  refine lv_iload hx hb dL_law_1163 (lv_at hl 0 rfl) ?_
  refine lv_iconst (v := nI 1) hx hb dL_law_1165 (by decide) ?_
  refine lv_iadd hx hb dL_law_1166 ?_
  refine lv_asI (y := nI 1) (by decide) ?_
  refine va_sld hx hb hX hbl hbA hS (vp_in_nI (by decide) (by decide)) dL_law_1167 ?_
  refine lv_asI (y := k) ((congrArg xs (nI_clamp (by decide))).trans hx1) ?_
  refine lv_aload_n hx hb dL_law_1168 rfl (lv_at hl 5 rfl) ?_
  refine lv_iload hx hb dL_law_1169 (lv_at hl 0 rfl) ?_
  refine lv_iconst (v := nI 2) hx hb dL_law_1171 (by decide) ?_
  refine lv_iadd hx hb dL_law_1172 ?_
  refine lv_asI (y := nI 2) (by decide) ?_
  refine va_sld hx hb hX hbl hbA hS (vp_in_nI (by decide) (by decide)) dL_law_1173 ?_
  refine lv_asI (y := y0) ((congrArg xs (nI_clamp (by decide))).trans hx2) ?_
  refine lv_aload_n hx hb dL_law_1174 rfl (lv_at hl 5 rfl) ?_
  refine lv_iload hx hb dL_law_1175 (lv_at hl 0 rfl) ?_
  refine lv_iconst (v := nI 3) hx hb dL_law_1177 (by decide) ?_
  refine lv_iadd hx hb dL_law_1178 ?_
  refine lv_asI (y := nI 3) (by decide) ?_
  refine va_sld hx hb hX hbl hbA hS (vp_in_nI (by decide) (by decide)) dL_law_1179 ?_
  refine lv_asI (y := y1) ((congrArg xs (nI_clamp (by decide))).trans hx3) ?_
  refine lv_aload_n hx hb dL_law_1180 rfl (lv_at hl 2 rfl) ?_
  refine iwx_i (vx_runSX (hh := [(0, 12, 15, 13), (0, 12, 19, 15)]) (As := [.ref (ad 0), .int k, .int y0, .int y1, .ref (ad 81)]) (rest := []) ⟨hx, hb, hml, hown, hts⟩ (wL_ofEdit_1 l hst G 83 ad _ 0 S0 hcam 81 k y0 y1 (i_all k) _) (vx_cwSW 5 hts gL_law_L_ofEdit rfl rfl rfl (by decide +kernel) ⟨Nat.le_of_ble_eq_true rfl, Nat.le_of_ble_eq_true rfl⟩) (iPSX hK hV hZt hS hA hP hD [.ref (ad 0), .int k, .int y0, .int y1, .ref (ad 81)]) rfl rfl hl.1 rfl (lv_room (Nat.le_of_ble_eq_true rfl)) dL_law_1181 ⟨Nat.le_of_ble_eq_true rfl, Nat.le_of_ble_eq_true rfl⟩) hD hS hA (fun r8 u8 H locs hw8 hP hD hS => ?_)
  obtain ⟨hr8, hu8⟩ := hw8
  rw [hu8] at hP hD
  refine lv_asI hr8 ?_
  refine lv_istore (lv' := [(6, .int (nI 1)), (5, .int (nI 0)), (4, .ref (ad 82)), (3, .ref (ad 81)), (2, .ref (ad 74)), (1, .ref (ad 0)), (0, .ref b)]) hx hb dL_law_1184 hl (by decide) rfl (fun ls hl => ?_)
  refine lv_aload_n hx hb dL_law_1186 rfl (lv_at hl 4 rfl) ?_
  refine lv_aload_n hx hb dL_law_1187 rfl (lv_at hl 6 rfl) ?_
  refine lv_iload hx hb dL_law_1188 (lv_at hl 1 rfl) ?_
  refine lv_iconst (v := nI 1) hx hb dL_law_1190 (by decide) ?_
  refine lv_iadd hx hb dL_law_1191 ?_
  refine lv_asI (y := nI 1) (by decide) ?_
  refine va_sld hx hb hX hbl hbA hS (vp_in_nI (by decide) (by decide)) dL_law_1192 ?_
  refine lv_asI (y := k) ((congrArg xs (nI_clamp (by decide))).trans hx1) ?_
  refine lv_aload_n hx hb dL_law_1193 rfl (lv_at hl 6 rfl) ?_
  refine lv_iload hx hb dL_law_1194 (lv_at hl 1 rfl) ?_
  refine lv_iconst (v := nI 2) hx hb dL_law_1196 (by decide) ?_
  refine lv_iadd hx hb dL_law_1197 ?_
  refine lv_asI (y := nI 2) (by decide) ?_
  refine va_sld hx hb hX hbl hbA hS (vp_in_nI (by decide) (by decide)) dL_law_1198 ?_
  refine lv_asI (y := y0) ((congrArg xs (nI_clamp (by decide))).trans hx2) ?_
  refine lv_aload_n hx hb dL_law_1199 rfl (lv_at hl 6 rfl) ?_
  refine lv_iload hx hb dL_law_1200 (lv_at hl 1 rfl) ?_
  refine lv_iconst (v := nI 3) hx hb dL_law_1202 (by decide) ?_
  refine lv_iadd hx hb dL_law_1203 ?_
  refine lv_asI (y := nI 3) (by decide) ?_
  refine va_sld hx hb hX hbl hbA hS (vp_in_nI (by decide) (by decide)) dL_law_1204 ?_
  refine lv_asI (y := y1) ((congrArg xs (nI_clamp (by decide))).trans hx3) ?_
  refine iw_i (va_runV (As := [.int k, .int y0, .int y1]) (rest := []) ⟨hx, hb, hml, hown, hts⟩ (kX9_ofEdit l G 83 ad _ 74 dz (nI 0) hmod k y0 y1 _) (cwV 3 hts gL_law_X9_ofEdit rfl rfl rfl (by decide +kernel) ⟨Nat.le_of_ble_eq_true rfl, Nat.le_of_ble_eq_true rfl⟩) (iPVV hK hV hP hD (by decide) (hmod.2.1) rfl [.int k, .int y0, .int y1]) rfl rfl hl.1 rfl (lv_room (Nat.le_of_ble_eq_true rfl)) dL_law_1205 ⟨Nat.le_of_ble_eq_true rfl, Nat.le_of_ble_eq_true rfl⟩) hD hS hA (fun r9 u9 H locs hw9 hP hD hS => ?_)
  obtain ⟨hr9, ⟨d9, ht9⟩, hm9⟩ := hw9
  refine lv_asI hr9 ?_
  refine lv_istore (lv' := [(7, .int (nI 0)), (6, .int (nI 1)), (5, .int (nI 0)), (4, .ref (ad 82)), (3, .ref (ad 81)), (2, .ref (ad 74)), (1, .ref (ad 0)), (0, .ref b)]) hx hb dL_law_1208 hl (by decide) rfl (fun ls hl => ?_)
  refine lv_aload_n hx hb dL_law_1210 rfl (lv_at hl 5 rfl) ?_
  refine iw_i (va_runV (As := []) (rest := []) ⟨hx, hb, hml, hown, hts⟩ (kX9_thrown l G 83 ad _ 74 (by decide) (nI 1) d9 ht9 _) (cwV 0 hts gL_law_X9_thrown rfl rfl rfl (by decide +kernel) ⟨Nat.le_of_ble_eq_true rfl, Nat.le_of_ble_eq_true rfl⟩) (iPV hK hP hD (by decide) (ht9) rfl []) rfl rfl hl.1 rfl (lv_room (Nat.le_of_ble_eq_true rfl)) dL_law_1211 ⟨Nat.le_of_ble_eq_true rfl, Nat.le_of_ble_eq_true rfl⟩) hD hS hA (fun r7 u7 H locs hw7 hP hD hS => ?_)
  obtain ⟨hr7, hu7⟩ := hw7
  rw [hu7] at hP hD
  refine lv_asI hr7 ?_
  refine lv_iload hx hb dL_law_1214 (lv_at hl 1 rfl) ?_
  refine lv_icmp_eq (tgt := 1221) hx hb dL_law_1216 (by decide) (fun _ => ?_) (fun c9 => absurd (by decide) c9)
  refine lv_iload hx hb dL_law_1221 (lv_at hl 1 rfl) ?_
  refine lv_if_ne (tgt := 1238) hx hb dL_law_1223 (by decide) (fun _ => ?_) (fun c9 => absurd c9 (by decide))
  refine lv_goto (tgt := 1906) hx hb dL_law_1238 (by decide) ?_
  refine W.widen (k := 300) (n := 6500) (Nat.le_of_ble_eq_true rfl) (Nat.le_of_ble_eq_true rfl) ?_
  exact kt H locs ls hS (lv_sub hl [2, 7] rfl)
set_option maxHeartbeats 4000000 in
set_option maxRecDepth 100000 in
theorem lc_zone_1 {p : Program} {l : Launch} {e : Env} {s : State} {m : MethodId} {below : List Frame} {meth : Method} {c : Code} {b dz : Nat} {xs : Nat → Int32} {G : iG} {Q : State → Prop} (hst : l.stackTraces = false) (hx : p.tables.exec = Jvm.exec) (hb : c.code = cL_law) (hml : c.maxLocals = 9) (hts : ∀ w ∈ wsL_law, w.before #[Value.ref b] s = true) (hown : s.vm.findClass RL = some m.cls) (hX : va_X b 6 xs s s.heap) (hbl : b < s.heap.size) (hK : KB G s) (hV : VX s) (hZt : ZT (aA s) s s.heap) (hZ : ZD dz (aA s) s s.heap) {ad : Nat → Nat} {C : Nat → va_E} {H : Heap} {locs : List Loc} {ls : Array Slot} (hcam : Cam G 83 ad C 0 S0) (hmod : Mod G 83 ad C 74 dz (nI 0)) (glo : C 81 = la G 1 (fun _ => 0)) (hP : va_P G.1 vwB (wl 83 ad C) H) (hD : va_D (aA s) (wl 83 ad C)) (hS : va_S (aA s) s.heap H locs) (hl : lv_has ls 9 [(5, .int (nI 0)), (4, .ref (ad 82)), (3, .ref (ad 81)), (2, .ref (ad 74)), (1, .ref (ad 0)), (0, .ref b)]) (kt : ∀ (H : Heap) (locs : List Loc) (ls : Array Slot), va_S (aA s) s.heap H locs → lv_has ls 9 [(5, .int (nI 0)), (0, .ref b)] → W p l e room_1 s m #[Value.ref b] below meth c H locs 300 6500 Q (F0 m 1906 ls [])) (k y0 : Int32) (hx1 : xs 1 = k) (hx2 : xs 2 = y0) : W p l e room_1 s m #[Value.ref b] below meth c H locs 83 1901 Q (F0 m 1241 ls []) := by
  have hbA : ¬ aA s b := Nat.not_le.mpr hbl
  have hA : ∀ q : Nat, s.heap.size ≤ q → aA s q := fun _ h => h
  refine lv_aload_n hx hb dL_law_1241 rfl (lv_at hl 4 rfl) ?_
  refine lv_aload_n hx hb dL_law_1242 rfl (lv_at hl 5 rfl) ?_
  refine lv_iload hx hb dL_law_1243 (lv_at hl 0 rfl) ?_
  refine lv_iconst (v := nI 1) hx hb dL_law_1245 (by decide) ?_
  refine lv_iadd hx hb dL_law_1246 ?_
  refine lv_asI (y := nI 1) (by decide) ?_
  refine va_sld hx hb hX hbl hbA hS (vp_in_nI (by decide) (by decide)) dL_law_1247 ?_
  refine lv_asI (y := k) ((congrArg xs (nI_clamp (by decide))).trans hx1) ?_
  refine lv_aload_n hx hb dL_law_1248 rfl (lv_at hl 5 rfl) ?_
  refine lv_iload hx hb dL_law_1249 (lv_at hl 0 rfl) ?_
  refine lv_iconst (v := nI 2) hx hb dL_law_1251 (by decide) ?_
  refine lv_iadd hx hb dL_law_1252 ?_
  refine lv_asI (y := nI 2) (by decide) ?_
  refine va_sld hx hb hX hbl hbA hS (vp_in_nI (by decide) (by decide)) dL_law_1253 ?_
  refine lv_asI (y := y0) ((congrArg xs (nI_clamp (by decide))).trans hx2) ?_
  refine lv_aload hx hb dL_law_1254 (lv_at hl 1 rfl) ?_
  refine iwx_i (vx_runSX (hh := [(0, 9, 12, 13)]) (As := [.ref (ad 0), .int k, .int y0, .ref (ad 82)]) (rest := []) ⟨hx, hb, hml, hown, hts⟩ (wL_zone_1 l hst G 83 ad _ 0 S0 hcam 82 k y0 (i_all k) _) (vx_cwSW 4 hts gL_law_L_zone rfl rfl rfl (by decide +kernel) ⟨Nat.le_of_ble_eq_true rfl, Nat.le_of_ble_eq_true rfl⟩) (iPSX hK hV hZt hS hA hP hD [.ref (ad 0), .int k, .int y0, .ref (ad 82)]) rfl rfl hl.1 rfl (lv_room (Nat.le_of_ble_eq_true rfl)) dL_law_1256 ⟨Nat.le_of_ble_eq_true rfl, Nat.le_of_ble_eq_true rfl⟩) hD hS hA (fun r8 u8 H locs hw8 hP hD hS => ?_)
  obtain ⟨hr8, hu8⟩ := hw8
  rw [hu8] at hP hD
  refine lv_asI hr8 ?_
  refine lv_istore (lv' := [(6, .int (nI 1)), (5, .int (nI 0)), (4, .ref (ad 82)), (3, .ref (ad 81)), (2, .ref (ad 74)), (1, .ref (ad 0)), (0, .ref b)]) hx hb dL_law_1259 hl (by decide) rfl (fun ls hl => ?_)
  refine lv_aload_n hx hb dL_law_1261 rfl (lv_at hl 4 rfl) ?_
  refine lv_aload_n hx hb dL_law_1262 rfl (lv_at hl 6 rfl) ?_
  refine lv_iload hx hb dL_law_1263 (lv_at hl 1 rfl) ?_
  refine lv_iconst (v := nI 1) hx hb dL_law_1265 (by decide) ?_
  refine lv_iadd hx hb dL_law_1266 ?_
  refine lv_asI (y := nI 1) (by decide) ?_
  refine va_sld hx hb hX hbl hbA hS (vp_in_nI (by decide) (by decide)) dL_law_1267 ?_
  refine lv_asI (y := k) ((congrArg xs (nI_clamp (by decide))).trans hx1) ?_
  refine lv_aload_n hx hb dL_law_1268 rfl (lv_at hl 6 rfl) ?_
  refine lv_iload hx hb dL_law_1269 (lv_at hl 1 rfl) ?_
  refine lv_iconst (v := nI 2) hx hb dL_law_1271 (by decide) ?_
  refine lv_iadd hx hb dL_law_1272 ?_
  refine lv_asI (y := nI 2) (by decide) ?_
  refine va_sld hx hb hX hbl hbA hS (vp_in_nI (by decide) (by decide)) dL_law_1273 ?_
  refine lv_asI (y := y0) ((congrArg xs (nI_clamp (by decide))).trans hx2) ?_
  refine iw_d (va_runV (As := [.int k, .int y0]) (rest := []) ⟨hx, hb, hml, hown, hts⟩ (kX9_zone l G 83 ad _ 74 dz (nI 0) hmod k y0 _) (cwV 2 hts gL_law_X9_zone rfl rfl rfl (by decide +kernel) ⟨Nat.le_of_ble_eq_true rfl, Nat.le_of_ble_eq_true rfl⟩) (iPVV hK hV hP hD (by decide) (hmod.2.1) rfl [.int k, .int y0]) rfl rfl hl.1 rfl (lv_room (Nat.le_of_ble_eq_true rfl)) dL_law_1274 ⟨Nat.le_of_ble_eq_true rfl, Nat.le_of_ble_eq_true rfl⟩) hD hS hA (fun r9 u9 H locs hw9 hP hD hS => ?_)
  obtain ⟨hr9, ⟨d9, ht9⟩, hm9⟩ := hw9
  refine lv_asD hr9 ?_
  refine lv_dstore (lv' := [(7, .double (FP.i2d (nI 0))), (6, .int (nI 1)), (5, .int (nI 0)), (4, .ref (ad 82)), (3, .ref (ad 81)), (2, .ref (ad 74)), (1, .ref (ad 0)), (0, .ref b)]) hx hb dL_law_1277 hl (by decide) rfl (fun ls hl => ?_)
  refine lv_aload_n hx hb dL_law_1279 rfl (lv_at hl 5 rfl) ?_
  refine iw_i (va_runV (As := []) (rest := []) ⟨hx, hb, hml, hown, hts⟩ (kX9_thrown l G 83 ad _ 74 (by decide) (nI 1) d9 ht9 _) (cwV 0 hts gL_law_X9_thrown rfl rfl rfl (by decide +kernel) ⟨Nat.le_of_ble_eq_true rfl, Nat.le_of_ble_eq_true rfl⟩) (iPV hK hP hD (by decide) (ht9) rfl []) rfl rfl hl.1 rfl (lv_room (Nat.le_of_ble_eq_true rfl)) dL_law_1280 ⟨Nat.le_of_ble_eq_true rfl, Nat.le_of_ble_eq_true rfl⟩) hD hS hA (fun r7 u7 H locs hw7 hP hD hS => ?_)
  obtain ⟨hr7, hu7⟩ := hw7
  rw [hu7] at hP hD
  refine lv_asI hr7 ?_
  refine lv_iload hx hb dL_law_1283 (lv_at hl 1 rfl) ?_
  refine lv_icmp_eq (tgt := 1290) hx hb dL_law_1285 (by decide) (fun _ => ?_) (fun c9 => absurd (by decide) c9)
  refine lv_iload hx hb dL_law_1290 (lv_at hl 1 rfl) ?_
  refine lv_if_ne (tgt := 1327) hx hb dL_law_1292 (by decide) (fun _ => ?_) (fun c9 => absurd c9 (by decide))
  refine lv_goto (tgt := 1906) hx hb dL_law_1327 (by decide) ?_
  refine W.widen (k := 300) (n := 6500) (Nat.le_of_ble_eq_true rfl) (Nat.le_of_ble_eq_true rfl) ?_
  exact kt H locs ls hS (lv_sub hl [2, 7] rfl)
set_option maxHeartbeats 4000000 in
set_option maxRecDepth 100000 in
theorem lc_meter_1 {p : Program} {l : Launch} {e : Env} {s : State} {m : MethodId} {below : List Frame} {meth : Method} {c : Code} {b dz : Nat} {xs : Nat → Int32} {G : iG} {Q : State → Prop} (hst : l.stackTraces = false) (hx : p.tables.exec = Jvm.exec) (hb : c.code = cL_law) (hml : c.maxLocals = 9) (hts : ∀ w ∈ wsL_law, w.before #[Value.ref b] s = true) (hown : s.vm.findClass RL = some m.cls) (hX : va_X b 6 xs s s.heap) (hbl : b < s.heap.size) (hK : KB G s) (hV : VX s) (hZt : ZT (aA s) s s.heap) (hZ : ZD dz (aA s) s s.heap) {ad : Nat → Nat} {C : Nat → va_E} {H : Heap} {locs : List Loc} {ls : Array Slot} (hcam : Cam G 83 ad C 0 S0) (hmod : Mod G 83 ad C 74 dz (nI 0)) (glo : C 81 = la G 1 (fun _ => 0)) (hP : va_P G.1 vwB (wl 83 ad C) H) (hD : va_D (aA s) (wl 83 ad C)) (hS : va_S (aA s) s.heap H locs) (hl : lv_has ls 9 [(5, .int (nI 0)), (4, .ref (ad 82)), (3, .ref (ad 81)), (2, .ref (ad 74)), (1, .ref (ad 0)), (0, .ref b)]) (kt : ∀ (H : Heap) (locs : List Loc) (ls : Array Slot), va_S (aA s) s.heap H locs → lv_has ls 9 [(5, .int (nI 0)), (0, .ref b)] → W p l e room_1 s m #[Value.ref b] below meth c H locs 300 6500 Q (F0 m 1906 ls [])) (k : Int32) (hx1 : xs 1 = k) : W p l e room_1 s m #[Value.ref b] below meth c H locs 83 1901 Q (F0 m 1330 ls []) := by
  have hbA : ¬ aA s b := Nat.not_le.mpr hbl
  have hA : ∀ q : Nat, s.heap.size ≤ q → aA s q := fun _ h => h
  refine lv_aload_n hx hb dL_law_1330 rfl (lv_at hl 4 rfl) ?_
  refine lv_aload_n hx hb dL_law_1331 rfl (lv_at hl 5 rfl) ?_
  refine lv_iload hx hb dL_law_1332 (lv_at hl 0 rfl) ?_
  refine lv_iconst (v := nI 1) hx hb dL_law_1334 (by decide) ?_
  refine lv_iadd hx hb dL_law_1335 ?_
  refine lv_asI (y := nI 1) (by decide) ?_
  refine va_sld hx hb hX hbl hbA hS (vp_in_nI (by decide) (by decide)) dL_law_1336 ?_
  refine lv_asI (y := k) ((congrArg xs (nI_clamp (by decide))).trans hx1) ?_
  refine lv_aload hx hb dL_law_1337 (lv_at hl 1 rfl) ?_
  refine iwx_i (vx_runSX (hh := [(0, 8, 11, 13)]) (As := [.ref (ad 0), .int k, .ref (ad 82)]) (rest := []) ⟨hx, hb, hml, hown, hts⟩ (wL_meter_1 l hst G 83 ad _ 0 S0 hcam 82 k (i_all k) _) (vx_cwSW 3 hts gL_law_L_meter rfl rfl rfl (by decide +kernel) ⟨Nat.le_of_ble_eq_true rfl, Nat.le_of_ble_eq_true rfl⟩) (iPSX hK hV hZt hS hA hP hD [.ref (ad 0), .int k, .ref (ad 82)]) rfl rfl hl.1 rfl (lv_room (Nat.le_of_ble_eq_true rfl)) dL_law_1339 ⟨Nat.le_of_ble_eq_true rfl, Nat.le_of_ble_eq_true rfl⟩) hD hS hA (fun r8 u8 H locs hw8 hP hD hS => ?_)
  obtain ⟨hr8, hu8⟩ := hw8
  rw [hu8] at hP hD
  refine lv_asI hr8 ?_
  refine lv_istore (lv' := [(6, .int (nI 1)), (5, .int (nI 0)), (4, .ref (ad 82)), (3, .ref (ad 81)), (2, .ref (ad 74)), (1, .ref (ad 0)), (0, .ref b)]) hx hb dL_law_1342 hl (by decide) rfl (fun ls hl => ?_)
  refine lv_aload_n hx hb dL_law_1344 rfl (lv_at hl 4 rfl) ?_
  refine lv_aload_n hx hb dL_law_1345 rfl (lv_at hl 6 rfl) ?_
  refine lv_iload hx hb dL_law_1346 (lv_at hl 1 rfl) ?_
  refine lv_iconst (v := nI 1) hx hb dL_law_1348 (by decide) ?_
  refine lv_iadd hx hb dL_law_1349 ?_
  refine lv_asI (y := nI 1) (by decide) ?_
  refine va_sld hx hb hX hbl hbA hS (vp_in_nI (by decide) (by decide)) dL_law_1350 ?_
  refine lv_asI (y := k) ((congrArg xs (nI_clamp (by decide))).trans hx1) ?_
  refine iw_d (va_runV (As := [.int k]) (rest := []) ⟨hx, hb, hml, hown, hts⟩ (kX9_meter l G 83 ad _ 74 dz (nI 0) hmod k _) (cwV 1 hts gL_law_X9_meter rfl rfl rfl (by decide +kernel) ⟨Nat.le_of_ble_eq_true rfl, Nat.le_of_ble_eq_true rfl⟩) (iPVV hK hV hP hD (by decide) (hmod.2.1) rfl [.int k]) rfl rfl hl.1 rfl (lv_room (Nat.le_of_ble_eq_true rfl)) dL_law_1351 ⟨Nat.le_of_ble_eq_true rfl, Nat.le_of_ble_eq_true rfl⟩) hD hS hA (fun r9 u9 H locs hw9 hP hD hS => ?_)
  obtain ⟨hr9, ⟨d9, ht9⟩, hm9⟩ := hw9
  refine lv_asD hr9 ?_
  refine lv_dstore (lv' := [(7, .double (FP.i2d (nI 0))), (6, .int (nI 1)), (5, .int (nI 0)), (4, .ref (ad 82)), (3, .ref (ad 81)), (2, .ref (ad 74)), (1, .ref (ad 0)), (0, .ref b)]) hx hb dL_law_1354 hl (by decide) rfl (fun ls hl => ?_)
  refine lv_aload_n hx hb dL_law_1356 rfl (lv_at hl 5 rfl) ?_
  refine iw_i (va_runV (As := []) (rest := []) ⟨hx, hb, hml, hown, hts⟩ (kX9_thrown l G 83 ad _ 74 (by decide) (nI 1) d9 ht9 _) (cwV 0 hts gL_law_X9_thrown rfl rfl rfl (by decide +kernel) ⟨Nat.le_of_ble_eq_true rfl, Nat.le_of_ble_eq_true rfl⟩) (iPV hK hP hD (by decide) (ht9) rfl []) rfl rfl hl.1 rfl (lv_room (Nat.le_of_ble_eq_true rfl)) dL_law_1357 ⟨Nat.le_of_ble_eq_true rfl, Nat.le_of_ble_eq_true rfl⟩) hD hS hA (fun r7 u7 H locs hw7 hP hD hS => ?_)
  obtain ⟨hr7, hu7⟩ := hw7
  rw [hu7] at hP hD
  refine lv_asI hr7 ?_
  refine lv_iload hx hb dL_law_1360 (lv_at hl 1 rfl) ?_
  refine lv_icmp_eq (tgt := 1367) hx hb dL_law_1362 (by decide) (fun _ => ?_) (fun c9 => absurd (by decide) c9)
  refine lv_iload hx hb dL_law_1367 (lv_at hl 1 rfl) ?_
  refine lv_if_ne (tgt := 1404) hx hb dL_law_1369 (by decide) (fun _ => ?_) (fun c9 => absurd c9 (by decide))
  refine lv_goto (tgt := 1906) hx hb dL_law_1404 (by decide) ?_
  refine W.widen (k := 300) (n := 6500) (Nat.le_of_ble_eq_true rfl) (Nat.le_of_ble_eq_true rfl) ?_
  exact kt H locs ls hS (lv_sub hl [2, 7] rfl)
set_option maxHeartbeats 4000000 in
set_option maxRecDepth 100000 in
theorem lc_apart_1 {p : Program} {l : Launch} {e : Env} {s : State} {m : MethodId} {below : List Frame} {meth : Method} {c : Code} {b dz : Nat} {xs : Nat → Int32} {G : iG} {Q : State → Prop} (hst : l.stackTraces = false) (hx : p.tables.exec = Jvm.exec) (hb : c.code = cL_law) (hml : c.maxLocals = 9) (hts : ∀ w ∈ wsL_law, w.before #[Value.ref b] s = true) (hown : s.vm.findClass RL = some m.cls) (hX : va_X b 6 xs s s.heap) (hbl : b < s.heap.size) (hK : KB G s) (hV : VX s) (hZt : ZT (aA s) s s.heap) (hZ : ZD dz (aA s) s s.heap) {ad : Nat → Nat} {C : Nat → va_E} {H : Heap} {locs : List Loc} {ls : Array Slot} (hcam : Cam G 83 ad C 0 S0) (hmod : Mod G 83 ad C 74 dz (nI 0)) (glo : C 81 = la G 1 (fun _ => 0)) (hP : va_P G.1 vwB (wl 83 ad C) H) (hD : va_D (aA s) (wl 83 ad C)) (hS : va_S (aA s) s.heap H locs) (hl : lv_has ls 9 [(5, .int (nI 0)), (4, .ref (ad 82)), (3, .ref (ad 81)), (2, .ref (ad 74)), (1, .ref (ad 0)), (0, .ref b)]) (kt : ∀ (H : Heap) (locs : List Loc) (ls : Array Slot), va_S (aA s) s.heap H locs → lv_has ls 9 [(5, .int (nI 0)), (0, .ref b)] → W p l e room_1 s m #[Value.ref b] below meth c H locs 300 6500 Q (F0 m 1906 ls [])) (k y0 : Int32) (hx1 : xs 1 = k) (hx2 : xs 2 = y0) : W p l e room_1 s m #[Value.ref b] below meth c H locs 83 1901 Q (F0 m 1611 ls []) := by
  have hbA : ¬ aA s b := Nat.not_le.mpr hbl
  have hA : ∀ q : Nat, s.heap.size ≤ q → aA s q := fun _ h => h
  refine lv_aload_n hx hb dL_law_1611 rfl (lv_at hl 4 rfl) ?_
  refine lv_aload_n hx hb dL_law_1612 rfl (lv_at hl 5 rfl) ?_
  refine lv_iload hx hb dL_law_1613 (lv_at hl 0 rfl) ?_
  refine lv_iconst (v := nI 1) hx hb dL_law_1615 (by decide) ?_
  refine lv_iadd hx hb dL_law_1616 ?_
  refine lv_asI (y := nI 1) (by decide) ?_
  refine va_sld hx hb hX hbl hbA hS (vp_in_nI (by decide) (by decide)) dL_law_1617 ?_
  refine lv_asI (y := k) ((congrArg xs (nI_clamp (by decide))).trans hx1) ?_
  refine lv_aload_n hx hb dL_law_1618 rfl (lv_at hl 5 rfl) ?_
  refine lv_iload hx hb dL_law_1619 (lv_at hl 0 rfl) ?_
  refine lv_iconst (v := nI 2) hx hb dL_law_1621 (by decide) ?_
  refine lv_iadd hx hb dL_law_1622 ?_
  refine lv_asI (y := nI 2) (by decide) ?_
  refine va_sld hx hb hX hbl hbA hS (vp_in_nI (by decide) (by decide)) dL_law_1623 ?_
  refine lv_asI (y := y0) ((congrArg xs (nI_clamp (by decide))).trans hx2) ?_
  refine lv_aload hx hb dL_law_1624 (lv_at hl 1 rfl) ?_
  refine iwx_i (vx_runSX (hh := [(0, 9, 12, 13)]) (As := [.ref (ad 0), .int k, .int y0, .ref (ad 82)]) (rest := []) ⟨hx, hb, hml, hown, hts⟩ (wL_apart_1 l hst G 83 ad _ 0 S0 hcam 82 k y0 (i_all k) _) (vx_cwSW 4 hts gL_law_L_apart rfl rfl rfl (by decide +kernel) ⟨Nat.le_of_ble_eq_true rfl, Nat.le_of_ble_eq_true rfl⟩) (iPSX hK hV hZt hS hA hP hD [.ref (ad 0), .int k, .int y0, .ref (ad 82)]) rfl rfl hl.1 rfl (lv_room (Nat.le_of_ble_eq_true rfl)) dL_law_1626 ⟨Nat.le_of_ble_eq_true rfl, Nat.le_of_ble_eq_true rfl⟩) hD hS hA (fun r8 u8 H locs hw8 hP hD hS => ?_)
  obtain ⟨hr8, hu8⟩ := hw8
  rw [hu8] at hP hD
  refine lv_asI hr8 ?_
  refine lv_istore (lv' := [(6, .int (nI 1)), (5, .int (nI 0)), (4, .ref (ad 82)), (3, .ref (ad 81)), (2, .ref (ad 74)), (1, .ref (ad 0)), (0, .ref b)]) hx hb dL_law_1629 hl (by decide) rfl (fun ls hl => ?_)
  refine lv_aload_n hx hb dL_law_1631 rfl (lv_at hl 4 rfl) ?_
  refine lv_aload_n hx hb dL_law_1632 rfl (lv_at hl 6 rfl) ?_
  refine lv_iload hx hb dL_law_1633 (lv_at hl 1 rfl) ?_
  refine lv_iconst (v := nI 1) hx hb dL_law_1635 (by decide) ?_
  refine lv_iadd hx hb dL_law_1636 ?_
  refine lv_asI (y := nI 1) (by decide) ?_
  refine va_sld hx hb hX hbl hbA hS (vp_in_nI (by decide) (by decide)) dL_law_1637 ?_
  refine lv_asI (y := k) ((congrArg xs (nI_clamp (by decide))).trans hx1) ?_
  refine lv_aload_n hx hb dL_law_1638 rfl (lv_at hl 6 rfl) ?_
  refine lv_iload hx hb dL_law_1639 (lv_at hl 1 rfl) ?_
  refine lv_iconst (v := nI 2) hx hb dL_law_1641 (by decide) ?_
  refine lv_iadd hx hb dL_law_1642 ?_
  refine lv_asI (y := nI 2) (by decide) ?_
  refine va_sld hx hb hX hbl hbA hS (vp_in_nI (by decide) (by decide)) dL_law_1643 ?_
  refine lv_asI (y := y0) ((congrArg xs (nI_clamp (by decide))).trans hx2) ?_
  refine iw_d (va_runV (As := [.int k, .int y0]) (rest := []) ⟨hx, hb, hml, hown, hts⟩ (kX9_apart l G 83 ad _ 74 dz (nI 0) hmod k y0 _) (cwV 2 hts gL_law_X9_apart rfl rfl rfl (by decide +kernel) ⟨Nat.le_of_ble_eq_true rfl, Nat.le_of_ble_eq_true rfl⟩) (iPVV hK hV hP hD (by decide) (hmod.2.1) rfl [.int k, .int y0]) rfl rfl hl.1 rfl (lv_room (Nat.le_of_ble_eq_true rfl)) dL_law_1644 ⟨Nat.le_of_ble_eq_true rfl, Nat.le_of_ble_eq_true rfl⟩) hD hS hA (fun r9 u9 H locs hw9 hP hD hS => ?_)
  obtain ⟨hr9, ⟨d9, ht9⟩, hm9⟩ := hw9
  refine lv_asD hr9 ?_
  refine lv_dstore (lv' := [(7, .double (FP.i2d (nI 0))), (6, .int (nI 1)), (5, .int (nI 0)), (4, .ref (ad 82)), (3, .ref (ad 81)), (2, .ref (ad 74)), (1, .ref (ad 0)), (0, .ref b)]) hx hb dL_law_1647 hl (by decide) rfl (fun ls hl => ?_)
  refine lv_aload_n hx hb dL_law_1649 rfl (lv_at hl 5 rfl) ?_
  refine iw_i (va_runV (As := []) (rest := []) ⟨hx, hb, hml, hown, hts⟩ (kX9_thrown l G 83 ad _ 74 (by decide) (nI 1) d9 ht9 _) (cwV 0 hts gL_law_X9_thrown rfl rfl rfl (by decide +kernel) ⟨Nat.le_of_ble_eq_true rfl, Nat.le_of_ble_eq_true rfl⟩) (iPV hK hP hD (by decide) (ht9) rfl []) rfl rfl hl.1 rfl (lv_room (Nat.le_of_ble_eq_true rfl)) dL_law_1650 ⟨Nat.le_of_ble_eq_true rfl, Nat.le_of_ble_eq_true rfl⟩) hD hS hA (fun r7 u7 H locs hw7 hP hD hS => ?_)
  obtain ⟨hr7, hu7⟩ := hw7
  rw [hu7] at hP hD
  refine lv_asI hr7 ?_
  refine lv_iload hx hb dL_law_1653 (lv_at hl 1 rfl) ?_
  refine lv_icmp_eq (tgt := 1660) hx hb dL_law_1655 (by decide) (fun _ => ?_) (fun c9 => absurd (by decide) c9)
  refine lv_iload hx hb dL_law_1660 (lv_at hl 1 rfl) ?_
  refine lv_if_ne (tgt := 1697) hx hb dL_law_1662 (by decide) (fun _ => ?_) (fun c9 => absurd c9 (by decide))
  refine lv_goto (tgt := 1906) hx hb dL_law_1697 (by decide) ?_
  refine W.widen (k := 300) (n := 6500) (Nat.le_of_ble_eq_true rfl) (Nat.le_of_ble_eq_true rfl) ?_
  exact kt H locs ls hS (lv_sub hl [2, 7] rfl)
set_option maxHeartbeats 4000000 in
set_option maxRecDepth 100000 in
theorem lc_bestWhite_1 {p : Program} {l : Launch} {e : Env} {s : State} {m : MethodId} {below : List Frame} {meth : Method} {c : Code} {b dz : Nat} {xs : Nat → Int32} {G : iG} {Q : State → Prop} (hst : l.stackTraces = false) (hx : p.tables.exec = Jvm.exec) (hb : c.code = cL_law) (hml : c.maxLocals = 9) (hts : ∀ w ∈ wsL_law, w.before #[Value.ref b] s = true) (hown : s.vm.findClass RL = some m.cls) (hX : va_X b 6 xs s s.heap) (hbl : b < s.heap.size) (hK : KB G s) (hV : VX s) (hZt : ZT (aA s) s s.heap) (hZ : ZD dz (aA s) s s.heap) {ad : Nat → Nat} {C : Nat → va_E} {H : Heap} {locs : List Loc} {ls : Array Slot} (hcam : Cam G 83 ad C 0 S0) (hmod : Mod G 83 ad C 74 dz (nI 0)) (glo : C 81 = la G 1 (fun _ => 0)) (hP : va_P G.1 vwB (wl 83 ad C) H) (hD : va_D (aA s) (wl 83 ad C)) (hS : va_S (aA s) s.heap H locs) (hl : lv_has ls 9 [(5, .int (nI 0)), (4, .ref (ad 82)), (3, .ref (ad 81)), (2, .ref (ad 74)), (1, .ref (ad 0)), (0, .ref b)]) (kt : ∀ (H : Heap) (locs : List Loc) (ls : Array Slot), va_S (aA s) s.heap H locs → lv_has ls 9 [(5, .int (nI 0)), (0, .ref b)] → W p l e room_1 s m #[Value.ref b] below meth c H locs 300 6500 Q (F0 m 1906 ls [])) (k y0 : Int32) (hx1 : xs 1 = k) (hx2 : xs 2 = y0) : W p l e room_1 s m #[Value.ref b] below meth c H locs 83 1901 Q (F0 m 1824 ls []) := by
  have hbA : ¬ aA s b := Nat.not_le.mpr hbl
  have hA : ∀ q : Nat, s.heap.size ≤ q → aA s q := fun _ h => h
  refine lv_aload_n hx hb dL_law_1824 rfl (lv_at hl 4 rfl) ?_
  refine lv_aload_n hx hb dL_law_1825 rfl (lv_at hl 5 rfl) ?_
  refine lv_iload hx hb dL_law_1826 (lv_at hl 0 rfl) ?_
  refine lv_iconst (v := nI 1) hx hb dL_law_1828 (by decide) ?_
  refine lv_iadd hx hb dL_law_1829 ?_
  refine lv_asI (y := nI 1) (by decide) ?_
  refine va_sld hx hb hX hbl hbA hS (vp_in_nI (by decide) (by decide)) dL_law_1830 ?_
  refine lv_asI (y := k) ((congrArg xs (nI_clamp (by decide))).trans hx1) ?_
  refine lv_aload_n hx hb dL_law_1831 rfl (lv_at hl 5 rfl) ?_
  refine lv_iload hx hb dL_law_1832 (lv_at hl 0 rfl) ?_
  refine lv_iconst (v := nI 2) hx hb dL_law_1834 (by decide) ?_
  refine lv_iadd hx hb dL_law_1835 ?_
  refine lv_asI (y := nI 2) (by decide) ?_
  refine va_sld hx hb hX hbl hbA hS (vp_in_nI (by decide) (by decide)) dL_law_1836 ?_
  refine lv_asI (y := y0) ((congrArg xs (nI_clamp (by decide))).trans hx2) ?_
  refine lv_aload_n hx hb dL_law_1837 rfl (lv_at hl 2 rfl) ?_
  refine iwx_i (vx_runSX (hh := [(0, 10, 13, 13), (0, 10, 17, 15)]) (As := [.ref (ad 0), .int k, .int y0, .ref (ad 81)]) (rest := []) ⟨hx, hb, hml, hown, hts⟩ (wL_bestWhite_1 l hst G 83 ad _ 0 S0 hcam 81 k y0 (i_all k) _) (vx_cwSW 4 hts gL_law_L_bestWhite rfl rfl rfl (by decide +kernel) ⟨Nat.le_of_ble_eq_true rfl, Nat.le_of_ble_eq_true rfl⟩) (iPSX hK hV hZt hS hA hP hD [.ref (ad 0), .int k, .int y0, .ref (ad 81)]) rfl rfl hl.1 rfl (lv_room (Nat.le_of_ble_eq_true rfl)) dL_law_1838 ⟨Nat.le_of_ble_eq_true rfl, Nat.le_of_ble_eq_true rfl⟩) hD hS hA (fun r8 u8 H locs hw8 hP hD hS => ?_)
  obtain ⟨hr8, hu8⟩ := hw8
  rw [hu8] at hP hD
  refine lv_asI hr8 ?_
  refine lv_istore (lv' := [(6, .int (nI 1)), (5, .int (nI 0)), (4, .ref (ad 82)), (3, .ref (ad 81)), (2, .ref (ad 74)), (1, .ref (ad 0)), (0, .ref b)]) hx hb dL_law_1841 hl (by decide) rfl (fun ls hl => ?_)
  refine lv_aload_n hx hb dL_law_1843 rfl (lv_at hl 4 rfl) ?_
  refine lv_aload_n hx hb dL_law_1844 rfl (lv_at hl 6 rfl) ?_
  refine lv_iload hx hb dL_law_1845 (lv_at hl 1 rfl) ?_
  refine lv_iconst (v := nI 1) hx hb dL_law_1847 (by decide) ?_
  refine lv_iadd hx hb dL_law_1848 ?_
  refine lv_asI (y := nI 1) (by decide) ?_
  refine va_sld hx hb hX hbl hbA hS (vp_in_nI (by decide) (by decide)) dL_law_1849 ?_
  refine lv_asI (y := k) ((congrArg xs (nI_clamp (by decide))).trans hx1) ?_
  refine lv_aload_n hx hb dL_law_1850 rfl (lv_at hl 6 rfl) ?_
  refine lv_iload hx hb dL_law_1851 (lv_at hl 1 rfl) ?_
  refine lv_iconst (v := nI 2) hx hb dL_law_1853 (by decide) ?_
  refine lv_iadd hx hb dL_law_1854 ?_
  refine lv_asI (y := nI 2) (by decide) ?_
  refine va_sld hx hb hX hbl hbA hS (vp_in_nI (by decide) (by decide)) dL_law_1855 ?_
  refine lv_asI (y := y0) ((congrArg xs (nI_clamp (by decide))).trans hx2) ?_
  refine iw_i (va_runV (As := [.int k, .int y0]) (rest := []) ⟨hx, hb, hml, hown, hts⟩ (kX9_bestWhite l G 83 ad _ 74 dz (nI 0) hmod k y0 _) (cwV 2 hts gL_law_X9_bestWhite rfl rfl rfl (by decide +kernel) ⟨Nat.le_of_ble_eq_true rfl, Nat.le_of_ble_eq_true rfl⟩) (iPVV hK hV hP hD (by decide) (hmod.2.1) rfl [.int k, .int y0]) rfl rfl hl.1 rfl (lv_room (Nat.le_of_ble_eq_true rfl)) dL_law_1856 ⟨Nat.le_of_ble_eq_true rfl, Nat.le_of_ble_eq_true rfl⟩) hD hS hA (fun r9 u9 H locs hw9 hP hD hS => ?_)
  obtain ⟨hr9, ⟨d9, ht9⟩, hm9⟩ := hw9
  refine lv_asI hr9 ?_
  refine lv_istore (lv' := [(7, .int (nI 0)), (6, .int (nI 1)), (5, .int (nI 0)), (4, .ref (ad 82)), (3, .ref (ad 81)), (2, .ref (ad 74)), (1, .ref (ad 0)), (0, .ref b)]) hx hb dL_law_1859 hl (by decide) rfl (fun ls hl => ?_)
  refine lv_aload_n hx hb dL_law_1861 rfl (lv_at hl 5 rfl) ?_
  refine iw_i (va_runV (As := []) (rest := []) ⟨hx, hb, hml, hown, hts⟩ (kX9_thrown l G 83 ad _ 74 (by decide) (nI 1) d9 ht9 _) (cwV 0 hts gL_law_X9_thrown rfl rfl rfl (by decide +kernel) ⟨Nat.le_of_ble_eq_true rfl, Nat.le_of_ble_eq_true rfl⟩) (iPV hK hP hD (by decide) (ht9) rfl []) rfl rfl hl.1 rfl (lv_room (Nat.le_of_ble_eq_true rfl)) dL_law_1862 ⟨Nat.le_of_ble_eq_true rfl, Nat.le_of_ble_eq_true rfl⟩) hD hS hA (fun r7 u7 H locs hw7 hP hD hS => ?_)
  obtain ⟨hr7, hu7⟩ := hw7
  rw [hu7] at hP hD
  refine lv_asI hr7 ?_
  refine lv_iload hx hb dL_law_1865 (lv_at hl 1 rfl) ?_
  refine lv_icmp_eq (tgt := 1872) hx hb dL_law_1867 (by decide) (fun _ => ?_) (fun c9 => absurd (by decide) c9)
  refine lv_iload hx hb dL_law_1872 (lv_at hl 1 rfl) ?_
  refine lv_if_ne (tgt := 1889) hx hb dL_law_1874 (by decide) (fun _ => ?_) (fun c9 => absurd c9 (by decide))
  refine lv_goto (tgt := 1906) hx hb dL_law_1889 (by decide) ?_
  refine W.widen (k := 300) (n := 6500) (Nat.le_of_ble_eq_true rfl) (Nat.le_of_ble_eq_true rfl) ?_
  exact kt H locs ls hS (lv_sub hl [2, 7] rfl)
set_option maxHeartbeats 4000000 in
set_option maxRecDepth 100000 in
theorem lc_ofFile_1 {p : Program} {l : Launch} {e : Env} {s : State} {m : MethodId} {below : List Frame} {meth : Method} {c : Code} {b dz : Nat} {xs : Nat → Int32} {G : iG} {Q : State → Prop} (hst : l.stackTraces = false) (hx : p.tables.exec = Jvm.exec) (hb : c.code = cL_law) (hml : c.maxLocals = 9) (hts : ∀ w ∈ wsL_law, w.before #[Value.ref b] s = true) (hown : s.vm.findClass RL = some m.cls) (hX : va_X b 6 xs s s.heap) (hbl : b < s.heap.size) (hK : KB G s) (hV : VX s) (hZt : ZT (aA s) s s.heap) (hZ : ZD dz (aA s) s s.heap) {ad : Nat → Nat} {C : Nat → va_E} {H : Heap} {locs : List Loc} {ls : Array Slot} (hcam : Cam G 83 ad C 0 S0) (hmod : Mod G 83 ad C 74 dz (nI 0)) (glo : C 81 = la G 1 (fun _ => 0)) (hP : va_P G.1 vwB (wl 83 ad C) H) (hD : va_D (aA s) (wl 83 ad C)) (hS : va_S (aA s) s.heap H locs) (hl : lv_has ls 9 [(5, .int (nI 0)), (4, .ref (ad 82)), (3, .ref (ad 81)), (2, .ref (ad 74)), (1, .ref (ad 0)), (0, .ref b)]) (kt : ∀ (H : Heap) (locs : List Loc) (ls : Array Slot), va_S (aA s) s.heap H locs → lv_has ls 9 [(5, .int (nI 0)), (0, .ref b)] → W p l e room_1 s m #[Value.ref b] below meth c H locs 300 6500 Q (F0 m 1906 ls [])) (k y0 : Int32) (hx1 : xs 1 = k) (hx2 : xs 2 = y0) : W p l e room_1 s m #[Value.ref b] below meth c H locs 83 1901 Q (F0 m 1407 ls []) := by
  have hbA : ¬ aA s b := Nat.not_le.mpr hbl
  have hA : ∀ q : Nat, s.heap.size ≤ q → aA s q := fun _ h => h
  refine lv_aload_n hx hb dL_law_1407 rfl (lv_at hl 4 rfl) ?_
  refine lv_aload_n hx hb dL_law_1408 rfl (lv_at hl 5 rfl) ?_
  refine lv_iload hx hb dL_law_1409 (lv_at hl 0 rfl) ?_
  refine lv_iconst (v := nI 1) hx hb dL_law_1411 (by decide) ?_
  refine lv_iadd hx hb dL_law_1412 ?_
  refine lv_asI (y := nI 1) (by decide) ?_
  refine va_sld hx hb hX hbl hbA hS (vp_in_nI (by decide) (by decide)) dL_law_1413 ?_
  refine lv_asI (y := k) ((congrArg xs (nI_clamp (by decide))).trans hx1) ?_
  refine lv_aload_n hx hb dL_law_1414 rfl (lv_at hl 5 rfl) ?_
  refine lv_iload hx hb dL_law_1415 (lv_at hl 0 rfl) ?_
  refine lv_iconst (v := nI 2) hx hb dL_law_1417 (by decide) ?_
  refine lv_iadd hx hb dL_law_1418 ?_
  refine lv_asI (y := nI 2) (by decide) ?_
  refine va_sld hx hb hX hbl hbA hS (vp_in_nI (by decide) (by decide)) dL_law_1419 ?_
  refine lv_asI (y := y0) ((congrArg xs (nI_clamp (by decide))).trans hx2) ?_
  refine lv_aload_n hx hb dL_law_1420 rfl (lv_at hl 2 rfl) ?_
  refine iwx_i (vx_runSX (hh := [(0, 10, 13, 13), (0, 10, 17, 15)]) (As := [.ref (ad 0), .int k, .int y0, .ref (ad 81)]) (rest := []) ⟨hx, hb, hml, hown, hts⟩ (wL_ofFile_1 l hst G 83 ad _ 0 S0 hcam 81 k y0 (i_all k) _) (vx_cwSW 4 hts gL_law_L_ofFile rfl rfl rfl (by decide +kernel) ⟨Nat.le_of_ble_eq_true rfl, Nat.le_of_ble_eq_true rfl⟩) (iPSX hK hV hZt hS hA hP hD [.ref (ad 0), .int k, .int y0, .ref (ad 81)]) rfl rfl hl.1 rfl (lv_room (Nat.le_of_ble_eq_true rfl)) dL_law_1421 ⟨Nat.le_of_ble_eq_true rfl, Nat.le_of_ble_eq_true rfl⟩) hD hS hA (fun r8 u8 H locs hw8 hP hD hS => ?_)
  obtain ⟨hr8, hu8⟩ := hw8
  rw [hu8] at hP hD
  refine lv_asI hr8 ?_
  refine lv_istore (lv' := [(6, .int (nI 1)), (5, .int (nI 0)), (4, .ref (ad 82)), (3, .ref (ad 81)), (2, .ref (ad 74)), (1, .ref (ad 0)), (0, .ref b)]) hx hb dL_law_1424 hl (by decide) rfl (fun ls hl => ?_)
  refine lv_aload_n hx hb dL_law_1426 rfl (lv_at hl 4 rfl) ?_
  refine lv_aload_n hx hb dL_law_1427 rfl (lv_at hl 6 rfl) ?_
  refine lv_iload hx hb dL_law_1428 (lv_at hl 1 rfl) ?_
  refine lv_iconst (v := nI 1) hx hb dL_law_1430 (by decide) ?_
  refine lv_iadd hx hb dL_law_1431 ?_
  refine lv_asI (y := nI 1) (by decide) ?_
  refine va_sld hx hb hX hbl hbA hS (vp_in_nI (by decide) (by decide)) dL_law_1432 ?_
  refine lv_asI (y := k) ((congrArg xs (nI_clamp (by decide))).trans hx1) ?_
  refine lv_aload_n hx hb dL_law_1433 rfl (lv_at hl 6 rfl) ?_
  refine lv_iload hx hb dL_law_1434 (lv_at hl 1 rfl) ?_
  refine lv_iconst (v := nI 2) hx hb dL_law_1436 (by decide) ?_
  refine lv_iadd hx hb dL_law_1437 ?_
  refine lv_asI (y := nI 2) (by decide) ?_
  refine va_sld hx hb hX hbl hbA hS (vp_in_nI (by decide) (by decide)) dL_law_1438 ?_
  refine lv_asI (y := y0) ((congrArg xs (nI_clamp (by decide))).trans hx2) ?_
  refine iw_i (va_runV (As := [.int k, .int y0]) (rest := []) ⟨hx, hb, hml, hown, hts⟩ (kX9_ofFile l G 83 ad _ 74 dz (nI 0) hmod k y0 _) (cwV 2 hts gL_law_X9_ofFile rfl rfl rfl (by decide +kernel) ⟨Nat.le_of_ble_eq_true rfl, Nat.le_of_ble_eq_true rfl⟩) (iPVV hK hV hP hD (by decide) (hmod.2.1) rfl [.int k, .int y0]) rfl rfl hl.1 rfl (lv_room (Nat.le_of_ble_eq_true rfl)) dL_law_1439 ⟨Nat.le_of_ble_eq_true rfl, Nat.le_of_ble_eq_true rfl⟩) hD hS hA (fun r9 u9 H locs hw9 hP hD hS => ?_)
  obtain ⟨hr9, ⟨d9, ht9⟩, hm9⟩ := hw9
  refine lv_asI hr9 ?_
  refine lv_istore (lv' := [(7, .int (nI 0)), (6, .int (nI 1)), (5, .int (nI 0)), (4, .ref (ad 82)), (3, .ref (ad 81)), (2, .ref (ad 74)), (1, .ref (ad 0)), (0, .ref b)]) hx hb dL_law_1442 hl (by decide) rfl (fun ls hl => ?_)
  refine lv_aload_n hx hb dL_law_1444 rfl (lv_at hl 5 rfl) ?_
  refine iw_i (va_runV (As := []) (rest := []) ⟨hx, hb, hml, hown, hts⟩ (kX9_thrown l G 83 ad _ 74 (by decide) (nI 1) d9 ht9 _) (cwV 0 hts gL_law_X9_thrown rfl rfl rfl (by decide +kernel) ⟨Nat.le_of_ble_eq_true rfl, Nat.le_of_ble_eq_true rfl⟩) (iPV hK hP hD (by decide) (ht9) rfl []) rfl rfl hl.1 rfl (lv_room (Nat.le_of_ble_eq_true rfl)) dL_law_1445 ⟨Nat.le_of_ble_eq_true rfl, Nat.le_of_ble_eq_true rfl⟩) hD hS hA (fun r7 u7 H locs hw7 hP hD hS => ?_)
  obtain ⟨hr7, hu7⟩ := hw7
  rw [hu7] at hP hD
  refine lv_asI hr7 ?_
  refine lv_iload hx hb dL_law_1448 (lv_at hl 1 rfl) ?_
  refine lv_icmp_eq (tgt := 1455) hx hb dL_law_1450 (by decide) (fun _ => ?_) (fun c9 => absurd (by decide) c9)
  refine lv_iload hx hb dL_law_1455 (lv_at hl 1 rfl) ?_
  refine lv_if_ne (tgt := 1472) hx hb dL_law_1457 (by decide) (fun _ => ?_) (fun c9 => absurd c9 (by decide))
  refine lv_goto (tgt := 1906) hx hb dL_law_1472 (by decide) ?_
  refine W.widen (k := 300) (n := 6500) (Nat.le_of_ble_eq_true rfl) (Nat.le_of_ble_eq_true rfl) ?_
  exact kt H locs ls hS (lv_sub hl [2, 7] rfl)
set_option maxHeartbeats 4000000 in
set_option maxRecDepth 100000 in
theorem lc_ofPlace_1 {p : Program} {l : Launch} {e : Env} {s : State} {m : MethodId} {below : List Frame} {meth : Method} {c : Code} {b dz : Nat} {xs : Nat → Int32} {G : iG} {Q : State → Prop} (hst : l.stackTraces = false) (hx : p.tables.exec = Jvm.exec) (hb : c.code = cL_law) (hml : c.maxLocals = 9) (hts : ∀ w ∈ wsL_law, w.before #[Value.ref b] s = true) (hown : s.vm.findClass RL = some m.cls) (hX : va_X b 6 xs s s.heap) (hbl : b < s.heap.size) (hK : KB G s) (hV : VX s) (hZt : ZT (aA s) s s.heap) (hZ : ZD dz (aA s) s s.heap) {ad : Nat → Nat} {C : Nat → va_E} {H : Heap} {locs : List Loc} {ls : Array Slot} (hcam : Cam G 83 ad C 0 S0) (hmod : Mod G 83 ad C 74 dz (nI 0)) (glo : C 81 = la G 1 (fun _ => 0)) (hP : va_P G.1 vwB (wl 83 ad C) H) (hD : va_D (aA s) (wl 83 ad C)) (hS : va_S (aA s) s.heap H locs) (hl : lv_has ls 9 [(5, .int (nI 0)), (4, .ref (ad 82)), (3, .ref (ad 81)), (2, .ref (ad 74)), (1, .ref (ad 0)), (0, .ref b)]) (kt : ∀ (H : Heap) (locs : List Loc) (ls : Array Slot), va_S (aA s) s.heap H locs → lv_has ls 9 [(5, .int (nI 0)), (0, .ref b)] → W p l e room_1 s m #[Value.ref b] below meth c H locs 300 6500 Q (F0 m 1906 ls [])) (x y v : Int32) (h : isPl x y = false) (hx1 : xs 1 = x) (hx2 : xs 2 = y) (hx3 : xs 3 = v) : W p l e room_1 s m #[Value.ref b] below meth c H locs 83 1901 Q (F0 m 1475 ls []) := by
  have hbA : ¬ aA s b := Nat.not_le.mpr hbl
  have hA : ∀ q : Nat, s.heap.size ≤ q → aA s q := fun _ h => h
  refine lv_aload_n hx hb dL_law_1475 rfl (lv_at hl 4 rfl) ?_
  refine lv_aload_n hx hb dL_law_1476 rfl (lv_at hl 5 rfl) ?_
  refine lv_iload hx hb dL_law_1477 (lv_at hl 0 rfl) ?_
  refine lv_iconst (v := nI 1) hx hb dL_law_1479 (by decide) ?_
  refine lv_iadd hx hb dL_law_1480 ?_
  refine lv_asI (y := nI 1) (by decide) ?_
  refine va_sld hx hb hX hbl hbA hS (vp_in_nI (by decide) (by decide)) dL_law_1481 ?_
  refine lv_asI (y := x) ((congrArg xs (nI_clamp (by decide))).trans hx1) ?_
  refine lv_aload_n hx hb dL_law_1482 rfl (lv_at hl 5 rfl) ?_
  refine lv_iload hx hb dL_law_1483 (lv_at hl 0 rfl) ?_
  refine lv_iconst (v := nI 2) hx hb dL_law_1485 (by decide) ?_
  refine lv_iadd hx hb dL_law_1486 ?_
  refine lv_asI (y := nI 2) (by decide) ?_
  refine va_sld hx hb hX hbl hbA hS (vp_in_nI (by decide) (by decide)) dL_law_1487 ?_
  refine lv_asI (y := y) ((congrArg xs (nI_clamp (by decide))).trans hx2) ?_
  refine lv_aload_n hx hb dL_law_1488 rfl (lv_at hl 5 rfl) ?_
  refine lv_iload hx hb dL_law_1489 (lv_at hl 0 rfl) ?_
  refine lv_iconst (v := nI 3) hx hb dL_law_1491 (by decide) ?_
  refine lv_iadd hx hb dL_law_1492 ?_
  refine lv_asI (y := nI 3) (by decide) ?_
  refine va_sld hx hb hX hbl hbA hS (vp_in_nI (by decide) (by decide)) dL_law_1493 ?_
  refine lv_asI (y := v) ((congrArg xs (nI_clamp (by decide))).trans hx3) ?_
  refine lv_aload_n hx hb dL_law_1494 rfl (lv_at hl 2 rfl) ?_
  refine iwx_i (vx_runSX (hh := [(0, 12, 15, 13), (0, 12, 19, 15)]) (As := [.ref (ad 0), .int x, .int y, .int v, .ref (ad 81)]) (rest := []) ⟨hx, hb, hml, hown, hts⟩ (wL_ofPlace_1 l hst G 83 ad _ 0 S0 hcam 81 x y v h _) (vx_cwSW 5 hts gL_law_L_ofPlace rfl rfl rfl (by decide +kernel) ⟨Nat.le_of_ble_eq_true rfl, Nat.le_of_ble_eq_true rfl⟩) (iPSX hK hV hZt hS hA hP hD [.ref (ad 0), .int x, .int y, .int v, .ref (ad 81)]) rfl rfl hl.1 rfl (lv_room (Nat.le_of_ble_eq_true rfl)) dL_law_1495 ⟨Nat.le_of_ble_eq_true rfl, Nat.le_of_ble_eq_true rfl⟩) hD hS hA (fun r8 u8 H locs hw8 hP hD hS => ?_)
  obtain ⟨hr8, hu8⟩ := hw8
  rw [hu8] at hP hD
  refine lv_asI hr8 ?_
  refine lv_istore (lv' := [(6, .int (nI 1)), (5, .int (nI 0)), (4, .ref (ad 82)), (3, .ref (ad 81)), (2, .ref (ad 74)), (1, .ref (ad 0)), (0, .ref b)]) hx hb dL_law_1498 hl (by decide) rfl (fun ls hl => ?_)
  refine lv_aload_n hx hb dL_law_1500 rfl (lv_at hl 4 rfl) ?_
  refine lv_aload_n hx hb dL_law_1501 rfl (lv_at hl 6 rfl) ?_
  refine lv_iload hx hb dL_law_1502 (lv_at hl 1 rfl) ?_
  refine lv_iconst (v := nI 1) hx hb dL_law_1504 (by decide) ?_
  refine lv_iadd hx hb dL_law_1505 ?_
  refine lv_asI (y := nI 1) (by decide) ?_
  refine va_sld hx hb hX hbl hbA hS (vp_in_nI (by decide) (by decide)) dL_law_1506 ?_
  refine lv_asI (y := x) ((congrArg xs (nI_clamp (by decide))).trans hx1) ?_
  refine lv_aload_n hx hb dL_law_1507 rfl (lv_at hl 6 rfl) ?_
  refine lv_iload hx hb dL_law_1508 (lv_at hl 1 rfl) ?_
  refine lv_iconst (v := nI 2) hx hb dL_law_1510 (by decide) ?_
  refine lv_iadd hx hb dL_law_1511 ?_
  refine lv_asI (y := nI 2) (by decide) ?_
  refine va_sld hx hb hX hbl hbA hS (vp_in_nI (by decide) (by decide)) dL_law_1512 ?_
  refine lv_asI (y := y) ((congrArg xs (nI_clamp (by decide))).trans hx2) ?_
  refine lv_aload_n hx hb dL_law_1513 rfl (lv_at hl 6 rfl) ?_
  refine lv_iload hx hb dL_law_1514 (lv_at hl 1 rfl) ?_
  refine lv_iconst (v := nI 3) hx hb dL_law_1516 (by decide) ?_
  refine lv_iadd hx hb dL_law_1517 ?_
  refine lv_asI (y := nI 3) (by decide) ?_
  refine va_sld hx hb hX hbl hbA hS (vp_in_nI (by decide) (by decide)) dL_law_1518 ?_
  refine lv_asI (y := v) ((congrArg xs (nI_clamp (by decide))).trans hx3) ?_
  refine iw_i (va_runV (As := [.int x, .int y, .int v]) (rest := []) ⟨hx, hb, hml, hown, hts⟩ (kX9_ofPlace_1 l G 83 ad _ 74 dz (nI 0) hmod x y v h _) (cwV 3 hts gL_law_X9_ofPlace rfl rfl rfl (by decide +kernel) ⟨Nat.le_of_ble_eq_true rfl, Nat.le_of_ble_eq_true rfl⟩) (iPV hK hP hD (by decide) (hmod.2.1) rfl [.int x, .int y, .int v]) rfl rfl hl.1 rfl (lv_room (Nat.le_of_ble_eq_true rfl)) dL_law_1519 ⟨Nat.le_of_ble_eq_true rfl, Nat.le_of_ble_eq_true rfl⟩) hD hS hA (fun r9 u9 H locs hw9 hP hD hS => ?_)
  obtain ⟨hr9, ⟨d9, ht9⟩, hm9⟩ := hw9
  refine lv_asI hr9 ?_
  refine lv_istore (lv' := [(7, .int (nI 0)), (6, .int (nI 1)), (5, .int (nI 0)), (4, .ref (ad 82)), (3, .ref (ad 81)), (2, .ref (ad 74)), (1, .ref (ad 0)), (0, .ref b)]) hx hb dL_law_1522 hl (by decide) rfl (fun ls hl => ?_)
  refine lv_aload_n hx hb dL_law_1524 rfl (lv_at hl 5 rfl) ?_
  refine iw_i (va_runV (As := []) (rest := []) ⟨hx, hb, hml, hown, hts⟩ (kX9_thrown l G 83 ad _ 74 (by decide) (nI 1) d9 ht9 _) (cwV 0 hts gL_law_X9_thrown rfl rfl rfl (by decide +kernel) ⟨Nat.le_of_ble_eq_true rfl, Nat.le_of_ble_eq_true rfl⟩) (iPV hK hP hD (by decide) (ht9) rfl []) rfl rfl hl.1 rfl (lv_room (Nat.le_of_ble_eq_true rfl)) dL_law_1525 ⟨Nat.le_of_ble_eq_true rfl, Nat.le_of_ble_eq_true rfl⟩) hD hS hA (fun r7 u7 H locs hw7 hP hD hS => ?_)
  obtain ⟨hr7, hu7⟩ := hw7
  rw [hu7] at hP hD
  refine lv_asI hr7 ?_
  refine lv_iload hx hb dL_law_1528 (lv_at hl 1 rfl) ?_
  refine lv_icmp_eq (tgt := 1535) hx hb dL_law_1530 (by decide) (fun _ => ?_) (fun c9 => absurd (by decide) c9)
  refine lv_iload hx hb dL_law_1535 (lv_at hl 1 rfl) ?_
  refine lv_if_ne (tgt := 1552) hx hb dL_law_1537 (by decide) (fun _ => ?_) (fun c9 => absurd c9 (by decide))
  refine lv_goto (tgt := 1906) hx hb dL_law_1552 (by decide) ?_
  refine W.widen (k := 300) (n := 6500) (Nat.le_of_ble_eq_true rfl) (Nat.le_of_ble_eq_true rfl) ?_
  exact kt H locs ls hS (lv_sub hl [2, 7] rfl)
set_option maxHeartbeats 4000000 in
set_option maxRecDepth 100000 in
theorem lc_ofPlace_2 {p : Program} {l : Launch} {e : Env} {s : State} {m : MethodId} {below : List Frame} {meth : Method} {c : Code} {b dz : Nat} {xs : Nat → Int32} {G : iG} {Q : State → Prop} (hst : l.stackTraces = false) (hx : p.tables.exec = Jvm.exec) (hb : c.code = cL_law) (hml : c.maxLocals = 9) (hts : ∀ w ∈ wsL_law, w.before #[Value.ref b] s = true) (hown : s.vm.findClass RL = some m.cls) (hX : va_X b 6 xs s s.heap) (hbl : b < s.heap.size) (hK : KB G s) (hV : VX s) (hZt : ZT (aA s) s s.heap) (hZ : ZD dz (aA s) s s.heap) {ad : Nat → Nat} {C : Nat → va_E} {H : Heap} {locs : List Loc} {ls : Array Slot} (hcam : Cam G 83 ad C 0 S0) (hmod : Mod G 83 ad C 74 dz (nI 0)) (glo : C 81 = la G 1 (fun _ => 0)) (hP : va_P G.1 vwB (wl 83 ad C) H) (hD : va_D (aA s) (wl 83 ad C)) (hS : va_S (aA s) s.heap H locs) (hl : lv_has ls 9 [(5, .int (nI 0)), (4, .ref (ad 82)), (3, .ref (ad 81)), (2, .ref (ad 74)), (1, .ref (ad 0)), (0, .ref b)]) (kt : ∀ (H : Heap) (locs : List Loc) (ls : Array Slot), va_S (aA s) s.heap H locs → lv_has ls 9 [(5, .int (nI 0)), (0, .ref b)] → W p l e room_1 s m #[Value.ref b] below meth c H locs 300 6500 Q (F0 m 1906 ls [])) (x y : Nat) (hx8 : x < 8) (hy8 : y < 8) (v : Int32) (h : v < nI 0 ∨ nI 5 < v) (hx1 : xs 1 = nI x) (hx2 : xs 2 = nI y) (hx3 : xs 3 = v) : W p l e room_1 s m #[Value.ref b] below meth c H locs 83 1901 Q (F0 m 1475 ls []) := by
  have hbA : ¬ aA s b := Nat.not_le.mpr hbl
  have hA : ∀ q : Nat, s.heap.size ≤ q → aA s q := fun _ h => h
  refine lv_aload_n hx hb dL_law_1475 rfl (lv_at hl 4 rfl) ?_
  refine lv_aload_n hx hb dL_law_1476 rfl (lv_at hl 5 rfl) ?_
  refine lv_iload hx hb dL_law_1477 (lv_at hl 0 rfl) ?_
  refine lv_iconst (v := nI 1) hx hb dL_law_1479 (by decide) ?_
  refine lv_iadd hx hb dL_law_1480 ?_
  refine lv_asI (y := nI 1) (by decide) ?_
  refine va_sld hx hb hX hbl hbA hS (vp_in_nI (by decide) (by decide)) dL_law_1481 ?_
  refine lv_asI (y := nI x) ((congrArg xs (nI_clamp (by decide))).trans hx1) ?_
  refine lv_aload_n hx hb dL_law_1482 rfl (lv_at hl 5 rfl) ?_
  refine lv_iload hx hb dL_law_1483 (lv_at hl 0 rfl) ?_
  refine lv_iconst (v := nI 2) hx hb dL_law_1485 (by decide) ?_
  refine lv_iadd hx hb dL_law_1486 ?_
  refine lv_asI (y := nI 2) (by decide) ?_
  refine va_sld hx hb hX hbl hbA hS (vp_in_nI (by decide) (by decide)) dL_law_1487 ?_
  refine lv_asI (y := nI y) ((congrArg xs (nI_clamp (by decide))).trans hx2) ?_
  refine lv_aload_n hx hb dL_law_1488 rfl (lv_at hl 5 rfl) ?_
  refine lv_iload hx hb dL_law_1489 (lv_at hl 0 rfl) ?_
  refine lv_iconst (v := nI 3) hx hb dL_law_1491 (by decide) ?_
  refine lv_iadd hx hb dL_law_1492 ?_
  refine lv_asI (y := nI 3) (by decide) ?_
  refine va_sld hx hb hX hbl hbA hS (vp_in_nI (by decide) (by decide)) dL_law_1493 ?_
  refine lv_asI (y := v) ((congrArg xs (nI_clamp (by decide))).trans hx3) ?_
  refine lv_aload_n hx hb dL_law_1494 rfl (lv_at hl 2 rfl) ?_
  refine iwx_i (vx_runSX (hh := [(0, 12, 15, 13), (0, 12, 19, 15)]) (As := [.ref (ad 0), .int (nI x), .int (nI y), .int v, .ref (ad 81)]) (rest := []) ⟨hx, hb, hml, hown, hts⟩ (wL_ofPlace_2 l hst G 83 ad _ 0 S0 hcam 81 x y hx8 hy8 v h _) (vx_cwSW 5 hts gL_law_L_ofPlace rfl rfl rfl (by decide +kernel) ⟨Nat.le_of_ble_eq_true rfl, Nat.le_of_ble_eq_true rfl⟩) (iPSX hK hV hZt hS hA hP hD [.ref (ad 0), .int (nI x), .int (nI y), .int v, .ref (ad 81)]) rfl rfl hl.1 rfl (lv_room (Nat.le_of_ble_eq_true rfl)) dL_law_1495 ⟨Nat.le_of_ble_eq_true rfl, Nat.le_of_ble_eq_true rfl⟩) hD hS hA (fun r8 u8 H locs hw8 hP hD hS => ?_)
  obtain ⟨hr8, hu8⟩ := hw8
  rw [hu8] at hP hD
  refine lv_asI hr8 ?_
  refine lv_istore (lv' := [(6, .int (nI 2)), (5, .int (nI 0)), (4, .ref (ad 82)), (3, .ref (ad 81)), (2, .ref (ad 74)), (1, .ref (ad 0)), (0, .ref b)]) hx hb dL_law_1498 hl (by decide) rfl (fun ls hl => ?_)
  refine lv_aload_n hx hb dL_law_1500 rfl (lv_at hl 4 rfl) ?_
  refine lv_aload_n hx hb dL_law_1501 rfl (lv_at hl 6 rfl) ?_
  refine lv_iload hx hb dL_law_1502 (lv_at hl 1 rfl) ?_
  refine lv_iconst (v := nI 1) hx hb dL_law_1504 (by decide) ?_
  refine lv_iadd hx hb dL_law_1505 ?_
  refine lv_asI (y := nI 1) (by decide) ?_
  refine va_sld hx hb hX hbl hbA hS (vp_in_nI (by decide) (by decide)) dL_law_1506 ?_
  refine lv_asI (y := nI x) ((congrArg xs (nI_clamp (by decide))).trans hx1) ?_
  refine lv_aload_n hx hb dL_law_1507 rfl (lv_at hl 6 rfl) ?_
  refine lv_iload hx hb dL_law_1508 (lv_at hl 1 rfl) ?_
  refine lv_iconst (v := nI 2) hx hb dL_law_1510 (by decide) ?_
  refine lv_iadd hx hb dL_law_1511 ?_
  refine lv_asI (y := nI 2) (by decide) ?_
  refine va_sld hx hb hX hbl hbA hS (vp_in_nI (by decide) (by decide)) dL_law_1512 ?_
  refine lv_asI (y := nI y) ((congrArg xs (nI_clamp (by decide))).trans hx2) ?_
  refine lv_aload_n hx hb dL_law_1513 rfl (lv_at hl 6 rfl) ?_
  refine lv_iload hx hb dL_law_1514 (lv_at hl 1 rfl) ?_
  refine lv_iconst (v := nI 3) hx hb dL_law_1516 (by decide) ?_
  refine lv_iadd hx hb dL_law_1517 ?_
  refine lv_asI (y := nI 3) (by decide) ?_
  refine va_sld hx hb hX hbl hbA hS (vp_in_nI (by decide) (by decide)) dL_law_1518 ?_
  refine lv_asI (y := v) ((congrArg xs (nI_clamp (by decide))).trans hx3) ?_
  refine iw_i (va_runV (As := [.int (nI x), .int (nI y), .int v]) (rest := []) ⟨hx, hb, hml, hown, hts⟩ (kX9_ofPlace_2 l G 83 ad _ 74 dz (nI 0) hmod x y hx8 hy8 v h _) (cwV 3 hts gL_law_X9_ofPlace rfl rfl rfl (by decide +kernel) ⟨Nat.le_of_ble_eq_true rfl, Nat.le_of_ble_eq_true rfl⟩) (iPV hK hP hD (by decide) (hmod.2.1) rfl [.int (nI x), .int (nI y), .int v]) rfl rfl hl.1 rfl (lv_room (Nat.le_of_ble_eq_true rfl)) dL_law_1519 ⟨Nat.le_of_ble_eq_true rfl, Nat.le_of_ble_eq_true rfl⟩) hD hS hA (fun r9 u9 H locs hw9 hP hD hS => ?_)
  obtain ⟨hr9, ⟨d9, ht9⟩, hm9⟩ := hw9
  refine lv_asI hr9 ?_
  refine lv_istore (lv' := [(7, .int (nI 0)), (6, .int (nI 2)), (5, .int (nI 0)), (4, .ref (ad 82)), (3, .ref (ad 81)), (2, .ref (ad 74)), (1, .ref (ad 0)), (0, .ref b)]) hx hb dL_law_1522 hl (by decide) rfl (fun ls hl => ?_)
  refine lv_aload_n hx hb dL_law_1524 rfl (lv_at hl 5 rfl) ?_
  refine iw_i (va_runV (As := []) (rest := []) ⟨hx, hb, hml, hown, hts⟩ (kX9_thrown l G 83 ad _ 74 (by decide) (nI 2) d9 ht9 _) (cwV 0 hts gL_law_X9_thrown rfl rfl rfl (by decide +kernel) ⟨Nat.le_of_ble_eq_true rfl, Nat.le_of_ble_eq_true rfl⟩) (iPV hK hP hD (by decide) (ht9) rfl []) rfl rfl hl.1 rfl (lv_room (Nat.le_of_ble_eq_true rfl)) dL_law_1525 ⟨Nat.le_of_ble_eq_true rfl, Nat.le_of_ble_eq_true rfl⟩) hD hS hA (fun r7 u7 H locs hw7 hP hD hS => ?_)
  obtain ⟨hr7, hu7⟩ := hw7
  rw [hu7] at hP hD
  refine lv_asI hr7 ?_
  refine lv_iload hx hb dL_law_1528 (lv_at hl 1 rfl) ?_
  refine lv_icmp_eq (tgt := 1535) hx hb dL_law_1530 (by decide) (fun _ => ?_) (fun c9 => absurd (by decide) c9)
  refine lv_iload hx hb dL_law_1535 (lv_at hl 1 rfl) ?_
  refine lv_if_ne (tgt := 1552) hx hb dL_law_1537 (by decide) (fun _ => ?_) (fun c9 => absurd c9 (by decide))
  refine lv_goto (tgt := 1906) hx hb dL_law_1552 (by decide) ?_
  refine W.widen (k := 300) (n := 6500) (Nat.le_of_ble_eq_true rfl) (Nat.le_of_ble_eq_true rfl) ?_
  exact kt H locs ls hS (lv_sub hl [2, 7] rfl)
set_option maxHeartbeats 4000000 in
set_option maxRecDepth 100000 in
theorem lc_ofPlace_v {p : Program} {l : Launch} {e : Env} {s : State} {m : MethodId} {below : List Frame} {meth : Method} {c : Code} {b dz : Nat} {xs : Nat → Int32} {G : iG} {Q : State → Prop} (hst : l.stackTraces = false) (hx : p.tables.exec = Jvm.exec) (hb : c.code = cL_law) (hml : c.maxLocals = 9) (hts : ∀ w ∈ wsL_law, w.before #[Value.ref b] s = true) (hown : s.vm.findClass RL = some m.cls) (hX : va_X b 6 xs s s.heap) (hbl : b < s.heap.size) (hK : KB G s) (hV : VX s) (hZt : ZT (aA s) s s.heap) (hZ : ZD dz (aA s) s s.heap) {ad : Nat → Nat} {C : Nat → va_E} {H : Heap} {locs : List Loc} {ls : Array Slot} (hcam : Cam G 83 ad C 0 S0) (hmod : Mod G 83 ad C 74 dz (nI 0)) (glo : C 81 = la G 1 (fun _ => 0)) (hP : va_P G.1 vwB (wl 83 ad C) H) (hD : va_D (aA s) (wl 83 ad C)) (hS : va_S (aA s) s.heap H locs) (hl : lv_has ls 9 [(5, .int (nI 0)), (4, .ref (ad 82)), (3, .ref (ad 81)), (2, .ref (ad 74)), (1, .ref (ad 0)), (0, .ref b)]) (kt : ∀ (H : Heap) (locs : List Loc) (ls : Array Slot), va_S (aA s) s.heap H locs → lv_has ls 9 [(5, .int (nI 0)), (0, .ref b)] → W p l e room_1 s m #[Value.ref b] below meth c H locs 300 6500 Q (F0 m 1906 ls [])) (x y : Nat) (hx8 : x < 8) (hy8 : y < 8) (w : Nat) (hw6 : w < 6) (hx1 : xs 1 = nI x) (hx2 : xs 2 = nI y) (hx3 : xs 3 = nI w) : W p l e room_1 s m #[Value.ref b] below meth c H locs 83 1901 Q (F0 m 1475 ls []) := by
  have hbA : ¬ aA s b := Nat.not_le.mpr hbl
  have hA : ∀ q : Nat, s.heap.size ≤ q → aA s q := fun _ h => h
  refine lv_aload_n hx hb dL_law_1475 rfl (lv_at hl 4 rfl) ?_
  refine lv_aload_n hx hb dL_law_1476 rfl (lv_at hl 5 rfl) ?_
  refine lv_iload hx hb dL_law_1477 (lv_at hl 0 rfl) ?_
  refine lv_iconst (v := nI 1) hx hb dL_law_1479 (by decide) ?_
  refine lv_iadd hx hb dL_law_1480 ?_
  refine lv_asI (y := nI 1) (by decide) ?_
  refine va_sld hx hb hX hbl hbA hS (vp_in_nI (by decide) (by decide)) dL_law_1481 ?_
  refine lv_asI (y := nI x) ((congrArg xs (nI_clamp (by decide))).trans hx1) ?_
  refine lv_aload_n hx hb dL_law_1482 rfl (lv_at hl 5 rfl) ?_
  refine lv_iload hx hb dL_law_1483 (lv_at hl 0 rfl) ?_
  refine lv_iconst (v := nI 2) hx hb dL_law_1485 (by decide) ?_
  refine lv_iadd hx hb dL_law_1486 ?_
  refine lv_asI (y := nI 2) (by decide) ?_
  refine va_sld hx hb hX hbl hbA hS (vp_in_nI (by decide) (by decide)) dL_law_1487 ?_
  refine lv_asI (y := nI y) ((congrArg xs (nI_clamp (by decide))).trans hx2) ?_
  refine lv_aload_n hx hb dL_law_1488 rfl (lv_at hl 5 rfl) ?_
  refine lv_iload hx hb dL_law_1489 (lv_at hl 0 rfl) ?_
  refine lv_iconst (v := nI 3) hx hb dL_law_1491 (by decide) ?_
  refine lv_iadd hx hb dL_law_1492 ?_
  refine lv_asI (y := nI 3) (by decide) ?_
  refine va_sld hx hb hX hbl hbA hS (vp_in_nI (by decide) (by decide)) dL_law_1493 ?_
  refine lv_asI (y := nI w) ((congrArg xs (nI_clamp (by decide))).trans hx3) ?_
  refine lv_aload_n hx hb dL_law_1494 rfl (lv_at hl 2 rfl) ?_
  refine iwx_i (vx_runSX (hh := [(0, 12, 15, 13), (0, 12, 19, 15)]) (As := [.ref (ad 0), .int (nI x), .int (nI y), .int (nI w), .ref (ad 81)]) (rest := []) ⟨hx, hb, hml, hown, hts⟩ (wL_ofPlace l G 83 ad _ 0 S0 hcam 81 (by decide) (Or.inr (by decide)) _ glo x y hx8 hy8 w hw6 _) (vx_cwSW 5 hts gL_law_L_ofPlace rfl rfl rfl (by decide +kernel) ⟨Nat.le_of_ble_eq_true rfl, Nat.le_of_ble_eq_true rfl⟩) (iPSX hK hV hZt hS hA hP hD [.ref (ad 0), .int (nI x), .int (nI y), .int (nI w), .ref (ad 81)]) rfl rfl hl.1 rfl (lv_room (Nat.le_of_ble_eq_true rfl)) dL_law_1495 ⟨Nat.le_of_ble_eq_true rfl, Nat.le_of_ble_eq_true rfl⟩) hD hS hA (fun r8 u8 H locs hw8 hP hD hS => ?_)
  obtain ⟨hr8, ⟨f8, hf8, hv8⟩, hs8⟩ := hw8
  refine lv_asI hr8 ?_
  have hmod := Mod_same hmod (fun i h1 h2 => hs8 i (Or.inr (by omega)) (by omega))
  refine lv_istore (lv' := [(6, .int (nI 0)), (5, .int (nI 0)), (4, .ref (ad 82)), (3, .ref (ad 81)), (2, .ref (ad 74)), (1, .ref (ad 0)), (0, .ref b)]) hx hb dL_law_1498 hl (by decide) rfl (fun ls hl => ?_)
  refine lv_aload_n hx hb dL_law_1500 rfl (lv_at hl 4 rfl) ?_
  refine lv_aload_n hx hb dL_law_1501 rfl (lv_at hl 6 rfl) ?_
  refine lv_iload hx hb dL_law_1502 (lv_at hl 1 rfl) ?_
  refine lv_iconst (v := nI 1) hx hb dL_law_1504 (by decide) ?_
  refine lv_iadd hx hb dL_law_1505 ?_
  refine lv_asI (y := nI 1) (by decide) ?_
  refine va_sld hx hb hX hbl hbA hS (vp_in_nI (by decide) (by decide)) dL_law_1506 ?_
  refine lv_asI (y := nI x) ((congrArg xs (nI_clamp (by decide))).trans hx1) ?_
  refine lv_aload_n hx hb dL_law_1507 rfl (lv_at hl 6 rfl) ?_
  refine lv_iload hx hb dL_law_1508 (lv_at hl 1 rfl) ?_
  refine lv_iconst (v := nI 2) hx hb dL_law_1510 (by decide) ?_
  refine lv_iadd hx hb dL_law_1511 ?_
  refine lv_asI (y := nI 2) (by decide) ?_
  refine va_sld hx hb hX hbl hbA hS (vp_in_nI (by decide) (by decide)) dL_law_1512 ?_
  refine lv_asI (y := nI y) ((congrArg xs (nI_clamp (by decide))).trans hx2) ?_
  refine lv_aload_n hx hb dL_law_1513 rfl (lv_at hl 6 rfl) ?_
  refine lv_iload hx hb dL_law_1514 (lv_at hl 1 rfl) ?_
  refine lv_iconst (v := nI 3) hx hb dL_law_1516 (by decide) ?_
  refine lv_iadd hx hb dL_law_1517 ?_
  refine lv_asI (y := nI 3) (by decide) ?_
  refine va_sld hx hb hX hbl hbA hS (vp_in_nI (by decide) (by decide)) dL_law_1518 ?_
  refine lv_asI (y := nI w) ((congrArg xs (nI_clamp (by decide))).trans hx3) ?_
  refine iwq_i (va_runV (As := [.int (nI x), .int (nI y), .int (nI w)]) (rest := []) ⟨hx, hb, hml, hown, hts⟩ (kX9_ofPlace l G 83 ad _ 74 dz (nI 0) hmod x y hx8 hy8 w hw6 _) (cwV 3 hts gL_law_X9_ofPlace rfl rfl rfl (by decide +kernel) ⟨Nat.le_of_ble_eq_true rfl, Nat.le_of_ble_eq_true rfl⟩) (iPVZ hK hV hZ hS hA hP hD (by decide) (hmod.2.1) rfl [.int (nI x), .int (nI y), .int (nI w)]) rfl rfl hl.1 rfl (lv_room (Nat.le_of_ble_eq_true rfl)) dL_law_1519 ⟨Nat.le_of_ble_eq_true rfl, Nat.le_of_ble_eq_true rfl⟩) (by decide) (by decide) hD hS hA (fun r9 u9 H locs hw9 hP hD hS => ?_)
  obtain ⟨hr9, ⟨d9, ht9⟩, hm9⟩ := hw9
  refine lv_asI hr9 ?_
  refine lv_istore (lv' := [(7, .int (ofP S0 x y w)), (6, .int (nI 0)), (5, .int (nI 0)), (4, .ref (ad 82)), (3, .ref (ad 81)), (2, .ref (ad 74)), (1, .ref (ad 0)), (0, .ref b)]) hx hb dL_law_1522 hl (by decide) rfl (fun ls hl => ?_)
  refine lv_aload_n hx hb dL_law_1524 rfl (lv_at hl 5 rfl) ?_
  refine iw_i (va_runV (As := []) (rest := []) ⟨hx, hb, hml, hown, hts⟩ (kX9_thrown l G 83 ad _ 74 (by decide) (nI 0) d9 ht9 _) (cwV 0 hts gL_law_X9_thrown rfl rfl rfl (by decide +kernel) ⟨Nat.le_of_ble_eq_true rfl, Nat.le_of_ble_eq_true rfl⟩) (iPV hK hP hD (by decide) (ht9) rfl []) rfl rfl hl.1 rfl (lv_room (Nat.le_of_ble_eq_true rfl)) dL_law_1525 ⟨Nat.le_of_ble_eq_true rfl, Nat.le_of_ble_eq_true rfl⟩) hD hS hA (fun r7 u7 H locs hw7 hP hD hS => ?_)
  obtain ⟨hr7, hu7⟩ := hw7
  rw [hu7] at hP hD
  refine lv_asI hr7 ?_
  refine lv_iload hx hb dL_law_1528 (lv_at hl 1 rfl) ?_
  refine lv_icmp_eq (tgt := 1535) hx hb dL_law_1530 (by decide) (fun _ => ?_) (fun c9 => absurd (by decide) c9)
  refine lv_iload hx hb dL_law_1535 (lv_at hl 1 rfl) ?_
  refine lv_if_ne (tgt := 1552) hx hb dL_law_1537 (by decide) (fun c9 => absurd (by decide) c9) (fun _ => ?_)
  refine lv_aload_n hx hb dL_law_1540 rfl (lv_at hl 4 rfl) ?_
  refine lv_iconst (v := nI 0) hx hb dL_law_1541 (by decide) ?_
  refine iw_lald (v := ((ofP S0 x y w)).toInt64) hx hb hK hP (by decide) (((hm9 81 (by decide) (Or.inr (by decide))).trans hf8)) (vp_in_nI (show 0 < 1 by omega) (by omega)) ((congrArg f8 (nI_clamp (by decide))).trans hv8) dL_law_1542 ?_
  refine lv_iload hx hb dL_law_1543 (lv_at hl 0 rfl) ?_
  refine lv_i2l (v := (ofP S0 x y w).toInt64) hx hb dL_law_1545 rfl ?_
  refine lv_lcmpE hx hb dL_law_1546 ?_
  refine lv_if_eq (tgt := 1552) hx hb dL_law_1547 (by decide) (fun _ => ?_) (fun c9 => absurd (by decide) c9)
  refine lv_goto (tgt := 1906) hx hb dL_law_1552 (by decide) ?_
  refine W.widen (k := 300) (n := 6500) (Nat.le_of_ble_eq_true rfl) (Nat.le_of_ble_eq_true rfl) ?_
  exact kt H locs ls hS (lv_sub hl [2, 7] rfl)
set_option maxHeartbeats 4000000 in
set_option maxRecDepth 100000 in
theorem lc_many_1 {p : Program} {l : Launch} {e : Env} {s : State} {m : MethodId} {below : List Frame} {meth : Method} {c : Code} {b dz : Nat} {xs : Nat → Int32} {G : iG} {Q : State → Prop} (hst : l.stackTraces = false) (hx : p.tables.exec = Jvm.exec) (hb : c.code = cL_law) (hml : c.maxLocals = 9) (hts : ∀ w ∈ wsL_law, w.before #[Value.ref b] s = true) (hown : s.vm.findClass RL = some m.cls) (hX : va_X b 6 xs s s.heap) (hbl : b < s.heap.size) (hK : KB G s) (hV : VX s) (hZt : ZT (aA s) s s.heap) (hZ : ZD dz (aA s) s s.heap) {ad : Nat → Nat} {C : Nat → va_E} {H : Heap} {locs : List Loc} {ls : Array Slot} (hcam : Cam G 83 ad C 0 S0) (hmod : Mod G 83 ad C 74 dz (nI 0)) (glo : C 81 = la G 1 (fun _ => 0)) (hP : va_P G.1 vwB (wl 83 ad C) H) (hD : va_D (aA s) (wl 83 ad C)) (hS : va_S (aA s) s.heap H locs) (hl : lv_has ls 9 [(5, .int (nI 0)), (4, .ref (ad 82)), (3, .ref (ad 81)), (2, .ref (ad 74)), (1, .ref (ad 0)), (0, .ref b)]) (kt : ∀ (H : Heap) (locs : List Loc) (ls : Array Slot), va_S (aA s) s.heap H locs → lv_has ls 9 [(5, .int (nI 0)), (0, .ref b)] → W p l e room_1 s m #[Value.ref b] below meth c H locs 300 6500 Q (F0 m 1906 ls [])) (v : Int32) (h : v < nI 0 ∨ nI 6 < v) (hx1 : xs 1 = v) : W p l e room_1 s m #[Value.ref b] below meth c H locs 83 1901 Q (F0 m 1555 ls []) := by
  have hbA : ¬ aA s b := Nat.not_le.mpr hbl
  have hA : ∀ q : Nat, s.heap.size ≤ q → aA s q := fun _ h => h
  refine lv_aload_n hx hb dL_law_1555 rfl (lv_at hl 4 rfl) ?_
  refine lv_aload_n hx hb dL_law_1556 rfl (lv_at hl 5 rfl) ?_
  refine lv_iload hx hb dL_law_1557 (lv_at hl 0 rfl) ?_
  refine lv_iconst (v := nI 1) hx hb dL_law_1559 (by decide) ?_
  refine lv_iadd hx hb dL_law_1560 ?_
  refine lv_asI (y := nI 1) (by decide) ?_
  refine va_sld hx hb hX hbl hbA hS (vp_in_nI (by decide) (by decide)) dL_law_1561 ?_
  refine lv_asI (y := v) ((congrArg xs (nI_clamp (by decide))).trans hx1) ?_
  refine lv_aload_n hx hb dL_law_1562 rfl (lv_at hl 2 rfl) ?_
  refine iwx_i (vx_runSX (hh := [(0, 9, 12, 15)]) (As := [.ref (ad 0), .int v, .ref (ad 81)]) (rest := []) ⟨hx, hb, hml, hown, hts⟩ (wL_many_1 l hst G 83 ad _ 0 S0 hcam 81 v h _) (vx_cwSW 3 hts gL_law_L_many rfl rfl rfl (by decide +kernel) ⟨Nat.le_of_ble_eq_true rfl, Nat.le_of_ble_eq_true rfl⟩) (iPSX hK hV hZt hS hA hP hD [.ref (ad 0), .int v, .ref (ad 81)]) rfl rfl hl.1 rfl (lv_room (Nat.le_of_ble_eq_true rfl)) dL_law_1563 ⟨Nat.le_of_ble_eq_true rfl, Nat.le_of_ble_eq_true rfl⟩) hD hS hA (fun r8 u8 H locs hw8 hP hD hS => ?_)
  obtain ⟨hr8, hu8⟩ := hw8
  rw [hu8] at hP hD
  refine lv_asI hr8 ?_
  refine lv_istore (lv' := [(6, .int (nI 1)), (5, .int (nI 0)), (4, .ref (ad 82)), (3, .ref (ad 81)), (2, .ref (ad 74)), (1, .ref (ad 0)), (0, .ref b)]) hx hb dL_law_1566 hl (by decide) rfl (fun ls hl => ?_)
  refine lv_aload_n hx hb dL_law_1568 rfl (lv_at hl 4 rfl) ?_
  refine lv_aload_n hx hb dL_law_1569 rfl (lv_at hl 6 rfl) ?_
  refine lv_iload hx hb dL_law_1570 (lv_at hl 1 rfl) ?_
  refine lv_iconst (v := nI 1) hx hb dL_law_1572 (by decide) ?_
  refine lv_iadd hx hb dL_law_1573 ?_
  refine lv_asI (y := nI 1) (by decide) ?_
  refine va_sld hx hb hX hbl hbA hS (vp_in_nI (by decide) (by decide)) dL_law_1574 ?_
  refine lv_asI (y := v) ((congrArg xs (nI_clamp (by decide))).trans hx1) ?_
  refine iw_i (va_runV (As := [.int v]) (rest := []) ⟨hx, hb, hml, hown, hts⟩ (kX9_many_1 l G 83 ad _ 74 dz (nI 0) hmod v h _) (cwV 1 hts gL_law_X9_many rfl rfl rfl (by decide +kernel) ⟨Nat.le_of_ble_eq_true rfl, Nat.le_of_ble_eq_true rfl⟩) (iPV hK hP hD (by decide) (hmod.2.1) rfl [.int v]) rfl rfl hl.1 rfl (lv_room (Nat.le_of_ble_eq_true rfl)) dL_law_1575 ⟨Nat.le_of_ble_eq_true rfl, Nat.le_of_ble_eq_true rfl⟩) hD hS hA (fun r9 u9 H locs hw9 hP hD hS => ?_)
  obtain ⟨hr9, ⟨d9, ht9⟩, hm9⟩ := hw9
  refine lv_asI hr9 ?_
  refine lv_istore (lv' := [(7, .int (nI 0)), (6, .int (nI 1)), (5, .int (nI 0)), (4, .ref (ad 82)), (3, .ref (ad 81)), (2, .ref (ad 74)), (1, .ref (ad 0)), (0, .ref b)]) hx hb dL_law_1578 hl (by decide) rfl (fun ls hl => ?_)
  refine lv_aload_n hx hb dL_law_1580 rfl (lv_at hl 5 rfl) ?_
  refine iw_i (va_runV (As := []) (rest := []) ⟨hx, hb, hml, hown, hts⟩ (kX9_thrown l G 83 ad _ 74 (by decide) (nI 1) d9 ht9 _) (cwV 0 hts gL_law_X9_thrown rfl rfl rfl (by decide +kernel) ⟨Nat.le_of_ble_eq_true rfl, Nat.le_of_ble_eq_true rfl⟩) (iPV hK hP hD (by decide) (ht9) rfl []) rfl rfl hl.1 rfl (lv_room (Nat.le_of_ble_eq_true rfl)) dL_law_1581 ⟨Nat.le_of_ble_eq_true rfl, Nat.le_of_ble_eq_true rfl⟩) hD hS hA (fun r7 u7 H locs hw7 hP hD hS => ?_)
  obtain ⟨hr7, hu7⟩ := hw7
  rw [hu7] at hP hD
  refine lv_asI hr7 ?_
  refine lv_iload hx hb dL_law_1584 (lv_at hl 1 rfl) ?_
  refine lv_icmp_eq (tgt := 1591) hx hb dL_law_1586 (by decide) (fun _ => ?_) (fun c9 => absurd (by decide) c9)
  refine lv_iload hx hb dL_law_1591 (lv_at hl 1 rfl) ?_
  refine lv_if_ne (tgt := 1608) hx hb dL_law_1593 (by decide) (fun _ => ?_) (fun c9 => absurd c9 (by decide))
  refine lv_goto (tgt := 1906) hx hb dL_law_1608 (by decide) ?_
  refine W.widen (k := 300) (n := 6500) (Nat.le_of_ble_eq_true rfl) (Nat.le_of_ble_eq_true rfl) ?_
  exact kt H locs ls hS (lv_sub hl [2, 7] rfl)
set_option maxHeartbeats 4000000 in
set_option maxRecDepth 100000 in
theorem lc_many_v {p : Program} {l : Launch} {e : Env} {s : State} {m : MethodId} {below : List Frame} {meth : Method} {c : Code} {b dz : Nat} {xs : Nat → Int32} {G : iG} {Q : State → Prop} (hst : l.stackTraces = false) (hx : p.tables.exec = Jvm.exec) (hb : c.code = cL_law) (hml : c.maxLocals = 9) (hts : ∀ w ∈ wsL_law, w.before #[Value.ref b] s = true) (hown : s.vm.findClass RL = some m.cls) (hX : va_X b 6 xs s s.heap) (hbl : b < s.heap.size) (hK : KB G s) (hV : VX s) (hZt : ZT (aA s) s s.heap) (hZ : ZD dz (aA s) s s.heap) {ad : Nat → Nat} {C : Nat → va_E} {H : Heap} {locs : List Loc} {ls : Array Slot} (hcam : Cam G 83 ad C 0 S0) (hmod : Mod G 83 ad C 74 dz (nI 0)) (glo : C 81 = la G 1 (fun _ => 0)) (hP : va_P G.1 vwB (wl 83 ad C) H) (hD : va_D (aA s) (wl 83 ad C)) (hS : va_S (aA s) s.heap H locs) (hl : lv_has ls 9 [(5, .int (nI 0)), (4, .ref (ad 82)), (3, .ref (ad 81)), (2, .ref (ad 74)), (1, .ref (ad 0)), (0, .ref b)]) (kt : ∀ (H : Heap) (locs : List Loc) (ls : Array Slot), va_S (aA s) s.heap H locs → lv_has ls 9 [(5, .int (nI 0)), (0, .ref b)] → W p l e room_1 s m #[Value.ref b] below meth c H locs 300 6500 Q (F0 m 1906 ls [])) (w : Nat) (hw7 : w < 7) (hx1 : xs 1 = nI w) : W p l e room_1 s m #[Value.ref b] below meth c H locs 83 1901 Q (F0 m 1555 ls []) := by
  have hbA : ¬ aA s b := Nat.not_le.mpr hbl
  have hA : ∀ q : Nat, s.heap.size ≤ q → aA s q := fun _ h => h
  refine lv_aload_n hx hb dL_law_1555 rfl (lv_at hl 4 rfl) ?_
  refine lv_aload_n hx hb dL_law_1556 rfl (lv_at hl 5 rfl) ?_
  refine lv_iload hx hb dL_law_1557 (lv_at hl 0 rfl) ?_
  refine lv_iconst (v := nI 1) hx hb dL_law_1559 (by decide) ?_
  refine lv_iadd hx hb dL_law_1560 ?_
  refine lv_asI (y := nI 1) (by decide) ?_
  refine va_sld hx hb hX hbl hbA hS (vp_in_nI (by decide) (by decide)) dL_law_1561 ?_
  refine lv_asI (y := nI w) ((congrArg xs (nI_clamp (by decide))).trans hx1) ?_
  refine lv_aload_n hx hb dL_law_1562 rfl (lv_at hl 2 rfl) ?_
  refine iwx_i (vx_runSX (hh := [(0, 9, 12, 15)]) (As := [.ref (ad 0), .int (nI w), .ref (ad 81)]) (rest := []) ⟨hx, hb, hml, hown, hts⟩ (wL_many l G 83 ad _ 0 S0 hcam 81 (by decide) (Or.inr (by decide)) _ glo rfl w hw7 _) (vx_cwSW 3 hts gL_law_L_many rfl rfl rfl (by decide +kernel) ⟨Nat.le_of_ble_eq_true rfl, Nat.le_of_ble_eq_true rfl⟩) (iPSX hK hV hZt hS hA hP hD [.ref (ad 0), .int (nI w), .ref (ad 81)]) rfl rfl hl.1 rfl (lv_room (Nat.le_of_ble_eq_true rfl)) dL_law_1563 ⟨Nat.le_of_ble_eq_true rfl, Nat.le_of_ble_eq_true rfl⟩) hD hS hA (fun r8 u8 H locs hw8 hP hD hS => ?_)
  obtain ⟨hr8, ⟨f8, hf8, hv8⟩, hs8⟩ := hw8
  refine lv_asI hr8 ?_
  have hmod := Mod_same hmod (fun i h1 h2 => hs8 i (Or.inr (by omega)) (by omega))
  refine lv_istore (lv' := [(6, .int (nI 0)), (5, .int (nI 0)), (4, .ref (ad 82)), (3, .ref (ad 81)), (2, .ref (ad 74)), (1, .ref (ad 0)), (0, .ref b)]) hx hb dL_law_1566 hl (by decide) rfl (fun ls hl => ?_)
  refine lv_aload_n hx hb dL_law_1568 rfl (lv_at hl 4 rfl) ?_
  refine lv_aload_n hx hb dL_law_1569 rfl (lv_at hl 6 rfl) ?_
  refine lv_iload hx hb dL_law_1570 (lv_at hl 1 rfl) ?_
  refine lv_iconst (v := nI 1) hx hb dL_law_1572 (by decide) ?_
  refine lv_iadd hx hb dL_law_1573 ?_
  refine lv_asI (y := nI 1) (by decide) ?_
  refine va_sld hx hb hX hbl hbA hS (vp_in_nI (by decide) (by decide)) dL_law_1574 ?_
  refine lv_asI (y := nI w) ((congrArg xs (nI_clamp (by decide))).trans hx1) ?_
  refine iwq_i (va_runV (As := [.int (nI w)]) (rest := []) ⟨hx, hb, hml, hown, hts⟩ (kX9_many l G 83 ad _ 74 dz (nI 0) hmod w hw7 _) (cwV 1 hts gL_law_X9_many rfl rfl rfl (by decide +kernel) ⟨Nat.le_of_ble_eq_true rfl, Nat.le_of_ble_eq_true rfl⟩) (iPVZ hK hV hZ hS hA hP hD (by decide) (hmod.2.1) rfl [.int (nI w)]) rfl rfl hl.1 rfl (lv_room (Nat.le_of_ble_eq_true rfl)) dL_law_1575 ⟨Nat.le_of_ble_eq_true rfl, Nat.le_of_ble_eq_true rfl⟩) (by decide) (by decide) hD hS hA (fun r9 u9 H locs hw9 hP hD hS => ?_)
  obtain ⟨hr9, ⟨d9, ht9⟩, hm9⟩ := hw9
  refine lv_asI (hr9.trans ((maI0 w hw7).symm)) ?_
  refine lv_istore (lv' := [(7, .int (maI S0 w)), (6, .int (nI 0)), (5, .int (nI 0)), (4, .ref (ad 82)), (3, .ref (ad 81)), (2, .ref (ad 74)), (1, .ref (ad 0)), (0, .ref b)]) hx hb dL_law_1578 hl (by decide) rfl (fun ls hl => ?_)
  refine lv_aload_n hx hb dL_law_1580 rfl (lv_at hl 5 rfl) ?_
  refine iw_i (va_runV (As := []) (rest := []) ⟨hx, hb, hml, hown, hts⟩ (kX9_thrown l G 83 ad _ 74 (by decide) (nI 0) d9 ht9 _) (cwV 0 hts gL_law_X9_thrown rfl rfl rfl (by decide +kernel) ⟨Nat.le_of_ble_eq_true rfl, Nat.le_of_ble_eq_true rfl⟩) (iPV hK hP hD (by decide) (ht9) rfl []) rfl rfl hl.1 rfl (lv_room (Nat.le_of_ble_eq_true rfl)) dL_law_1581 ⟨Nat.le_of_ble_eq_true rfl, Nat.le_of_ble_eq_true rfl⟩) hD hS hA (fun r7 u7 H locs hw7 hP hD hS => ?_)
  obtain ⟨hr7, hu7⟩ := hw7
  rw [hu7] at hP hD
  refine lv_asI hr7 ?_
  refine lv_iload hx hb dL_law_1584 (lv_at hl 1 rfl) ?_
  refine lv_icmp_eq (tgt := 1591) hx hb dL_law_1586 (by decide) (fun _ => ?_) (fun c9 => absurd (by decide) c9)
  refine lv_iload hx hb dL_law_1591 (lv_at hl 1 rfl) ?_
  refine lv_if_ne (tgt := 1608) hx hb dL_law_1593 (by decide) (fun c9 => absurd (by decide) c9) (fun _ => ?_)
  refine lv_aload_n hx hb dL_law_1596 rfl (lv_at hl 4 rfl) ?_
  refine lv_iconst (v := nI 0) hx hb dL_law_1597 (by decide) ?_
  refine iw_lald (v := ((maI S0 w)).toInt64) hx hb hK hP (by decide) (((hm9 81 (by decide) (Or.inr (by decide))).trans hf8)) (vp_in_nI (show 0 < 1 by omega) (by omega)) ((congrArg f8 (nI_clamp (by decide))).trans hv8) dL_law_1598 ?_
  refine lv_iload hx hb dL_law_1599 (lv_at hl 0 rfl) ?_
  refine lv_i2l (v := (maI S0 w).toInt64) hx hb dL_law_1601 rfl ?_
  refine lv_lcmpE hx hb dL_law_1602 ?_
  refine lv_if_eq (tgt := 1608) hx hb dL_law_1603 (by decide) (fun _ => ?_) (fun c9 => absurd (by decide) c9)
  refine lv_goto (tgt := 1906) hx hb dL_law_1608 (by decide) ?_
  refine W.widen (k := 300) (n := 6500) (Nat.le_of_ble_eq_true rfl) (Nat.le_of_ble_eq_true rfl) ?_
  exact kt H locs ls hS (lv_sub hl [2, 7] rfl)
set_option maxHeartbeats 4000000 in
set_option maxRecDepth 100000 in
theorem lc_bestTake_1 {p : Program} {l : Launch} {e : Env} {s : State} {m : MethodId} {below : List Frame} {meth : Method} {c : Code} {b dz : Nat} {xs : Nat → Int32} {G : iG} {Q : State → Prop} (hst : l.stackTraces = false) (hx : p.tables.exec = Jvm.exec) (hb : c.code = cL_law) (hml : c.maxLocals = 9) (hts : ∀ w ∈ wsL_law, w.before #[Value.ref b] s = true) (hown : s.vm.findClass RL = some m.cls) (hX : va_X b 6 xs s s.heap) (hbl : b < s.heap.size) (hK : KB G s) (hV : VX s) (hZt : ZT (aA s) s s.heap) (hZ : ZD dz (aA s) s s.heap) {ad : Nat → Nat} {C : Nat → va_E} {H : Heap} {locs : List Loc} {ls : Array Slot} (hcam : Cam G 83 ad C 0 S0) (hmod : Mod G 83 ad C 74 dz (nI 0)) (glo : C 81 = la G 1 (fun _ => 0)) (hP : va_P G.1 vwB (wl 83 ad C) H) (hD : va_D (aA s) (wl 83 ad C)) (hS : va_S (aA s) s.heap H locs) (hl : lv_has ls 9 [(5, .int (nI 0)), (4, .ref (ad 82)), (3, .ref (ad 81)), (2, .ref (ad 74)), (1, .ref (ad 0)), (0, .ref b)]) (kt : ∀ (H : Heap) (locs : List Loc) (ls : Array Slot), va_S (aA s) s.heap H locs → lv_has ls 9 [(5, .int (nI 0)), (0, .ref b)] → W p l e room_1 s m #[Value.ref b] below meth c H locs 300 6500 Q (F0 m 1906 ls [])) (v : Int32) (h : v < nI 0 ∨ nI 255 < v) (hx1 : xs 1 = v) : W p l e room_1 s m #[Value.ref b] below meth c H locs 83 1901 Q (F0 m 1768 ls []) := by
  have hbA : ¬ aA s b := Nat.not_le.mpr hbl
  have hA : ∀ q : Nat, s.heap.size ≤ q → aA s q := fun _ h => h
  refine lv_aload_n hx hb dL_law_1768 rfl (lv_at hl 4 rfl) ?_
  refine lv_aload_n hx hb dL_law_1769 rfl (lv_at hl 5 rfl) ?_
  refine lv_iload hx hb dL_law_1770 (lv_at hl 0 rfl) ?_
  refine lv_iconst (v := nI 1) hx hb dL_law_1772 (by decide) ?_
  refine lv_iadd hx hb dL_law_1773 ?_
  refine lv_asI (y := nI 1) (by decide) ?_
  refine va_sld hx hb hX hbl hbA hS (vp_in_nI (by decide) (by decide)) dL_law_1774 ?_
  refine lv_asI (y := v) ((congrArg xs (nI_clamp (by decide))).trans hx1) ?_
  refine lv_aload_n hx hb dL_law_1775 rfl (lv_at hl 2 rfl) ?_
  refine iwx_i (vx_runSX (hh := [(0, 9, 12, 15)]) (As := [.ref (ad 0), .int v, .ref (ad 81)]) (rest := []) ⟨hx, hb, hml, hown, hts⟩ (wL_bestTake_1 l hst G 83 ad _ 0 S0 hcam 81 v h _) (vx_cwSW 3 hts gL_law_L_bestTake rfl rfl rfl (by decide +kernel) ⟨Nat.le_of_ble_eq_true rfl, Nat.le_of_ble_eq_true rfl⟩) (iPSX hK hV hZt hS hA hP hD [.ref (ad 0), .int v, .ref (ad 81)]) rfl rfl hl.1 rfl (lv_room (Nat.le_of_ble_eq_true rfl)) dL_law_1776 ⟨Nat.le_of_ble_eq_true rfl, Nat.le_of_ble_eq_true rfl⟩) hD hS hA (fun r8 u8 H locs hw8 hP hD hS => ?_)
  obtain ⟨hr8, hu8⟩ := hw8
  rw [hu8] at hP hD
  refine lv_asI hr8 ?_
  refine lv_istore (lv' := [(6, .int (nI 1)), (5, .int (nI 0)), (4, .ref (ad 82)), (3, .ref (ad 81)), (2, .ref (ad 74)), (1, .ref (ad 0)), (0, .ref b)]) hx hb dL_law_1779 hl (by decide) rfl (fun ls hl => ?_)
  refine lv_aload_n hx hb dL_law_1781 rfl (lv_at hl 4 rfl) ?_
  refine lv_aload_n hx hb dL_law_1782 rfl (lv_at hl 6 rfl) ?_
  refine lv_iload hx hb dL_law_1783 (lv_at hl 1 rfl) ?_
  refine lv_iconst (v := nI 1) hx hb dL_law_1785 (by decide) ?_
  refine lv_iadd hx hb dL_law_1786 ?_
  refine lv_asI (y := nI 1) (by decide) ?_
  refine va_sld hx hb hX hbl hbA hS (vp_in_nI (by decide) (by decide)) dL_law_1787 ?_
  refine lv_asI (y := v) ((congrArg xs (nI_clamp (by decide))).trans hx1) ?_
  refine iw_i (va_runV (As := [.int v]) (rest := []) ⟨hx, hb, hml, hown, hts⟩ (kX9_bestTake_1 l G 83 ad _ 74 dz (nI 0) hmod v h _) (cwV 1 hts gL_law_X9_bestTake rfl rfl rfl (by decide +kernel) ⟨Nat.le_of_ble_eq_true rfl, Nat.le_of_ble_eq_true rfl⟩) (iPV hK hP hD (by decide) (hmod.2.1) rfl [.int v]) rfl rfl hl.1 rfl (lv_room (Nat.le_of_ble_eq_true rfl)) dL_law_1788 ⟨Nat.le_of_ble_eq_true rfl, Nat.le_of_ble_eq_true rfl⟩) hD hS hA (fun r9 u9 H locs hw9 hP hD hS => ?_)
  obtain ⟨hr9, ⟨d9, ht9⟩, hm9⟩ := hw9
  refine lv_asI hr9 ?_
  refine lv_istore (lv' := [(7, .int (nI 0)), (6, .int (nI 1)), (5, .int (nI 0)), (4, .ref (ad 82)), (3, .ref (ad 81)), (2, .ref (ad 74)), (1, .ref (ad 0)), (0, .ref b)]) hx hb dL_law_1791 hl (by decide) rfl (fun ls hl => ?_)
  refine lv_aload_n hx hb dL_law_1793 rfl (lv_at hl 5 rfl) ?_
  refine iw_i (va_runV (As := []) (rest := []) ⟨hx, hb, hml, hown, hts⟩ (kX9_thrown l G 83 ad _ 74 (by decide) (nI 1) d9 ht9 _) (cwV 0 hts gL_law_X9_thrown rfl rfl rfl (by decide +kernel) ⟨Nat.le_of_ble_eq_true rfl, Nat.le_of_ble_eq_true rfl⟩) (iPV hK hP hD (by decide) (ht9) rfl []) rfl rfl hl.1 rfl (lv_room (Nat.le_of_ble_eq_true rfl)) dL_law_1794 ⟨Nat.le_of_ble_eq_true rfl, Nat.le_of_ble_eq_true rfl⟩) hD hS hA (fun r7 u7 H locs hw7 hP hD hS => ?_)
  obtain ⟨hr7, hu7⟩ := hw7
  rw [hu7] at hP hD
  refine lv_asI hr7 ?_
  refine lv_iload hx hb dL_law_1797 (lv_at hl 1 rfl) ?_
  refine lv_icmp_eq (tgt := 1804) hx hb dL_law_1799 (by decide) (fun _ => ?_) (fun c9 => absurd (by decide) c9)
  refine lv_iload hx hb dL_law_1804 (lv_at hl 1 rfl) ?_
  refine lv_if_ne (tgt := 1821) hx hb dL_law_1806 (by decide) (fun _ => ?_) (fun c9 => absurd c9 (by decide))
  refine lv_goto (tgt := 1906) hx hb dL_law_1821 (by decide) ?_
  refine W.widen (k := 300) (n := 6500) (Nat.le_of_ble_eq_true rfl) (Nat.le_of_ble_eq_true rfl) ?_
  exact kt H locs ls hS (lv_sub hl [2, 7] rfl)
set_option maxHeartbeats 4000000 in
set_option maxRecDepth 100000 in
theorem lc_bestTake_v {p : Program} {l : Launch} {e : Env} {s : State} {m : MethodId} {below : List Frame} {meth : Method} {c : Code} {b dz : Nat} {xs : Nat → Int32} {G : iG} {Q : State → Prop} (hst : l.stackTraces = false) (hx : p.tables.exec = Jvm.exec) (hb : c.code = cL_law) (hml : c.maxLocals = 9) (hts : ∀ w ∈ wsL_law, w.before #[Value.ref b] s = true) (hown : s.vm.findClass RL = some m.cls) (hX : va_X b 6 xs s s.heap) (hbl : b < s.heap.size) (hK : KB G s) (hV : VX s) (hZt : ZT (aA s) s s.heap) (hZ : ZD dz (aA s) s s.heap) {ad : Nat → Nat} {C : Nat → va_E} {H : Heap} {locs : List Loc} {ls : Array Slot} (hcam : Cam G 83 ad C 0 S0) (hmod : Mod G 83 ad C 74 dz (nI 0)) (glo : C 81 = la G 1 (fun _ => 0)) (hP : va_P G.1 vwB (wl 83 ad C) H) (hD : va_D (aA s) (wl 83 ad C)) (hS : va_S (aA s) s.heap H locs) (hl : lv_has ls 9 [(5, .int (nI 0)), (4, .ref (ad 82)), (3, .ref (ad 81)), (2, .ref (ad 74)), (1, .ref (ad 0)), (0, .ref b)]) (kt : ∀ (H : Heap) (locs : List Loc) (ls : Array Slot), va_S (aA s) s.heap H locs → lv_has ls 9 [(5, .int (nI 0)), (0, .ref b)] → W p l e room_1 s m #[Value.ref b] below meth c H locs 300 6500 Q (F0 m 1906 ls [])) (v : Nat) (hv : v < 256) (hx1 : xs 1 = nI v) : W p l e room_1 s m #[Value.ref b] below meth c H locs 83 1901 Q (F0 m 1768 ls []) := by
  have hbA : ¬ aA s b := Nat.not_le.mpr hbl
  have hA : ∀ q : Nat, s.heap.size ≤ q → aA s q := fun _ h => h
  refine lv_aload_n hx hb dL_law_1768 rfl (lv_at hl 4 rfl) ?_
  refine lv_aload_n hx hb dL_law_1769 rfl (lv_at hl 5 rfl) ?_
  refine lv_iload hx hb dL_law_1770 (lv_at hl 0 rfl) ?_
  refine lv_iconst (v := nI 1) hx hb dL_law_1772 (by decide) ?_
  refine lv_iadd hx hb dL_law_1773 ?_
  refine lv_asI (y := nI 1) (by decide) ?_
  refine va_sld hx hb hX hbl hbA hS (vp_in_nI (by decide) (by decide)) dL_law_1774 ?_
  refine lv_asI (y := nI v) ((congrArg xs (nI_clamp (by decide))).trans hx1) ?_
  refine lv_aload_n hx hb dL_law_1775 rfl (lv_at hl 2 rfl) ?_
  refine iwx_i (vx_runSX (hh := [(0, 9, 12, 15)]) (As := [.ref (ad 0), .int (nI v), .ref (ad 81)]) (rest := []) ⟨hx, hb, hml, hown, hts⟩ (wL_bestTake l G 83 ad _ 0 S0 hcam 81 (by decide) (Or.inr (by decide)) _ glo hd0 v hv _) (vx_cwSW 3 hts gL_law_L_bestTake rfl rfl rfl (by decide +kernel) ⟨Nat.le_of_ble_eq_true rfl, Nat.le_of_ble_eq_true rfl⟩) (iPSX hK hV hZt hS hA hP hD [.ref (ad 0), .int (nI v), .ref (ad 81)]) rfl rfl hl.1 rfl (lv_room (Nat.le_of_ble_eq_true rfl)) dL_law_1776 ⟨Nat.le_of_ble_eq_true rfl, Nat.le_of_ble_eq_true rfl⟩) hD hS hA (fun r8 u8 H locs hw8 hP hD hS => ?_)
  obtain ⟨hr8, ⟨f8, hf8, hv8⟩, hs8⟩ := hw8
  refine lv_asI hr8 ?_
  have hmod := Mod_same hmod (fun i h1 h2 => hs8 i (Or.inr (by omega)) (by omega))
  refine lv_istore (lv' := [(6, .int (nI 0)), (5, .int (nI 0)), (4, .ref (ad 82)), (3, .ref (ad 81)), (2, .ref (ad 74)), (1, .ref (ad 0)), (0, .ref b)]) hx hb dL_law_1779 hl (by decide) rfl (fun ls hl => ?_)
  refine lv_aload_n hx hb dL_law_1781 rfl (lv_at hl 4 rfl) ?_
  refine lv_aload_n hx hb dL_law_1782 rfl (lv_at hl 6 rfl) ?_
  refine lv_iload hx hb dL_law_1783 (lv_at hl 1 rfl) ?_
  refine lv_iconst (v := nI 1) hx hb dL_law_1785 (by decide) ?_
  refine lv_iadd hx hb dL_law_1786 ?_
  refine lv_asI (y := nI 1) (by decide) ?_
  refine va_sld hx hb hX hbl hbA hS (vp_in_nI (by decide) (by decide)) dL_law_1787 ?_
  refine lv_asI (y := nI v) ((congrArg xs (nI_clamp (by decide))).trans hx1) ?_
  refine iwq_i (va_runV (As := [.int (nI v)]) (rest := []) ⟨hx, hb, hml, hown, hts⟩ (kX9_bestTake l G 83 ad _ 74 dz (nI 0) hmod v hv _) (cwV 1 hts gL_law_X9_bestTake rfl rfl rfl (by decide +kernel) ⟨Nat.le_of_ble_eq_true rfl, Nat.le_of_ble_eq_true rfl⟩) (iPVZ hK hV hZ hS hA hP hD (by decide) (hmod.2.1) rfl [.int (nI v)]) rfl rfl hl.1 rfl (lv_room (Nat.le_of_ble_eq_true rfl)) dL_law_1788 ⟨Nat.le_of_ble_eq_true rfl, Nat.le_of_ble_eq_true rfl⟩) (by decide) (by decide) hD hS hA (fun r9 u9 H locs hw9 hP hD hS => ?_)
  obtain ⟨hr9, ⟨d9, ht9⟩, hm9⟩ := hw9
  refine lv_asI hr9 ?_
  refine lv_istore (lv' := [(7, .int (nI 17)), (6, .int (nI 0)), (5, .int (nI 0)), (4, .ref (ad 82)), (3, .ref (ad 81)), (2, .ref (ad 74)), (1, .ref (ad 0)), (0, .ref b)]) hx hb dL_law_1791 hl (by decide) rfl (fun ls hl => ?_)
  refine lv_aload_n hx hb dL_law_1793 rfl (lv_at hl 5 rfl) ?_
  refine iw_i (va_runV (As := []) (rest := []) ⟨hx, hb, hml, hown, hts⟩ (kX9_thrown l G 83 ad _ 74 (by decide) (nI 0) d9 ht9 _) (cwV 0 hts gL_law_X9_thrown rfl rfl rfl (by decide +kernel) ⟨Nat.le_of_ble_eq_true rfl, Nat.le_of_ble_eq_true rfl⟩) (iPV hK hP hD (by decide) (ht9) rfl []) rfl rfl hl.1 rfl (lv_room (Nat.le_of_ble_eq_true rfl)) dL_law_1794 ⟨Nat.le_of_ble_eq_true rfl, Nat.le_of_ble_eq_true rfl⟩) hD hS hA (fun r7 u7 H locs hw7 hP hD hS => ?_)
  obtain ⟨hr7, hu7⟩ := hw7
  rw [hu7] at hP hD
  refine lv_asI hr7 ?_
  refine lv_iload hx hb dL_law_1797 (lv_at hl 1 rfl) ?_
  refine lv_icmp_eq (tgt := 1804) hx hb dL_law_1799 (by decide) (fun _ => ?_) (fun c9 => absurd (by decide) c9)
  refine lv_iload hx hb dL_law_1804 (lv_at hl 1 rfl) ?_
  refine lv_if_ne (tgt := 1821) hx hb dL_law_1806 (by decide) (fun c9 => absurd (by decide) c9) (fun _ => ?_)
  refine lv_aload_n hx hb dL_law_1809 rfl (lv_at hl 4 rfl) ?_
  refine lv_iconst (v := nI 0) hx hb dL_law_1810 (by decide) ?_
  refine iw_lald (v := ((nI 17)).toInt64) hx hb hK hP (by decide) (((hm9 81 (by decide) (Or.inr (by decide))).trans hf8)) (vp_in_nI (show 0 < 1 by omega) (by omega)) ((congrArg f8 (nI_clamp (by decide))).trans hv8) dL_law_1811 ?_
  refine lv_iload hx hb dL_law_1812 (lv_at hl 0 rfl) ?_
  refine lv_i2l (v := (nI 17).toInt64) hx hb dL_law_1814 rfl ?_
  refine lv_lcmpE hx hb dL_law_1815 ?_
  refine lv_if_eq (tgt := 1821) hx hb dL_law_1816 (by decide) (fun _ => ?_) (fun c9 => absurd (by decide) c9)
  refine lv_goto (tgt := 1906) hx hb dL_law_1821 (by decide) ?_
  refine W.widen (k := 300) (n := 6500) (Nat.le_of_ble_eq_true rfl) (Nat.le_of_ble_eq_true rfl) ?_
  exact kt H locs ls hS (lv_sub hl [2, 7] rfl)
