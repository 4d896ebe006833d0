set_option maxRecDepth 20000 in
theorem ggL_law_L_word : GoodIn wsL_law wsL_word := goodIn_ca (goodIn_r _ [634, 115, 635, 636, 637, 2, 638, 23, 415, 416, 417, 418, 127, 128, 26, 639, 640, 641, 642, 34, 21, 534, 535, 536, 33, 537, 538, 539, 540, 60, 541, 70, 68, 542, 543, 544, 545, 75, 136, 137, 546, 547, 548, 130, 131, 549, 550, 551, 552, 74, 248, 249, 553, 554, 555, 556, 557, 558, 559, 560, 426, 427, 428, 561, 562, 563, 564, 565, 566, 567, 568, 569, 570, 571, 572, 573, 574, 575, 576, 577, 578, 579, 580, 581, 582, 583, 584, 585, 586, 587, 588, 589, 590, 643, 644, 645, 646, 912, 913, 914, 915, 916, 917, 918, 919, 920, 935, 936, 937, 938, 939, 932, 933, 934, 945, 946, 947, 940, 941] (by decide +kernel) (by decide +kernel)) (goodIn_sub (fun _ h => List.mem_append_left _ (List.mem_append_right _ h)) (by decide +kernel))
set_option maxRecDepth 20000 in
theorem gL_law_L_word : GoodIn wsL_law (va_wsS RL 141 yL_word wsL_word) := goodIn_app (goodIn_of _ (by decide +kernel)) ggL_law_L_word
set_option maxRecDepth 20000 in
theorem ggL_law_X9_word_ : GoodIn wsL_law wsX9_word_ := goodIn_r _ [650, 146, 438, 439, 440, 5, 441, 94, 277, 278, 279, 93, 280, 281, 152, 153, 154, 155, 156, 157, 158, 596, 597, 598, 599, 386, 437, 392, 393, 394, 395, 396, 397, 398, 399, 400, 401, 402, 403, 404, 405, 406, 407, 100, 600, 601, 602, 603, 389, 460, 44, 604, 605, 606, 607, 608, 609, 610, 611, 42, 90, 149, 150, 151, 159, 160, 161, 612, 613, 614, 615, 294, 295, 296, 616, 617, 618, 287, 619, 620, 621, 622, 623, 624, 625, 626, 627, 628, 629, 630, 631, 651, 652, 653, 921, 922, 923, 924, 925, 926, 927, 928, 948, 949, 950, 951, 952, 953, 954, 955] (by decide +kernel) (by decide +kernel)
set_option maxRecDepth 20000 in
theorem gL_law_X9_word_ : GoodIn wsL_law (wsV RL 143 RX9 yX9_word_ wsX9_word_) := goodIn_app (goodIn_of _ (by decide +kernel)) ggL_law_X9_word_
set_option maxRecDepth 20000 in
theorem ggL_law_L_ofFrame : GoodIn wsL_law wsL_ofFrame := goodIn_ca (goodIn_ca (goodIn_r _ [656, 115, 116, 657, 658, 659, 2, 660, 23, 415, 416, 417, 418, 127, 128, 26, 132, 133, 134, 121, 122, 425, 426, 427, 60, 428, 70, 661, 662, 663, 29, 664, 57, 665, 666, 667, 668, 669, 373, 264, 374, 248, 249, 136, 137, 670, 671, 672, 673, 674, 263, 265, 675, 267, 268, 676, 677, 678, 679, 477, 478, 479, 480, 27, 25, 912, 913, 914, 915, 916, 917, 918, 919, 920, 935, 936, 937, 938, 939, 945, 946, 947, 942, 943, 944] (by decide +kernel) (by decide +kernel)) (goodIn_sub (fun _ h => List.mem_append_left _ (List.mem_append_right _ h)) (by decide +kernel))) (goodIn_sub (fun _ h => List.mem_append_left _ (List.mem_append_left _ (List.mem_append_right _ h))) (by decide +kernel))
set_option maxRecDepth 20000 in
theorem gL_law_L_ofFrame : GoodIn wsL_law (va_wsS RL 144 yL_ofFrame wsL_ofFrame) := goodIn_app (goodIn_of _ (by decide +kernel)) ggL_law_L_ofFrame
set_option maxRecDepth 20000 in
theorem ggL_law_X9_ofFrame : GoodIn wsL_law wsX9_ofFrame := goodIn_r _ [683, 146, 438, 439, 440, 5, 441, 94, 277, 278, 279, 93, 280, 281, 152, 153, 154, 155, 156, 157, 158, 684, 685, 686, 687, 386, 42, 387, 388, 437, 391, 392, 393, 394, 395, 396, 397, 398, 399, 400, 401, 402, 403, 404, 405, 406, 407, 100, 688, 689, 690, 293, 691, 305, 692, 693, 694, 695, 696, 373, 264, 374, 295, 296, 697, 698, 699, 700, 701, 263, 265, 702, 267, 268, 703, 704, 705, 706, 497, 498, 499, 500, 95, 501, 502, 921, 922, 923, 924, 925, 926, 927, 928, 948, 949, 950, 951, 952, 953, 954, 955, 956, 957, 958] (by decide +kernel) (by decide +kernel)
set_option maxRecDepth 20000 in
theorem gL_law_X9_ofFrame : GoodIn wsL_law (wsV RL 146 RX9 yX9_ofFrame wsX9_ofFrame) := goodIn_app (goodIn_of _ (by decide +kernel)) ggL_law_X9_ofFrame
set_option maxRecDepth 20000 in
theorem ggL_law_L_ofEdit : GoodIn wsL_law wsL_ofEdit := goodIn_ca (goodIn_ca (goodIn_r _ [709, 115, 116, 710, 711, 712, 2, 713, 23, 415, 416, 417, 418, 127, 128, 26, 425, 426, 427, 60, 428, 70, 714, 715, 716, 132, 133, 134, 121, 122, 912, 913, 914, 915, 916, 917, 918, 919, 920, 935, 936, 937, 938, 939, 945, 946, 947] (by decide +kernel) (by decide +kernel)) (goodIn_sub (fun _ h => List.mem_append_left _ (List.mem_append_right _ h)) (by decide +kernel))) (goodIn_sub (fun _ h => List.mem_append_left _ (List.mem_append_left _ (List.mem_append_right _ h))) (by decide +kernel))
set_option maxRecDepth 20000 in
theorem gL_law_L_ofEdit : GoodIn wsL_law (va_wsS RL 147 yL_ofEdit wsL_ofEdit) := goodIn_app (goodIn_of _ (by decide +kernel)) ggL_law_L_ofEdit
set_option maxRecDepth 20000 in
theorem ggL_law_X9_ofEdit : GoodIn wsL_law wsX9_ofEdit := goodIn_r _ [720, 146, 94, 386, 437, 460, 438, 439, 440, 5, 441, 277, 278, 279, 93, 280, 281, 152, 153, 154, 392, 393, 394, 395, 396, 397, 398, 399, 400, 401, 402, 403, 404, 405, 406, 407, 100, 155, 156, 157, 158, 921, 922, 923, 924, 925, 926, 927, 928, 951, 952, 953, 954, 955, 948, 949, 950] (by decide +kernel) (by decide +kernel)
set_option maxRecDepth 20000 in
theorem gL_law_X9_ofEdit : GoodIn wsL_law (wsV RL 149 RX9 yX9_ofEdit wsX9_ofEdit) := goodIn_app (goodIn_of _ (by decide +kernel)) ggL_law_X9_ofEdit
set_option maxRecDepth 20000 in
theorem ggL_law_L_zone : GoodIn wsL_law wsL_zone := goodIn_ca (goodIn_r _ [723, 115, 724, 725, 726, 2, 727, 23, 415, 416, 417, 418, 127, 128, 26, 714, 715, 716, 728, 729, 730, 29, 731, 57, 732, 248, 249, 136, 137, 912, 913, 914, 915, 916, 917, 918, 919, 920, 935, 936, 937, 938, 939] (by decide +kernel) (by decide +kernel)) (goodIn_sub (fun _ h => List.mem_append_left _ (List.mem_append_right _ h)) (by decide +kernel))
set_option maxRecDepth 20000 in
theorem gL_law_L_zone : GoodIn wsL_law (va_wsS RL 150 yL_zone wsL_zone) := goodIn_app (goodIn_of _ (by decide +kernel)) ggL_law_L_zone
set_option maxRecDepth 20000 in
theorem ggL_law_X9_zone : GoodIn wsL_law wsX9_zone := goodIn_r _ [736, 146, 94, 386, 438, 439, 440, 5, 441, 277, 278, 279, 93, 280, 281, 152, 153, 154, 155, 156, 157, 158, 392, 393, 394, 395, 396, 397, 398, 399, 400, 401, 402, 403, 404, 405, 406, 407, 100, 737, 738, 739, 293, 740, 305, 741, 295, 296, 921, 922, 923, 924, 925, 926, 927, 928, 948, 949, 950, 951, 952, 953, 954, 955] (by decide +kernel) (by decide +kernel)
set_option maxRecDepth 20000 in
theorem gL_law_X9_zone : GoodIn wsL_law (wsV RL 153 RX9 yX9_zone wsX9_zone) := goodIn_app (goodIn_of _ (by decide +kernel)) ggL_law_X9_zone
set_option maxRecDepth 20000 in
theorem ggL_law_L_meter : GoodIn wsL_law wsL_meter := goodIn_ca (goodIn_r _ [744, 115, 745, 746, 747, 2, 748, 23, 415, 416, 417, 418, 127, 128, 26, 749, 750, 751, 29, 752, 753, 754, 729, 730, 731, 57, 732, 248, 249, 136, 137, 912, 913, 914, 915, 916, 917, 918, 919, 920, 935, 936, 937, 938, 939] (by decide +kernel) (by decide +kernel)) (goodIn_sub (fun _ h => List.mem_append_left _ (List.mem_append_right _ h)) (by decide +kernel))
set_option maxRecDepth 20000 in
theorem gL_law_L_meter : GoodIn wsL_law (va_wsS RL 154 yL_meter wsL_meter) := goodIn_app (goodIn_of _ (by decide +kernel)) ggL_law_L_meter
set_option maxRecDepth 20000 in
theorem ggL_law_X9_meter : GoodIn wsL_law wsX9_meter := goodIn_r _ [758, 146, 94, 386, 438, 439, 440, 5, 441, 277, 278, 279, 93, 280, 281, 152, 153, 154, 155, 156, 157, 158, 392, 393, 394, 395, 396, 397, 398, 399, 400, 401, 402, 403, 404, 405, 406, 407, 100, 759, 760, 761, 293, 762, 763, 764, 738, 739, 740, 305, 741, 295, 296, 921, 922, 923, 924, 925, 926, 927, 928, 948, 949, 950, 951, 952, 953, 954, 955] (by decide +kernel) (by decide +kernel)
set_option maxRecDepth 20000 in
theorem gL_law_X9_meter : GoodIn wsL_law (wsV RL 157 RX9 yX9_meter wsX9_meter) := goodIn_app (goodIn_of _ (by decide +kernel)) ggL_law_X9_meter
set_option maxRecDepth 20000 in
theorem ggL_law_L_apart : GoodIn wsL_law wsL_apart := goodIn_ca (goodIn_r _ [823, 115, 824, 825, 826, 2, 827, 34, 35, 415, 416, 417, 418, 127, 128, 26, 530, 531, 532, 533, 23, 21, 534, 535, 536, 33, 537, 538, 539, 540, 60, 541, 70, 68, 542, 543, 544, 545, 75, 136, 137, 546, 547, 548, 130, 131, 549, 550, 551, 552, 74, 248, 249, 553, 554, 555, 556, 557, 558, 559, 560, 426, 427, 428, 561, 562, 563, 564, 565, 566, 567, 568, 569, 570, 571, 572, 573, 574, 575, 576, 577, 578, 579, 580, 581, 582, 583, 584, 585, 586, 587, 588, 589, 590, 828, 829, 830, 831, 912, 913, 914, 915, 916, 917, 918, 919, 920, 935, 936, 937, 938, 939, 932, 933, 934, 945, 946, 947, 940, 941] (by decide +kernel) (by decide +kernel)) (goodIn_sub (fun _ h => List.mem_append_left _ (List.mem_append_right _ h)) (by decide +kernel))
set_option maxRecDepth 20000 in
theorem gL_law_L_apart : GoodIn wsL_law (va_wsS RL 167 yL_apart wsL_apart) := goodIn_app (goodIn_of _ (by decide +kernel)) ggL_law_L_apart
set_option maxRecDepth 20000 in
theorem ggL_law_X9_apart : GoodIn wsL_law wsX9_apart := goodIn_r _ [835, 146, 438, 439, 440, 5, 441, 94, 277, 278, 279, 93, 280, 281, 152, 153, 154, 155, 156, 157, 158, 596, 597, 598, 599, 386, 437, 392, 393, 394, 395, 396, 397, 398, 399, 400, 401, 402, 403, 404, 405, 406, 407, 100, 600, 601, 602, 603, 389, 460, 44, 604, 605, 606, 607, 608, 609, 610, 611, 42, 90, 149, 150, 151, 159, 160, 161, 612, 613, 614, 615, 294, 295, 296, 616, 617, 618, 287, 619, 620, 621, 622, 623, 624, 625, 626, 627, 628, 629, 630, 631, 836, 837, 838, 839, 840, 841, 842, 921, 922, 923, 924, 925, 926, 927, 928, 948, 949, 950, 951, 952, 953, 954, 955] (by decide +kernel) (by decide +kernel)
set_option maxRecDepth 20000 in
theorem gL_law_X9_apart : GoodIn wsL_law (wsV RL 169 RX9 yX9_apart wsX9_apart) := goodIn_app (goodIn_of _ (by decide +kernel)) ggL_law_X9_apart
set_option maxRecDepth 20000 in
theorem ggL_law_L_bestWhite : GoodIn wsL_law wsL_bestWhite := goodIn_ca (goodIn_ca (goodIn_r _ [878, 115, 116, 879, 880, 881, 2, 882, 23, 34, 21, 883, 372, 373, 264, 374, 415, 416, 417, 418, 127, 128, 26, 132, 133, 134, 121, 122, 534, 535, 536, 33, 537, 538, 539, 540, 60, 541, 70, 68, 542, 543, 544, 545, 75, 136, 137, 546, 547, 548, 130, 131, 549, 550, 551, 552, 74, 248, 249, 553, 554, 555, 556, 557, 558, 559, 560, 426, 427, 428, 561, 562, 563, 564, 565, 566, 567, 568, 569, 570, 571, 572, 573, 574, 575, 576, 577, 578, 579, 580, 581, 582, 583, 884, 885, 886, 887, 588, 589, 590, 419, 420, 421, 422, 423, 424, 912, 913, 914, 915, 916, 917, 918, 919, 920, 935, 936, 937, 938, 939, 932, 933, 934, 945, 946, 947, 940, 941] (by decide +kernel) (by decide +kernel)) (goodIn_sub (fun _ h => List.mem_append_left _ (List.mem_append_right _ h)) (by decide +kernel))) (goodIn_sub (fun _ h => List.mem_append_left _ (List.mem_append_left _ (List.mem_append_right _ h))) (by decide +kernel))
set_option maxRecDepth 20000 in
theorem gL_law_L_bestWhite : GoodIn wsL_law (va_wsS RL 176 yL_bestWhite wsL_bestWhite) := goodIn_app (goodIn_of _ (by decide +kernel)) ggL_law_L_bestWhite
set_option maxRecDepth 20000 in
theorem ggL_law_X9_bestWhite : GoodIn wsL_law wsX9_bestWhite := goodIn_r _ [891, 146, 94, 386, 91, 92, 93, 437, 460, 42, 390, 373, 264, 374, 438, 439, 440, 5, 441, 277, 278, 279, 280, 281, 152, 153, 154, 155, 156, 157, 158, 392, 393, 394, 395, 396, 397, 398, 399, 400, 401, 402, 403, 404, 405, 406, 407, 100, 96, 97, 98, 99, 101, 102, 103, 104, 105, 106, 107, 108, 109, 110, 12, 13, 307, 308, 309, 310, 311, 312, 313, 314, 315, 316, 317, 318, 319, 320, 321, 322, 323, 324, 325, 267, 268, 326, 327, 328, 329, 330, 331, 332, 333, 334, 335, 336, 337, 338, 339, 340, 341, 342, 343, 344, 345, 346, 347, 348, 349, 263, 265, 350, 351, 352, 353, 600, 601, 602, 603, 389, 44, 604, 605, 606, 607, 608, 609, 610, 611, 90, 149, 150, 151, 159, 160, 161, 612, 613, 614, 615, 294, 295, 296, 616, 617, 618, 287, 619, 620, 621, 622, 623, 624, 625, 626, 627, 628, 629, 630, 631, 921, 922, 923, 924, 925, 926, 927, 928, 948, 949, 950, 951, 952, 953, 954, 955] (by decide +kernel) (by decide +kernel)
set_option maxRecDepth 20000 in
theorem gL_law_X9_bestWhite : GoodIn wsL_law (wsV RL 178 RX9 yX9_bestWhite wsX9_bestWhite) := goodIn_app (goodIn_of _ (by decide +kernel)) ggL_law_X9_bestWhite
set_option maxRecDepth 20000 in
theorem ggL_law_L_ofFile : GoodIn wsL_law wsL_ofFile := goodIn_ca (goodIn_ca (goodIn_r _ [767, 115, 116, 768, 769, 770, 2, 771, 27, 25, 714, 715, 716, 127, 128, 132, 133, 134, 121, 122, 425, 426, 427, 60, 428, 70, 639, 640, 641, 642, 34, 23, 21, 534, 535, 536, 33, 537, 538, 539, 540, 541, 68, 542, 543, 544, 545, 75, 136, 137, 546, 547, 548, 130, 131, 549, 550, 551, 552, 74, 248, 249, 553, 554, 555, 556, 557, 558, 559, 560, 561, 562, 563, 564, 565, 566, 567, 568, 569, 570, 571, 572, 573, 574, 575, 576, 577, 578, 579, 580, 581, 582, 583, 584, 585, 586, 587, 588, 589, 590, 643, 644, 645, 646, 912, 913, 914, 915, 916, 917, 918, 919, 920, 942, 943, 944, 945, 946, 947, 935, 936, 937, 938, 939, 932, 933, 934, 940, 941] (by decide +kernel) (by decide +kernel)) (goodIn_sub (fun _ h => List.mem_append_left _ (List.mem_append_right _ h)) (by decide +kernel))) (goodIn_sub (fun _ h => List.mem_append_left _ (List.mem_append_left _ (List.mem_append_right _ h))) (by decide +kernel))
set_option maxRecDepth 20000 in
theorem gL_law_L_ofFile : GoodIn wsL_law (va_wsS RL 158 yL_ofFile wsL_ofFile) := goodIn_app (goodIn_of _ (by decide +kernel)) ggL_law_L_ofFile
set_option maxRecDepth 20000 in
theorem ggL_law_X9_ofFile : GoodIn wsL_law wsX9_ofFile := goodIn_r _ [775, 146, 95, 277, 278, 279, 93, 280, 281, 152, 153, 5, 154, 155, 156, 157, 158, 776, 777, 778, 779, 501, 502, 780, 496, 94, 386, 392, 393, 394, 395, 396, 397, 398, 399, 400, 401, 402, 403, 404, 405, 406, 407, 100, 600, 601, 602, 603, 389, 460, 44, 604, 605, 606, 607, 608, 609, 610, 611, 42, 90, 149, 150, 151, 159, 160, 161, 612, 613, 614, 615, 294, 295, 296, 616, 617, 618, 287, 619, 620, 621, 622, 623, 624, 625, 626, 627, 628, 629, 630, 631, 651, 652, 653, 921, 922, 923, 924, 925, 926, 927, 928, 948, 949, 950, 956, 957, 958, 951, 952, 953, 954, 955] (by decide +kernel) (by decide +kernel)
set_option maxRecDepth 20000 in
theorem gL_law_X9_ofFile : GoodIn wsL_law (wsV RL 160 RX9 yX9_ofFile wsX9_ofFile) := goodIn_app (goodIn_of _ (by decide +kernel)) ggL_law_X9_ofFile
set_option maxRecDepth 20000 in
theorem ggL_law_L_ofPlace : GoodIn wsL_law wsL_ofPlace := goodIn_ca (goodIn_ca (goodIn_r _ [783, 115, 116, 784, 785, 786, 2, 787, 17, 21, 124, 125, 126, 127, 128, 129, 130, 131, 132, 133, 134, 121, 122, 135, 136, 137, 788, 256, 257, 16, 258, 43, 789, 248, 249, 193, 194, 195, 20, 196, 50, 790, 791, 792, 793, 52, 912, 913, 914, 915, 916, 917, 918, 919, 920, 929, 930, 931, 932, 933, 934] (by decide +kernel) (by decide +kernel)) (goodIn_sub (fun _ h => List.mem_append_left _ (List.mem_append_right _ h)) (by decide +kernel))) (goodIn_sub (fun _ h => List.mem_append_left _ (List.mem_append_left _ (List.mem_append_right _ h))) (by decide +kernel))
set_option maxRecDepth 20000 in
theorem gL_law_L_ofPlace : GoodIn wsL_law (va_wsS RL 161 yL_ofPlace wsL_ofPlace) := goodIn_app (goodIn_of _ (by decide +kernel)) ggL_law_L_ofPlace
set_option maxRecDepth 20000 in
theorem ggL_law_X9_ofPlace : GoodIn wsL_law wsX9_ofPlace := goodIn_r _ [797, 146, 42, 87, 89, 90, 149, 150, 5, 151, 152, 153, 154, 155, 156, 157, 158, 159, 160, 161, 294, 295, 296, 921, 922, 923, 924, 925, 926, 927, 928] (by decide +kernel) (by decide +kernel)
set_option maxRecDepth 20000 in
theorem gL_law_X9_ofPlace : GoodIn wsL_law (wsV RL 163 RX9 yX9_ofPlace wsX9_ofPlace) := goodIn_app (goodIn_of _ (by decide +kernel)) ggL_law_X9_ofPlace
set_option maxHeartbeats 4000000 in
set_option maxRecDepth 100000 in
theorem lc_word_1 {p : Program} {l : Launch} {e : Env} {s : State} {m : MethodId} {below : List Frame} {meth : Method} {c : Code} {b dz : Nat} {xs : Nat → Int32} {G : iG} {Q : State → Prop} (hst : l.stackTraces = false) (hx : p.tables.exec = Jvm.exec) (hb : c.code = cL_law) (hml : c.maxLocals = 9) (hts : ∀ w ∈ wsL_law, w.before #[Value.ref b] s = true) (hown : s.vm.findClass RL = some m.cls) (hX : va_X b 6 xs s s.heap) (hbl : b < s.heap.size) (hK : KB G s) (hV : VX s) (hZt : ZT (aA s) s s.heap) (hZ : ZD dz (aA s) s s.heap) {ad : Nat → Nat} {C : Nat → va_E} {H : Heap} {locs : List Loc} {ls : Array Slot} (hcam : Cam G 83 ad C 0 S0) (hmod : Mod G 83 ad C 74 dz (nI 0)) (glo : C 81 = la G 1 (fun _ => 0)) (hP : va_P G.1 vwB (wl 83 ad C) H) (hD : va_D (aA s) (wl 83 ad C)) (hS : va_S (aA s) s.heap H locs) (hl : lv_has ls 9 [(5, .int (nI 0)), (4, .ref (ad 82)), (3, .ref (ad 81)), (2, .ref (ad 74)), (1, .ref (ad 0)), (0, .ref b)]) (kt : ∀ (H : Heap) (locs : List Loc) (ls : Array Slot), va_S (aA s) s.heap H locs → lv_has ls 9 [(5, .int (nI 0)), (0, .ref b)] → W p l e room_1 s m #[Value.ref b] below meth c H locs 300 6500 Q (F0 m 1906 ls [])) (k : Int32) (hx1 : xs 1 = k) : W p l e room_1 s m #[Value.ref b] below meth c H locs 83 1901 Q (F0 m 1037 ls []) := by
  have hbA : ¬ aA s b := Nat.not_le.mpr hbl
  have hA : ∀ q : Nat, s.heap.size ≤ q → aA s q := fun _ h => h
  refine lv_aload_n hx hb dL_law_1037 rfl (lv_at hl 4 rfl) ?_
  refine lv_aload_n hx hb dL_law_1038 rfl (lv_at hl 5 rfl) ?_
  refine lv_iload hx hb dL_law_1039 (lv_at hl 0 rfl) ?_
  refine lv_iconst (v := nI 1) hx hb dL_law_1041 (by decide) ?_
  refine lv_iadd hx hb dL_law_1042 ?_
  refine lv_asI (y := nI 1) (by decide) ?_
  refine va_sld hx hb hX hbl hbA hS (vp_in_nI (by decide) (by decide)) dL_law_1043 ?_
  refine lv_asI (y := k) ((congrArg xs (nI_clamp (by decide))).trans hx1) ?_
  refine lv_aload_n hx hb dL_law_1044 rfl (lv_at hl 2 rfl) ?_
  refine iwx_i (vx_runSX (hh := [(0, 9, 12, 13)]) (As := [.ref (ad 0), .int k, .ref (ad 81)]) (rest := []) ⟨hx, hb, hml, hown, hts⟩ (wL_word_1 l hst G 83 ad _ 0 S0 hcam 81 k (i_all k) _) (vx_cwSW 3 hts gL_law_L_word rfl rfl rfl (by decide +kernel) ⟨Nat.le_of_ble_eq_true rfl, Nat.le_of_ble_eq_true rfl⟩) (iPSX hK hV hZt hS hA hP hD [.ref (ad 0), .int k, .ref (ad 81)]) rfl rfl hl.1 rfl (lv_room (Nat.le_of_ble_eq_true rfl)) dL_law_1045 ⟨Nat.le_of_ble_eq_true rfl, Nat.le_of_ble_eq_true rfl⟩) hD hS hA (fun r8 u8 H locs hw8 hP hD hS => ?_)
  obtain ⟨hr8, hu8⟩ := hw8
  rw [hu8] at hP hD
  refine lv_asI hr8 ?_
  refine lv_istore (lv' := [(6, .int (nI 1)), (5, .int (nI 0)), (4, .ref (ad 82)), (3, .ref (ad 81)), (2, .ref (ad 74)), (1, .ref (ad 0)), (0, .ref b)]) hx hb dL_law_1048 hl (by decide) rfl (fun ls hl => ?_)
  refine lv_aload_n hx hb dL_law_1050 rfl (lv_at hl 4 rfl) ?_
  refine lv_aload_n hx hb dL_law_1051 rfl (lv_at hl 6 rfl) ?_
  refine lv_iload hx hb dL_law_1052 (lv_at hl 1 rfl) ?_
  refine lv_iconst (v := nI 1) hx hb dL_law_1054 (by decide) ?_
  refine lv_iadd hx hb dL_law_1055 ?_
  refine lv_asI (y := nI 1) (by decide) ?_
  refine va_sld hx hb hX hbl hbA hS (vp_in_nI (by decide) (by decide)) dL_law_1056 ?_
  refine lv_asI (y := k) ((congrArg xs (nI_clamp (by decide))).trans hx1) ?_
  refine iw_i (va_runV (As := [.int k]) (rest := []) ⟨hx, hb, hml, hown, hts⟩ (kX9_word_ l G 83 ad _ 74 dz (nI 0) hmod k _) (cwV 1 hts gL_law_X9_word_ rfl rfl rfl (by decide +kernel) ⟨Nat.le_of_ble_eq_true rfl, Nat.le_of_ble_eq_true rfl⟩) (iPVV hK hV hP hD (by decide) (hmod.2.1) rfl [.int k]) rfl rfl hl.1 rfl (lv_room (Nat.le_of_ble_eq_true rfl)) dL_law_1057 ⟨Nat.le_of_ble_eq_true rfl, Nat.le_of_ble_eq_true rfl⟩) hD hS hA (fun r9 u9 H locs hw9 hP hD hS => ?_)
  obtain ⟨hr9, ⟨d9, ht9⟩, hm9⟩ := hw9
  refine lv_asI (y := nI 0) hr9 ?_
  refine lv_istore (lv' := [(7, .int (nI 0)), (6, .int (nI 1)), (5, .int (nI 0)), (4, .ref (ad 82)), (3, .ref (ad 81)), (2, .ref (ad 74)), (1, .ref (ad 0)), (0, .ref b)]) hx hb dL_law_1060 hl (by decide) rfl (fun ls hl => ?_)
  refine lv_aload_n hx hb dL_law_1062 rfl (lv_at hl 5 rfl) ?_
  refine iw_i (va_runV (As := []) (rest := []) ⟨hx, hb, hml, hown, hts⟩ (kX9_thrown l G 83 ad _ 74 (by decide) (nI 1) d9 ht9 _) (cwV 0 hts gL_law_X9_thrown rfl rfl rfl (by decide +kernel) ⟨Nat.le_of_ble_eq_true rfl, Nat.le_of_ble_eq_true rfl⟩) (iPV hK hP hD (by decide) (ht9) rfl []) rfl rfl hl.1 rfl (lv_room (Nat.le_of_ble_eq_true rfl)) dL_law_1063 ⟨Nat.le_of_ble_eq_true rfl, Nat.le_of_ble_eq_true rfl⟩) hD hS hA (fun r7 u7 H locs hw7 hP hD hS => ?_)
  obtain ⟨hr7, hu7⟩ := hw7
  rw [hu7] at hP hD
  refine lv_asI hr7 ?_
  refine lv_iload hx hb dL_law_1066 (lv_at hl 1 rfl) ?_
  refine lv_icmp_eq (tgt := 1073) hx hb dL_law_1068 (by decide) (fun _ => ?_) (fun c9 => absurd (by decide) c9)
  refine lv_iload hx hb dL_law_1073 (lv_at hl 1 rfl) ?_
  refine lv_if_ne (tgt := 1090) hx hb dL_law_1075 (by decide) (fun _ => ?_) (fun c9 => absurd c9 (by decide))
  refine lv_goto (tgt := 1906) hx hb dL_law_1090 (by decide) ?_
  refine W.widen (k := 300) (n := 6500) (Nat.le_of_ble_eq_true rfl) (Nat.le_of_ble_eq_true rfl) ?_
  exact kt H locs ls hS (lv_sub hl [2, 7] rfl)
set_option maxHeartbeats 4000000 in
set_option maxRecDepth 100000 in
theorem lc_ofFrame_1 {p : Program} {l : Launch} {e : Env} {s : State} {m : MethodId} {below : List Frame} {meth : Method} {c : Code} {b dz : Nat} {xs : Nat → Int32} {G : iG} {Q : State → Prop} (hst : l.stackTraces = false) (hx : p.tables.exec = Jvm.exec) (hb : c.code = cL_law) (hml : c.maxLocals = 9) (hts : ∀ w ∈ wsL_law, w.before #[Value.ref b] s = true) (hown : s.vm.findClass RL = some m.cls) (hX : va_X b 6 xs s s.heap) (hbl : b < s.heap.size) (hK : KB G s) (hV : VX s) (hZt : ZT (aA s) s s.heap) (hZ : ZD dz (aA s) s s.heap) {ad : Nat → Nat} {C : Nat → va_E} {H : Heap} {locs : List Loc} {ls : Array Slot} (hcam : Cam G 83 ad C 0 S0) (hmod : Mod G 83 ad C 74 dz (nI 0)) (glo : C 81 = la G 1 (fun _ => 0)) (hP : va_P G.1 vwB (wl 83 ad C) H) (hD : va_D (aA s) (wl 83 ad C)) (hS : va_S (aA s) s.heap H locs) (hl : lv_has ls 9 [(5, .int (nI 0)), (4, .ref (ad 82)), (3, .ref (ad 81)), (2, .ref (ad 74)), (1, .ref (ad 0)), (0, .ref b)]) (kt : ∀ (H : Heap) (locs : List Loc) (ls : Array Slot), va_S (aA s) s.heap H locs → lv_has ls 9 [(5, .int (nI 0)), (0, .ref b)] → W p l e room_1 s m #[Value.ref b] below meth c H locs 300 6500 Q (F0 m 1906 ls [])) (k y0 : Int32) (hx1 : xs 1 = k) (hx2 : xs 2 = y0) : W p l e room_1 s m #[Value.ref b] below meth c H locs 83 1901 Q (F0 m 1093 ls []) := by
  have hbA : ¬ aA s b := Nat.not_le.mpr hbl
  have hA : ∀ q : Nat, s.heap.size ≤ q → aA s q := fun _ h => h
  refine lv_aload_n hx hb dL_law_1093 rfl (lv_at hl 4 rfl) ?_
  refine lv_aload_n hx hb dL_law_1094 rfl (lv_at hl 5 rfl) ?_
  refine lv_iload hx hb dL_law_1095 (lv_at hl 0 rfl) ?_
  refine lv_iconst (v := nI 1) hx hb dL_law_1097 (by decide) ?_
  refine lv_iadd hx hb dL_law_1098 ?_
  refine lv_asI (y := nI 1) (by decide) ?_
  refine va_sld hx hb hX hbl hbA hS (vp_in_nI (by decide) (by decide)) dL_law_1099 ?_
  refine lv_asI (y := k) ((congrArg xs (nI_clamp (by decide))).trans hx1) ?_
  refine lv_aload_n hx hb dL_law_1100 rfl (lv_at hl 5 rfl) ?_
  refine lv_iload hx hb dL_law_1101 (lv_at hl 0 rfl) ?_
  refine lv_iconst (v := nI 2) hx hb dL_law_1103 (by decide) ?_
  refine lv_iadd hx hb dL_law_1104 ?_
  refine lv_asI (y := nI 2) (by decide) ?_
  refine va_sld hx hb hX hbl hbA hS (vp_in_nI (by decide) (by decide)) dL_law_1105 ?_
  refine lv_asI (y := y0) ((congrArg xs (nI_clamp (by decide))).trans hx2) ?_
  refine lv_aload_n hx hb dL_law_1106 rfl (lv_at hl 2 rfl) ?_
  refine iwx_i (vx_runSX (hh := [(0, 10, 13, 13), (0, 10, 17, 15)]) (As := [.ref (ad 0), .int k, .int y0, .ref (ad 81)]) (rest := []) ⟨hx, hb, hml, hown, hts⟩ (wL_ofFrame_1 l hst G 83 ad _ 0 S0 hcam 81 k y0 (i_all k) _) (vx_cwSW 4 hts gL_law_L_ofFrame rfl rfl rfl (by decide +kernel) ⟨Nat.le_of_ble_eq_true rfl, Nat.le_of_ble_eq_true rfl⟩) (iPSX hK hV hZt hS hA hP hD [.ref (ad 0), .int k, .int y0, .ref (ad 81)]) rfl rfl hl.1 rfl (lv_room (Nat.le_of_ble_eq_true rfl)) dL_law_1107 ⟨Nat.le_of_ble_eq_true rfl, Nat.le_of_ble_eq_true rfl⟩) hD hS hA (fun r8 u8 H locs hw8 hP hD hS => ?_)
  obtain ⟨hr8, hu8⟩ := hw8
  rw [hu8] at hP hD
  refine lv_asI hr8 ?_
  refine lv_istore (lv' := [(6, .int (nI 1)), (5, .int (nI 0)), (4, .ref (ad 82)), (3, .ref (ad 81)), (2, .ref (ad 74)), (1, .ref (ad 0)), (0, .ref b)]) hx hb dL_law_1110 hl (by decide) rfl (fun ls hl => ?_)
  refine lv_aload_n hx hb dL_law_1112 rfl (lv_at hl 4 rfl) ?_
  refine lv_aload_n hx hb dL_law_1113 rfl (lv_at hl 6 rfl) ?_
  refine lv_iload hx hb dL_law_1114 (lv_at hl 1 rfl) ?_
  refine lv_iconst (v := nI 1) hx hb dL_law_1116 (by decide) ?_
  refine lv_iadd hx hb dL_law_1117 ?_
  refine lv_asI (y := nI 1) (by decide) ?_
  refine va_sld hx hb hX hbl hbA hS (vp_in_nI (by decide) (by decide)) dL_law_1118 ?_
  refine lv_asI (y := k) ((congrArg xs (nI_clamp (by decide))).trans hx1) ?_
  refine lv_aload_n hx hb dL_law_1119 rfl (lv_at hl 6 rfl) ?_
  refine lv_iload hx hb dL_law_1120 (lv_at hl 1 rfl) ?_
  refine lv_iconst (v := nI 2) hx hb dL_law_1122 (by decide) ?_
  refine lv_iadd hx hb dL_law_1123 ?_
  refine lv_asI (y := nI 2) (by decide) ?_
  refine va_sld hx hb hX hbl hbA hS (vp_in_nI (by decide) (by decide)) dL_law_1124 ?_
  refine lv_asI (y := y0) ((congrArg xs (nI_clamp (by decide))).trans hx2) ?_
  refine iw_i (va_runV (As := [.int k, .int y0]) (rest := []) ⟨hx, hb, hml, hown, hts⟩ (kX9_ofFrame l G 83 ad _ 74 dz (nI 0) hmod k y0 _) (cwV 2 hts gL_law_X9_ofFrame rfl rfl rfl (by decide +kernel) ⟨Nat.le_of_ble_eq_true rfl, Nat.le_of_ble_eq_true rfl⟩) (iPVV hK hV hP hD (by decide) (hmod.2.1) rfl [.int k, .int y0]) rfl rfl hl.1 rfl (lv_room (Nat.le_of_ble_eq_true rfl)) dL_law_1125 ⟨Nat.le_of_ble_eq_true rfl, Nat.le_of_ble_eq_true rfl⟩) hD hS hA (fun r9 u9 H locs hw9 hP hD hS => ?_)
  obtain ⟨hr9, ⟨d9, ht9⟩, hm9⟩ := hw9
  refine lv_asI (y := nI 0) hr9 ?_
  refine lv_istore (lv' := [(7, .int (nI 0)), (6, .int (nI 1)), (5, .int (nI 0)), (4, .ref (ad 82)), (3, .ref (ad 81)), (2, .ref (ad 74)), (1, .ref (ad 0)), (0, .ref b)]) hx hb dL_law_1128 hl (by decide) rfl (fun ls hl => ?_)
  refine lv_aload_n hx hb dL_law_1130 rfl (lv_at hl 5 rfl) ?_
  refine iw_i (va_runV (As := []) (rest := []) ⟨hx, hb, hml, hown, hts⟩ (kX9_thrown l G 83 ad _ 74 (by decide) (nI 1) d9 ht9 _) (cwV 0 hts gL_law_X9_thrown rfl rfl rfl (by decide +kernel) ⟨Nat.le_of_ble_eq_true rfl, Nat.le_of_ble_eq_true rfl⟩) (iPV hK hP hD (by decide) (ht9) rfl []) rfl rfl hl.1 rfl (lv_room (Nat.le_of_ble_eq_true rfl)) dL_law_1131 ⟨Nat.le_of_ble_eq_true rfl, Nat.le_of_ble_eq_true rfl⟩) hD hS hA (fun r7 u7 H locs hw7 hP hD hS => ?_)
  obtain ⟨hr7, hu7⟩ := hw7
  rw [hu7] at hP hD
  refine lv_asI hr7 ?_
  refine lv_iload hx hb dL_law_1134 (lv_at hl 1 rfl) ?_
  refine lv_icmp_eq (tgt := 1141) hx hb dL_law_1136 (by decide) (fun _ => ?_) (fun c9 => absurd (by decide) c9)
  refine lv_iload hx hb dL_law_1141 (lv_at hl 1 rfl) ?_
  refine lv_if_ne (tgt := 1158) hx hb dL_law_1143 (by decide) (fun _ => ?_) (fun c9 => absurd c9 (by decide))
  refine lv_goto (tgt := 1906) hx hb dL_law_1158 (by decide) ?_
  refine W.widen (k := 300) (n := 6500) (Nat.le_of_ble_eq_true rfl) (Nat.le_of_ble_eq_true rfl) ?_
  exact kt H locs ls hS (lv_sub hl [2, 7] rfl)
set_option maxHeartbeats 4000000 in
set_option maxRecDepth 100000 in
theorem lc_ofEdit_1 {p : Program} {l : Launch} {e : Env} {s : State} {m : MethodId} {below : List Frame} {meth : Method} {c : Code} {b dz : Nat} {xs : Nat → Int32} {G : iG} {Q : State → Prop} (hst : l.stackTraces = false) (hx : p.tables.exec = Jvm.exec) (hb : c.code = cL_law) (hml : c.maxLocals = 9) (hts : ∀ w ∈ wsL_law, w.before #[Value.ref b] s = true) (hown : s.vm.findClass RL = some m.cls) (hX : va_X b 6 xs s s.heap) (hbl : b < s.heap.size) (hK : KB G s) (hV : VX s) (hZt : ZT (aA s) s s.heap) (hZ : ZD dz (aA s) s s.heap) {ad : Nat → Nat} {C : Nat → va_E} {H : Heap} {locs : List Loc} {ls : Array Slot} (hcam : Cam G 83 ad C 0 S0) (hmod : Mod G 83 ad C 74 dz (nI 0)) (glo : C 81 = la G 1 (fun _ => 0)) (hP : va_P G.1 vwB (wl 83 ad C) H) (hD : va_D (aA s) (wl 83 ad C)) (hS : va_S (aA s) s.heap H locs) (hl : lv_has ls 9 [(5, .int (nI 0)), (4, .ref (ad 82)), (3, .ref (ad 81)), (2, .ref (ad 74)), (1, .ref (ad 0)), (0, .ref b)]) (kt : ∀ (H : Heap) (locs : List Loc) (ls : Array Slot), va_S (aA s) s.heap H locs → lv_has ls 9 [(5, .int (nI 0)), (0, .ref b)] → W p l e room_1 s m #[Value.ref b] below meth c H locs 300 6500 Q (F0 m 1906 ls [])) (k y0 y1 : Int32) (hx1 : xs 1 = k) (hx2 : xs 2 = y0) (hx3 : xs 3 = y1) : W p l e room_1 s m #[Value.ref b] below meth c H locs 83 1901 Q (F0 m 1161 ls []) := by
  have hbA : ¬ aA s b := Nat.not_le.mpr hbl
  have hA : ∀ q : Nat, s.heap.size ≤ q → aA s q := fun _ h => h
  refine lv_aload_n hx hb dL_law_1161 rfl (lv_at hl 4 rfl) ?_
  refine lv_aload_n hx hb dL_law_1162 rfl (lv_at hl 5 rfl) ?_
  refine lv_iload hx hb dL_law_1163 (lv_at hl 0 rfl) ?_
  refine lv_iconst (v := nI 1) hx hb dL_law_1165 (by decide) ?_
  refine lv_iadd hx hb dL_law_1166 ?_
  refine lv_asI (y := nI 1) (by decide) ?_
  refine va_sld hx hb hX hbl hbA hS (vp_in_nI (by decide) (by decide)) dL_law_1167 ?_
  refine lv_asI (y := k) ((congrArg xs (nI_clamp (by decide))).trans hx1) ?_
  refine lv_aload_n hx hb dL_law_1168 rfl (lv_at hl 5 rfl) ?_
  refine lv_iload hx hb dL_law_1169 (lv_at hl 0 rfl) ?_
  refine lv_iconst (v := nI 2) hx hb dL_law_1171 (by decide) ?_
  refine lv_iadd hx hb dL_law_1172 ?_
  refine lv_asI (y := nI 2) (by decide) ?_
  refine va_sld hx hb hX hbl hbA hS (vp_in_nI (by decide) (by decide)) dL_law_1173 ?_
  refine lv_asI (y := y0) ((congrArg xs (nI_clamp (by decide))).trans hx2) ?_
  refine lv_aload_n hx hb dL_law_1174 rfl (lv_at hl 5 rfl) ?_
  refine lv_iload hx hb dL_law_1175 (lv_at hl 0 rfl) ?_
  refine lv_iconst (v := nI 3) hx hb dL_law_1177 (by decide) ?_
  refine lv_iadd hx hb dL_law_1178 ?_
  refine lv_asI (y := nI 3) (by decide) ?_
  refine va_sld hx hb hX hbl hbA hS (vp_in_nI (by decide) (by decide)) dL_law_1179 ?_
  refine lv_asI (y := y1) ((congrArg xs (nI_clamp (by decide))).trans hx3) ?_
  refine lv_aload_n hx hb dL_law_1180 rfl (lv_at hl 2 rfl) ?_
  refine iwx_i (vx_runSX (hh := [(0, 12, 15, 13), (0, 12, 19, 15)]) (As := [.ref (ad 0), .int k, .int y0, .int y1, .ref (ad 81)]) (rest := []) ⟨hx, hb, hml, hown, hts⟩ (wL_ofEdit_1 l hst G 83 ad _ 0 S0 hcam 81 k y0 y1 (i_all k) _) (vx_cwSW 5 hts gL_law_L_ofEdit rfl rfl rfl (by decide +kernel) ⟨Nat.le_of_ble_eq_true rfl, Nat.le_of_ble_eq_true rfl⟩) (iPSX hK hV hZt hS hA hP hD [.ref (ad 0), .int k, .int y0, .int y1, .ref (ad 81)]) rfl rfl hl.1 rfl (lv_room (Nat.le_of_ble_eq_true rfl)) dL_law_1181 ⟨Nat.le_of_ble_eq_true rfl, Nat.le_of_ble_eq_true rfl⟩) hD hS hA (fun r8 u8 H locs hw8 hP hD hS => ?_)
  obtain ⟨hr8, hu8⟩ := hw8
  rw [hu8] at hP hD
  refine lv_asI hr8 ?_
  refine lv_istore (lv' := [(6, .int (nI 1)), (5, .int (nI 0)), (4, .ref (ad 82)), (3, .ref (ad 81)), (2, .ref (ad 74)), (1, .ref (ad 0)), (0, .ref b)]) hx hb dL_law_1184 hl (by decide) rfl (fun ls hl => ?_)
  refine lv_aload_n hx hb dL_law_1186 rfl (lv_at hl 4 rfl) ?_
  refine lv_aload_n hx hb dL_law_1187 rfl (lv_at hl 6 rfl) ?_
  refine lv_iload hx hb dL_law_1188 (lv_at hl 1 rfl) ?_
  refine lv_iconst (v := nI 1) hx hb dL_law_1190 (by decide) ?_
  refine lv_iadd hx hb dL_law_1191 ?_
  refine lv_asI (y := nI 1) (by decide) ?_
  refine va_sld hx hb hX hbl hbA hS (vp_in_nI (by decide) (by decide)) dL_law_1192 ?_
  refine lv_asI (y := k) ((congrArg xs (nI_clamp (by decide))).trans hx1) ?_
  refine lv_aload_n hx hb dL_law_1193 rfl (lv_at hl 6 rfl) ?_
  refine lv_iload hx hb dL_law_1194 (lv_at hl 1 rfl) ?_
  refine lv_iconst (v := nI 2) hx hb dL_law_1196 (by decide) ?_
  refine lv_iadd hx hb dL_law_1197 ?_
  refine lv_asI (y := nI 2) (by decide) ?_
  refine va_sld hx hb hX hbl hbA hS (vp_in_nI (by decide) (by decide)) dL_law_1198 ?_
  refine lv_asI (y := y0) ((congrArg xs (nI_clamp (by decide))).trans hx2) ?_
  refine lv_aload_n hx hb dL_law_1199 rfl (lv_at hl 6 rfl) ?_
  refine lv_iload hx hb dL_law_1200 (lv_at hl 1 rfl) ?_
  refine lv_iconst (v := nI 3) hx hb dL_law_1202 (by decide) ?_
  refine lv_iadd hx hb dL_law_1203 ?_
  refine lv_asI (y := nI 3) (by decide) ?_
  refine va_sld hx hb hX hbl hbA hS (vp_in_nI (by decide) (by decide)) dL_law_1204 ?_
  refine lv_asI (y := y1) ((congrArg xs (nI_clamp (by decide))).trans hx3) ?_
  refine iw_i (va_runV (As := [.int k, .int y0, .int y1]) (rest := []) ⟨hx, hb, hml, hown, hts⟩ (kX9_ofEdit l G 83 ad _ 74 dz (nI 0) hmod k y0 y1 _) (cwV 3 hts gL_law_X9_ofEdit rfl rfl rfl (by decide +kernel) ⟨Nat.le_of_ble_eq_true rfl, Nat.le_of_ble_eq_true rfl⟩) (iPVV hK hV hP hD (by decide) (hmod.2.1) rfl [.int k, .int y0, .int y1]) rfl rfl hl.1 rfl (lv_room (Nat.le_of_ble_eq_true rfl)) dL_law_1205 ⟨Nat.le_of_ble_eq_true rfl, Nat.le_of_ble_eq_true rfl⟩) hD hS hA (fun r9 u9 H locs hw9 hP hD hS => ?_)
  obtain ⟨hr9, ⟨d9, ht9⟩, hm9⟩ := hw9
  refine lv_asI (y := nI 0) hr9 ?_
  refine lv_istore (lv' := [(7, .int (nI 0)), (6, .int (nI 1)), (5, .int (nI 0)), (4, .ref (ad 82)), (3, .ref (ad 81)), (2, .ref (ad 74)), (1, .ref (ad 0)), (0, .ref b)]) hx hb dL_law_1208 hl (by decide) rfl (fun ls hl => ?_)
  refine lv_aload_n hx hb dL_law_1210 rfl (lv_at hl 5 rfl) ?_
  refine iw_i (va_runV (As := []) (rest := []) ⟨hx, hb, hml, hown, hts⟩ (kX9_thrown l G 83 ad _ 74 (by decide) (nI 1) d9 ht9 _) (cwV 0 hts gL_law_X9_thrown rfl rfl rfl (by decide +kernel) ⟨Nat.le_of_ble_eq_true rfl, Nat.le_of_ble_eq_true rfl⟩) (iPV hK hP hD (by decide) (ht9) rfl []) rfl rfl hl.1 rfl (lv_room (Nat.le_of_ble_eq_true rfl)) dL_law_1211 ⟨Nat.le_of_ble_eq_true rfl, Nat.le_of_ble_eq_true rfl⟩) hD hS hA (fun r7 u7 H locs hw7 hP hD hS => ?_)
  obtain ⟨hr7, hu7⟩ := hw7
  rw [hu7] at hP hD
  refine lv_asI hr7 ?_
  refine lv_iload hx hb dL_law_1214 (lv_at hl 1 rfl) ?_
  refine lv_icmp_eq (tgt := 1221) hx hb dL_law_1216 (by decide) (fun _ => ?_) (fun c9 => absurd (by decide) c9)
  refine lv_iload hx hb dL_law_1221 (lv_at hl 1 rfl) ?_
  refine lv_if_ne (tgt := 1238) hx hb dL_law_1223 (by decide) (fun _ => ?_) (fun c9 => absurd c9 (by decide))
  refine lv_goto (tgt := 1906) hx hb dL_law_1238 (by decide) ?_
  refine W.widen (k := 300) (n := 6500) (Nat.le_of_ble_eq_true rfl) (Nat.le_of_ble_eq_true rfl) ?_
  exact kt H locs ls hS (lv_sub hl [2, 7] rfl)
set_option maxHeartbeats 4000000 in
set_option maxRecDepth 100000 in
theorem lc_zone_1 {p : Program} {l : Launch} {e : Env} {s : State} {m : MethodId} {below : List Frame} {meth : Method} {c : Code} {b dz : Nat} {xs : Nat → Int32} {G : iG} {Q : State → Prop} (hst : l.stackTraces = false) (hx : p.tables.exec = Jvm.exec) (hb : c.code = cL_law) (hml : c.maxLocals = 9) (hts : ∀ w ∈ wsL_law, w.before #[Value.ref b] s = true) (hown : s.vm.findClass RL = some m.cls) (hX : va_X b 6 xs s s.heap) (hbl : b < s.heap.size) (hK : KB G s) (hV : VX s) (hZt : ZT (aA s) s s.heap) (hZ : ZD dz (aA s) s s.heap) {ad : Nat → Nat} {C : Nat → va_E} {H : Heap} {locs : List Loc} {ls : Array Slot} (hcam : Cam G 83 ad C 0 S0) (hmod : Mod G 83 ad C 74 dz (nI 0)) (glo : C 81 = la G 1 (fun _ => 0)) (hP : va_P G.1 vwB (wl 83 ad C) H) (hD : va_D (aA s) (wl 83 ad C)) (hS : va_S (aA s) s.heap H locs) (hl : lv_has ls 9 [(5, .int (nI 0)), (4, .ref (ad 82)), (3, .ref (ad 81)), (2, .ref (ad 74)), (1, .ref (ad 0)), (0, .ref b)]) (kt : ∀ (H : Heap) (locs : List Loc) (ls : Array Slot), va_S (aA s) s.heap H locs → lv_has ls 9 [(5, .int (nI 0)), (0, .ref b)] → W p l e room_1 s m #[Value.ref b] below meth c H locs 300 6500 Q (F0 m 1906 ls [])) (k y0 : Int32) (hx1 : xs 1 = k) (hx2 : xs 2 = y0) : W p l e room_1 s m #[Value.ref b] below meth c H locs 83 1901 Q (F0 m 1241 ls []) := by
  have hbA : ¬ aA s b := Nat.not_le.mpr hbl
  have hA : ∀ q : Nat, s.heap.size ≤ q → aA s q := fun _ h => h
  refine lv_aload_n hx hb dL_law_1241 rfl (lv_at hl 4 rfl) ?_
  refine lv_aload_n hx hb dL_law_1242 rfl (lv_at hl 5 rfl) ?_
  refine lv_iload hx hb dL_law_1243 (lv_at hl 0 rfl) ?_
  refine lv_iconst (v := nI 1) hx hb dL_law_1245 (by decide) ?_
  refine lv_iadd hx hb dL_law_1246 ?_
  refine lv_asI (y := nI 1) (by decide) ?_
  refine va_sld hx hb hX hbl hbA hS (vp_in_nI (by decide) (by decide)) dL_law_1247 ?_
  refine lv_asI (y := k) ((congrArg xs (nI_clamp (by decide))).trans hx1) ?_
  refine lv_aload_n hx hb dL_law_1248 rfl (lv_at hl 5 rfl) ?_
  refine lv_iload hx hb dL_law_1249 (lv_at hl 0 rfl) ?_
  refine lv_iconst (v := nI 2) hx hb dL_law_1251 (by decide) ?_
  refine lv_iadd hx hb dL_law_1252 ?_
  refine lv_asI (y := nI 2) (by decide) ?_
  refine va_sld hx hb hX hbl hbA hS (vp_in_nI (by decide) (by decide)) dL_law_1253 ?_
  refine lv_asI (y := y0) ((congrArg xs (nI_clamp (by decide))).trans hx2) ?_
  refine lv_aload hx hb dL_law_1254 (lv_at hl 1 rfl) ?_
  refine iwx_i (vx_runSX (hh := [(0, 9, 12, 13)]) (As := [.ref (ad 0), .int k, .int y0, .ref (ad 82)]) (rest := []) ⟨hx, hb, hml, hown, hts⟩ (wL_zone_1 l hst G 83 ad _ 0 S0 hcam 82 k y0 (i_all k) _) (vx_cwSW 4 hts gL_law_L_zone rfl rfl rfl (by decide +kernel) ⟨Nat.le_of_ble_eq_true rfl, Nat.le_of_ble_eq_true rfl⟩) (iPSX hK hV hZt hS hA hP hD [.ref (ad 0), .int k, .int y0, .ref (ad 82)]) rfl rfl hl.1 rfl (lv_room (Nat.le_of_ble_eq_true rfl)) dL_law_1256 ⟨Nat.le_of_ble_eq_true rfl, Nat.le_of_ble_eq_true rfl⟩) hD hS hA (fun r8 u8 H locs hw8 hP hD hS => ?_)
  obtain ⟨hr8, hu8⟩ := hw8
  rw [hu8] at hP hD
  refine lv_asI hr8 ?_
  refine lv_istore (lv' := [(6, .int (nI 1)), (5, .int (nI 0)), (4, .ref (ad 82)), (3, .ref (ad 81)), (2, .ref (ad 74)), (1, .ref (ad 0)), (0, .ref b)]) hx hb dL_law_1259 hl (by decide) rfl (fun ls hl => ?_)
  refine lv_aload_n hx hb dL_law_1261 rfl (lv_at hl 4 rfl) ?_
  refine lv_aload_n hx hb dL_law_1262 rfl (lv_at hl 6 rfl) ?_
  refine lv_iload hx hb dL_law_1263 (lv_at hl 1 rfl) ?_
  refine lv_iconst (v := nI 1) hx hb dL_law_1265 (by decide) ?_
  refine lv_iadd hx hb dL_law_1266 ?_
  refine lv_asI (y := nI 1) (by decide) ?_
  refine va_sld hx hb hX hbl hbA hS (vp_in_nI (by decide) (by decide)) dL_law_1267 ?_
  refine lv_asI (y := k) ((congrArg xs (nI_clamp (by decide))).trans hx1) ?_
  refine lv_aload_n hx hb dL_law_1268 rfl (lv_at hl 6 rfl) ?_
  refine lv_iload hx hb dL_law_1269 (lv_at hl 1 rfl) ?_
  refine lv_iconst (v := nI 2) hx hb dL_law_1271 (by decide) ?_
  refine lv_iadd hx hb dL_law_1272 ?_
  refine lv_asI (y := nI 2) (by decide) ?_
  refine va_sld hx hb hX hbl hbA hS (vp_in_nI (by decide) (by decide)) dL_law_1273 ?_
  refine lv_asI (y := y0) ((congrArg xs (nI_clamp (by decide))).trans hx2) ?_
  refine iw_d (va_runV (As := [.int k, .int y0]) (rest := []) ⟨hx, hb, hml, hown, hts⟩ (kX9_zone l G 83 ad _ 74 dz (nI 0) hmod k y0 _) (cwV 2 hts gL_law_X9_zone rfl rfl rfl (by decide +kernel) ⟨Nat.le_of_ble_eq_true rfl, Nat.le_of_ble_eq_true rfl⟩) (iPVV hK hV hP hD (by decide) (hmod.2.1) rfl [.int k, .int y0]) rfl rfl hl.1 rfl (lv_room (Nat.le_of_ble_eq_true rfl)) dL_law_1274 ⟨Nat.le_of_ble_eq_true rfl, Nat.le_of_ble_eq_true rfl⟩) hD hS hA (fun r9 u9 H locs hw9 hP hD hS => ?_)
  obtain ⟨hr9, ⟨d9, ht9⟩, hm9⟩ := hw9
  refine lv_asD hr9 ?_
  refine lv_dstore (lv' := [(7, .double (FP.i2d (nI 0))), (6, .int (nI 1)), (5, .int (nI 0)), (4, .ref (ad 82)), (3, .ref (ad 81)), (2, .ref (ad 74)), (1, .ref (ad 0)), (0, .ref b)]) hx hb dL_law_1277 hl (by decide) rfl (fun ls hl => ?_)
  refine lv_aload_n hx hb dL_law_1279 rfl (lv_at hl 5 rfl) ?_
  refine iw_i (va_runV (As := []) (rest := []) ⟨hx, hb, hml, hown, hts⟩ (kX9_thrown l G 83 ad _ 74 (by decide) (nI 1) d9 ht9 _) (cwV 0 hts gL_law_X9_thrown rfl rfl rfl (by decide +kernel) ⟨Nat.le_of_ble_eq_true rfl, Nat.le_of_ble_eq_true rfl⟩) (iPV hK hP hD (by decide) (ht9) rfl []) rfl rfl hl.1 rfl (lv_room (Nat.le_of_ble_eq_true rfl)) dL_law_1280 ⟨Nat.le_of_ble_eq_true rfl, Nat.le_of_ble_eq_true rfl⟩) hD hS hA (fun r7 u7 H locs hw7 hP hD hS => ?_)
  obtain ⟨hr7, hu7⟩ := hw7
  rw [hu7] at hP hD
  refine lv_asI hr7 ?_
  refine lv_iload hx hb dL_law_1283 (lv_at hl 1 rfl) ?_
  refine lv_icmp_eq (tgt := 1290) hx hb dL_law_1285 (by decide) (fun _ => ?_) (fun c9 => absurd (by decide) c9)
  refine lv_iload hx hb dL_law_1290 (lv_at hl 1 rfl) ?_
  refine lv_if_ne (tgt := 1327) hx hb dL_law_1292 (by decide) (fun _ => ?_) (fun c9 => absurd c9 (by decide))
  refine lv_goto (tgt := 1906) hx hb dL_law_1327 (by decide) ?_
  refine W.widen (k := 300) (n := 6500) (Nat.le_of_ble_eq_true rfl) (Nat.le_of_ble_eq_true rfl) ?_
  exact kt H locs ls hS (lv_sub hl [2, 7] rfl)
set_option maxHeartbeats 4000000 in
set_option maxRecDepth 100000 in
theorem lc_meter_1 {p : Program} {l : Launch} {e : Env} {s : State} {m : MethodId} {below : List Frame} {meth : Method} {c : Code} {b dz : Nat} {xs : Nat → Int32} {G : iG} {Q : State → Prop} (hst : l.stackTraces = false) (hx : p.tables.exec = Jvm.exec) (hb : c.code = cL_law) (hml : c.maxLocals = 9) (hts : ∀ w ∈ wsL_law, w.before #[Value.ref b] s = true) (hown : s.vm.findClass RL = some m.cls) (hX : va_X b 6 xs s s.heap) (hbl : b < s.heap.size) (hK : KB G s) (hV : VX s) (hZt : ZT (aA s) s s.heap) (hZ : ZD dz (aA s) s s.heap) {ad : Nat → Nat} {C : Nat → va_E} {H : Heap} {locs : List Loc} {ls : Array Slot} (hcam : Cam G 83 ad C 0 S0) (hmod : Mod G 83 ad C 74 dz (nI 0)) (glo : C 81 = la G 1 (fun _ => 0)) (hP : va_P G.1 vwB (wl 83 ad C) H) (hD : va_D (aA s) (wl 83 ad C)) (hS : va_S (aA s) s.heap H locs) (hl : lv_has ls 9 [(5, .int (nI 0)), (4, .ref (ad 82)), (3, .ref (ad 81)), (2, .ref (ad 74)), (1, .ref (ad 0)), (0, .ref b)]) (kt : ∀ (H : Heap) (locs : List Loc) (ls : Array Slot), va_S (aA s) s.heap H locs → lv_has ls 9 [(5, .int (nI 0)), (0, .ref b)] → W p l e room_1 s m #[Value.ref b] below meth c H locs 300 6500 Q (F0 m 1906 ls [])) (k : Int32) (hx1 : xs 1 = k) : W p l e room_1 s m #[Value.ref b] below meth c H locs 83 1901 Q (F0 m 1330 ls []) := by
  have hbA : ¬ aA s b := Nat.not_le.mpr hbl
  have hA : ∀ q : Nat, s.heap.size ≤ q → aA s q := fun _ h => h
  refine lv_aload_n hx hb dL_law_1330 rfl (lv_at hl 4 rfl) ?_
  refine lv_aload_n hx hb dL_law_1331 rfl (lv_at hl 5 rfl) ?_
  refine lv_iload hx hb dL_law_1332 (lv_at hl 0 rfl) ?_
  refine lv_iconst (v := nI 1) hx hb dL_law_1334 (by decide) ?_
  refine lv_iadd hx hb dL_law_1335 ?_
  refine lv_asI (y := nI 1) (by decide) ?_
  refine va_sld hx hb hX hbl hbA hS (vp_in_nI (by decide) (by decide)) dL_law_1336 ?_
  refine lv_asI (y := k) ((congrArg xs (nI_clamp (by decide))).trans hx1) ?_
  refine lv_aload hx hb dL_law_1337 (lv_at hl 1 rfl) ?_
  refine iwx_i (vx_runSX (hh := [(0, 8, 11, 13)]) (As := [.ref (ad 0), .int k, .ref (ad 82)]) (rest := []) ⟨hx, hb, hml, hown, hts⟩ (wL_meter_1 l hst G 83 ad _ 0 S0 hcam 82 k (i_all k) _) (vx_cwSW 3 hts gL_law_L_meter rfl rfl rfl (by decide +kernel) ⟨Nat.le_of_ble_eq_true rfl, Nat.le_of_ble_eq_true rfl⟩) (iPSX hK hV hZt hS hA hP hD [.ref (ad 0), .int k, .ref (ad 82)]) rfl rfl hl.1 rfl (lv_room (Nat.le_of_ble_eq_true rfl)) dL_law_1339 ⟨Nat.le_of_ble_eq_true rfl, Nat.le_of_ble_eq_true rfl⟩) hD hS hA (fun r8 u8 H locs hw8 hP hD hS => ?_)
  obtain ⟨hr8, hu8⟩ := hw8
  rw [hu8] at hP hD
  refine lv_asI hr8 ?_
  refine lv_istore (lv' := [(6, .int (nI 1)), (5, .int (nI 0)), (4, .ref (ad 82)), (3, .ref (ad 81)), (2, .ref (ad 74)), (1, .ref (ad 0)), (0, .ref b)]) hx hb dL_law_1342 hl (by decide) rfl (fun ls hl => ?_)
  refine lv_aload_n hx hb dL_law_1344 rfl (lv_at hl 4 rfl) ?_
  refine lv_aload_n hx hb dL_law_1345 rfl (lv_at hl 6 rfl) ?_
  refine lv_iload hx hb dL_law_1346 (lv_at hl 1 rfl) ?_
  refine lv_iconst (v := nI 1) hx hb dL_law_1348 (by decide) ?_
  refine lv_iadd hx hb dL_law_1349 ?_
  refine lv_asI (y := nI 1) (by decide) ?_
  refine va_sld hx hb hX hbl hbA hS (vp_in_nI (by decide) (by decide)) dL_law_1350 ?_
  refine lv_asI (y := k) ((congrArg xs (nI_clamp (by decide))).trans hx1) ?_
  refine iw_d (va_runV (As := [.int k]) (rest := []) ⟨hx, hb, hml, hown, hts⟩ (kX9_meter l G 83 ad _ 74 dz (nI 0) hmod k _) (cwV 1 hts gL_law_X9_meter rfl rfl rfl (by decide +kernel) ⟨Nat.le_of_ble_eq_true rfl, Nat.le_of_ble_eq_true rfl⟩) (iPVV hK hV hP hD (by decide) (hmod.2.1) rfl [.int k]) rfl rfl hl.1 rfl (lv_room (Nat.le_of_ble_eq_true rfl)) dL_law_1351 ⟨Nat.le_of_ble_eq_true rfl, Nat.le_of_ble_eq_true rfl⟩) hD hS hA (fun r9 u9 H locs hw9 hP hD hS => ?_)
  obtain ⟨hr9, ⟨d9, ht9⟩, hm9⟩ := hw9
  refine lv_asD hr9 ?_
  refine lv_dstore (lv' := [(7, .double (FP.i2d (nI 0))), (6, .int (nI 1)), (5, .int (nI 0)), (4, .ref (ad 82)), (3, .ref (ad 81)), (2, .ref (ad 74)), (1, .ref (ad 0)), (0, .ref b)]) hx hb dL_law_1354 hl (by decide) rfl (fun ls hl => ?_)
  refine lv_aload_n hx hb dL_law_1356 rfl (lv_at hl 5 rfl) ?_
  refine iw_i (va_runV (As := []) (rest := []) ⟨hx, hb, hml, hown, hts⟩ (kX9_thrown l G 83 ad _ 74 (by decide) (nI 1) d9 ht9 _) (cwV 0 hts gL_law_X9_thrown rfl rfl rfl (by decide +kernel) ⟨Nat.le_of_ble_eq_true rfl, Nat.le_of_ble_eq_true rfl⟩) (iPV hK hP hD (by decide) (ht9) rfl []) rfl rfl hl.1 rfl (lv_room (Nat.le_of_ble_eq_true rfl)) dL_law_1357 ⟨Nat.le_of_ble_eq_true rfl, Nat.le_of_ble_eq_true rfl⟩) hD hS hA (fun r7 u7 H locs hw7 hP hD hS => ?_)
  obtain ⟨hr7, hu7⟩ := hw7
  rw [hu7] at hP hD
  refine lv_asI hr7 ?_
  refine lv_iload hx hb dL_law_1360 (lv_at hl 1 rfl) ?_
  refine lv_icmp_eq (tgt := 1367) hx hb dL_law_1362 (by decide) (fun _ => ?_) (fun c9 => absurd (by decide) c9)
  refine lv_iload hx hb dL_law_1367 (lv_at hl 1 rfl) ?_
  refine lv_if_ne (tgt := 1404) hx hb dL_law_1369 (by decide) (fun _ => ?_) (fun c9 => absurd c9 (by decide))
  refine lv_goto (tgt := 1906) hx hb dL_law_1404 (by decide) ?_
  refine W.widen (k := 300) (n := 6500) (Nat.le_of_ble_eq_true rfl) (Nat.le_of_ble_eq_true rfl) ?_
  exact kt H locs ls hS (lv_sub hl [2, 7] rfl)
set_option maxHeartbeats 4000000 in
set_option maxRecDepth 100000 in
theorem lc_apart_1 {p : Program} {l : Launch} {e : Env} {s : State} {m : MethodId} {below : List Frame} {meth : Method} {c : Code} {b dz : Nat} {xs : Nat → Int32} {G : iG} {Q : State → Prop} (hst : l.stackTraces = false) (hx : p.tables.exec = Jvm.exec) (hb : c.code = cL_law) (hml : c.maxLocals = 9) (hts : ∀ w ∈ wsL_law, w.before #[Value.ref b] s = true) (hown : s.vm.findClass RL = some m.cls) (hX : va_X b 6 xs s s.heap) (hbl : b < s.heap.size) (hK : KB G s) (hV : VX s) (hZt : ZT (aA s) s s.heap) (hZ : ZD dz (aA s) s s.heap) {ad : Nat → Nat} {C : Nat → va_E} {H : Heap} {locs : List Loc} {ls : Array Slot} (hcam : Cam G 83 ad C 0 S0) (hmod : Mod G 83 ad C 74 dz (nI 0)) (glo : C 81 = la G 1 (fun _ => 0)) (hP : va_P G.1 vwB (wl 83 ad C) H) (hD : va_D (aA s) (wl 83 ad C)) (hS : va_S (aA s) s.heap H locs) (hl : lv_has ls 9 [(5, .int (nI 0)), (4, .ref (ad 82)), (3, .ref (ad 81)), (2, .ref (ad 74)), (1, .ref (ad 0)), (0, .ref b)]) (kt : ∀ (H : Heap) (locs : List Loc) (ls : Array Slot), va_S (aA s) s.heap H locs → lv_has ls 9 [(5, .int (nI 0)), (0, .ref b)] → W p l e room_1 s m #[Value.ref b] below meth c H locs 300 6500 Q (F0 m 1906 ls [])) (k y0 : Int32) (hx1 : xs 1 = k) (hx2 : xs 2 = y0) : W p l e room_1 s m #[Value.ref b] below meth c H locs 83 1901 Q (F0 m 1611 ls []) := by
  have hbA : ¬ aA s b := Nat.not_le.mpr hbl
  have hA : ∀ q : Nat, s.heap.size ≤ q → aA s q := fun _ h => h
  refine lv_aload_n hx hb dL_law_1611 rfl (lv_at hl 4 rfl) ?_
  refine lv_aload_n hx hb dL_law_1612 rfl (lv_at hl 5 rfl) ?_
  refine lv_iload hx hb dL_law_1613 (lv_at hl 0 rfl) ?_
  refine lv_iconst (v := nI 1) hx hb dL_law_1615 (by decide) ?_
  refine lv_iadd hx hb dL_law_1616 ?_
  refine lv_asI (y := nI 1) (by decide) ?_
  refine va_sld hx hb hX hbl hbA hS (vp_in_nI (by decide) (by decide)) dL_law_1617 ?_
  refine lv_asI (y := k) ((congrArg xs (nI_clamp (by decide))).trans hx1) ?_
  refine lv_aload_n hx hb dL_law_1618 rfl (lv_at hl 5 rfl) ?_
  refine lv_iload hx hb dL_law_1619 (lv_at hl 0 rfl) ?_
  refine lv_iconst (v := nI 2) hx hb dL_law_1621 (by decide) ?_
  refine lv_iadd hx hb dL_law_1622 ?_
  refine lv_asI (y := nI 2) (by decide) ?_
  refine va_sld hx hb hX hbl hbA hS (vp_in_nI (by decide) (by decide)) dL_law_1623 ?_
  refine lv_asI (y := y0) ((congrArg xs (nI_clamp (by decide))).trans hx2) ?_
  refine lv_aload hx hb dL_law_1624 (lv_at hl 1 rfl) ?_
  refine iwx_i (vx_runSX (hh := [(0, 9, 12, 13)]) (As := [.ref (ad 0), .int k, .int y0, .ref (ad 82)]) (rest := []) ⟨hx, hb, hml, hown, hts⟩ (wL_apart_1 l hst G 83 ad _ 0 S0 hcam 82 k y0 (i_all k) _) (vx_cwSW 4 hts gL_law_L_apart rfl rfl rfl (by decide +kernel) ⟨Nat.le_of_ble_eq_true rfl, Nat.le_of_ble_eq_true rfl⟩) (iPSX hK hV hZt hS hA hP hD [.ref (ad 0), .int k, .int y0, .ref (ad 82)]) rfl rfl hl.1 rfl (lv_room (Nat.le_of_ble_eq_true rfl)) dL_law_1626 ⟨Nat.le_of_ble_eq_true rfl, Nat.le_of_ble_eq_true rfl⟩) hD hS hA (fun r8 u8 H locs hw8 hP hD hS => ?_)
  obtain ⟨hr8, hu8⟩ := hw8
  rw [hu8] at hP hD
  refine lv_asI hr8 ?_
  refine lv_istore (lv' := [(6, .int (nI 1)), (5, .int (nI 0)), (4, .ref (ad 82)), (3, .ref (ad 81)), (2, .ref (ad 74)), (1, .ref (ad 0)), (0, .ref b)]) hx hb dL_law_1629 hl (by decide) rfl (fun ls hl => ?_)
  refine lv_aload_n hx hb dL_law_1631 rfl (lv_at hl 4 rfl) ?_
  refine lv_aload_n hx hb dL_law_1632 rfl (lv_at hl 6 rfl) ?_
  refine lv_iload hx hb dL_law_1633 (lv_at hl 1 rfl) ?_
  refine lv_iconst (v := nI 1) hx hb dL_law_1635 (by decide) ?_
  refine lv_iadd hx hb dL_law_1636 ?_
  refine lv_asI (y := nI 1) (by decide) ?_
  refine va_sld hx hb hX hbl hbA hS (vp_in_nI (by decide) (by decide)) dL_law_1637 ?_
  refine lv_asI (y := k) ((congrArg xs (nI_clamp (by decide))).trans hx1) ?_
  refine lv_aload_n hx hb dL_law_1638 rfl (lv_at hl 6 rfl) ?_
  refine lv_iload hx hb dL_law_1639 (lv_at hl 1 rfl) ?_
  refine lv_iconst (v := nI 2) hx hb dL_law_1641 (by decide) ?_
  refine lv_iadd hx hb dL_law_1642 ?_
  refine lv_asI (y := nI 2) (by decide) ?_
  refine va_sld hx hb hX hbl hbA hS (vp_in_nI (by decide) (by decide)) dL_law_1643 ?_
  refine lv_asI (y := y0) ((congrArg xs (nI_clamp (by decide))).trans hx2) ?_
  refine iw_d (va_runV (As := [.int k, .int y0]) (rest := []) ⟨hx, hb, hml, hown, hts⟩ (kX9_apart l G 83 ad _ 74 dz (nI 0) hmod k y0 _) (cwV 2 hts gL_law_X9_apart rfl rfl rfl (by decide +kernel) ⟨Nat.le_of_ble_eq_true rfl, Nat.le_of_ble_eq_true rfl⟩) (iPVV hK hV hP hD (by decide) (hmod.2.1) rfl [.int k, .int y0]) rfl rfl hl.1 rfl (lv_room (Nat.le_of_ble_eq_true rfl)) dL_law_1644 ⟨Nat.le_of_ble_eq_true rfl, Nat.le_of_ble_eq_true rfl⟩) hD hS hA (fun r9 u9 H locs hw9 hP hD hS => ?_)
  obtain ⟨hr9, ⟨d9, ht9⟩, hm9⟩ := hw9
  refine lv_asD hr9 ?_
  refine lv_dstore (lv' := [(7, .double (FP.i2d (nI 0))), (6, .int (nI 1)), (5, .int (nI 0)), (4, .ref (ad 82)), (3, .ref (ad 81)), (2, .ref (ad 74)), (1, .ref (ad 0)), (0, .ref b)]) hx hb dL_law_1647 hl (by decide) rfl (fun ls hl => ?_)
  refine lv_aload_n hx hb dL_law_1649 rfl (lv_at hl 5 rfl) ?_
  refine iw_i (va_runV (As := []) (rest := []) ⟨hx, hb, hml, hown, hts⟩ (kX9_thrown l G 83 ad _ 74 (by decide) (nI 1) d9 ht9 _) (cwV 0 hts gL_law_X9_thrown rfl rfl rfl (by decide +kernel) ⟨Nat.le_of_ble_eq_true rfl, Nat.le_of_ble_eq_true rfl⟩) (iPV hK hP hD (by decide) (ht9) rfl []) rfl rfl hl.1 rfl (lv_room (Nat.le_of_ble_eq_true rfl)) dL_law_1650 ⟨Nat.le_of_ble_eq_true rfl, Nat.le_of_ble_eq_true rfl⟩) hD hS hA (fun r7 u7 H locs hw7 hP hD hS => ?_)
  obtain ⟨hr7, hu7⟩ := hw7
  rw [hu7] at hP hD
  refine lv_asI hr7 ?_
  refine lv_iload hx hb dL_law_1653 (lv_at hl 1 rfl) ?_
  refine lv_icmp_eq (tgt := 1660) hx hb dL_law_1655 (by decide) (fun _ => ?_) (fun c9 => absurd (by decide) c9)
  refine lv_iload hx hb dL_law_1660 (lv_at hl 1 rfl) ?_
  refine lv_if_ne (tgt := 1697) hx hb dL_law_1662 (by decide) (fun _ => ?_) (fun c9 => absurd c9 (by decide))
  refine lv_goto (tgt := 1906) hx hb dL_law_1697 (by decide) ?_
  refine W.widen (k := 300) (n := 6500) (Nat.le_of_ble_eq_true rfl) (Nat.le_of_ble_eq_true rfl) ?_
  exact kt H locs ls hS (lv_sub hl [2, 7] rfl)
set_option maxHeartbeats 4000000 in
set_option maxRecDepth 100000 in
theorem lc_bestWhite_1 {p : Program} {l : Launch} {e : Env} {s : State} {m : MethodId} {below : List Frame} {meth : Method} {c : Code} {b dz : Nat} {xs : Nat → Int32} {G : iG} {Q : State → Prop} (hst : l.stackTraces = false) (hx : p.tables.exec = Jvm.exec) (hb : c.code = cL_law) (hml : c.maxLocals = 9) (hts : ∀ w ∈ wsL_law, w.before #[Value.ref b] s = true) (hown : s.vm.findClass RL = some m.cls) (hX : va_X b 6 xs s s.heap) (hbl : b < s.heap.size) (hK : KB G s) (hV : VX s) (hZt : ZT (aA s) s s.heap) (hZ : ZD dz (aA s) s s.heap) {ad : Nat → Nat} {C : Nat → va_E} {H : Heap} {locs : List Loc} {ls : Array Slot} (hcam : Cam G 83 ad C 0 S0) (hmod : Mod G 83 ad C 74 dz (nI 0)) (glo : C 81 = la G 1 (fun _ => 0)) (hP : va_P G.1 vwB (wl 83 ad C) H) (hD : va_D (aA s) (wl 83 ad C)) (hS : va_S (aA s) s.heap H locs) (hl : lv_has ls 9 [(5, .int (nI 0)), (4, .ref (ad 82)), (3, .ref (ad 81)), (2, .ref (ad 74)), (1, .ref (ad 0)), (0, .ref b)]) (kt : ∀ (H : Heap) (locs : List Loc) (ls : Array Slot), va_S (aA s) s.heap H locs → lv_has ls 9 [(5, .int (nI 0)), (0, .ref b)] → W p l e room_1 s m #[Value.ref b] below meth c H locs 300 6500 Q (F0 m 1906 ls [])) (k y0 : Int32) (hx1 : xs 1 = k) (hx2 : xs 2 = y0) : W p l e room_1 s m #[Value.ref b] below meth c H locs 83 1901 Q (F0 m 1824 ls []) := by
  have hbA : ¬ aA s b := Nat.not_le.mpr hbl
  have hA : ∀ q : Nat, s.heap.size ≤ q → aA s q := fun _ h => h
  refine lv_aload_n hx hb dL_law_1824 rfl (lv_at hl 4 rfl) ?_
  refine lv_aload_n hx hb dL_law_1825 rfl (lv_at hl 5 rfl) ?_
  refine lv_iload hx hb dL_law_1826 (lv_at hl 0 rfl) ?_
  refine lv_iconst (v := nI 1) hx hb dL_law_1828 (by decide) ?_
  refine lv_iadd hx hb dL_law_1829 ?_
  refine lv_asI (y := nI 1) (by decide) ?_
  refine va_sld hx hb hX hbl hbA hS (vp_in_nI (by decide) (by decide)) dL_law_1830 ?_
  refine lv_asI (y := k) ((congrArg xs (nI_clamp (by decide))).trans hx1) ?_
  refine lv_aload_n hx hb dL_law_1831 rfl (lv_at hl 5 rfl) ?_
  refine lv_iload hx hb dL_law_1832 (lv_at hl 0 rfl) ?_
  refine lv_iconst (v := nI 2) hx hb dL_law_1834 (by decide) ?_
  refine lv_iadd hx hb dL_law_1835 ?_
  refine lv_asI (y := nI 2) (by decide) ?_
  refine va_sld hx hb hX hbl hbA hS (vp_in_nI (by decide) (by decide)) dL_law_1836 ?_
  refine lv_asI (y := y0) ((congrArg xs (nI_clamp (by decide))).trans hx2) ?_
  refine lv_aload_n hx hb dL_law_1837 rfl (lv_at hl 2 rfl) ?_
  refine iwx_i (vx_runSX (hh := [(0, 10, 13, 13), (0, 10, 17, 15)]) (As := [.ref (ad 0), .int k, .int y0, .ref (ad 81)]) (rest := []) ⟨hx, hb, hml, hown, hts⟩ (wL_bestWhite_1 l hst G 83 ad _ 0 S0 hcam 81 k y0 (i_all k) _) (vx_cwSW 4 hts gL_law_L_bestWhite rfl rfl rfl (by decide +kernel) ⟨Nat.le_of_ble_eq_true rfl, Nat.le_of_ble_eq_true rfl⟩) (iPSX hK hV hZt hS hA hP hD [.ref (ad 0), .int k, .int y0, .ref (ad 81)]) rfl rfl hl.1 rfl (lv_room (Nat.le_of_ble_eq_true rfl)) dL_law_1838 ⟨Nat.le_of_ble_eq_true rfl, Nat.le_of_ble_eq_true rfl⟩) hD hS hA (fun r8 u8 H locs hw8 hP hD hS => ?_)
  obtain ⟨hr8, hu8⟩ := hw8
  rw [hu8] at hP hD
  refine lv_asI hr8 ?_
  refine lv_istore (lv' := [(6, .int (nI 1)), (5, .int (nI 0)), (4, .ref (ad 82)), (3, .ref (ad 81)), (2, .ref (ad 74)), (1, .ref (ad 0)), (0, .ref b)]) hx hb dL_law_1841 hl (by decide) rfl (fun ls hl => ?_)
  refine lv_aload_n hx hb dL_law_1843 rfl (lv_at hl 4 rfl) ?_
  refine lv_aload_n hx hb dL_law_1844 rfl (lv_at hl 6 rfl) ?_
  refine lv_iload hx hb dL_law_1845 (lv_at hl 1 rfl) ?_
  refine lv_iconst (v := nI 1) hx hb dL_law_1847 (by decide) ?_
  refine lv_iadd hx hb dL_law_1848 ?_
  refine lv_asI (y := nI 1) (by decide) ?_
  refine va_sld hx hb hX hbl hbA hS (vp_in_nI (by decide) (by decide)) dL_law_1849 ?_
  refine lv_asI (y := k) ((congrArg xs (nI_clamp (by decide))).trans hx1) ?_
  refine lv_aload_n hx hb dL_law_1850 rfl (lv_at hl 6 rfl) ?_
  refine lv_iload hx hb dL_law_1851 (lv_at hl 1 rfl) ?_
  refine lv_iconst (v := nI 2) hx hb dL_law_1853 (by decide) ?_
  refine lv_iadd hx hb dL_law_1854 ?_
  refine lv_asI (y := nI 2) (by decide) ?_
  refine va_sld hx hb hX hbl hbA hS (vp_in_nI (by decide) (by decide)) dL_law_1855 ?_
  refine lv_asI (y := y0) ((congrArg xs (nI_clamp (by decide))).trans hx2) ?_
  refine iw_i (va_runV (As := [.int k, .int y0]) (rest := []) ⟨hx, hb, hml, hown, hts⟩ (kX9_bestWhite l G 83 ad _ 74 dz (nI 0) hmod k y0 _) (cwV 2 hts gL_law_X9_bestWhite rfl rfl rfl (by decide +kernel) ⟨Nat.le_of_ble_eq_true rfl, Nat.le_of_ble_eq_true rfl⟩) (iPVV hK hV hP hD (by decide) (hmod.2.1) rfl [.int k, .int y0]) rfl rfl hl.1 rfl (lv_room (Nat.le_of_ble_eq_true rfl)) dL_law_1856 ⟨Nat.le_of_ble_eq_true rfl, Nat.le_of_ble_eq_true rfl⟩) hD hS hA (fun r9 u9 H locs hw9 hP hD hS => ?_)
  obtain ⟨hr9, ⟨d9, ht9⟩, hm9⟩ := hw9
  refine lv_asI (y := nI 0) hr9 ?_
  refine lv_istore (lv' := [(7, .int (nI 0)), (6, .int (nI 1)), (5, .int (nI 0)), (4, .ref (ad 82)), (3, .ref (ad 81)), (2, .ref (ad 74)), (1, .ref (ad 0)), (0, .ref b)]) hx hb dL_law_1859 hl (by decide) rfl (fun ls hl => ?_)
  refine lv_aload_n hx hb dL_law_1861 rfl (lv_at hl 5 rfl) ?_
  refine iw_i (va_runV (As := []) (rest := []) ⟨hx, hb, hml, hown, hts⟩ (kX9_thrown l G 83 ad _ 74 (by decide) (nI 1) d9 ht9 _) (cwV 0 hts gL_law_X9_thrown rfl rfl rfl (by decide +kernel) ⟨Nat.le_of_ble_eq_true rfl, Nat.le_of_ble_eq_true rfl⟩) (iPV hK hP hD (by decide) (ht9) rfl []) rfl rfl hl.1 rfl (lv_room (Nat.le_of_ble_eq_true rfl)) dL_law_1862 ⟨Nat.le_of_ble_eq_true rfl, Nat.le_of_ble_eq_true rfl⟩) hD hS hA (fun r7 u7 H locs hw7 hP hD hS => ?_)
  obtain ⟨hr7, hu7⟩ := hw7
  rw [hu7] at hP hD
  refine lv_asI hr7 ?_
  refine lv_iload hx hb dL_law_1865 (lv_at hl 1 rfl) ?_
  refine lv_icmp_eq (tgt := 1872) hx hb dL_law_1867 (by decide) (fun _ => ?_) (fun c9 => absurd (by decide) c9)
  refine lv_iload hx hb dL_law_1872 (lv_at hl 1 rfl) ?_
  refine lv_if_ne (tgt := 1889) hx hb dL_law_1874 (by decide) (fun _ => ?_) (fun c9 => absurd c9 (by decide))
  refine lv_goto (tgt := 1906) hx hb dL_law_1889 (by decide) ?_
  refine W.widen (k := 300) (n := 6500) (Nat.le_of_ble_eq_true rfl) (Nat.le_of_ble_eq_true rfl) ?_
  exact kt H locs ls hS (lv_sub hl [2, 7] rfl)
set_option maxHeartbeats 4000000 in
set_option maxRecDepth 100000 in
theorem lc_ofFile_1 {p : Program} {l : Launch} {e : Env} {s : State} {m : MethodId} {below : List Frame} {meth : Method} {c : Code} {b dz : Nat} {xs : Nat → Int32} {G : iG} {Q : State → Prop} (hst : l.stackTraces = false) (hx : p.tables.exec = Jvm.exec) (hb : c.code = cL_law) (hml : c.maxLocals = 9) (hts : ∀ w ∈ wsL_law, w.before #[Value.ref b] s = true) (hown : s.vm.findClass RL = some m.cls) (hX : va_X b 6 xs s s.heap) (hbl : b < s.heap.size) (hK : KB G s) (hV : VX s) (hZt : ZT (aA s) s s.heap) (hZ : ZD dz (aA s) s s.heap) {ad : Nat → Nat} {C : Nat → va_E} {H : Heap} {locs : List Loc} {ls : Array Slot} (hcam : Cam G 83 ad C 0 S0) (hmod : Mod G 83 ad C 74 dz (nI 0)) (glo : C 81 = la G 1 (fun _ => 0)) (hP : va_P G.1 vwB (wl 83 ad C) H) (hD : va_D (aA s) (wl 83 ad C)) (hS : va_S (aA s) s.heap H locs) (hl : lv_has ls 9 [(5, .int (nI 0)), (4, .ref (ad 82)), (3, .ref (ad 81)), (2, .ref (ad 74)), (1, .ref (ad 0)), (0, .ref b)]) (kt : ∀ (H : Heap) (locs : List Loc) (ls : Array Slot), va_S (aA s) s.heap H locs → lv_has ls 9 [(5, .int (nI 0)), (0, .ref b)] → W p l e room_1 s m #[Value.ref b] below meth c H locs 300 6500 Q (F0 m 1906 ls [])) (k y0 : Int32) (hx1 : xs 1 = k) (hx2 : xs 2 = y0) : W p l e room_1 s m #[Value.ref b] below meth c H locs 83 1901 Q (F0 m 1407 ls []) := by
  have hbA : ¬ aA s b := Nat.not_le.mpr hbl
  have hA : ∀ q : Nat, s.heap.size ≤ q → aA s q := fun _ h => h
  refine lv_aload_n hx hb dL_law_1407 rfl (lv_at hl 4 rfl) ?_
  refine lv_aload_n hx hb dL_law_1408 rfl (lv_at hl 5 rfl) ?_
  refine lv_iload hx hb dL_law_1409 (lv_at hl 0 rfl) ?_
  refine lv_iconst (v := nI 1) hx hb dL_law_1411 (by decide) ?_
  refine lv_iadd hx hb dL_law_1412 ?_
  refine lv_asI (y := nI 1) (by decide) ?_
  refine va_sld hx hb hX hbl hbA hS (vp_in_nI (by decide) (by decide)) dL_law_1413 ?_
  refine lv_asI (y := k) ((congrArg xs (nI_clamp (by decide))).trans hx1) ?_
  refine lv_aload_n hx hb dL_law_1414 rfl (lv_at hl 5 rfl) ?_
  refine lv_iload hx hb dL_law_1415 (lv_at hl 0 rfl) ?_
  refine lv_iconst (v := nI 2) hx hb dL_law_1417 (by decide) ?_
  refine lv_iadd hx hb dL_law_1418 ?_
  refine lv_asI (y := nI 2) (by decide) ?_
  refine va_sld hx hb hX hbl hbA hS (vp_in_nI (by decide) (by decide)) dL_law_1419 ?_
  refine lv_asI (y := y0) ((congrArg xs (nI_clamp (by decide))).trans hx2) ?_
  refine lv_aload_n hx hb dL_law_1420 rfl (lv_at hl 2 rfl) ?_
  refine iwx_i (vx_runSX (hh := [(0, 10, 13, 13), (0, 10, 17, 15)]) (As := [.ref (ad 0), .int k, .int y0, .ref (ad 81)]) (rest := []) ⟨hx, hb, hml, hown, hts⟩ (wL_ofFile_1 l hst G 83 ad _ 0 S0 hcam 81 k y0 (i_all k) _) (vx_cwSW 4 hts gL_law_L_ofFile rfl rfl rfl (by decide +kernel) ⟨Nat.le_of_ble_eq_true rfl, Nat.le_of_ble_eq_true rfl⟩) (iPSX hK hV hZt hS hA hP hD [.ref (ad 0), .int k, .int y0, .ref (ad 81)]) rfl rfl hl.1 rfl (lv_room (Nat.le_of_ble_eq_true rfl)) dL_law_1421 ⟨Nat.le_of_ble_eq_true rfl, Nat.le_of_ble_eq_true rfl⟩) hD hS hA (fun r8 u8 H locs hw8 hP hD hS => ?_)
  obtain ⟨hr8, hu8⟩ := hw8
  rw [hu8] at hP hD
  refine lv_asI hr8 ?_
  refine lv_istore (lv' := [(6, .int (nI 1)), (5, .int (nI 0)), (4, .ref (ad 82)), (3, .ref (ad 81)), (2, .ref (ad 74)), (1, .ref (ad 0)), (0, .ref b)]) hx hb dL_law_1424 hl (by decide) rfl (fun ls hl => ?_)
  refine lv_aload_n hx hb dL_law_1426 rfl (lv_at hl 4 rfl) ?_
  refine lv_aload_n hx hb dL_law_1427 rfl (lv_at hl 6 rfl) ?_
  refine lv_iload hx hb dL_law_1428 (lv_at hl 1 rfl) ?_
  refine lv_iconst (v := nI 1) hx hb dL_law_1430 (by decide) ?_
  refine lv_iadd hx hb dL_law_1431 ?_
  refine lv_asI (y := nI 1) (by decide) ?_
  refine va_sld hx hb hX hbl hbA hS (vp_in_nI (by decide) (by decide)) dL_law_1432 ?_
  refine lv_asI (y := k) ((congrArg xs (nI_clamp (by decide))).trans hx1) ?_
  refine lv_aload_n hx hb dL_law_1433 rfl (lv_at hl 6 rfl) ?_
  refine lv_iload hx hb dL_law_1434 (lv_at hl 1 rfl) ?_
  refine lv_iconst (v := nI 2) hx hb dL_law_1436 (by decide) ?_
  refine lv_iadd hx hb dL_law_1437 ?_
  refine lv_asI (y := nI 2) (by decide) ?_
  refine va_sld hx hb hX hbl hbA hS (vp_in_nI (by decide) (by decide)) dL_law_1438 ?_
  refine lv_asI (y := y0) ((congrArg xs (nI_clamp (by decide))).trans hx2) ?_
  refine iw_i (va_runV (As := [.int k, .int y0]) (rest := []) ⟨hx, hb, hml, hown, hts⟩ (kX9_ofFile l G 83 ad _ 74 dz (nI 0) hmod k y0 _) (cwV 2 hts gL_law_X9_ofFile rfl rfl rfl (by decide +kernel) ⟨Nat.le_of_ble_eq_true rfl, Nat.le_of_ble_eq_true rfl⟩) (iPVV hK hV hP hD (by decide) (hmod.2.1) rfl [.int k, .int y0]) rfl rfl hl.1 rfl (lv_room (Nat.le_of_ble_eq_true rfl)) dL_law_1439 ⟨Nat.le_of_ble_eq_true rfl, Nat.le_of_ble_eq_true rfl⟩) hD hS hA (fun r9 u9 H locs hw9 hP hD hS => ?_)
  obtain ⟨hr9, ⟨d9, ht9⟩, hm9⟩ := hw9
  refine lv_asI (y := nI 0) hr9 ?_
  refine lv_istore (lv' := [(7, .int (nI 0)), (6, .int (nI 1)), (5, .int (nI 0)), (4, .ref (ad 82)), (3, .ref (ad 81)), (2, .ref (ad 74)), (1, .ref (ad 0)), (0, .ref b)]) hx hb dL_law_1442 hl (by decide) rfl (fun ls hl => ?_)
  refine lv_aload_n hx hb dL_law_1444 rfl (lv_at hl 5 rfl) ?_
  refine iw_i (va_runV (As := []) (rest := []) ⟨hx, hb, hml, hown, hts⟩ (kX9_thrown l G 83 ad _ 74 (by decide) (nI 1) d9 ht9 _) (cwV 0 hts gL_law_X9_thrown rfl rfl rfl (by decide +kernel) ⟨Nat.le_of_ble_eq_true rfl, Nat.le_of_ble_eq_true rfl⟩) (iPV hK hP hD (by decide) (ht9) rfl []) rfl rfl hl.1 rfl (lv_room (Nat.le_of_ble_eq_true rfl)) dL_law_1445 ⟨Nat.le_of_ble_eq_true rfl, Nat.le_of_ble_eq_true rfl⟩) hD hS hA (fun r7 u7 H locs hw7 hP hD hS => ?_)
  obtain ⟨hr7, hu7⟩ := hw7
  rw [hu7] at hP hD
  refine lv_asI hr7 ?_
  refine lv_iload hx hb dL_law_1448 (lv_at hl 1 rfl) ?_
  refine lv_icmp_eq (tgt := 1455) hx hb dL_law_1450 (by decide) (fun _ => ?_) (fun c9 => absurd (by decide) c9)
  refine lv_iload hx hb dL_law_1455 (lv_at hl 1 rfl) ?_
  refine lv_if_ne (tgt := 1472) hx hb dL_law_1457 (by decide) (fun _ => ?_) (fun c9 => absurd c9 (by decide))
  refine lv_goto (tgt := 1906) hx hb dL_law_1472 (by decide) ?_
  refine W.widen (k := 300) (n := 6500) (Nat.le_of_ble_eq_true rfl) (Nat.le_of_ble_eq_true rfl) ?_
  exact kt H locs ls hS (lv_sub hl [2, 7] rfl)
set_option maxHeartbeats 4000000 in
set_option maxRecDepth 100000 in
theorem lc_ofPlace_1 {p : Program} {l : Launch} {e : Env} {s : State} {m : MethodId} {below : List Frame} {meth : Method} {c : Code} {b dz : Nat} {xs : Nat → Int32} {G : iG} {Q : State → Prop} (hst : l.stackTraces = false) (hx : p.tables.exec = Jvm.exec) (hb : c.code = cL_law) (hml : c.maxLocals = 9) (hts : ∀ w ∈ wsL_law, w.before #[Value.ref b] s = true) (hown : s.vm.findClass RL = some m.cls) (hX : va_X b 6 xs s s.heap) (hbl : b < s.heap.size) (hK : KB G s) (hV : VX s) (hZt : ZT (aA s) s s.heap) (hZ : ZD dz (aA s) s s.heap) {ad : Nat → Nat} {C : Nat → va_E} {H : Heap} {locs : List Loc} {ls : Array Slot} (hcam : Cam G 83 ad C 0 S0) (hmod : Mod G 83 ad C 74 dz (nI 0)) (glo : C 81 = la G 1 (fun _ => 0)) (hP : va_P G.1 vwB (wl 83 ad C) H) (hD : va_D (aA s) (wl 83 ad C)) (hS : va_S (aA s) s.heap H locs) (hl : lv_has ls 9 [(5, .int (nI 0)), (4, .ref (ad 82)), (3, .ref (ad 81)), (2, .ref (ad 74)), (1, .ref (ad 0)), (0, .ref b)]) (kt : ∀ (H : Heap) (locs : List Loc) (ls : Array Slot), va_S (aA s) s.heap H locs → lv_has ls 9 [(5, .int (nI 0)), (0, .ref b)] → W p l e room_1 s m #[Value.ref b] below meth c H locs 300 6500 Q (F0 m 1906 ls [])) (x y v : Int32) (h : isPl x y = false) (hx1 : xs 1 = x) (hx2 : xs 2 = y) (hx3 : xs 3 = v) : W p l e room_1 s m #[Value.ref b] below meth c H locs 83 1901 Q (F0 m 1475 ls []) := by
  have hbA : ¬ aA s b := Nat.not_le.mpr hbl
  have hA : ∀ q : Nat, s.heap.size ≤ q → aA s q := fun _ h => h
  refine lv_aload_n hx hb dL_law_1475 rfl (lv_at hl 4 rfl) ?_
  refine lv_aload_n hx hb dL_law_1476 rfl (lv_at hl 5 rfl) ?_
  refine lv_iload hx hb dL_law_1477 (lv_at hl 0 rfl) ?_
  refine lv_iconst (v := nI 1) hx hb dL_law_1479 (by decide) ?_
  refine lv_iadd hx hb dL_law_1480 ?_
  refine lv_asI (y := nI 1) (by decide) ?_
  refine va_sld hx hb hX hbl hbA hS (vp_in_nI (by decide) (by decide)) dL_law_1481 ?_
  refine lv_asI (y := x) ((congrArg xs (nI_clamp (by decide))).trans hx1) ?_
  refine lv_aload_n hx hb dL_law_1482 rfl (lv_at hl 5 rfl) ?_
  refine lv_iload hx hb dL_law_1483 (lv_at hl 0 rfl) ?_
  refine lv_iconst (v := nI 2) hx hb dL_law_1485 (by decide) ?_
  refine lv_iadd hx hb dL_law_1486 ?_
  refine lv_asI (y := nI 2) (by decide) ?_
  refine va_sld hx hb hX hbl hbA hS (vp_in_nI (by decide) (by decide)) dL_law_1487 ?_
  refine lv_asI (y := y) ((congrArg xs (nI_clamp (by decide))).trans hx2) ?_
  refine lv_aload_n hx hb dL_law_1488 rfl (lv_at hl 5 rfl) ?_
  refine lv_iload hx hb dL_law_1489 (lv_at hl 0 rfl) ?_
  refine lv_iconst (v := nI 3) hx hb dL_law_1491 (by decide) ?_
  refine lv_iadd hx hb dL_law_1492 ?_
  refine lv_asI (y := nI 3) (by decide) ?_
  refine va_sld hx hb hX hbl hbA hS (vp_in_nI (by decide) (by decide)) dL_law_1493 ?_
  refine lv_asI (y := v) ((congrArg xs (nI_clamp (by decide))).trans hx3) ?_
  refine lv_aload_n hx hb dL_law_1494 rfl (lv_at hl 2 rfl) ?_
  refine iwx_i (vx_runSX (hh := [(0, 12, 15, 13), (0, 12, 19, 15)]) (As := [.ref (ad 0), .int x, .int y, .int v, .ref (ad 81)]) (rest := []) ⟨hx, hb, hml, hown, hts⟩ (wL_ofPlace_1 l hst G 83 ad _ 0 S0 hcam 81 x y v h _) (vx_cwSW 5 hts gL_law_L_ofPlace rfl rfl rfl (by decide +kernel) ⟨Nat.le_of_ble_eq_true rfl, Nat.le_of_ble_eq_true rfl⟩) (iPSX hK hV hZt hS hA hP hD [.ref (ad 0), .int x, .int y, .int v, .ref (ad 81)]) rfl rfl hl.1 rfl (lv_room (Nat.le_of_ble_eq_true rfl)) dL_law_1495 ⟨Nat.le_of_ble_eq_true rfl, Nat.le_of_ble_eq_true rfl⟩) hD hS hA (fun r8 u8 H locs hw8 hP hD hS => ?_)
  obtain ⟨hr8, hu8⟩ := hw8
  rw [hu8] at hP hD
  refine lv_asI hr8 ?_
  refine lv_istore (lv' := [(6, .int (nI 1)), (5, .int (nI 0)), (4, .ref (ad 82)), (3, .ref (ad 81)), (2, .ref (ad 74)), (1, .ref (ad 0)), (0, .ref b)]) hx hb dL_law_1498 hl (by decide) rfl (fun ls hl => ?_)
  refine lv_aload_n hx hb dL_law_1500 rfl (lv_at hl 4 rfl) ?_
  refine lv_aload_n hx hb dL_law_1501 rfl (lv_at hl 6 rfl) ?_
  refine lv_iload hx hb dL_law_1502 (lv_at hl 1 rfl) ?_
  refine lv_iconst (v := nI 1) hx hb dL_law_1504 (by decide) ?_
  refine lv_iadd hx hb dL_law_1505 ?_
  refine lv_asI (y := nI 1) (by decide) ?_
  refine va_sld hx hb hX hbl hbA hS (vp_in_nI (by decide) (by decide)) dL_law_1506 ?_
  refine lv_asI (y := x) ((congrArg xs (nI_clamp (by decide))).trans hx1) ?_
  refine lv_aload_n hx hb dL_law_1507 rfl (lv_at hl 6 rfl) ?_
  refine lv_iload hx hb dL_law_1508 (lv_at hl 1 rfl) ?_
  refine lv_iconst (v := nI 2) hx hb dL_law_1510 (by decide) ?_
  refine lv_iadd hx hb dL_law_1511 ?_
  refine lv_asI (y := nI 2) (by decide) ?_
  refine va_sld hx hb hX hbl hbA hS (vp_in_nI (by decide) (by decide)) dL_law_1512 ?_
  refine lv_asI (y := y) ((congrArg xs (nI_clamp (by decide))).trans hx2) ?_
  refine lv_aload_n hx hb dL_law_1513 rfl (lv_at hl 6 rfl) ?_
  refine lv_iload hx hb dL_law_1514 (lv_at hl 1 rfl) ?_
  refine lv_iconst (v := nI 3) hx hb dL_law_1516 (by decide) ?_
  refine lv_iadd hx hb dL_law_1517 ?_
  refine lv_asI (y := nI 3) (by decide) ?_
  refine va_sld hx hb hX hbl hbA hS (vp_in_nI (by decide) (by decide)) dL_law_1518 ?_
  refine lv_asI (y := v) ((congrArg xs (nI_clamp (by decide))).trans hx3) ?_
  refine iw_i (va_runV (As := [.int x, .int y, .int v]) (rest := []) ⟨hx, hb, hml, hown, hts⟩ (kX9_ofPlace_1 l G 83 ad _ 74 dz (nI 0) hmod x y v h _) (cwV 3 hts gL_law_X9_ofPlace rfl rfl rfl (by decide +kernel) ⟨Nat.le_of_ble_eq_true rfl, Nat.le_of_ble_eq_true rfl⟩) (iPV hK hP hD (by decide) (hmod.2.1) rfl [.int x, .int y, .int v]) rfl rfl hl.1 rfl (lv_room (Nat.le_of_ble_eq_true rfl)) dL_law_1519 ⟨Nat.le_of_ble_eq_true rfl, Nat.le_of_ble_eq_true rfl⟩) hD hS hA (fun r9 u9 H locs hw9 hP hD hS => ?_)
  obtain ⟨hr9, ⟨d9, ht9⟩, hm9⟩ := hw9
  refine lv_asI (y := nI 0) hr9 ?_
  refine lv_istore (lv' := [(7, .int (nI 0)), (6, .int (nI 1)), (5, .int (nI 0)), (4, .ref (ad 82)), (3, .ref (ad 81)), (2, .ref (ad 74)), (1, .ref (ad 0)), (0, .ref b)]) hx hb dL_law_1522 hl (by decide) rfl (fun ls hl => ?_)
  refine lv_aload_n hx hb dL_law_1524 rfl (lv_at hl 5 rfl) ?_
  refine iw_i (va_runV (As := []) (rest := []) ⟨hx, hb, hml, hown, hts⟩ (kX9_thrown l G 83 ad _ 74 (by decide) (nI 1) d9 ht9 _) (cwV 0 hts gL_law_X9_thrown rfl rfl rfl (by decide +kernel) ⟨Nat.le_of_ble_eq_true rfl, Nat.le_of_ble_eq_true rfl⟩) (iPV hK hP hD (by decide) (ht9) rfl []) rfl rfl hl.1 rfl (lv_room (Nat.le_of_ble_eq_true rfl)) dL_law_1525 ⟨Nat.le_of_ble_eq_true rfl, Nat.le_of_ble_eq_true rfl⟩) hD hS hA (fun r7 u7 H locs hw7 hP hD hS => ?_)
  obtain ⟨hr7, hu7⟩ := hw7
  rw [hu7] at hP hD
  refine lv_asI hr7 ?_
  refine lv_iload hx hb dL_law_1528 (lv_at hl 1 rfl) ?_
  refine lv_icmp_eq (tgt := 1535) hx hb dL_law_1530 (by decide) (fun _ => ?_) (fun c9 => absurd (by decide) c9)
  refine lv_iload hx hb dL_law_1535 (lv_at hl 1 rfl) ?_
  refine lv_if_ne (tgt := 1552) hx hb dL_law_1537 (by decide) (fun _ => ?_) (fun c9 => absurd c9 (by decide))
  refine lv_goto (tgt := 1906) hx hb dL_law_1552 (by decide) ?_
  refine W.widen (k := 300) (n := 6500) (Nat.le_of_ble_eq_true rfl) (Nat.le_of_ble_eq_true rfl) ?_
  exact kt H locs ls hS (lv_sub hl [2, 7] rfl)
set_option maxHeartbeats 4000000 in
set_option maxRecDepth 100000 in
theorem lc_ofPlace_2 {p : Program} {l : Launch} {e : Env} {s : State} {m : MethodId} {below : List Frame} {meth : Method} {c : Code} {b dz : Nat} {xs : Nat → Int32} {G : iG} {Q : State → Prop} (hst : l.stackTraces = false) (hx : p.tables.exec = Jvm.exec) (hb : c.code = cL_law) (hml : c.maxLocals = 9) (hts : ∀ w ∈ wsL_law, w.before #[Value.ref b] s = true) (hown : s.vm.findClass RL = some m.cls) (hX : va_X b 6 xs s s.heap) (hbl : b < s.heap.size) (hK : KB G s) (hV : VX s) (hZt : ZT (aA s) s s.heap) (hZ : ZD dz (aA s) s s.heap) {ad : Nat → Nat} {C : Nat → va_E} {H : Heap} {locs : List Loc} {ls : Array Slot} (hcam : Cam G 83 ad C 0 S0) (hmod : Mod G 83 ad C 74 dz (nI 0)) (glo : C 81 = la G 1 (fun _ => 0)) (hP : va_P G.1 vwB (wl 83 ad C) H) (hD : va_D (aA s) (wl 83 ad C)) (hS : va_S (aA s) s.heap H locs) (hl : lv_has ls 9 [(5, .int (nI 0)), (4, .ref (ad 82)), (3, .ref (ad 81)), (2, .ref (ad 74)), (1, .ref (ad 0)), (0, .ref b)]) (kt : ∀ (H : Heap) (locs : List Loc) (ls : Array Slot), va_S (aA s) s.heap H locs → lv_has ls 9 [(5, .int (nI 0)), (0, .ref b)] → W p l e room_1 s m #[Value.ref b] below meth c H locs 300 6500 Q (F0 m 1906 ls [])) (x y : Nat) (hx8 : x < 8) (hy8 : y < 8) (v : Int32) (h : v < nI 0 ∨ nI 5 < v) (hx1 : xs 1 = nI x) (hx2 : xs 2 = nI y) (hx3 : xs 3 = v) : W p l e room_1 s m #[Value.ref b] below meth c H locs 83 1901 Q (F0 m 1475 ls []) := by
  have hbA : ¬ aA s b := Nat.not_le.mpr hbl
  have hA : ∀ q : Nat, s.heap.size ≤ q → aA s q := fun _ h => h
  refine lv_aload_n hx hb dL_law_1475 rfl (lv_at hl 4 rfl) ?_
  refine lv_aload_n hx hb dL_law_1476 rfl (lv_at hl 5 rfl) ?_
  refine lv_iload hx hb dL_law_1477 (lv_at hl 0 rfl) ?_
  refine lv_iconst (v := nI 1) hx hb dL_law_1479 (by decide) ?_
  refine lv_iadd hx hb dL_law_1480 ?_
  refine lv_asI (y := nI 1) (by decide) ?_
  refine va_sld hx hb hX hbl hbA hS (vp_in_nI (by decide) (by decide)) dL_law_1481 ?_
  refine lv_asI (y := nI x) ((congrArg xs (nI_clamp (by decide))).trans hx1) ?_
  refine lv_aload_n hx hb dL_law_1482 rfl (lv_at hl 5 rfl) ?_
  refine lv_iload hx hb dL_law_1483 (lv_at hl 0 rfl) ?_
  refine lv_iconst (v := nI 2) hx hb dL_law_1485 (by decide) ?_
  refine lv_iadd hx hb dL_law_1486 ?_
  refine lv_asI (y := nI 2) (by decide) ?_
  refine va_sld hx hb hX hbl hbA hS (vp_in_nI (by decide) (by decide)) dL_law_1487 ?_
  refine lv_asI (y := nI y) ((congrArg xs (nI_clamp (by decide))).trans hx2) ?_
  refine lv_aload_n hx hb dL_law_1488 rfl (lv_at hl 5 rfl) ?_
  refine lv_iload hx hb dL_law_1489 (lv_at hl 0 rfl) ?_
  refine lv_iconst (v := nI 3) hx hb dL_law_1491 (by decide) ?_
  refine lv_iadd hx hb dL_law_1492 ?_
  refine lv_asI (y := nI 3) (by decide) ?_
  refine va_sld hx hb hX hbl hbA hS (vp_in_nI (by decide) (by decide)) dL_law_1493 ?_
  refine lv_asI (y := v) ((congrArg xs (nI_clamp (by decide))).trans hx3) ?_
  refine lv_aload_n hx hb dL_law_1494 rfl (lv_at hl 2 rfl) ?_
  refine iwx_i (vx_runSX (hh := [(0, 12, 15, 13), (0, 12, 19, 15)]) (As := [.ref (ad 0), .int (nI x), .int (nI y), .int v, .ref (ad 81)]) (rest := []) ⟨hx, hb, hml, hown, hts⟩ (wL_ofPlace_2 l hst G 83 ad _ 0 S0 hcam 81 x y hx8 hy8 v h _) (vx_cwSW 5 hts gL_law_L_ofPlace rfl rfl rfl (by decide +kernel) ⟨Nat.le_of_ble_eq_true rfl, Nat.le_of_ble_eq_true rfl⟩) (iPSX hK hV hZt hS hA hP hD [.ref (ad 0), .int (nI x), .int (nI y), .int v, .ref (ad 81)]) rfl rfl hl.1 rfl (lv_room (Nat.le_of_ble_eq_true rfl)) dL_law_1495 ⟨Nat.le_of_ble_eq_true rfl, Nat.le_of_ble_eq_true rfl⟩) hD hS hA (fun r8 u8 H locs hw8 hP hD hS => ?_)
  obtain ⟨hr8, hu8⟩ := hw8
  rw [hu8] at hP hD
  refine lv_asI hr8 ?_
  refine lv_istore (lv' := [(6, .int (nI 2)), (5, .int (nI 0)), (4, .ref (ad 82)), (3, .ref (ad 81)), (2, .ref (ad 74)), (1, .ref (ad 0)), (0, .ref b)]) hx hb dL_law_1498 hl (by decide) rfl (fun ls hl => ?_)
  refine lv_aload_n hx hb dL_law_1500 rfl (lv_at hl 4 rfl) ?_
  refine lv_aload_n hx hb dL_law_1501 rfl (lv_at hl 6 rfl) ?_
  refine lv_iload hx hb dL_law_1502 (lv_at hl 1 rfl) ?_
  refine lv_iconst (v := nI 1) hx hb dL_law_1504 (by decide) ?_
  refine lv_iadd hx hb dL_law_1505 ?_
  refine lv_asI (y := nI 1) (by decide) ?_
  refine va_sld hx hb hX hbl hbA hS (vp_in_nI (by decide) (by decide)) dL_law_1506 ?_
  refine lv_asI (y := nI x) ((congrArg xs (nI_clamp (by decide))).trans hx1) ?_
  refine lv_aload_n hx hb dL_law_1507 rfl (lv_at hl 6 rfl) ?_
  refine lv_iload hx hb dL_law_1508 (lv_at hl 1 rfl) ?_
  refine lv_iconst (v := nI 2) hx hb dL_law_1510 (by decide) ?_
  refine lv_iadd hx hb dL_law_1511 ?_
  refine lv_asI (y := nI 2) (by decide) ?_
  refine va_sld hx hb hX hbl hbA hS (vp_in_nI (by decide) (by decide)) dL_law_1512 ?_
  refine lv_asI (y := nI y) ((congrArg xs (nI_clamp (by decide))).trans hx2) ?_
  refine lv_aload_n hx hb dL_law_1513 rfl (lv_at hl 6 rfl) ?_
  refine lv_iload hx hb dL_law_1514 (lv_at hl 1 rfl) ?_
  refine lv_iconst (v := nI 3) hx hb dL_law_1516 (by decide) ?_
  refine lv_iadd hx hb dL_law_1517 ?_
  refine lv_asI (y := nI 3) (by decide) ?_
  refine va_sld hx hb hX hbl hbA hS (vp_in_nI (by decide) (by decide)) dL_law_1518 ?_
  refine lv_asI (y := v) ((congrArg xs (nI_clamp (by decide))).trans hx3) ?_
  refine iw_i (va_runV (As := [.int (nI x), .int (nI y), .int v]) (rest := []) ⟨hx, hb, hml, hown, hts⟩ (kX9_ofPlace_2 l G 83 ad _ 74 dz (nI 0) hmod x y hx8 hy8 v h _) (cwV 3 hts gL_law_X9_ofPlace rfl rfl rfl (by decide +kernel) ⟨Nat.le_of_ble_eq_true rfl, Nat.le_of_ble_eq_true rfl⟩) (iPV hK hP hD (by decide) (hmod.2.1) rfl [.int (nI x), .int (nI y), .int v]) rfl rfl hl.1 rfl (lv_room (Nat.le_of_ble_eq_true rfl)) dL_law_1519 ⟨Nat.le_of_ble_eq_true rfl, Nat.le_of_ble_eq_true rfl⟩) hD hS hA (fun r9 u9 H locs hw9 hP hD hS => ?_)
  obtain ⟨hr9, ⟨d9, ht9⟩, hm9⟩ := hw9
  refine lv_asI (y := nI 0) hr9 ?_
  refine lv_istore (lv' := [(7, .int (nI 0)), (6, .int (nI 2)), (5, .int (nI 0)), (4, .ref (ad 82)), (3, .ref (ad 81)), (2, .ref (ad 74)), (1, .ref (ad 0)), (0, .ref b)]) hx hb dL_law_1522 hl (by decide) rfl (fun ls hl => ?_)
  refine lv_aload_n hx hb dL_law_1524 rfl (lv_at hl 5 rfl) ?_
  refine iw_i (va_runV (As := []) (rest := []) ⟨hx, hb, hml, hown, hts⟩ (kX9_thrown l G 83 ad _ 74 (by decide) (nI 2) d9 ht9 _) (cwV 0 hts gL_law_X9_thrown rfl rfl rfl (by decide +kernel) ⟨Nat.le_of_ble_eq_true rfl, Nat.le_of_ble_eq_true rfl⟩) (iPV hK hP hD (by decide) (ht9) rfl []) rfl rfl hl.1 rfl (lv_room (Nat.le_of_ble_eq_true rfl)) dL_law_1525 ⟨Nat.le_of_ble_eq_true rfl, Nat.le_of_ble_eq_true rfl⟩) hD hS hA (fun r7 u7 H locs hw7 hP hD hS => ?_)
  obtain ⟨hr7, hu7⟩ := hw7
  rw [hu7] at hP hD
  refine lv_asI hr7 ?_
  refine lv_iload hx hb dL_law_1528 (lv_at hl 1 rfl) ?_
  refine lv_icmp_eq (tgt := 1535) hx hb dL_law_1530 (by decide) (fun _ => ?_) (fun c9 => absurd (by decide) c9)
  refine lv_iload hx hb dL_law_1535 (lv_at hl 1 rfl) ?_
  refine lv_if_ne (tgt := 1552) hx hb dL_law_1537 (by decide) (fun _ => ?_) (fun c9 => absurd c9 (by decide))
  refine lv_goto (tgt := 1906) hx hb dL_law_1552 (by decide) ?_
  refine W.widen (k := 300) (n := 6500) (Nat.le_of_ble_eq_true rfl) (Nat.le_of_ble_eq_true rfl) ?_
  exact kt H locs ls hS (lv_sub hl [2, 7] rfl)
