theorem dX6_merge_10 : decode cX6_merge 10 = .ok (.invokestatic 70, 3) := by decide +kernel
theorem dX6_merge_13 : decode cX6_merge 13 = .ok (.iload_n 1, 1) := by decide +kernel
theorem dX6_merge_14 : decode cX6_merge 14 = .ok (.invokestatic 116, 3) := by decide +kernel
theorem dX6_merge_17 : decode cX6_merge 17 = .ok (.iconst 2, 1) := by decide +kernel
theorem dX6_merge_18 : decode cX6_merge 18 = .ok (.if_icmp .ge 13, 3) := by decide +kernel
theorem dX6_merge_21 : decode cX6_merge 21 = .ok (.new 62, 3) := by decide +kernel
theorem dX6_merge_24 : decode cX6_merge 24 = .ok (.dup, 1) := by decide +kernel
theorem dX6_merge_25 : decode cX6_merge 25 = .ok (.ldc 121, 2) := by decide +kernel
theorem dX6_merge_27 : decode cX6_merge 27 = .ok (.invokespecial 66, 3) := by decide +kernel
theorem dX6_merge_30 : decode cX6_merge 30 = .ok (.athrow, 1) := by decide +kernel
theorem dX6_merge_31 : decode cX6_merge 31 = .ok (.iload_n 2, 1) := by decide +kernel
theorem dX6_merge_32 : decode cX6_merge 32 = .ok (.iconst 0, 1) := by decide +kernel
theorem dX6_merge_33 : decode cX6_merge 33 = .ok (.sipush 255, 3) := by decide +kernel
theorem dX6_merge_36 : decode cX6_merge 36 = .ok (.invokestatic 70, 3) := by decide +kernel
theorem dX6_merge_39 : decode cX6_merge 39 = .ok (.aload_n 0, 1) := by decide +kernel
theorem dX6_merge_40 : decode cX6_merge 40 = .ok (.getfield 35, 3) := by decide +kernel
theorem dX6_merge_43 : decode cX6_merge 43 = .ok (.bipush 6, 2) := by decide +kernel
theorem dX6_merge_45 : decode cX6_merge 45 = .ok (.invokestatic 105, 3) := by decide +kernel
theorem dX6_merge_48 : decode cX6_merge 48 = .ok (.aload_n 0, 1) := by decide +kernel
theorem dX6_merge_49 : decode cX6_merge 49 = .ok (.getfield 35, 3) := by decide +kernel
theorem dX6_merge_52 : decode cX6_merge 52 = .ok (.istore_n 3, 1) := by decide +kernel
theorem dX6_merge_53 : decode cX6_merge 53 = .ok (.aload_n 0, 1) := by decide +kernel
theorem dX6_merge_54 : decode cX6_merge 54 = .ok (.iload_n 1, 1) := by decide +kernel
theorem dX6_merge_55 : decode cX6_merge 55 = .ok (.iload_n 2, 1) := by decide +kernel
theorem dX6_merge_56 : decode cX6_merge 56 = .ok (.aload_n 0, 1) := by decide +kernel
theorem dX6_merge_57 : decode cX6_merge 57 = .ok (.getfield 25, 3) := by decide +kernel
theorem dX6_merge_60 : decode cX6_merge 60 = .ok (.iload_n 3, 1) := by decide +kernel
theorem dX6_merge_61 : decode cX6_merge 61 = .ok (.aaload, 1) := by decide +kernel
theorem dX6_merge_62 : decode cX6_merge 62 = .ok (.invokevirtual 123, 3) := by decide +kernel
theorem dX6_merge_65 : decode cX6_merge 65 = .ok (.aload_n 0, 1) := by decide +kernel
theorem dX6_merge_66 : decode cX6_merge 66 = .ok (.iload_n 3, 1) := by decide +kernel
theorem dX6_merge_67 : decode cX6_merge 67 = .ok (.iconst 1, 1) := by decide +kernel
theorem dX6_merge_68 : decode cX6_merge 68 = .ok (.iadd, 1) := by decide +kernel
theorem dX6_merge_69 : decode cX6_merge 69 = .ok (.putfield 35, 3) := by decide +kernel
theorem dX6_merge_72 : decode cX6_merge 72 = .ok (.iload_n 3, 1) := by decide +kernel
theorem dX6_merge_73 : decode cX6_merge 73 = .ok (.ireturn, 1) := by decide +kernel
theorem dX6_edit_0 : decode cX6_edit 0 = .ok (.aload_n 0, 1) := by decide +kernel
theorem dX6_edit_1 : decode cX6_edit 1 = .ok (.iload_n 1, 1) := by decide +kernel
theorem dX6_edit_2 : decode cX6_edit 2 = .ok (.invokevirtual 127, 3) := by decide +kernel
theorem dX6_edit_5 : decode cX6_edit 5 = .ok (.iload_n 2, 1) := by decide +kernel
theorem dX6_edit_6 : decode cX6_edit 6 = .ok (.iconst 0, 1) := by decide +kernel
theorem dX6_edit_7 : decode cX6_edit 7 = .ok (.iconst 5, 1) := by decide +kernel
theorem dX6_edit_8 : decode cX6_edit 8 = .ok (.invokestatic 70, 3) := by decide +kernel
theorem dX6_edit_11 : decode cX6_edit 11 = .ok (.iload_n 3, 1) := by decide +kernel
theorem dX6_edit_12 : decode cX6_edit 12 = .ok (.iload_n 2, 1) := by decide +kernel
theorem dX6_edit_13 : decode cX6_edit 13 = .ok (.invokestatic 130, 3) := by decide +kernel
theorem dX6_edit_16 : decode cX6_edit 16 = .ok (.iload_n 2, 1) := by decide +kernel
theorem dX6_edit_17 : decode cX6_edit 17 = .ok (.invokestatic 133, 3) := by decide +kernel
theorem dX6_edit_20 : decode cX6_edit 20 = .ok (.invokestatic 70, 3) := by decide +kernel
theorem dX6_edit_23 : decode cX6_edit 23 = .ok (.aload_n 0, 1) := by decide +kernel
theorem dX6_edit_24 : decode cX6_edit 24 = .ok (.getfield 25, 3) := by decide +kernel
theorem dX6_edit_27 : decode cX6_edit 27 = .ok (.iload_n 1, 1) := by decide +kernel
theorem dX6_edit_28 : decode cX6_edit 28 = .ok (.aaload, 1) := by decide +kernel
theorem dX6_edit_29 : decode cX6_edit 29 = .ok (.getfield 136, 3) := by decide +kernel
theorem dX6_edit_32 : decode cX6_edit 32 = .ok (.astore 4, 2) := by decide +kernel
theorem dX6_edit_34 : decode cX6_edit 34 = .ok (.aload 4, 2) := by decide +kernel
theorem dX6_edit_36 : decode cX6_edit 36 = .ok (.invokevirtual 140, 3) := by decide +kernel
theorem dX6_edit_39 : decode cX6_edit 39 = .ok (.bipush 6, 2) := by decide +kernel
theorem dX6_edit_41 : decode cX6_edit 41 = .ok (.invokestatic 105, 3) := by decide +kernel
theorem dX6_edit_44 : decode cX6_edit 44 = .ok (.aload 4, 2) := by decide +kernel
theorem dX6_edit_46 : decode cX6_edit 46 = .ok (.iload_n 2, 1) := by decide +kernel
theorem dX6_edit_47 : decode cX6_edit 47 = .ok (.iload_n 3, 1) := by decide +kernel
theorem dX6_edit_48 : decode cX6_edit 48 = .ok (.invokevirtual 145, 3) := by decide +kernel
theorem dX6_edit_51 : decode cX6_edit 51 = .ok (.aload 4, 2) := by decide +kernel
theorem dX6_edit_53 : decode cX6_edit 53 = .ok (.invokevirtual 140, 3) := by decide +kernel
theorem dX6_edit_56 : decode cX6_edit 56 = .ok (.ireturn, 1) := by decide +kernel
theorem dX6_undo_0 : decode cX6_undo 0 = .ok (.aload_n 0, 1) := by decide +kernel
theorem dX6_undo_1 : decode cX6_undo 1 = .ok (.iload_n 1, 1) := by decide +kernel
theorem dX6_undo_2 : decode cX6_undo 2 = .ok (.invokevirtual 127, 3) := by decide +kernel
theorem dX6_undo_5 : decode cX6_undo 5 = .ok (.aload_n 0, 1) := by decide +kernel
theorem dX6_undo_6 : decode cX6_undo 6 = .ok (.getfield 25, 3) := by decide +kernel
theorem dX6_undo_9 : decode cX6_undo 9 = .ok (.iload_n 1, 1) := by decide +kernel
theorem dX6_undo_10 : decode cX6_undo 10 = .ok (.aaload, 1) := by decide +kernel
theorem dX6_undo_11 : decode cX6_undo 11 = .ok (.getfield 136, 3) := by decide +kernel
theorem dX6_undo_14 : decode cX6_undo 14 = .ok (.invokevirtual 148, 3) := by decide +kernel
theorem dX6_undo_17 : decode cX6_undo 17 = .ok (.ireturn, 1) := by decide +kernel
theorem dX6_save_0 : decode cX6_save 0 = .ok (.aload_n 0, 1) := by decide +kernel
theorem dX6_save_1 : decode cX6_save 1 = .ok (.iload_n 1, 1) := by decide +kernel
theorem dX6_save_2 : decode cX6_save 2 = .ok (.invokevirtual 127, 3) := by decide +kernel
theorem dX6_save_5 : decode cX6_save 5 = .ok (.aload_n 0, 1) := by decide +kernel
theorem dX6_save_6 : decode cX6_save 6 = .ok (.getfield 39, 3) := by decide +kernel
theorem dX6_save_9 : decode cX6_save 9 = .ok (.bipush 6, 2) := by decide +kernel
theorem dX6_save_11 : decode cX6_save 11 = .ok (.invokestatic 105, 3) := by decide +kernel
theorem dX6_save_14 : decode cX6_save 14 = .ok (.aload_n 0, 1) := by decide +kernel
theorem dX6_save_15 : decode cX6_save 15 = .ok (.getfield 39, 3) := by decide +kernel
theorem dX6_save_18 : decode cX6_save 18 = .ok (.istore_n 2, 1) := by decide +kernel
theorem dX6_save_19 : decode cX6_save 19 = .ok (.aload_n 0, 1) := by decide +kernel
theorem dX6_save_20 : decode cX6_save 20 = .ok (.getfield 31, 3) := by decide +kernel
theorem dX6_save_23 : decode cX6_save 23 = .ok (.iload_n 2, 1) := by decide +kernel
theorem dX6_save_24 : decode cX6_save 24 = .ok (.aaload, 1) := by decide +kernel
theorem dX6_save_25 : decode cX6_save 25 = .ok (.iload_n 1, 1) := by decide +kernel
theorem dX6_save_26 : decode cX6_save 26 = .ok (.aload_n 0, 1) := by decide +kernel
theorem dX6_save_27 : decode cX6_save 27 = .ok (.iload_n 1, 1) := by decide +kernel
theorem dX6_save_28 : decode cX6_save 28 = .ok (.invokevirtual 151, 3) := by decide +kernel
theorem dX6_save_31 : decode cX6_save 31 = .ok (.iconst 1, 1) := by decide +kernel
theorem dX6_save_32 : decode cX6_save 32 = .ok (.iadd, 1) := by decide +kernel
theorem dX6_save_33 : decode cX6_save 33 = .ok (.aload_n 0, 1) := by decide +kernel
theorem dX6_save_34 : decode cX6_save 34 = .ok (.getfield 25, 3) := by decide +kernel
theorem dX6_save_37 : decode cX6_save 37 = .ok (.iload_n 1, 1) := by decide +kernel
theorem dX6_save_38 : decode cX6_save 38 = .ok (.aaload, 1) := by decide +kernel
theorem dX6_save_39 : decode cX6_save 39 = .ok (.getfield 136, 3) := by decide +kernel
theorem dX6_save_42 : decode cX6_save 42 = .ok (.invokevirtual 154, 3) := by decide +kernel
theorem dX6_save_45 : decode cX6_save 45 = .ok (.aload_n 0, 1) := by decide +kernel
theorem dX6_save_46 : decode cX6_save 46 = .ok (.iload_n 2, 1) := by decide +kernel
theorem dX6_save_47 : decode cX6_save 47 = .ok (.iconst 1, 1) := by decide +kernel
theorem dX6_save_48 : decode cX6_save 48 = .ok (.iadd, 1) := by decide +kernel
theorem dX6_save_49 : decode cX6_save 49 = .ok (.putfield 39, 3) := by decide +kernel
theorem dX6_save_52 : decode cX6_save 52 = .ok (.iload_n 2, 1) := by decide +kernel
theorem dX6_save_53 : decode cX6_save 53 = .ok (.ireturn, 1) := by decide +kernel
theorem dX6_raw_0 : decode cX6_raw 0 = .ok (.aload_n 0, 1) := by decide +kernel
theorem dX6_raw_1 : decode cX6_raw 1 = .ok (.iload_n 1, 1) := by decide +kernel
theorem dX6_raw_2 : decode cX6_raw 2 = .ok (.invokevirtual 127, 3) := by decide +kernel
theorem dX6_raw_5 : decode cX6_raw 5 = .ok (.iload_n 2, 1) := by decide +kernel
theorem dX6_raw_6 : decode cX6_raw 6 = .ok (.iload_n 3, 1) := by decide +kernel
theorem dX6_raw_7 : decode cX6_raw 7 = .ok (.invokestatic 58, 3) := by decide +kernel
theorem dX6_raw_10 : decode cX6_raw 10 = .ok (.aload_n 0, 1) := by decide +kernel
theorem dX6_raw_11 : decode cX6_raw 11 = .ok (.getfield 25, 3) := by decide +kernel
theorem dX6_raw_14 : decode cX6_raw 14 = .ok (.iload_n 1, 1) := by decide +kernel
theorem dX6_raw_15 : decode cX6_raw 15 = .ok (.aaload, 1) := by decide +kernel
theorem dX6_raw_16 : decode cX6_raw 16 = .ok (.getfield 158, 3) := by decide +kernel
theorem dX6_raw_19 : decode cX6_raw 19 = .ok (.iload_n 2, 1) := by decide +kernel
theorem dX6_raw_20 : decode cX6_raw 20 = .ok (.iload_n 3, 1) := by decide +kernel
theorem dX6_raw_21 : decode cX6_raw 21 = .ok (.invokestatic 74, 3) := by decide +kernel
theorem dX6_raw_24 : decode cX6_raw 24 = .ok (.iaload, 1) := by decide +kernel
theorem dX6_raw_25 : decode cX6_raw 25 = .ok (.ireturn, 1) := by decide +kernel
theorem dX6_picture_0 : decode cX6_picture 0 = .ok (.aload_n 0, 1) := by decide +kernel
theorem dX6_picture_1 : decode cX6_picture 1 = .ok (.iload_n 1, 1) := by decide +kernel
theorem dX6_picture_2 : decode cX6_picture 2 = .ok (.invokevirtual 127, 3) := by decide +kernel
theorem dX6_picture_5 : decode cX6_picture 5 = .ok (.iload_n 2, 1) := by decide +kernel
theorem dX6_picture_6 : decode cX6_picture 6 = .ok (.iload_n 3, 1) := by decide +kernel
theorem dX6_picture_7 : decode cX6_picture 7 = .ok (.invokestatic 58, 3) := by decide +kernel
theorem dX6_picture_10 : decode cX6_picture 10 = .ok (.iload 4, 2) := by decide +kernel
theorem dX6_picture_12 : decode cX6_picture 12 = .ok (.iconst 0, 1) := by decide +kernel
theorem dX6_picture_13 : decode cX6_picture 13 = .ok (.iconst 2, 1) := by decide +kernel
theorem dX6_picture_14 : decode cX6_picture 14 = .ok (.invokestatic 70, 3) := by decide +kernel
theorem dX6_picture_17 : decode cX6_picture 17 = .ok (.aload_n 0, 1) := by decide +kernel
theorem dX6_picture_18 : decode cX6_picture 18 = .ok (.iload_n 1, 1) := by decide +kernel
theorem dX6_picture_19 : decode cX6_picture 19 = .ok (.aload_n 0, 1) := by decide +kernel
theorem dX6_picture_20 : decode cX6_picture 20 = .ok (.getfield 50, 3) := by decide +kernel
theorem dX6_picture_23 : decode cX6_picture 23 = .ok (.invokevirtual 162, 3) := by decide +kernel
theorem dX6_picture_26 : decode cX6_picture 26 = .ok (.aload_n 0, 1) := by decide +kernel
theorem dX6_picture_27 : decode cX6_picture 27 = .ok (.getfield 50, 3) := by decide +kernel
theorem dX6_picture_30 : decode cX6_picture 30 = .ok (.getfield 166, 3) := by decide +kernel
theorem dX6_picture_33 : decode cX6_picture 33 = .ok (.iload_n 2, 1) := by decide +kernel
theorem dX6_picture_34 : decode cX6_picture 34 = .ok (.iload_n 3, 1) := by decide +kernel
theorem dX6_picture_35 : decode cX6_picture 35 = .ok (.invokestatic 74, 3) := by decide +kernel
theorem dX6_picture_38 : decode cX6_picture 38 = .ok (.iload 4, 2) := by decide +kernel
theorem dX6_picture_40 : decode cX6_picture 40 = .ok (.invokestatic 170, 3) := by decide +kernel
theorem dX6_picture_43 : decode cX6_picture 43 = .ok (.faload, 1) := by decide +kernel
theorem dX6_picture_44 : decode cX6_picture 44 = .ok (.f2d, 1) := by decide +kernel
theorem dX6_picture_45 : decode cX6_picture 45 = .ok (.dreturn, 1) := by decide +kernel
theorem dX6_word_0 : decode cX6_word 0 = .ok (.aload_n 0, 1) := by decide +kernel
theorem dX6_word_1 : decode cX6_word 1 = .ok (.iload_n 1, 1) := by decide +kernel
theorem dX6_word_2 : decode cX6_word 2 = .ok (.invokevirtual 127, 3) := by decide +kernel
theorem dX6_word_5 : decode cX6_word 5 = .ok (.aload_n 0, 1) := by decide +kernel
theorem dX6_word_6 : decode cX6_word 6 = .ok (.iload_n 1, 1) := by decide +kernel
theorem dX6_word_7 : decode cX6_word 7 = .ok (.aload_n 0, 1) := by decide +kernel
theorem dX6_word_8 : decode cX6_word 8 = .ok (.getfield 25, 3) := by decide +kernel
theorem dX6_word_11 : decode cX6_word 11 = .ok (.iload_n 1, 1) := by decide +kernel
theorem dX6_word_12 : decode cX6_word 12 = .ok (.aaload, 1) := by decide +kernel
theorem dX6_word_13 : decode cX6_word 13 = .ok (.getfield 136, 3) := by decide +kernel
theorem dX6_word_16 : decode cX6_word 16 = .ok (.invokevirtual 173, 3) := by decide +kernel
theorem dX6_word_19 : decode cX6_word 19 = .ok (.ireturn, 1) := by decide +kernel
theorem dX6_ofFrame_0 : decode cX6_ofFrame 0 = .ok (.aload_n 0, 1) := by decide +kernel
theorem dX6_ofFrame_1 : decode cX6_ofFrame 1 = .ok (.iload_n 1, 1) := by decide +kernel
theorem dX6_ofFrame_2 : decode cX6_ofFrame 2 = .ok (.invokevirtual 127, 3) := by decide +kernel
theorem dX6_ofFrame_5 : decode cX6_ofFrame 5 = .ok (.iload_n 2, 1) := by decide +kernel
theorem dX6_ofFrame_6 : decode cX6_ofFrame 6 = .ok (.iconst 0, 1) := by decide +kernel
theorem dX6_ofFrame_7 : decode cX6_ofFrame 7 = .ok (.bipush 8, 2) := by decide +kernel
theorem dX6_ofFrame_9 : decode cX6_ofFrame 9 = .ok (.invokestatic 70, 3) := by decide +kernel
theorem dX6_ofFrame_12 : decode cX6_ofFrame 12 = .ok (.aload_n 0, 1) := by decide +kernel
theorem dX6_ofFrame_13 : decode cX6_ofFrame 13 = .ok (.getfield 25, 3) := by decide +kernel
theorem dX6_ofFrame_16 : decode cX6_ofFrame 16 = .ok (.iload_n 1, 1) := by decide +kernel
theorem dX6_ofFrame_17 : decode cX6_ofFrame 17 = .ok (.aaload, 1) := by decide +kernel
theorem dX6_ofFrame_18 : decode cX6_ofFrame 18 = .ok (.astore_n 3, 1) := by decide +kernel
theorem dX6_ofFrame_19 : decode cX6_ofFrame 19 = .ok (.iload_n 2, 1) := by decide +kernel
theorem dX6_ofFrame_20 : decode cX6_ofFrame 20 = .ok (.tableswitch 93 0 7 #[48, 53, 58, 66, 71, 76, 81, 87], 48) := by decide +kernel
theorem dX6_ofFrame_68 : decode cX6_ofFrame 68 = .ok (.aload_n 3, 1) := by decide +kernel
theorem dX6_ofFrame_69 : decode cX6_ofFrame 69 = .ok (.getfield 177, 3) := by decide +kernel
theorem dX6_ofFrame_72 : decode cX6_ofFrame 72 = .ok (.ireturn, 1) := by decide +kernel
theorem dX6_ofFrame_73 : decode cX6_ofFrame 73 = .ok (.aload_n 3, 1) := by decide +kernel
theorem dX6_ofFrame_74 : decode cX6_ofFrame 74 = .ok (.getfield 180, 3) := by decide +kernel
theorem dX6_ofFrame_77 : decode cX6_ofFrame 77 = .ok (.ireturn, 1) := by decide +kernel
theorem dX6_ofFrame_78 : decode cX6_ofFrame 78 = .ok (.aload_n 3, 1) := by decide +kernel
theorem dX6_ofFrame_79 : decode cX6_ofFrame 79 = .ok (.getfield 136, 3) := by decide +kernel
theorem dX6_ofFrame_82 : decode cX6_ofFrame 82 = .ok (.invokevirtual 140, 3) := by decide +kernel
theorem dX6_ofFrame_85 : decode cX6_ofFrame 85 = .ok (.ireturn, 1) := by decide +kernel
theorem dX6_ofFrame_86 : decode cX6_ofFrame 86 = .ok (.aload_n 3, 1) := by decide +kernel
theorem dX6_ofFrame_87 : decode cX6_ofFrame 87 = .ok (.invokevirtual 183, 3) := by decide +kernel
theorem dX6_ofFrame_90 : decode cX6_ofFrame 90 = .ok (.ireturn, 1) := by decide +kernel
theorem dX6_ofFrame_91 : decode cX6_ofFrame 91 = .ok (.aload_n 3, 1) := by decide +kernel
theorem dX6_ofFrame_92 : decode cX6_ofFrame 92 = .ok (.getfield 186, 3) := by decide +kernel
theorem dX6_ofFrame_95 : decode cX6_ofFrame 95 = .ok (.ireturn, 1) := by decide +kernel
theorem dX6_ofFrame_96 : decode cX6_ofFrame 96 = .ok (.aload_n 3, 1) := by decide +kernel
theorem dX6_ofFrame_97 : decode cX6_ofFrame 97 = .ok (.invokevirtual 189, 3) := by decide +kernel
theorem dX6_ofFrame_100 : decode cX6_ofFrame 100 = .ok (.ireturn, 1) := by decide +kernel
theorem dX6_ofFrame_101 : decode cX6_ofFrame 101 = .ok (.aload_n 3, 1) := by decide +kernel
theorem dX6_ofFrame_102 : decode cX6_ofFrame 102 = .ok (.iconst 0, 1) := by decide +kernel
theorem dX6_ofFrame_103 : decode cX6_ofFrame 103 = .ok (.invokevirtual 192, 3) := by decide +kernel
theorem dX6_ofFrame_106 : decode cX6_ofFrame 106 = .ok (.ireturn, 1) := by decide +kernel
theorem dX6_ofFrame_107 : decode cX6_ofFrame 107 = .ok (.aload_n 3, 1) := by decide +kernel
theorem dX6_ofFrame_108 : decode cX6_ofFrame 108 = .ok (.iconst 2, 1) := by decide +kernel
theorem dX6_ofFrame_109 : decode cX6_ofFrame 109 = .ok (.invokevirtual 192, 3) := by decide +kernel
theorem dX6_ofFrame_112 : decode cX6_ofFrame 112 = .ok (.ireturn, 1) := by decide +kernel
theorem dX6_ofFrame_113 : decode cX6_ofFrame 113 = .ok (.aload_n 0, 1) := by decide +kernel
theorem dX6_ofFrame_114 : decode cX6_ofFrame 114 = .ok (.iload_n 1, 1) := by decide +kernel
theorem dX6_ofFrame_115 : decode cX6_ofFrame 115 = .ok (.invokevirtual 151, 3) := by decide +kernel
theorem dX6_ofFrame_118 : decode cX6_ofFrame 118 = .ok (.ireturn, 1) := by decide +kernel
theorem dX6_ofEdit_0 : decode cX6_ofEdit 0 = .ok (.aload_n 0, 1) := by decide +kernel
theorem dX6_ofEdit_1 : decode cX6_ofEdit 1 = .ok (.iload_n 1, 1) := by decide +kernel
theorem dX6_ofEdit_2 : decode cX6_ofEdit 2 = .ok (.invokevirtual 127, 3) := by decide +kernel
theorem dX6_ofEdit_5 : decode cX6_ofEdit 5 = .ok (.aload_n 0, 1) := by decide +kernel
theorem dX6_ofEdit_6 : decode cX6_ofEdit 6 = .ok (.getfield 25, 3) := by decide +kernel
theorem dX6_ofEdit_9 : decode cX6_ofEdit 9 = .ok (.iload_n 1, 1) := by decide +kernel
theorem dX6_ofEdit_10 : decode cX6_ofEdit 10 = .ok (.aaload, 1) := by decide +kernel
theorem dX6_ofEdit_11 : decode cX6_ofEdit 11 = .ok (.getfield 136, 3) := by decide +kernel
theorem dX6_ofEdit_14 : decode cX6_ofEdit 14 = .ok (.astore 4, 2) := by decide +kernel
theorem dX6_ofEdit_16 : decode cX6_ofEdit 16 = .ok (.iload_n 2, 1) := by decide +kernel
theorem dX6_ofEdit_17 : decode cX6_ofEdit 17 = .ok (.aload 4, 2) := by decide +kernel
theorem dX6_ofEdit_19 : decode cX6_ofEdit 19 = .ok (.invokevirtual 140, 3) := by decide +kernel
theorem dX6_ofEdit_22 : decode cX6_ofEdit 22 = .ok (.invokestatic 195, 3) := by decide +kernel
theorem dX6_ofEdit_25 : decode cX6_ofEdit 25 = .ok (.iload_n 3, 1) := by decide +kernel
theorem dX6_ofEdit_26 : decode cX6_ofEdit 26 = .ok (.iconst 0, 1) := by decide +kernel
theorem dX6_ofEdit_27 : decode cX6_ofEdit 27 = .ok (.iconst 1, 1) := by decide +kernel
theorem dX6_ofEdit_28 : decode cX6_ofEdit 28 = .ok (.invokestatic 70, 3) := by decide +kernel
theorem dX6_ofEdit_31 : decode cX6_ofEdit 31 = .ok (.iload_n 3, 1) := by decide +kernel
theorem dX6_ofEdit_32 : decode cX6_ofEdit 32 = .ok (.ifCond .ne 13, 3) := by decide +kernel
theorem dX6_ofEdit_35 : decode cX6_ofEdit 35 = .ok (.aload 4, 2) := by decide +kernel
theorem dX6_ofEdit_37 : decode cX6_ofEdit 37 = .ok (.getfield 198, 3) := by decide +kernel
theorem dX6_ofEdit_40 : decode cX6_ofEdit 40 = .ok (.iload_n 2, 1) := by decide +kernel
theorem dX6_ofEdit_41 : decode cX6_ofEdit 41 = .ok (.iaload, 1) := by decide +kernel
theorem dX6_ofEdit_42 : decode cX6_ofEdit 42 = .ok (.goto 10, 3) := by decide +kernel
theorem dX6_ofEdit_45 : decode cX6_ofEdit 45 = .ok (.aload 4, 2) := by decide +kernel
theorem dX6_ofEdit_47 : decode cX6_ofEdit 47 = .ok (.getfield 201, 3) := by decide +kernel
theorem dX6_ofEdit_50 : decode cX6_ofEdit 50 = .ok (.iload_n 2, 1) := by decide +kernel
theorem dX6_ofEdit_51 : decode cX6_ofEdit 51 = .ok (.iaload, 1) := by decide +kernel
theorem dX6_ofEdit_52 : decode cX6_ofEdit 52 = .ok (.ireturn, 1) := by decide +kernel
theorem dX6_zone_0 : decode cX6_zone 0 = .ok (.aload_n 0, 1) := by decide +kernel
theorem dX6_zone_1 : decode cX6_zone 1 = .ok (.iload_n 1, 1) := by decide +kernel
theorem dX6_zone_2 : decode cX6_zone 2 = .ok (.invokevirtual 127, 3) := by decide +kernel
theorem dX6_zone_5 : decode cX6_zone 5 = .ok (.iload_n 2, 1) := by decide +kernel
theorem dX6_zone_6 : decode cX6_zone 6 = .ok (.iconst 4, 1) := by decide +kernel
theorem dX6_zone_7 : decode cX6_zone 7 = .ok (.invokestatic 195, 3) := by decide +kernel
theorem dX6_zone_10 : decode cX6_zone 10 = .ok (.aload_n 0, 1) := by decide +kernel
theorem dX6_zone_11 : decode cX6_zone 11 = .ok (.getfield 25, 3) := by decide +kernel
theorem dX6_zone_14 : decode cX6_zone 14 = .ok (.iload_n 1, 1) := by decide +kernel
theorem dX6_zone_15 : decode cX6_zone 15 = .ok (.aaload, 1) := by decide +kernel
theorem dX6_zone_16 : decode cX6_zone 16 = .ok (.iload_n 2, 1) := by decide +kernel
theorem dX6_zone_17 : decode cX6_zone 17 = .ok (.invokevirtual 203, 3) := by decide +kernel
theorem dX6_zone_20 : decode cX6_zone 20 = .ok (.dreturn, 1) := by decide +kernel
theorem dX6_meter_0 : decode cX6_meter 0 = .ok (.aload_n 0, 1) := by decide +kernel
theorem dX6_meter_1 : decode cX6_meter 1 = .ok (.iload_n 1, 1) := by decide +kernel
theorem dX6_meter_2 : decode cX6_meter 2 = .ok (.invokevirtual 127, 3) := by decide +kernel
theorem dX6_meter_5 : decode cX6_meter 5 = .ok (.aload_n 0, 1) := by decide +kernel
theorem dX6_meter_6 : decode cX6_meter 6 = .ok (.getfield 25, 3) := by decide +kernel
theorem dX6_meter_9 : decode cX6_meter 9 = .ok (.iload_n 1, 1) := by decide +kernel
theorem dX6_meter_10 : decode cX6_meter 10 = .ok (.aaload, 1) := by decide +kernel
theorem dX6_meter_11 : decode cX6_meter 11 = .ok (.invokevirtual 207, 3) := by decide +kernel
theorem dX6_meter_14 : decode cX6_meter 14 = .ok (.dreturn, 1) := by decide +kernel
theorem dX6_ofFile_0 : decode cX6_ofFile 0 = .ok (.iload_n 1, 1) := by decide +kernel
theorem dX6_ofFile_1 : decode cX6_ofFile 1 = .ok (.aload_n 0, 1) := by decide +kernel
theorem dX6_ofFile_2 : decode cX6_ofFile 2 = .ok (.getfield 39, 3) := by decide +kernel
theorem dX6_ofFile_5 : decode cX6_ofFile 5 = .ok (.invokestatic 195, 3) := by decide +kernel
theorem dX6_ofFile_8 : decode cX6_ofFile 8 = .ok (.iload_n 2, 1) := by decide +kernel
theorem dX6_ofFile_9 : decode cX6_ofFile 9 = .ok (.iconst 0, 1) := by decide +kernel
theorem dX6_ofFile_10 : decode cX6_ofFile 10 = .ok (.iconst 3, 1) := by decide +kernel
theorem dX6_ofFile_11 : decode cX6_ofFile 11 = .ok (.invokestatic 70, 3) := by decide +kernel
theorem dX6_ofFile_14 : decode cX6_ofFile 14 = .ok (.aload_n 0, 1) := by decide +kernel
theorem dX6_ofFile_15 : decode cX6_ofFile 15 = .ok (.getfield 31, 3) := by decide +kernel
theorem dX6_ofFile_18 : decode cX6_ofFile 18 = .ok (.iload_n 1, 1) := by decide +kernel
theorem dX6_ofFile_19 : decode cX6_ofFile 19 = .ok (.aaload, 1) := by decide +kernel
theorem dX6_ofFile_20 : decode cX6_ofFile 20 = .ok (.astore_n 3, 1) := by decide +kernel
theorem dX6_ofFile_21 : decode cX6_ofFile 21 = .ok (.iload_n 2, 1) := by decide +kernel
theorem dX6_ofFile_22 : decode cX6_ofFile 22 = .ok (.tableswitch 44 0 2 #[26, 31, 36], 26) := by decide +kernel
theorem dX6_ofFile_48 : decode cX6_ofFile 48 = .ok (.aload_n 3, 1) := by decide +kernel
theorem dX6_ofFile_49 : decode cX6_ofFile 49 = .ok (.getfield 211, 3) := by decide +kernel
theorem dX6_ofFile_52 : decode cX6_ofFile 52 = .ok (.ireturn, 1) := by decide +kernel
theorem dX6_ofFile_53 : decode cX6_ofFile 53 = .ok (.aload_n 3, 1) := by decide +kernel
theorem dX6_ofFile_54 : decode cX6_ofFile 54 = .ok (.getfield 214, 3) := by decide +kernel
theorem dX6_ofFile_57 : decode cX6_ofFile 57 = .ok (.ireturn, 1) := by decide +kernel
theorem dX6_ofFile_58 : decode cX6_ofFile 58 = .ok (.aload_n 3, 1) := by decide +kernel
theorem dX6_ofFile_59 : decode cX6_ofFile 59 = .ok (.getfield 217, 3) := by decide +kernel
theorem dX6_ofFile_62 : decode cX6_ofFile 62 = .ok (.invokevirtual 140, 3) := by decide +kernel
theorem dX6_ofFile_65 : decode cX6_ofFile 65 = .ok (.ireturn, 1) := by decide +kernel
theorem dX6_ofFile_66 : decode cX6_ofFile 66 = .ok (.aload_n 0, 1) := by decide +kernel
theorem dX6_ofFile_67 : decode cX6_ofFile 67 = .ok (.aload_n 3, 1) := by decide +kernel
theorem dX6_ofFile_68 : decode cX6_ofFile 68 = .ok (.getfield 211, 3) := by decide +kernel
theorem dX6_ofFile_71 : decode cX6_ofFile 71 = .ok (.aload_n 3, 1) := by decide +kernel
theorem dX6_ofFile_72 : decode cX6_ofFile 72 = .ok (.getfield 217, 3) := by decide +kernel
theorem dX6_ofFile_75 : decode cX6_ofFile 75 = .ok (.invokevirtual 173, 3) := by decide +kernel
theorem dX6_ofFile_78 : decode cX6_ofFile 78 = .ok (.ireturn, 1) := by decide +kernel
theorem dX6_ofPlace_0 : decode cX6_ofPlace 0 = .ok (.iload_n 1, 1) := by decide +kernel
theorem dX6_ofPlace_1 : decode cX6_ofPlace 1 = .ok (.iload_n 2, 1) := by decide +kernel
theorem dX6_ofPlace_2 : decode cX6_ofPlace 2 = .ok (.invokestatic 58, 3) := by decide +kernel
theorem dX6_ofPlace_5 : decode cX6_ofPlace 5 = .ok (.iload_n 3, 1) := by decide +kernel
theorem dX6_ofPlace_6 : decode cX6_ofPlace 6 = .ok (.iconst 0, 1) := by decide +kernel
theorem dX6_ofPlace_7 : decode cX6_ofPlace 7 = .ok (.iconst 5, 1) := by decide +kernel
theorem dX6_ofPlace_8 : decode cX6_ofPlace 8 = .ok (.invokestatic 70, 3) := by decide +kernel
theorem dX6_ofPlace_11 : decode cX6_ofPlace 11 = .ok (.iload_n 1, 1) := by decide +kernel
theorem dX6_ofPlace_12 : decode cX6_ofPlace 12 = .ok (.iload_n 2, 1) := by decide +kernel
theorem dX6_ofPlace_13 : decode cX6_ofPlace 13 = .ok (.invokestatic 74, 3) := by decide +kernel
theorem dX6_ofPlace_16 : decode cX6_ofPlace 16 = .ok (.istore 4, 2) := by decide +kernel
theorem dX6_ofPlace_18 : decode cX6_ofPlace 18 = .ok (.iload_n 3, 1) := by decide +kernel
theorem dX6_ofPlace_19 : decode cX6_ofPlace 19 = .ok (.tableswitch 60 0 4 #[33, 33, 33, 44, 50], 33) := by decide +kernel
theorem dX6_ofPlace_52 : decode cX6_ofPlace 52 = .ok (.aload_n 0, 1) := by decide +kernel
theorem dX6_ofPlace_53 : decode cX6_ofPlace 53 = .ok (.getfield 12, 3) := by decide +kernel
theorem dX6_ofPlace_56 : decode cX6_ofPlace 56 = .ok (.iload 4, 2) := by decide +kernel
theorem dX6_ofPlace_58 : decode cX6_ofPlace 58 = .ok (.iload_n 3, 1) := by decide +kernel
theorem dX6_ofPlace_59 : decode cX6_ofPlace 59 = .ok (.invokevirtual 218, 3) := by decide +kernel
theorem dX6_ofPlace_62 : decode cX6_ofPlace 62 = .ok (.ireturn, 1) := by decide +kernel
theorem dX6_ofPlace_63 : decode cX6_ofPlace 63 = .ok (.iload_n 1, 1) := by decide +kernel
theorem dX6_ofPlace_64 : decode cX6_ofPlace 64 = .ok (.iload_n 2, 1) := by decide +kernel
theorem dX6_ofPlace_65 : decode cX6_ofPlace 65 = .ok (.invokestatic 221, 3) := by decide +kernel
theorem dX6_ofPlace_68 : decode cX6_ofPlace 68 = .ok (.ireturn, 1) := by decide +kernel
theorem dX6_ofPlace_69 : decode cX6_ofPlace 69 = .ok (.aload_n 0, 1) := by decide +kernel
theorem dX6_ofPlace_70 : decode cX6_ofPlace 70 = .ok (.getfield 19, 3) := by decide +kernel
theorem dX6_ofPlace_73 : decode cX6_ofPlace 73 = .ok (.iload 4, 2) := by decide +kernel
theorem dX6_ofPlace_75 : decode cX6_ofPlace 75 = .ok (.invokevirtual 88, 3) := by decide +kernel
theorem dX6_ofPlace_78 : decode cX6_ofPlace 78 = .ok (.ireturn, 1) := by decide +kernel
theorem dX6_ofPlace_79 : decode cX6_ofPlace 79 = .ok (.aload_n 0, 1) := by decide +kernel
theorem dX6_ofPlace_80 : decode cX6_ofPlace 80 = .ok (.getfield 19, 3) := by decide +kernel
theorem dX6_ofPlace_83 : decode cX6_ofPlace 83 = .ok (.iload 4, 2) := by decide +kernel
theorem dX6_ofPlace_85 : decode cX6_ofPlace 85 = .ok (.invokevirtual 224, 3) := by decide +kernel
theorem dX6_ofPlace_88 : decode cX6_ofPlace 88 = .ok (.ifCond .eq 7, 3) := by decide +kernel
theorem dX6_ofPlace_91 : decode cX6_ofPlace 91 = .ok (.iconst 1, 1) := by decide +kernel
theorem dX6_ofPlace_92 : decode cX6_ofPlace 92 = .ok (.goto 4, 3) := by decide +kernel
theorem dX6_ofPlace_95 : decode cX6_ofPlace 95 = .ok (.iconst 0, 1) := by decide +kernel
theorem dX6_ofPlace_96 : decode cX6_ofPlace 96 = .ok (.ireturn, 1) := by decide +kernel
theorem dX6_many_0 : decode cX6_many 0 = .ok (.iload_n 1, 1) := by decide +kernel
theorem dX6_many_1 : decode cX6_many 1 = .ok (.iconst 0, 1) := by decide +kernel
theorem dX6_many_2 : decode cX6_many 2 = .ok (.bipush 6, 2) := by decide +kernel
theorem dX6_many_4 : decode cX6_many 4 = .ok (.invokestatic 70, 3) := by decide +kernel
theorem dX6_many_7 : decode cX6_many 7 = .ok (.iload_n 1, 1) := by decide +kernel
theorem dX6_many_8 : decode cX6_many 8 = .ok (.tableswitch 80 0 5 #[40, 45, 50, 58, 66, 71], 40) := by decide +kernel
theorem dX6_many_48 : decode cX6_many 48 = .ok (.aload_n 0, 1) := by decide +kernel
theorem dX6_many_49 : decode cX6_many 49 = .ok (.getfield 35, 3) := by decide +kernel
theorem dX6_many_52 : decode cX6_many 52 = .ok (.ireturn, 1) := by decide +kernel
theorem dX6_many_53 : decode cX6_many 53 = .ok (.aload_n 0, 1) := by decide +kernel
theorem dX6_many_54 : decode cX6_many 54 = .ok (.getfield 39, 3) := by decide +kernel
theorem dX6_many_57 : decode cX6_many 57 = .ok (.ireturn, 1) := by decide +kernel
theorem dX6_many_58 : decode cX6_many 58 = .ok (.aload_n 0, 1) := by decide +kernel
theorem dX6_many_59 : decode cX6_many 59 = .ok (.getfield 19, 3) := by decide +kernel
theorem dX6_many_62 : decode cX6_many 62 = .ok (.invokevirtual 99, 3) := by decide +kernel
theorem dX6_many_65 : decode cX6_many 65 = .ok (.ireturn, 1) := by decide +kernel
theorem dX6_many_66 : decode cX6_many 66 = .ok (.aload_n 0, 1) := by decide +kernel
theorem dX6_many_67 : decode cX6_many 67 = .ok (.getfield 19, 3) := by decide +kernel
theorem dX6_many_70 : decode cX6_many 70 = .ok (.getfield 228, 3) := by decide +kernel
theorem dX6_many_73 : decode cX6_many 73 = .ok (.ireturn, 1) := by decide +kernel
theorem dX6_many_74 : decode cX6_many 74 = .ok (.aload_n 0, 1) := by decide +kernel
theorem dX6_many_75 : decode cX6_many 75 = .ok (.invokevirtual 231, 3) := by decide +kernel
theorem dX6_many_78 : decode cX6_many 78 = .ok (.ireturn, 1) := by decide +kernel
theorem dX6_many_79 : decode cX6_many 79 = .ok (.aload_n 0, 1) := by decide +kernel
theorem dX6_many_80 : decode cX6_many 80 = .ok (.getfield 19, 3) := by decide +kernel
theorem dX6_many_83 : decode cX6_many 83 = .ok (.iconst 1, 1) := by decide +kernel
theorem dX6_many_84 : decode cX6_many 84 = .ok (.invokevirtual 234, 3) := by decide +kernel
theorem dX6_many_87 : decode cX6_many 87 = .ok (.ireturn, 1) := by decide +kernel
theorem dX6_many_88 : decode cX6_many 88 = .ok (.aload_n 0, 1) := by decide +kernel
theorem dX6_many_89 : decode cX6_many 89 = .ok (.getfield 19, 3) := by decide +kernel
theorem dX6_many_92 : decode cX6_many 92 = .ok (.iconst 0, 1) := by decide +kernel
theorem dX6_many_93 : decode cX6_many 93 = .ok (.invokevirtual 234, 3) := by decide +kernel
theorem dX6_many_96 : decode cX6_many 96 = .ok (.ireturn, 1) := by decide +kernel
theorem dX6_apart_0 : decode cX6_apart 0 = .ok (.aload_n 0, 1) := by decide +kernel
theorem dX6_apart_1 : decode cX6_apart 1 = .ok (.iload_n 1, 1) := by decide +kernel
theorem dX6_apart_2 : decode cX6_apart 2 = .ok (.invokevirtual 127, 3) := by decide +kernel
theorem dX6_apart_5 : decode cX6_apart 5 = .ok (.aload_n 0, 1) := by decide +kernel
theorem dX6_apart_6 : decode cX6_apart 6 = .ok (.iload_n 2, 1) := by decide +kernel
theorem dX6_apart_7 : decode cX6_apart 7 = .ok (.invokevirtual 127, 3) := by decide +kernel
theorem dX6_apart_10 : decode cX6_apart 10 = .ok (.aload_n 0, 1) := by decide +kernel
theorem dX6_apart_11 : decode cX6_apart 11 = .ok (.iload_n 1, 1) := by decide +kernel
theorem dX6_apart_12 : decode cX6_apart 12 = .ok (.aload_n 0, 1) := by decide +kernel
theorem dX6_apart_13 : decode cX6_apart 13 = .ok (.getfield 50, 3) := by decide +kernel
theorem dX6_apart_16 : decode cX6_apart 16 = .ok (.invokevirtual 162, 3) := by decide +kernel
theorem dX6_apart_19 : decode cX6_apart 19 = .ok (.aload_n 0, 1) := by decide +kernel
theorem dX6_apart_20 : decode cX6_apart 20 = .ok (.iload_n 2, 1) := by decide +kernel
theorem dX6_apart_21 : decode cX6_apart 21 = .ok (.aload_n 0, 1) := by decide +kernel
theorem dX6_apart_22 : decode cX6_apart 22 = .ok (.getfield 54, 3) := by decide +kernel
theorem dX6_apart_25 : decode cX6_apart 25 = .ok (.invokevirtual 162, 3) := by decide +kernel
theorem dX6_apart_28 : decode cX6_apart 28 = .ok (.aload_n 0, 1) := by decide +kernel
theorem dX6_apart_29 : decode cX6_apart 29 = .ok (.getfield 50, 3) := by decide +kernel
theorem dX6_apart_32 : decode cX6_apart 32 = .ok (.aload_n 0, 1) := by decide +kernel
theorem dX6_apart_33 : decode cX6_apart 33 = .ok (.getfield 54, 3) := by decide +kernel
theorem dX6_apart_36 : decode cX6_apart 36 = .ok (.invokevirtual 238, 3) := by decide +kernel
theorem dX6_apart_39 : decode cX6_apart 39 = .ok (.f2d, 1) := by decide +kernel
theorem dX6_apart_40 : decode cX6_apart 40 = .ok (.dreturn, 1) := by decide +kernel
theorem dX6_wouldClip_0 : decode cX6_wouldClip 0 = .ok (.iload_n 1, 1) := by decide +kernel
theorem dX6_wouldClip_1 : decode cX6_wouldClip 1 = .ok (.iload_n 2, 1) := by decide +kernel
theorem dX6_wouldClip_2 : decode cX6_wouldClip 2 = .ok (.invokestatic 102, 3) := by decide +kernel
theorem dX6_wouldClip_5 : decode cX6_wouldClip 5 = .ok (.aload_n 0, 1) := by decide +kernel
theorem dX6_wouldClip_6 : decode cX6_wouldClip 6 = .ok (.getfield 19, 3) := by decide +kernel
theorem dX6_wouldClip_9 : decode cX6_wouldClip 9 = .ok (.aload_n 0, 1) := by decide +kernel
theorem dX6_wouldClip_10 : decode cX6_wouldClip 10 = .ok (.getfield 12, 3) := by decide +kernel
theorem dX6_wouldClip_13 : decode cX6_wouldClip 13 = .ok (.iload_n 1, 1) := by decide +kernel
theorem dX6_wouldClip_14 : decode cX6_wouldClip 14 = .ok (.iload_n 2, 1) := by decide +kernel
theorem dX6_wouldClip_15 : decode cX6_wouldClip 15 = .ok (.aload_n 0, 1) := by decide +kernel
theorem dX6_wouldClip_16 : decode cX6_wouldClip 16 = .ok (.getfield 43, 3) := by decide +kernel
theorem dX6_wouldClip_19 : decode cX6_wouldClip 19 = .ok (.invokevirtual 108, 3) := by decide +kernel
theorem dX6_wouldClip_22 : decode cX6_wouldClip 22 = .ok (.pop, 1) := by decide +kernel
theorem dX6_wouldClip_23 : decode cX6_wouldClip 23 = .ok (.aload_n 0, 1) := by decide +kernel
theorem dX6_wouldClip_24 : decode cX6_wouldClip 24 = .ok (.getfield 43, 3) := by decide +kernel
theorem dX6_wouldClip_27 : decode cX6_wouldClip 27 = .ok (.invokevirtual 183, 3) := by decide +kernel
theorem dX6_wouldClip_30 : decode cX6_wouldClip 30 = .ok (.ireturn, 1) := by decide +kernel
theorem dX6_bestTake_0 : decode cX6_bestTake 0 = .ok (.iload_n 1, 1) := by decide +kernel
theorem dX6_bestTake_1 : decode cX6_bestTake 1 = .ok (.iconst 0, 1) := by decide +kernel
theorem dX6_bestTake_2 : decode cX6_bestTake 2 = .ok (.sipush 255, 3) := by decide +kernel
theorem dX6_bestTake_5 : decode cX6_bestTake 5 = .ok (.invokestatic 70, 3) := by decide +kernel
theorem dX6_bestTake_8 : decode cX6_bestTake 8 = .ok (.iconst (-1), 1) := by decide +kernel
theorem dX6_bestTake_9 : decode cX6_bestTake 9 = .ok (.istore_n 2, 1) := by decide +kernel
theorem dX6_bestTake_10 : decode cX6_bestTake 10 = .ok (.dconst 0, 1) := by decide +kernel
theorem dX6_bestTake_11 : decode cX6_bestTake 11 = .ok (.dstore_n 3, 1) := by decide +kernel
theorem dX6_bestTake_12 : decode cX6_bestTake 12 = .ok (.iconst 1, 1) := by decide +kernel
theorem dX6_bestTake_13 : decode cX6_bestTake 13 = .ok (.istore 5, 2) := by decide +kernel
theorem dX6_bestTake_15 : decode cX6_bestTake 15 = .ok (.iload 5, 2) := by decide +kernel
theorem dX6_bestTake_17 : decode cX6_bestTake 17 = .ok (.bipush 8, 2) := by decide +kernel
theorem dX6_bestTake_19 : decode cX6_bestTake 19 = .ok (.if_icmp .gt 101, 3) := by decide +kernel
theorem dX6_bestTake_22 : decode cX6_bestTake 22 = .ok (.iconst 1, 1) := by decide +kernel
theorem dX6_bestTake_23 : decode cX6_bestTake 23 = .ok (.istore 6, 2) := by decide +kernel
theorem dX6_bestTake_25 : decode cX6_bestTake 25 = .ok (.iload 6, 2) := by decide +kernel
theorem dX6_bestTake_27 : decode cX6_bestTake 27 = .ok (.bipush 64, 2) := by decide +kernel
theorem dX6_bestTake_29 : decode cX6_bestTake 29 = .ok (.if_icmp .gt 85, 3) := by decide +kernel
theorem dX6_bestTake_32 : decode cX6_bestTake 32 = .ok (.aload_n 0, 1) := by decide +kernel
theorem dX6_bestTake_33 : decode cX6_bestTake 33 = .ok (.getfield 19, 3) := by decide +kernel
theorem dX6_bestTake_36 : decode cX6_bestTake 36 = .ok (.aload_n 0, 1) := by decide +kernel
theorem dX6_bestTake_37 : decode cX6_bestTake 37 = .ok (.getfield 12, 3) := by decide +kernel
theorem dX6_bestTake_40 : decode cX6_bestTake 40 = .ok (.iload 6, 2) := by decide +kernel
theorem dX6_bestTake_42 : decode cX6_bestTake 42 = .ok (.iload 5, 2) := by decide +kernel
theorem dX6_bestTake_44 : decode cX6_bestTake 44 = .ok (.aload_n 0, 1) := by decide +kernel
theorem dX6_bestTake_45 : decode cX6_bestTake 45 = .ok (.getfield 43, 3) := by decide +kernel
theorem dX6_bestTake_48 : decode cX6_bestTake 48 = .ok (.invokevirtual 108, 3) := by decide +kernel
theorem dX6_bestTake_51 : decode cX6_bestTake 51 = .ok (.pop, 1) := by decide +kernel
theorem dX6_bestTake_52 : decode cX6_bestTake 52 = .ok (.aload_n 0, 1) := by decide +kernel
theorem dX6_bestTake_53 : decode cX6_bestTake 53 = .ok (.getfield 43, 3) := by decide +kernel
theorem dX6_bestTake_56 : decode cX6_bestTake 56 = .ok (.invokevirtual 207, 3) := by decide +kernel
theorem dX6_bestTake_59 : decode cX6_bestTake 59 = .ok (.iload_n 1, 1) := by decide +kernel
theorem dX6_bestTake_60 : decode cX6_bestTake 60 = .ok (.i2d, 1) := by decide +kernel
theorem dX6_bestTake_61 : decode cX6_bestTake 61 = .ok (.dsub, 1) := by decide +kernel
theorem dX6_bestTake_62 : decode cX6_bestTake 62 = .ok (.dstore 7, 2) := by decide +kernel
theorem dX6_bestTake_64 : decode cX6_bestTake 64 = .ok (.dload 7, 2) := by decide +kernel
theorem dX6_bestTake_66 : decode cX6_bestTake 66 = .ok (.dconst 0, 1) := by decide +kernel
theorem dX6_bestTake_67 : decode cX6_bestTake 67 = .ok (.dcmp .g, 1) := by decide +kernel
theorem dX6_bestTake_68 : decode cX6_bestTake 68 = .ok (.ifCond .ge 9, 3) := by decide +kernel
theorem dX6_bestTake_71 : decode cX6_bestTake 71 = .ok (.dload 7, 2) := by decide +kernel
theorem dX6_bestTake_73 : decode cX6_bestTake 73 = .ok (.dneg, 1) := by decide +kernel
theorem dX6_bestTake_74 : decode cX6_bestTake 74 = .ok (.goto 5, 3) := by decide +kernel
theorem dX6_bestTake_77 : decode cX6_bestTake 77 = .ok (.dload 7, 2) := by decide +kernel
theorem dX6_bestTake_79 : decode cX6_bestTake 79 = .ok (.dstore 7, 2) := by decide +kernel
theorem dX6_bestTake_81 : decode cX6_bestTake 81 = .ok (.iload_n 2, 1) := by decide +kernel
theorem dX6_bestTake_82 : decode cX6_bestTake 82 = .ok (.iconst (-1), 1) := by decide +kernel
theorem dX6_bestTake_83 : decode cX6_bestTake 83 = .ok (.if_icmp .eq 10, 3) := by decide +kernel
theorem dX6_bestTake_86 : decode cX6_bestTake 86 = .ok (.dload 7, 2) := by decide +kernel
theorem dX6_bestTake_88 : decode cX6_bestTake 88 = .ok (.dload_n 3, 1) := by decide +kernel
theorem dX6_bestTake_89 : decode cX6_bestTake 89 = .ok (.dcmp .g, 1) := by decide +kernel
theorem dX6_bestTake_90 : decode cX6_bestTake 90 = .ok (.ifCond .ge 15, 3) := by decide +kernel
theorem dX6_bestTake_93 : decode cX6_bestTake 93 = .ok (.bipush 16, 2) := by decide +kernel
theorem dX6_bestTake_95 : decode cX6_bestTake 95 = .ok (.iload 6, 2) := by decide +kernel
theorem dX6_bestTake_97 : decode cX6_bestTake 97 = .ok (.imul, 1) := by decide +kernel
theorem dX6_bestTake_98 : decode cX6_bestTake 98 = .ok (.iload 5, 2) := by decide +kernel
theorem dX6_bestTake_100 : decode cX6_bestTake 100 = .ok (.iadd, 1) := by decide +kernel
theorem dX6_bestTake_101 : decode cX6_bestTake 101 = .ok (.istore_n 2, 1) := by decide +kernel
theorem dX6_bestTake_102 : decode cX6_bestTake 102 = .ok (.dload 7, 2) := by decide +kernel
theorem dX6_bestTake_104 : decode cX6_bestTake 104 = .ok (.dstore_n 3, 1) := by decide +kernel
theorem dX6_bestTake_105 : decode cX6_bestTake 105 = .ok (.iconst 2, 1) := by decide +kernel
theorem dX6_bestTake_106 : decode cX6_bestTake 106 = .ok (.iload 6, 2) := by decide +kernel
theorem dX6_bestTake_108 : decode cX6_bestTake 108 = .ok (.imul, 1) := by decide +kernel
theorem dX6_bestTake_109 : decode cX6_bestTake 109 = .ok (.istore 6, 2) := by decide +kernel
theorem dX6_bestTake_111 : decode cX6_bestTake 111 = .ok (.goto (-86), 3) := by decide +kernel
theorem dX6_bestTake_114 : decode cX6_bestTake 114 = .ok (.iinc 5 1, 3) := by decide +kernel
theorem dX6_bestTake_117 : decode cX6_bestTake 117 = .ok (.goto (-102), 3) := by decide +kernel
theorem dX6_bestTake_120 : decode cX6_bestTake 120 = .ok (.iload_n 2, 1) := by decide +kernel
theorem dX6_bestTake_121 : decode cX6_bestTake 121 = .ok (.ireturn, 1) := by decide +kernel
theorem dX6_bestWhite_0 : decode cX6_bestWhite 0 = .ok (.aload_n 0, 1) := by decide +kernel
theorem dX6_bestWhite_1 : decode cX6_bestWhite 1 = .ok (.iload_n 1, 1) := by decide +kernel
theorem dX6_bestWhite_2 : decode cX6_bestWhite 2 = .ok (.invokevirtual 127, 3) := by decide +kernel
theorem dX6_bestWhite_5 : decode cX6_bestWhite 5 = .ok (.iload_n 2, 1) := by decide +kernel
theorem dX6_bestWhite_6 : decode cX6_bestWhite 6 = .ok (.iconst 1, 1) := by decide +kernel
theorem dX6_bestWhite_7 : decode cX6_bestWhite 7 = .ok (.iconst 2, 1) := by decide +kernel
theorem dX6_bestWhite_8 : decode cX6_bestWhite 8 = .ok (.invokestatic 70, 3) := by decide +kernel
theorem dX6_bestWhite_11 : decode cX6_bestWhite 11 = .ok (.aload_n 0, 1) := by decide +kernel
theorem dX6_bestWhite_12 : decode cX6_bestWhite 12 = .ok (.getfield 25, 3) := by decide +kernel
theorem dX6_bestWhite_15 : decode cX6_bestWhite 15 = .ok (.iload_n 1, 1) := by decide +kernel
theorem dX6_bestWhite_16 : decode cX6_bestWhite 16 = .ok (.aaload, 1) := by decide +kernel
theorem dX6_bestWhite_17 : decode cX6_bestWhite 17 = .ok (.astore_n 3, 1) := by decide +kernel
theorem dX6_bestWhite_18 : decode cX6_bestWhite 18 = .ok (.aload_n 0, 1) := by decide +kernel
theorem dX6_bestWhite_19 : decode cX6_bestWhite 19 = .ok (.getfield 50, 3) := by decide +kernel
theorem dX6_bestWhite_22 : decode cX6_bestWhite 22 = .ok (.aload_n 3, 1) := by decide +kernel
theorem dX6_bestWhite_23 : decode cX6_bestWhite 23 = .ok (.getfield 158, 3) := by decide +kernel
theorem dX6_bestWhite_26 : decode cX6_bestWhite 26 = .ok (.aload_n 3, 1) := by decide +kernel
theorem dX6_bestWhite_27 : decode cX6_bestWhite 27 = .ok (.getfield 136, 3) := by decide +kernel
theorem dX6_bestWhite_30 : decode cX6_bestWhite 30 = .ok (.aload_n 0, 1) := by decide +kernel
theorem dX6_bestWhite_31 : decode cX6_bestWhite 31 = .ok (.getfield 19, 3) := by decide +kernel
theorem dX6_bestWhite_34 : decode cX6_bestWhite 34 = .ok (.getfield 242, 3) := by decide +kernel
theorem dX6_bestWhite_37 : decode cX6_bestWhite 37 = .ok (.invokevirtual 246, 3) := by decide +kernel
theorem dX6_bestWhite_40 : decode cX6_bestWhite 40 = .ok (.iload_n 2, 1) := by decide +kernel
theorem dX6_bestWhite_41 : decode cX6_bestWhite 41 = .ok (.iconst 1, 1) := by decide +kernel
theorem dX6_bestWhite_42 : decode cX6_bestWhite 42 = .ok (.if_icmp .ne 7, 3) := by decide +kernel
theorem dX6_bestWhite_45 : decode cX6_bestWhite 45 = .ok (.iconst 0, 1) := by decide +kernel
theorem dX6_bestWhite_46 : decode cX6_bestWhite 46 = .ok (.goto 4, 3) := by decide +kernel
theorem dX6_bestWhite_49 : decode cX6_bestWhite 49 = .ok (.iconst 2, 1) := by decide +kernel
theorem dX6_bestWhite_50 : decode cX6_bestWhite 50 = .ok (.istore 4, 2) := by decide +kernel
theorem dX6_bestWhite_52 : decode cX6_bestWhite 52 = .ok (.aload_n 0, 1) := by decide +kernel
theorem dX6_bestWhite_53 : decode cX6_bestWhite 53 = .ok (.getfield 50, 3) := by decide +kernel
theorem dX6_bestWhite_56 : decode cX6_bestWhite 56 = .ok (.iconst 1, 1) := by decide +kernel
theorem dX6_bestWhite_57 : decode cX6_bestWhite 57 = .ok (.fconst 1, 1) := by decide +kernel
theorem dX6_bestWhite_58 : decode cX6_bestWhite 58 = .ok (.invokevirtual 250, 3) := by decide +kernel
theorem dX6_bestWhite_61 : decode cX6_bestWhite 61 = .ok (.istore 5, 2) := by decide +kernel
theorem dX6_bestWhite_63 : decode cX6_bestWhite 63 = .ok (.iconst (-1), 1) := by decide +kernel
theorem dX6_bestWhite_64 : decode cX6_bestWhite 64 = .ok (.istore 6, 2) := by decide +kernel
theorem dX6_bestWhite_66 : decode cX6_bestWhite 66 = .ok (.iconst 0, 1) := by decide +kernel
theorem dX6_bestWhite_67 : decode cX6_bestWhite 67 = .ok (.istore 7, 2) := by decide +kernel
theorem dX6_bestWhite_69 : decode cX6_bestWhite 69 = .ok (.iload_n 2, 1) := by decide +kernel
theorem dX6_bestWhite_70 : decode cX6_bestWhite 70 = .ok (.invokestatic 130, 3) := by decide +kernel
theorem dX6_bestWhite_73 : decode cX6_bestWhite 73 = .ok (.istore 8, 2) := by decide +kernel
theorem dX6_bestWhite_75 : decode cX6_bestWhite 75 = .ok (.iload 8, 2) := by decide +kernel
theorem dX6_bestWhite_77 : decode cX6_bestWhite 77 = .ok (.iload_n 2, 1) := by decide +kernel
theorem dX6_bestWhite_78 : decode cX6_bestWhite 78 = .ok (.invokestatic 133, 3) := by decide +kernel
theorem dX6_bestWhite_81 : decode cX6_bestWhite 81 = .ok (.if_icmp .gt 53, 3) := by decide +kernel
theorem dX6_bestWhite_84 : decode cX6_bestWhite 84 = .ok (.iload 5, 2) := by decide +kernel
theorem dX6_bestWhite_86 : decode cX6_bestWhite 86 = .ok (.aload_n 0, 1) := by decide +kernel
theorem dX6_bestWhite_87 : decode cX6_bestWhite 87 = .ok (.getfield 50, 3) := by decide +kernel
theorem dX6_bestWhite_90 : decode cX6_bestWhite 90 = .ok (.iload 4, 2) := by decide +kernel
theorem dX6_bestWhite_92 : decode cX6_bestWhite 92 = .ok (.iload 8, 2) := by decide +kernel
theorem dX6_bestWhite_94 : decode cX6_bestWhite 94 = .ok (.i2f, 1) := by decide +kernel
theorem dX6_bestWhite_95 : decode cX6_bestWhite 95 = .ok (.ldc 254, 2) := by decide +kernel
theorem dX6_bestWhite_97 : decode cX6_bestWhite 97 = .ok (.fdiv, 1) := by decide +kernel
theorem dX6_bestWhite_98 : decode cX6_bestWhite 98 = .ok (.invokevirtual 250, 3) := by decide +kernel
theorem dX6_bestWhite_101 : decode cX6_bestWhite 101 = .ok (.isub, 1) := by decide +kernel
theorem dX6_bestWhite_102 : decode cX6_bestWhite 102 = .ok (.invokestatic 255, 3) := by decide +kernel
theorem dX6_bestWhite_105 : decode cX6_bestWhite 105 = .ok (.istore 9, 2) := by decide +kernel
theorem dX6_bestWhite_107 : decode cX6_bestWhite 107 = .ok (.iload 6, 2) := by decide +kernel
theorem dX6_bestWhite_109 : decode cX6_bestWhite 109 = .ok (.iconst (-1), 1) := by decide +kernel
theorem dX6_bestWhite_110 : decode cX6_bestWhite 110 = .ok (.if_icmp .eq 10, 3) := by decide +kernel
theorem dX6_bestWhite_113 : decode cX6_bestWhite 113 = .ok (.iload 9, 2) := by decide +kernel
theorem dX6_bestWhite_115 : decode cX6_bestWhite 115 = .ok (.iload 7, 2) := by decide +kernel
theorem dX6_bestWhite_117 : decode cX6_bestWhite 117 = .ok (.if_icmp .ge 11, 3) := by decide +kernel
theorem dX6_bestWhite_120 : decode cX6_bestWhite 120 = .ok (.iload 8, 2) := by decide +kernel
theorem dX6_bestWhite_122 : decode cX6_bestWhite 122 = .ok (.istore 6, 2) := by decide +kernel
theorem dX6_bestWhite_124 : decode cX6_bestWhite 124 = .ok (.iload 9, 2) := by decide +kernel
theorem dX6_bestWhite_126 : decode cX6_bestWhite 126 = .ok (.istore 7, 2) := by decide +kernel
theorem dX6_bestWhite_128 : decode cX6_bestWhite 128 = .ok (.iinc 8 1, 3) := by decide +kernel
theorem dX6_bestWhite_131 : decode cX6_bestWhite 131 = .ok (.goto (-56), 3) := by decide +kernel
theorem dX6_bestWhite_134 : decode cX6_bestWhite 134 = .ok (.iload 6, 2) := by decide +kernel
theorem dX6_bestWhite_136 : decode cX6_bestWhite 136 = .ok (.ireturn, 1) := by decide +kernel
theorem dX6_digest_0 : decode cX6_digest 0 = .ok (.ldc2_w 260, 3) := by decide +kernel
theorem dX6_digest_3 : decode cX6_digest 3 = .ok (.lstore_n 1, 1) := by decide +kernel
theorem dX6_digest_4 : decode cX6_digest 4 = .ok (.iconst 0, 1) := by decide +kernel
theorem dX6_digest_5 : decode cX6_digest 5 = .ok (.istore_n 3, 1) := by decide +kernel
theorem dX6_digest_6 : decode cX6_digest 6 = .ok (.iload_n 3, 1) := by decide +kernel
theorem dX6_digest_7 : decode cX6_digest 7 = .ok (.bipush 6, 2) := by decide +kernel
theorem dX6_digest_9 : decode cX6_digest 9 = .ok (.if_icmp .gt 22, 3) := by decide +kernel
theorem dX6_digest_12 : decode cX6_digest 12 = .ok (.lload_n 1, 1) := by decide +kernel
theorem dX6_digest_13 : decode cX6_digest 13 = .ok (.ldc2_w 262, 3) := by decide +kernel
theorem dX6_digest_16 : decode cX6_digest 16 = .ok (.lmul, 1) := by decide +kernel
theorem dX6_digest_17 : decode cX6_digest 17 = .ok (.aload_n 0, 1) := by decide +kernel
theorem dX6_digest_18 : decode cX6_digest 18 = .ok (.iload_n 3, 1) := by decide +kernel
theorem dX6_digest_19 : decode cX6_digest 19 = .ok (.invokevirtual 264, 3) := by decide +kernel
theorem dX6_digest_22 : decode cX6_digest 22 = .ok (.i2l, 1) := by decide +kernel
theorem dX6_digest_23 : decode cX6_digest 23 = .ok (.ladd, 1) := by decide +kernel
theorem dX6_digest_24 : decode cX6_digest 24 = .ok (.lstore_n 1, 1) := by decide +kernel
theorem dX6_digest_25 : decode cX6_digest 25 = .ok (.iinc 3 1, 3) := by decide +kernel
theorem dX6_digest_28 : decode cX6_digest 28 = .ok (.goto (-22), 3) := by decide +kernel
theorem dX6_digest_31 : decode cX6_digest 31 = .ok (.iconst 0, 1) := by decide +kernel
theorem dX6_digest_32 : decode cX6_digest 32 = .ok (.istore_n 3, 1) := by decide +kernel
theorem dX6_digest_33 : decode cX6_digest 33 = .ok (.iload_n 3, 1) := by decide +kernel
theorem dX6_digest_34 : decode cX6_digest 34 = .ok (.aload_n 0, 1) := by decide +kernel
theorem dX6_digest_35 : decode cX6_digest 35 = .ok (.getfield 35, 3) := by decide +kernel
theorem dX6_digest_38 : decode cX6_digest 38 = .ok (.if_icmp .ge 110, 3) := by decide +kernel
theorem dX6_digest_41 : decode cX6_digest 41 = .ok (.iconst 0, 1) := by decide +kernel
theorem dX6_digest_42 : decode cX6_digest 42 = .ok (.istore 4, 2) := by decide +kernel
theorem dX6_digest_44 : decode cX6_digest 44 = .ok (.iload 4, 2) := by decide +kernel
theorem dX6_digest_46 : decode cX6_digest 46 = .ok (.bipush 8, 2) := by decide +kernel
theorem dX6_digest_48 : decode cX6_digest 48 = .ok (.if_icmp .gt 24, 3) := by decide +kernel
theorem dX6_digest_51 : decode cX6_digest 51 = .ok (.lload_n 1, 1) := by decide +kernel
theorem dX6_digest_52 : decode cX6_digest 52 = .ok (.ldc2_w 262, 3) := by decide +kernel
theorem dX6_digest_55 : decode cX6_digest 55 = .ok (.lmul, 1) := by decide +kernel
theorem dX6_digest_56 : decode cX6_digest 56 = .ok (.aload_n 0, 1) := by decide +kernel
theorem dX6_digest_57 : decode cX6_digest 57 = .ok (.iload_n 3, 1) := by decide +kernel
theorem dX6_digest_58 : decode cX6_digest 58 = .ok (.iload 4, 2) := by decide +kernel
theorem dX6_digest_60 : decode cX6_digest 60 = .ok (.invokevirtual 267, 3) := by decide +kernel
theorem dX6_digest_63 : decode cX6_digest 63 = .ok (.i2l, 1) := by decide +kernel
theorem dX6_digest_64 : decode cX6_digest 64 = .ok (.ladd, 1) := by decide +kernel
theorem dX6_digest_65 : decode cX6_digest 65 = .ok (.lstore_n 1, 1) := by decide +kernel
theorem dX6_digest_66 : decode cX6_digest 66 = .ok (.iinc 4 1, 3) := by decide +kernel
theorem dX6_digest_69 : decode cX6_digest 69 = .ok (.goto (-25), 3) := by decide +kernel
theorem dX6_digest_72 : decode cX6_digest 72 = .ok (.lload_n 1, 1) := by decide +kernel
theorem dX6_digest_73 : decode cX6_digest 73 = .ok (.ldc2_w 262, 3) := by decide +kernel
theorem dX6_digest_76 : decode cX6_digest 76 = .ok (.lmul, 1) := by decide +kernel
theorem dX6_digest_77 : decode cX6_digest 77 = .ok (.aload_n 0, 1) := by decide +kernel
theorem dX6_digest_78 : decode cX6_digest 78 = .ok (.iload_n 3, 1) := by decide +kernel
theorem dX6_digest_79 : decode cX6_digest 79 = .ok (.invokevirtual 270, 3) := by decide +kernel
theorem dX6_digest_82 : decode cX6_digest 82 = .ok (.i2l, 1) := by decide +kernel
theorem dX6_digest_83 : decode cX6_digest 83 = .ok (.ladd, 1) := by decide +kernel
theorem dX6_digest_84 : decode cX6_digest 84 = .ok (.lstore_n 1, 1) := by decide +kernel
theorem dX6_digest_85 : decode cX6_digest 85 = .ok (.lload_n 1, 1) := by decide +kernel
theorem dX6_digest_86 : decode cX6_digest 86 = .ok (.ldc2_w 262, 3) := by decide +kernel
theorem dX6_digest_89 : decode cX6_digest 89 = .ok (.lmul, 1) := by decide +kernel
theorem dX6_digest_90 : decode cX6_digest 90 = .ok (.aload_n 0, 1) := by decide +kernel
theorem dX6_digest_91 : decode cX6_digest 91 = .ok (.iload_n 3, 1) := by decide +kernel
theorem dX6_digest_92 : decode cX6_digest 92 = .ok (.invokevirtual 273, 3) := by decide +kernel
theorem dX6_digest_95 : decode cX6_digest 95 = .ok (.ldc2_w 276, 3) := by decide +kernel
theorem dX6_digest_98 : decode cX6_digest 98 = .ok (.dmul, 1) := by decide +kernel
theorem dX6_digest_99 : decode cX6_digest 99 = .ok (.d2l, 1) := by decide +kernel
theorem dX6_digest_100 : decode cX6_digest 100 = .ok (.ladd, 1) := by decide +kernel
theorem dX6_digest_101 : decode cX6_digest 101 = .ok (.lstore_n 1, 1) := by decide +kernel
theorem dX6_digest_102 : decode cX6_digest 102 = .ok (.aload_n 0, 1) := by decide +kernel
theorem dX6_digest_103 : decode cX6_digest 103 = .ok (.getfield 25, 3) := by decide +kernel
theorem dX6_digest_106 : decode cX6_digest 106 = .ok (.iload_n 3, 1) := by decide +kernel
theorem dX6_digest_107 : decode cX6_digest 107 = .ok (.aaload, 1) := by decide +kernel
theorem dX6_digest_108 : decode cX6_digest 108 = .ok (.getfield 158, 3) := by decide +kernel
theorem dX6_digest_111 : decode cX6_digest 111 = .ok (.astore 4, 2) := by decide +kernel
theorem dX6_digest_113 : decode cX6_digest 113 = .ok (.iconst 0, 1) := by decide +kernel
theorem dX6_digest_114 : decode cX6_digest 114 = .ok (.istore 5, 2) := by decide +kernel
theorem dX6_digest_116 : decode cX6_digest 116 = .ok (.iload 5, 2) := by decide +kernel
theorem dX6_digest_118 : decode cX6_digest 118 = .ok (.bipush 64, 2) := by decide +kernel
theorem dX6_digest_120 : decode cX6_digest 120 = .ok (.if_icmp .ge 22, 3) := by decide +kernel
theorem dX6_digest_123 : decode cX6_digest 123 = .ok (.lload_n 1, 1) := by decide +kernel
theorem dX6_digest_124 : decode cX6_digest 124 = .ok (.ldc2_w 262, 3) := by decide +kernel
theorem dX6_digest_127 : decode cX6_digest 127 = .ok (.lmul, 1) := by decide +kernel
theorem dX6_digest_128 : decode cX6_digest 128 = .ok (.aload 4, 2) := by decide +kernel
theorem dX6_digest_130 : decode cX6_digest 130 = .ok (.iload 5, 2) := by decide +kernel
theorem dX6_digest_132 : decode cX6_digest 132 = .ok (.iaload, 1) := by decide +kernel
theorem dX6_digest_133 : decode cX6_digest 133 = .ok (.i2l, 1) := by decide +kernel
theorem dX6_digest_134 : decode cX6_digest 134 = .ok (.ladd, 1) := by decide +kernel
theorem dX6_digest_135 : decode cX6_digest 135 = .ok (.lstore_n 1, 1) := by decide +kernel
theorem dX6_digest_136 : decode cX6_digest 136 = .ok (.iinc 5 1, 3) := by decide +kernel
theorem dX6_digest_139 : decode cX6_digest 139 = .ok (.goto (-23), 3) := by decide +kernel
theorem dX6_digest_142 : decode cX6_digest 142 = .ok (.iinc 3 1, 3) := by decide +kernel
theorem dX6_digest_145 : decode cX6_digest 145 = .ok (.goto (-112), 3) := by decide +kernel
theorem dX6_digest_148 : decode cX6_digest 148 = .ok (.iconst 0, 1) := by decide +kernel
theorem dX6_digest_149 : decode cX6_digest 149 = .ok (.istore_n 3, 1) := by decide +kernel
theorem dX6_digest_150 : decode cX6_digest 150 = .ok (.iload_n 3, 1) := by decide +kernel
theorem dX6_digest_151 : decode cX6_digest 151 = .ok (.aload_n 0, 1) := by decide +kernel
theorem dX6_digest_152 : decode cX6_digest 152 = .ok (.getfield 39, 3) := by decide +kernel
theorem dX6_digest_155 : decode cX6_digest 155 = .ok (.if_icmp .ge 39, 3) := by decide +kernel
theorem dX6_digest_158 : decode cX6_digest 158 = .ok (.iconst 0, 1) := by decide +kernel
theorem dX6_digest_159 : decode cX6_digest 159 = .ok (.istore 4, 2) := by decide +kernel
theorem dX6_digest_161 : decode cX6_digest 161 = .ok (.iload 4, 2) := by decide +kernel
theorem dX6_digest_163 : decode cX6_digest 163 = .ok (.iconst 3, 1) := by decide +kernel
theorem dX6_digest_164 : decode cX6_digest 164 = .ok (.if_icmp .gt 24, 3) := by decide +kernel
theorem dX6_digest_167 : decode cX6_digest 167 = .ok (.lload_n 1, 1) := by decide +kernel
theorem dX6_digest_168 : decode cX6_digest 168 = .ok (.ldc2_w 262, 3) := by decide +kernel
theorem dX6_digest_171 : decode cX6_digest 171 = .ok (.lmul, 1) := by decide +kernel
theorem dX6_digest_172 : decode cX6_digest 172 = .ok (.aload_n 0, 1) := by decide +kernel
theorem dX6_digest_173 : decode cX6_digest 173 = .ok (.iload_n 3, 1) := by decide +kernel
theorem dX6_digest_174 : decode cX6_digest 174 = .ok (.iload 4, 2) := by decide +kernel
theorem dX6_digest_176 : decode cX6_digest 176 = .ok (.invokevirtual 278, 3) := by decide +kernel
theorem dX6_digest_179 : decode cX6_digest 179 = .ok (.i2l, 1) := by decide +kernel
theorem dX6_digest_180 : decode cX6_digest 180 = .ok (.ladd, 1) := by decide +kernel
theorem dX6_digest_181 : decode cX6_digest 181 = .ok (.lstore_n 1, 1) := by decide +kernel
theorem dX6_digest_182 : decode cX6_digest 182 = .ok (.iinc 4 1, 3) := by decide +kernel
theorem dX6_digest_185 : decode cX6_digest 185 = .ok (.goto (-24), 3) := by decide +kernel
theorem dX6_digest_188 : decode cX6_digest 188 = .ok (.iinc 3 1, 3) := by decide +kernel
theorem dX6_digest_191 : decode cX6_digest 191 = .ok (.goto (-41), 3) := by decide +kernel
theorem dX6_digest_194 : decode cX6_digest 194 = .ok (.lload_n 1, 1) := by decide +kernel
theorem dX6_digest_195 : decode cX6_digest 195 = .ok (.ldc2_w 262, 3) := by decide +kernel
theorem dX6_digest_198 : decode cX6_digest 198 = .ok (.lmul, 1) := by decide +kernel
theorem dX6_digest_199 : decode cX6_digest 199 = .ok (.aload_n 0, 1) := by decide +kernel
theorem dX6_digest_200 : decode cX6_digest 200 = .ok (.bipush 16, 2) := by decide +kernel
theorem dX6_digest_202 : decode cX6_digest 202 = .ok (.iconst 1, 1) := by decide +kernel
theorem dX6_digest_203 : decode cX6_digest 203 = .ok (.invokevirtual 281, 3) := by decide +kernel
theorem dX6_digest_206 : decode cX6_digest 206 = .ok (.i2l, 1) := by decide +kernel
theorem dX6_digest_207 : decode cX6_digest 207 = .ok (.ladd, 1) := by decide +kernel
theorem dX6_digest_208 : decode cX6_digest 208 = .ok (.lreturn, 1) := by decide +kernel
theorem dX6_needIndex_0 : decode cX6_needIndex 0 = .ok (.iload_n 0, 1) := by decide +kernel
theorem dX6_needIndex_1 : decode cX6_needIndex 1 = .ok (.ifCond .lt 8, 3) := by decide +kernel
theorem dX6_needIndex_4 : decode cX6_needIndex 4 = .ok (.iload_n 0, 1) := by decide +kernel
theorem dX6_needIndex_5 : decode cX6_needIndex 5 = .ok (.iload_n 1, 1) := by decide +kernel
theorem dX6_needIndex_6 : decode cX6_needIndex 6 = .ok (.if_icmp .lt 14, 3) := by decide +kernel
theorem dX6_needIndex_9 : decode cX6_needIndex 9 = .ok (.new 284, 3) := by decide +kernel
theorem dX6_needIndex_12 : decode cX6_needIndex 12 = .ok (.dup, 1) := by decide +kernel
theorem dX6_needIndex_13 : decode cX6_needIndex 13 = .ok (.ldc_w 286, 3) := by decide +kernel
theorem dX6_needIndex_16 : decode cX6_needIndex 16 = .ok (.invokespecial 288, 3) := by decide +kernel
theorem dX6_needIndex_19 : decode cX6_needIndex 19 = .ok (.athrow, 1) := by decide +kernel
theorem dX6_needIndex_20 : decode cX6_needIndex 20 = .ok (.return_, 1) := by decide +kernel
theorem dX6_needPlace_0 : decode cX6_needPlace 0 = .ok (.iload_n 0, 1) := by decide +kernel
theorem dX6_needPlace_1 : decode cX6_needPlace 1 = .ok (.iload_n 1, 1) := by decide +kernel
theorem dX6_needPlace_2 : decode cX6_needPlace 2 = .ok (.invokestatic 289, 3) := by decide +kernel
theorem dX6_needPlace_5 : decode cX6_needPlace 5 = .ok (.ifCond .ne 14, 3) := by decide +kernel
theorem dX6_needPlace_8 : decode cX6_needPlace 8 = .ok (.new 284, 3) := by decide +kernel
theorem dX6_needPlace_11 : decode cX6_needPlace 11 = .ok (.dup, 1) := by decide +kernel
theorem dX6_needPlace_12 : decode cX6_needPlace 12 = .ok (.ldc_w 293, 3) := by decide +kernel
theorem dX6_needPlace_15 : decode cX6_needPlace 15 = .ok (.invokespecial 288, 3) := by decide +kernel
theorem dX6_needPlace_18 : decode cX6_needPlace 18 = .ok (.athrow, 1) := by decide +kernel
theorem dX6_needPlace_19 : decode cX6_needPlace 19 = .ok (.return_, 1) := by decide +kernel
theorem dX6_needFrame_0 : decode cX6_needFrame 0 = .ok (.iload_n 1, 1) := by decide +kernel
theorem dX6_needFrame_1 : decode cX6_needFrame 1 = .ok (.ifCond .lt 11, 3) := by decide +kernel
theorem dX6_needFrame_4 : decode cX6_needFrame 4 = .ok (.iload_n 1, 1) := by decide +kernel
theorem dX6_needFrame_5 : decode cX6_needFrame 5 = .ok (.aload_n 0, 1) := by decide +kernel
theorem dX6_needFrame_6 : decode cX6_needFrame 6 = .ok (.getfield 35, 3) := by decide +kernel
theorem dX6_needFrame_9 : decode cX6_needFrame 9 = .ok (.if_icmp .lt 14, 3) := by decide +kernel
theorem dX6_needFrame_12 : decode cX6_needFrame 12 = .ok (.new 284, 3) := by decide +kernel
theorem dX6_needFrame_15 : decode cX6_needFrame 15 = .ok (.dup, 1) := by decide +kernel
theorem dX6_needFrame_16 : decode cX6_needFrame 16 = .ok (.ldc_w 295, 3) := by decide +kernel
theorem dX6_needFrame_19 : decode cX6_needFrame 19 = .ok (.invokespecial 288, 3) := by decide +kernel
theorem dX6_needFrame_22 : decode cX6_needFrame 22 = .ok (.athrow, 1) := by decide +kernel
theorem dX6_needFrame_23 : decode cX6_needFrame 23 = .ok (.return_, 1) := by decide +kernel
theorem dX6_needRange_0 : decode cX6_needRange 0 = .ok (.iload_n 0, 1) := by decide +kernel
theorem dX6_needRange_1 : decode cX6_needRange 1 = .ok (.iload_n 1, 1) := by decide +kernel
theorem dX6_needRange_2 : decode cX6_needRange 2 = .ok (.if_icmp .lt 8, 3) := by decide +kernel
theorem dX6_needRange_5 : decode cX6_needRange 5 = .ok (.iload_n 0, 1) := by decide +kernel
theorem dX6_needRange_6 : decode cX6_needRange 6 = .ok (.iload_n 2, 1) := by decide +kernel
theorem dX6_needRange_7 : decode cX6_needRange 7 = .ok (.if_icmp .le 14, 3) := by decide +kernel
theorem dX6_needRange_10 : decode cX6_needRange 10 = .ok (.new 62, 3) := by decide +kernel
theorem dX6_needRange_13 : decode cX6_needRange 13 = .ok (.dup, 1) := by decide +kernel
theorem dX6_needRange_14 : decode cX6_needRange 14 = .ok (.ldc_w 297, 3) := by decide +kernel
theorem dX6_needRange_17 : decode cX6_needRange 17 = .ok (.invokespecial 66, 3) := by decide +kernel
theorem dX6_needRange_20 : decode cX6_needRange 20 = .ok (.athrow, 1) := by decide +kernel
theorem dX6_needRange_21 : decode cX6_needRange 21 = .ok (.return_, 1) := by decide +kernel
theorem dX6_needExposure_0 : decode cX6_needExposure 0 = .ok (.iload_n 0, 1) := by decide +kernel
theorem dX6_needExposure_1 : decode cX6_needExposure 1 = .ok (.iconst 1, 1) := by decide +kernel
theorem dX6_needExposure_2 : decode cX6_needExposure 2 = .ok (.bipush 64, 2) := by decide +kernel
theorem dX6_needExposure_4 : decode cX6_needExposure 4 = .ok (.invokestatic 70, 3) := by decide +kernel
theorem dX6_needExposure_7 : decode cX6_needExposure 7 = .ok (.iload_n 1, 1) := by decide +kernel
theorem dX6_needExposure_8 : decode cX6_needExposure 8 = .ok (.iconst 1, 1) := by decide +kernel
theorem dX6_needExposure_9 : decode cX6_needExposure 9 = .ok (.bipush 8, 2) := by decide +kernel
theorem dX6_needExposure_11 : decode cX6_needExposure 11 = .ok (.invokestatic 70, 3) := by decide +kernel
theorem dX6_needExposure_14 : decode cX6_needExposure 14 = .ok (.return_, 1) := by decide +kernel
theorem dX6_needRoom_0 : decode cX6_needRoom 0 = .ok (.iload_n 0, 1) := by decide +kernel
theorem dX6_needRoom_1 : decode cX6_needRoom 1 = .ok (.iload_n 1, 1) := by decide +kernel
theorem dX6_needRoom_2 : decode cX6_needRoom 2 = .ok (.if_icmp .lt 14, 3) := by decide +kernel
theorem dX6_needRoom_5 : decode cX6_needRoom 5 = .ok (.new 299, 3) := by decide +kernel
theorem dX6_needRoom_8 : decode cX6_needRoom 8 = .ok (.dup, 1) := by decide +kernel
theorem dX6_needRoom_9 : decode cX6_needRoom 9 = .ok (.ldc_w 301, 3) := by decide +kernel
theorem dX6_needRoom_12 : decode cX6_needRoom 12 = .ok (.invokespecial 303, 3) := by decide +kernel
theorem dX6_needRoom_15 : decode cX6_needRoom 15 = .ok (.athrow, 1) := by decide +kernel
theorem dX6_needRoom_16 : decode cX6_needRoom 16 = .ok (.return_, 1) := by decide +kernel
theorem dX6_isPlace_0 : decode cX6_isPlace 0 = .ok (.iload_n 0, 1) := by decide +kernel
theorem dX6_isPlace_1 : decode cX6_isPlace 1 = .ok (.ifCond .lt 23, 3) := by decide +kernel
theorem dX6_isPlace_4 : decode cX6_isPlace 4 = .ok (.iload_n 0, 1) := by decide +kernel
theorem dX6_isPlace_5 : decode cX6_isPlace 5 = .ok (.bipush 8, 2) := by decide +kernel
theorem dX6_isPlace_7 : decode cX6_isPlace 7 = .ok (.if_icmp .ge 17, 3) := by decide +kernel
theorem dX6_isPlace_10 : decode cX6_isPlace 10 = .ok (.iload_n 1, 1) := by decide +kernel
theorem dX6_isPlace_11 : decode cX6_isPlace 11 = .ok (.ifCond .lt 13, 3) := by decide +kernel
theorem dX6_isPlace_14 : decode cX6_isPlace 14 = .ok (.iload_n 1, 1) := by decide +kernel
theorem dX6_isPlace_15 : decode cX6_isPlace 15 = .ok (.bipush 8, 2) := by decide +kernel
theorem dX6_isPlace_17 : decode cX6_isPlace 17 = .ok (.if_icmp .ge 7, 3) := by decide +kernel
theorem dX6_isPlace_20 : decode cX6_isPlace 20 = .ok (.iconst 1, 1) := by decide +kernel
theorem dX6_isPlace_21 : decode cX6_isPlace 21 = .ok (.goto 4, 3) := by decide +kernel
theorem dX6_isPlace_24 : decode cX6_isPlace 24 = .ok (.iconst 0, 1) := by decide +kernel
theorem dX6_isPlace_25 : decode cX6_isPlace 25 = .ok (.ireturn, 1) := by decide +kernel
theorem dX6_placeOf_0 : decode cX6_placeOf 0 = .ok (.bipush 8, 2) := by decide +kernel
theorem dX6_placeOf_2 : decode cX6_placeOf 2 = .ok (.iload_n 1, 1) := by decide +kernel
theorem dX6_placeOf_3 : decode cX6_placeOf 3 = .ok (.imul, 1) := by decide +kernel
theorem dX6_placeOf_4 : decode cX6_placeOf 4 = .ok (.iload_n 0, 1) := by decide +kernel
theorem dX6_placeOf_5 : decode cX6_placeOf 5 = .ok (.iadd, 1) := by decide +kernel
theorem dX6_placeOf_6 : decode cX6_placeOf 6 = .ok (.ireturn, 1) := by decide +kernel
theorem dX6_colourSeen_0 : decode cX6_colourSeen 0 = .ok (.iload_n 0, 1) := by decide +kernel
theorem dX6_colourSeen_1 : decode cX6_colourSeen 1 = .ok (.iconst 2, 1) := by decide +kernel
theorem dX6_colourSeen_2 : decode cX6_colourSeen 2 = .ok (.irem, 1) := by decide +kernel
theorem dX6_colourSeen_3 : decode cX6_colourSeen 3 = .ok (.iload_n 1, 1) := by decide +kernel
theorem dX6_colourSeen_4 : decode cX6_colourSeen 4 = .ok (.iconst 2, 1) := by decide +kernel
theorem dX6_colourSeen_5 : decode cX6_colourSeen 5 = .ok (.irem, 1) := by decide +kernel
theorem dX6_colourSeen_6 : decode cX6_colourSeen 6 = .ok (.if_icmp .eq 5, 3) := by decide +kernel
theorem dX6_colourSeen_9 : decode cX6_colourSeen 9 = .ok (.iconst 1, 1) := by decide +kernel
theorem dX6_colourSeen_10 : decode cX6_colourSeen 10 = .ok (.ireturn, 1) := by decide +kernel
theorem dX6_colourSeen_11 : decode cX6_colourSeen 11 = .ok (.iload_n 0, 1) := by decide +kernel
theorem dX6_colourSeen_12 : decode cX6_colourSeen 12 = .ok (.iconst 2, 1) := by decide +kernel
theorem dX6_colourSeen_13 : decode cX6_colourSeen 13 = .ok (.irem, 1) := by decide +kernel
theorem dX6_colourSeen_14 : decode cX6_colourSeen 14 = .ok (.ifCond .ne 7, 3) := by decide +kernel
theorem dX6_colourSeen_17 : decode cX6_colourSeen 17 = .ok (.iconst 0, 1) := by decide +kernel
theorem dX6_colourSeen_18 : decode cX6_colourSeen 18 = .ok (.goto 4, 3) := by decide +kernel
theorem dX6_colourSeen_21 : decode cX6_colourSeen 21 = .ok (.iconst 2, 1) := by decide +kernel
theorem dX6_colourSeen_22 : decode cX6_colourSeen 22 = .ok (.ireturn, 1) := by decide +kernel
theorem dX6_leastNumber_0 : decode cX6_leastNumber 0 = .ok (.iload_n 0, 1) := by decide +kernel
theorem dX6_leastNumber_1 : decode cX6_leastNumber 1 = .ok (.iconst 1, 1) := by decide +kernel
theorem dX6_leastNumber_2 : decode cX6_leastNumber 2 = .ok (.if_icmp .eq 8, 3) := by decide +kernel
theorem dX6_leastNumber_5 : decode cX6_leastNumber 5 = .ok (.iload_n 0, 1) := by decide +kernel
theorem dX6_leastNumber_6 : decode cX6_leastNumber 6 = .ok (.iconst 2, 1) := by decide +kernel
theorem dX6_leastNumber_7 : decode cX6_leastNumber 7 = .ok (.if_icmp .ne 7, 3) := by decide +kernel
theorem dX6_leastNumber_10 : decode cX6_leastNumber 10 = .ok (.iconst 1, 1) := by decide +kernel
theorem dX6_leastNumber_11 : decode cX6_leastNumber 11 = .ok (.goto 4, 3) := by decide +kernel
theorem dX6_leastNumber_14 : decode cX6_leastNumber 14 = .ok (.iconst 0, 1) := by decide +kernel
theorem dX6_leastNumber_15 : decode cX6_leastNumber 15 = .ok (.ireturn, 1) := by decide +kernel
theorem dX6_mostNumber_0 : decode cX6_mostNumber 0 = .ok (.iload_n 0, 1) := by decide +kernel
theorem dX6_mostNumber_1 : decode cX6_mostNumber 1 = .ok (.tableswitch 39 0 3 #[31, 34, 34, 37], 31) := by decide +kernel
theorem dX6_mostNumber_32 : decode cX6_mostNumber 32 = .ok (.bipush 64, 2) := by decide +kernel
theorem dX6_mostNumber_34 : decode cX6_mostNumber 34 = .ok (.ireturn, 1) := by decide +kernel
theorem dX6_mostNumber_35 : decode cX6_mostNumber 35 = .ok (.bipush 16, 2) := by decide +kernel
theorem dX6_mostNumber_37 : decode cX6_mostNumber 37 = .ok (.ireturn, 1) := by decide +kernel
theorem dX6_mostNumber_38 : decode cX6_mostNumber 38 = .ok (.iconst 2, 1) := by decide +kernel
theorem dX6_mostNumber_39 : decode cX6_mostNumber 39 = .ok (.ireturn, 1) := by decide +kernel
theorem dX6_mostNumber_40 : decode cX6_mostNumber 40 = .ok (.iconst 0, 1) := by decide +kernel
theorem dX6_mostNumber_41 : decode cX6_mostNumber 41 = .ok (.ireturn, 1) := by decide +kernel
theorem dX6_countFilesOf_0 : decode cX6_countFilesOf 0 = .ok (.iconst 0, 1) := by decide +kernel
theorem dX6_countFilesOf_1 : decode cX6_countFilesOf 1 = .ok (.istore_n 2, 1) := by decide +kernel
theorem dX6_countFilesOf_2 : decode cX6_countFilesOf 2 = .ok (.iconst 0, 1) := by decide +kernel
theorem dX6_countFilesOf_3 : decode cX6_countFilesOf 3 = .ok (.istore_n 3, 1) := by decide +kernel
theorem dX6_countFilesOf_4 : decode cX6_countFilesOf 4 = .ok (.iload_n 3, 1) := by decide +kernel
theorem dX6_countFilesOf_5 : decode cX6_countFilesOf 5 = .ok (.aload_n 0, 1) := by decide +kernel
theorem dX6_countFilesOf_6 : decode cX6_countFilesOf 6 = .ok (.getfield 39, 3) := by decide +kernel
theorem dX6_countFilesOf_9 : decode cX6_countFilesOf 9 = .ok (.if_icmp .ge 25, 3) := by decide +kernel
theorem dX6_countFilesOf_12 : decode cX6_countFilesOf 12 = .ok (.aload_n 0, 1) := by decide +kernel
theorem dX6_countFilesOf_13 : decode cX6_countFilesOf 13 = .ok (.getfield 31, 3) := by decide +kernel
theorem dX6_countFilesOf_16 : decode cX6_countFilesOf 16 = .ok (.iload_n 3, 1) := by decide +kernel
theorem dX6_countFilesOf_17 : decode cX6_countFilesOf 17 = .ok (.aaload, 1) := by decide +kernel
theorem dX6_countFilesOf_18 : decode cX6_countFilesOf 18 = .ok (.getfield 211, 3) := by decide +kernel
theorem dX6_countFilesOf_21 : decode cX6_countFilesOf 21 = .ok (.iload_n 1, 1) := by decide +kernel
theorem dX6_countFilesOf_22 : decode cX6_countFilesOf 22 = .ok (.if_icmp .ne 6, 3) := by decide +kernel
theorem dX6_countFilesOf_25 : decode cX6_countFilesOf 25 = .ok (.iinc 2 1, 3) := by decide +kernel
theorem dX6_countFilesOf_28 : decode cX6_countFilesOf 28 = .ok (.iinc 3 1, 3) := by decide +kernel
theorem dX6_countFilesOf_31 : decode cX6_countFilesOf 31 = .ok (.goto (-27), 3) := by decide +kernel
theorem dX6_countFilesOf_34 : decode cX6_countFilesOf 34 = .ok (.iload_n 2, 1) := by decide +kernel
theorem dX6_countFilesOf_35 : decode cX6_countFilesOf 35 = .ok (.ireturn, 1) := by decide +kernel
theorem dX6_countEdits_0 : decode cX6_countEdits 0 = .ok (.iconst 0, 1) := by decide +kernel
theorem dX6_countEdits_1 : decode cX6_countEdits 1 = .ok (.istore_n 1, 1) := by decide +kernel
theorem dX6_countEdits_2 : decode cX6_countEdits 2 = .ok (.iconst 0, 1) := by decide +kernel
theorem dX6_countEdits_3 : decode cX6_countEdits 3 = .ok (.istore_n 2, 1) := by decide +kernel
theorem dX6_countEdits_4 : decode cX6_countEdits 4 = .ok (.iload_n 2, 1) := by decide +kernel
theorem dX6_countEdits_5 : decode cX6_countEdits 5 = .ok (.aload_n 0, 1) := by decide +kernel
theorem dX6_countEdits_6 : decode cX6_countEdits 6 = .ok (.getfield 35, 3) := by decide +kernel
theorem dX6_countEdits_9 : decode cX6_countEdits 9 = .ok (.if_icmp .ge 24, 3) := by decide +kernel
theorem dX6_countEdits_12 : decode cX6_countEdits 12 = .ok (.iload_n 1, 1) := by decide +kernel
theorem dX6_countEdits_13 : decode cX6_countEdits 13 = .ok (.aload_n 0, 1) := by decide +kernel
theorem dX6_countEdits_14 : decode cX6_countEdits 14 = .ok (.getfield 25, 3) := by decide +kernel
theorem dX6_countEdits_17 : decode cX6_countEdits 17 = .ok (.iload_n 2, 1) := by decide +kernel
theorem dX6_countEdits_18 : decode cX6_countEdits 18 = .ok (.aaload, 1) := by decide +kernel
theorem dX6_countEdits_19 : decode cX6_countEdits 19 = .ok (.getfield 136, 3) := by decide +kernel
theorem dX6_countEdits_22 : decode cX6_countEdits 22 = .ok (.invokevirtual 140, 3) := by decide +kernel
theorem dX6_countEdits_25 : decode cX6_countEdits 25 = .ok (.iadd, 1) := by decide +kernel
theorem dX6_countEdits_26 : decode cX6_countEdits 26 = .ok (.istore_n 1, 1) := by decide +kernel
theorem dX6_countEdits_27 : decode cX6_countEdits 27 = .ok (.iinc 2 1, 3) := by decide +kernel
theorem dX6_countEdits_30 : decode cX6_countEdits 30 = .ok (.goto (-26), 3) := by decide +kernel
theorem dX6_countEdits_33 : decode cX6_countEdits 33 = .ok (.iload_n 1, 1) := by decide +kernel
theorem dX6_countEdits_34 : decode cX6_countEdits 34 = .ok (.ireturn, 1) := by decide +kernel
theorem dX6_developFrame_0 : decode cX6_developFrame 0 = .ok (.aload_n 0, 1) := by decide +kernel
theorem dX6_developFrame_1 : decode cX6_developFrame 1 = .ok (.getfield 25, 3) := by decide +kernel
theorem dX6_developFrame_4 : decode cX6_developFrame 4 = .ok (.iload_n 1, 1) := by decide +kernel
theorem dX6_developFrame_5 : decode cX6_developFrame 5 = .ok (.aaload, 1) := by decide +kernel
theorem dX6_developFrame_6 : decode cX6_developFrame 6 = .ok (.astore_n 3, 1) := by decide +kernel
theorem dX6_developFrame_7 : decode cX6_developFrame 7 = .ok (.aload_n 2, 1) := by decide +kernel
theorem dX6_developFrame_8 : decode cX6_developFrame 8 = .ok (.aload_n 3, 1) := by decide +kernel
theorem dX6_developFrame_9 : decode cX6_developFrame 9 = .ok (.getfield 158, 3) := by decide +kernel
theorem dX6_developFrame_12 : decode cX6_developFrame 12 = .ok (.aload_n 3, 1) := by decide +kernel
theorem dX6_developFrame_13 : decode cX6_developFrame 13 = .ok (.getfield 136, 3) := by decide +kernel
theorem dX6_developFrame_16 : decode cX6_developFrame 16 = .ok (.aload_n 0, 1) := by decide +kernel
theorem dX6_developFrame_17 : decode cX6_developFrame 17 = .ok (.getfield 19, 3) := by decide +kernel
theorem dX6_developFrame_20 : decode cX6_developFrame 20 = .ok (.getfield 242, 3) := by decide +kernel
theorem dX6_developFrame_23 : decode cX6_developFrame 23 = .ok (.invokevirtual 246, 3) := by decide +kernel
theorem dX6_developFrame_26 : decode cX6_developFrame 26 = .ok (.aload_n 2, 1) := by decide +kernel
theorem dX6_developFrame_27 : decode cX6_developFrame 27 = .ok (.invokevirtual 304, 3) := by decide +kernel
theorem dX6_developFrame_30 : decode cX6_developFrame 30 = .ok (.return_, 1) := by decide +kernel
theorem dX6_wordBehind_0 : decode cX6_wordBehind 0 = .ok (.aload_n 0, 1) := by decide +kernel
theorem dX6_wordBehind_1 : decode cX6_wordBehind 1 = .ok (.getfield 50, 3) := by decide +kernel
theorem dX6_wordBehind_4 : decode cX6_wordBehind 4 = .ok (.aload_n 0, 1) := by decide +kernel
theorem dX6_wordBehind_5 : decode cX6_wordBehind 5 = .ok (.getfield 25, 3) := by decide +kernel
theorem dX6_wordBehind_8 : decode cX6_wordBehind 8 = .ok (.iload_n 1, 1) := by decide +kernel
theorem dX6_wordBehind_9 : decode cX6_wordBehind 9 = .ok (.aaload, 1) := by decide +kernel
theorem dX6_wordBehind_10 : decode cX6_wordBehind 10 = .ok (.getfield 158, 3) := by decide +kernel
theorem dX6_wordBehind_13 : decode cX6_wordBehind 13 = .ok (.aload_n 2, 1) := by decide +kernel
theorem dX6_wordBehind_14 : decode cX6_wordBehind 14 = .ok (.aload_n 0, 1) := by decide +kernel
theorem dX6_wordBehind_15 : decode cX6_wordBehind 15 = .ok (.getfield 19, 3) := by decide +kernel
theorem dX6_wordBehind_18 : decode cX6_wordBehind 18 = .ok (.getfield 242, 3) := by decide +kernel
theorem dX6_wordBehind_21 : decode cX6_wordBehind 21 = .ok (.invokevirtual 246, 3) := by decide +kernel
theorem dX6_wordBehind_24 : decode cX6_wordBehind 24 = .ok (.aload_n 0, 1) := by decide +kernel
theorem dX6_wordBehind_25 : decode cX6_wordBehind 25 = .ok (.getfield 50, 3) := by decide +kernel
theorem dX6_wordBehind_28 : decode cX6_wordBehind 28 = .ok (.invokevirtual 304, 3) := by decide +kernel
theorem dX6_wordBehind_31 : decode cX6_wordBehind 31 = .ok (.aload_n 0, 1) := by decide +kernel
theorem dX6_wordBehind_32 : decode cX6_wordBehind 32 = .ok (.getfield 50, 3) := by decide +kernel
theorem dX6_wordBehind_35 : decode cX6_wordBehind 35 = .ok (.invokevirtual 307, 3) := by decide +kernel
theorem dX6_wordBehind_38 : decode cX6_wordBehind 38 = .ok (.ireturn, 1) := by decide +kernel
theorem dX6_smallestOf_0 : decode cX6_smallestOf 0 = .ok (.iconst 0, 1) := by decide +kernel
theorem dX6_smallestOf_1 : decode cX6_smallestOf 1 = .ok (.istore_n 2, 1) := by decide +kernel
theorem dX6_smallestOf_2 : decode cX6_smallestOf 2 = .ok (.iload_n 2, 1) := by decide +kernel
theorem dX6_smallestOf_3 : decode cX6_smallestOf 3 = .ok (.iconst 5, 1) := by decide +kernel
theorem dX6_smallestOf_4 : decode cX6_smallestOf 4 = .ok (.if_icmp .ge 17, 3) := by decide +kernel
theorem dX6_smallestOf_7 : decode cX6_smallestOf 7 = .ok (.iload_n 1, 1) := by decide +kernel
theorem dX6_smallestOf_8 : decode cX6_smallestOf 8 = .ok (.iload_n 2, 1) := by decide +kernel
theorem dX6_smallestOf_9 : decode cX6_smallestOf 9 = .ok (.invokestatic 310, 3) := by decide +kernel
theorem dX6_smallestOf_12 : decode cX6_smallestOf 12 = .ok (.ifCond .ne 9, 3) := by decide +kernel
theorem dX6_smallestOf_15 : decode cX6_smallestOf 15 = .ok (.iinc 2 1, 3) := by decide +kernel
theorem dX6_smallestOf_18 : decode cX6_smallestOf 18 = .ok (.goto (-16), 3) := by decide +kernel
theorem dX6_smallestOf_21 : decode cX6_smallestOf 21 = .ok (.iload_n 2, 1) := by decide +kernel
theorem dX6_smallestOf_22 : decode cX6_smallestOf 22 = .ok (.ireturn, 1) := by decide +kernel
theorem dX6_isIn_0 : decode cX6_isIn 0 = .ok (.iload_n 0, 1) := by decide +kernel
theorem dX6_isIn_1 : decode cX6_isIn 1 = .ok (.iload_n 1, 1) := by decide +kernel
theorem dX6_isIn_2 : decode cX6_isIn 2 = .ok (.ishr, 1) := by decide +kernel
theorem dX6_isIn_3 : decode cX6_isIn 3 = .ok (.iconst 1, 1) := by decide +kernel
theorem dX6_isIn_4 : decode cX6_isIn 4 = .ok (.iand, 1) := by decide +kernel
theorem dX6_isIn_5 : decode cX6_isIn 5 = .ok (.iconst 1, 1) := by decide +kernel
theorem dX6_isIn_6 : decode cX6_isIn 6 = .ok (.if_icmp .ne 7, 3) := by decide +kernel
theorem dX6_isIn_9 : decode cX6_isIn 9 = .ok (.iconst 1, 1) := by decide +kernel
theorem dX6_isIn_10 : decode cX6_isIn 10 = .ok (.goto 4, 3) := by decide +kernel
theorem dX6_isIn_13 : decode cX6_isIn 13 = .ok (.iconst 0, 1) := by decide +kernel
theorem dX6_isIn_14 : decode cX6_isIn 14 = .ok (.ireturn, 1) := by decide +kernel
theorem dX6_putTogether_0 : decode cX6_putTogether 0 = .ok (.aload_n 0, 1) := by decide +kernel
theorem dX6_putTogether_1 : decode cX6_putTogether 1 = .ok (.getfield 25, 3) := by decide +kernel
theorem dX6_putTogether_4 : decode cX6_putTogether 4 = .ok (.aload_n 0, 1) := by decide +kernel
theorem dX6_putTogether_5 : decode cX6_putTogether 5 = .ok (.iload_n 1, 1) := by decide +kernel
theorem dX6_putTogether_6 : decode cX6_putTogether 6 = .ok (.invokevirtual 313, 3) := by decide +kernel
theorem dX6_putTogether_9 : decode cX6_putTogether 9 = .ok (.aaload, 1) := by decide +kernel
theorem dX6_putTogether_10 : decode cX6_putTogether 10 = .ok (.astore 4, 2) := by decide +kernel
theorem dX6_putTogether_12 : decode cX6_putTogether 12 = .ok (.iconst 0, 1) := by decide +kernel
theorem dX6_putTogether_13 : decode cX6_putTogether 13 = .ok (.istore 5, 2) := by decide +kernel
theorem dX6_putTogether_15 : decode cX6_putTogether 15 = .ok (.iconst 0, 1) := by decide +kernel
theorem dX6_putTogether_16 : decode cX6_putTogether 16 = .ok (.istore 6, 2) := by decide +kernel
theorem dX6_putTogether_18 : decode cX6_putTogether 18 = .ok (.iload 6, 2) := by decide +kernel
theorem dX6_putTogether_20 : decode cX6_putTogether 20 = .ok (.bipush 64, 2) := by decide +kernel
theorem dX6_putTogether_22 : decode cX6_putTogether 22 = .ok (.if_icmp .ge 120, 3) := by decide +kernel
theorem dX6_putTogether_25 : decode cX6_putTogether 25 = .ok (.aload 4, 2) := by decide +kernel
theorem dX6_putTogether_27 : decode cX6_putTogether 27 = .ok (.getfield 158, 3) := by decide +kernel
theorem dX6_putTogether_30 : decode cX6_putTogether 30 = .ok (.iload 6, 2) := by decide +kernel
theorem dX6_putTogether_32 : decode cX6_putTogether 32 = .ok (.iaload, 1) := by decide +kernel
theorem dX6_putTogether_33 : decode cX6_putTogether 33 = .ok (.istore 7, 2) := by decide +kernel
theorem dX6_putTogether_35 : decode cX6_putTogether 35 = .ok (.iconst 0, 1) := by decide +kernel
theorem dX6_putTogether_36 : decode cX6_putTogether 36 = .ok (.istore 8, 2) := by decide +kernel
theorem dX6_putTogether_38 : decode cX6_putTogether 38 = .ok (.iconst 0, 1) := by decide +kernel
theorem dX6_putTogether_39 : decode cX6_putTogether 39 = .ok (.istore 9, 2) := by decide +kernel
theorem dX6_putTogether_41 : decode cX6_putTogether 41 = .ok (.iconst 0, 1) := by decide +kernel
theorem dX6_putTogether_42 : decode cX6_putTogether 42 = .ok (.istore 10, 2) := by decide +kernel
theorem dX6_putTogether_44 : decode cX6_putTogether 44 = .ok (.iload 10, 2) := by decide +kernel
theorem dX6_putTogether_46 : decode cX6_putTogether 46 = .ok (.aload_n 0, 1) := by decide +kernel
theorem dX6_putTogether_47 : decode cX6_putTogether 47 = .ok (.getfield 35, 3) := by decide +kernel
theorem dX6_putTogether_50 : decode cX6_putTogether 50 = .ok (.if_icmp .ge 64, 3) := by decide +kernel
theorem dX6_putTogether_53 : decode cX6_putTogether 53 = .ok (.iload_n 1, 1) := by decide +kernel
theorem dX6_putTogether_54 : decode cX6_putTogether 54 = .ok (.iload 10, 2) := by decide +kernel
theorem dX6_putTogether_56 : decode cX6_putTogether 56 = .ok (.invokestatic 310, 3) := by decide +kernel
theorem dX6_putTogether_59 : decode cX6_putTogether 59 = .ok (.ifCond .ne 6, 3) := by decide +kernel
theorem dX6_putTogether_62 : decode cX6_putTogether 62 = .ok (.goto 46, 3) := by decide +kernel
theorem dX6_putTogether_65 : decode cX6_putTogether 65 = .ok (.aload_n 0, 1) := by decide +kernel
theorem dX6_putTogether_66 : decode cX6_putTogether 66 = .ok (.getfield 25, 3) := by decide +kernel
theorem dX6_putTogether_69 : decode cX6_putTogether 69 = .ok (.iload 10, 2) := by decide +kernel
theorem dX6_putTogether_71 : decode cX6_putTogether 71 = .ok (.aaload, 1) := by decide +kernel
theorem dX6_putTogether_72 : decode cX6_putTogether 72 = .ok (.getfield 158, 3) := by decide +kernel
theorem dX6_putTogether_75 : decode cX6_putTogether 75 = .ok (.iload 6, 2) := by decide +kernel
theorem dX6_putTogether_77 : decode cX6_putTogether 77 = .ok (.iaload, 1) := by decide +kernel
theorem dX6_putTogether_78 : decode cX6_putTogether 78 = .ok (.istore 11, 2) := by decide +kernel
theorem dX6_putTogether_80 : decode cX6_putTogether 80 = .ok (.iload 11, 2) := by decide +kernel
theorem dX6_putTogether_82 : decode cX6_putTogether 82 = .ok (.iload 7, 2) := by decide +kernel
theorem dX6_putTogether_84 : decode cX6_putTogether 84 = .ok (.isub, 1) := by decide +kernel
theorem dX6_putTogether_85 : decode cX6_putTogether 85 = .ok (.invokestatic 255, 3) := by decide +kernel
theorem dX6_putTogether_88 : decode cX6_putTogether 88 = .ok (.iload_n 2, 1) := by decide +kernel
theorem dX6_putTogether_89 : decode cX6_putTogether 89 = .ok (.if_icmp .le 9, 3) := by decide +kernel
theorem dX6_putTogether_92 : decode cX6_putTogether 92 = .ok (.iinc 5 1, 3) := by decide +kernel
theorem dX6_putTogether_95 : decode cX6_putTogether 95 = .ok (.goto 13, 3) := by decide +kernel
theorem dX6_putTogether_98 : decode cX6_putTogether 98 = .ok (.iload 8, 2) := by decide +kernel
theorem dX6_putTogether_100 : decode cX6_putTogether 100 = .ok (.iload 11, 2) := by decide +kernel
theorem dX6_putTogether_102 : decode cX6_putTogether 102 = .ok (.iadd, 1) := by decide +kernel
theorem dX6_putTogether_103 : decode cX6_putTogether 103 = .ok (.istore 8, 2) := by decide +kernel
theorem dX6_putTogether_105 : decode cX6_putTogether 105 = .ok (.iinc 9 1, 3) := by decide +kernel
theorem dX6_putTogether_108 : decode cX6_putTogether 108 = .ok (.iinc 10 1, 3) := by decide +kernel
theorem dX6_putTogether_111 : decode cX6_putTogether 111 = .ok (.goto (-67), 3) := by decide +kernel
theorem dX6_putTogether_114 : decode cX6_putTogether 114 = .ok (.aload_n 3, 1) := by decide +kernel
theorem dX6_putTogether_115 : decode cX6_putTogether 115 = .ok (.getfield 158, 3) := by decide +kernel
theorem dX6_putTogether_118 : decode cX6_putTogether 118 = .ok (.iload 6, 2) := by decide +kernel
theorem dX6_putTogether_120 : decode cX6_putTogether 120 = .ok (.iload 9, 2) := by decide +kernel
theorem dX6_putTogether_122 : decode cX6_putTogether 122 = .ok (.ifCond .ne 8, 3) := by decide +kernel
theorem dX6_putTogether_125 : decode cX6_putTogether 125 = .ok (.iload 7, 2) := by decide +kernel
theorem dX6_putTogether_127 : decode cX6_putTogether 127 = .ok (.goto 8, 3) := by decide +kernel
theorem dX6_putTogether_130 : decode cX6_putTogether 130 = .ok (.iload 8, 2) := by decide +kernel
theorem dX6_putTogether_132 : decode cX6_putTogether 132 = .ok (.iload 9, 2) := by decide +kernel
theorem dX6_putTogether_134 : decode cX6_putTogether 134 = .ok (.idiv, 1) := by decide +kernel
theorem dX6_putTogether_135 : decode cX6_putTogether 135 = .ok (.iastore, 1) := by decide +kernel
theorem dX6_putTogether_136 : decode cX6_putTogether 136 = .ok (.iinc 6 1, 3) := by decide +kernel
theorem dX6_putTogether_139 : decode cX6_putTogether 139 = .ok (.goto (-121), 3) := by decide +kernel
theorem dX6_putTogether_142 : decode cX6_putTogether 142 = .ok (.aload_n 3, 1) := by decide +kernel
theorem dX6_putTogether_143 : decode cX6_putTogether 143 = .ok (.aload 4, 2) := by decide +kernel
theorem dX6_putTogether_145 : decode cX6_putTogether 145 = .ok (.getfield 177, 3) := by decide +kernel
theorem dX6_putTogether_148 : decode cX6_putTogether 148 = .ok (.putfield 177, 3) := by decide +kernel
theorem dX6_putTogether_151 : decode cX6_putTogether 151 = .ok (.aload_n 3, 1) := by decide +kernel
theorem dX6_putTogether_152 : decode cX6_putTogether 152 = .ok (.aload 4, 2) := by decide +kernel
theorem dX6_putTogether_154 : decode cX6_putTogether 154 = .ok (.getfield 180, 3) := by decide +kernel
theorem dX6_putTogether_157 : decode cX6_putTogether 157 = .ok (.putfield 180, 3) := by decide +kernel
theorem dX6_putTogether_160 : decode cX6_putTogether 160 = .ok (.aload_n 3, 1) := by decide +kernel
theorem dX6_putTogether_161 : decode cX6_putTogether 161 = .ok (.iload 5, 2) := by decide +kernel
theorem dX6_putTogether_163 : decode cX6_putTogether 163 = .ok (.putfield 186, 3) := by decide +kernel
theorem dX6_putTogether_166 : decode cX6_putTogether 166 = .ok (.return_, 1) := by decide +kernel
theorem dX7_init_0 : decode cX7_init 0 = .ok (.aload_n 0, 1) := by decide +kernel
theorem dX7_init_1 : decode cX7_init 1 = .ok (.invokespecial 3, 3) := by decide +kernel
theorem dX7_init_4 : decode cX7_init 4 = .ok (.aload_n 0, 1) := by decide +kernel
theorem dX7_init_5 : decode cX7_init 5 = .ok (.new 9, 3) := by decide +kernel
theorem dX7_init_8 : decode cX7_init 8 = .ok (.dup, 1) := by decide +kernel
theorem dX7_init_9 : decode cX7_init 9 = .ok (.invokespecial 11, 3) := by decide +kernel
theorem dX7_init_12 : decode cX7_init 12 = .ok (.putfield 12, 3) := by decide +kernel
theorem dX7_init_15 : decode cX7_init 15 = .ok (.aload_n 0, 1) := by decide +kernel
theorem dX7_init_16 : decode cX7_init 16 = .ok (.iload_n 1, 1) := by decide +kernel
theorem dX7_init_17 : decode cX7_init 17 = .ok (.putfield 18, 3) := by decide +kernel
theorem dX7_init_20 : decode cX7_init 20 = .ok (.aload_n 0, 1) := by decide +kernel
theorem dX7_init_21 : decode cX7_init 21 = .ok (.iload_n 2, 1) := by decide +kernel
theorem dX7_init_22 : decode cX7_init 22 = .ok (.putfield 22, 3) := by decide +kernel
theorem dX7_init_25 : decode cX7_init 25 = .ok (.aload_n 0, 1) := by decide +kernel
theorem dX7_init_26 : decode cX7_init 26 = .ok (.aload_n 3, 1) := by decide +kernel
theorem dX7_init_27 : decode cX7_init 27 = .ok (.putfield 25, 3) := by decide +kernel
theorem dX7_init_30 : decode cX7_init 30 = .ok (.return_, 1) := by decide +kernel
theorem dX7_sum_0 : decode cX7_sum 0 = .ok (.iconst 0, 1) := by decide +kernel
theorem dX7_sum_1 : decode cX7_sum 1 = .ok (.istore_n 2, 1) := by decide +kernel
theorem dX7_sum_2 : decode cX7_sum 2 = .ok (.iconst 0, 1) := by decide +kernel
theorem dX7_sum_3 : decode cX7_sum 3 = .ok (.istore_n 3, 1) := by decide +kernel
theorem dX7_sum_4 : decode cX7_sum 4 = .ok (.iload_n 3, 1) := by decide +kernel
theorem dX7_sum_5 : decode cX7_sum 5 = .ok (.bipush 64, 2) := by decide +kernel
theorem dX7_sum_7 : decode cX7_sum 7 = .ok (.if_icmp .ge 30, 3) := by decide +kernel
theorem dX7_sum_10 : decode cX7_sum 10 = .ok (.iload_n 2, 1) := by decide +kernel
theorem dX7_sum_11 : decode cX7_sum 11 = .ok (.iload_n 3, 1) := by decide +kernel
theorem dX7_sum_12 : decode cX7_sum 12 = .ok (.invokestatic 29, 3) := by decide +kernel
theorem dX7_sum_15 : decode cX7_sum 15 = .ok (.iload_n 1, 1) := by decide +kernel
theorem dX7_sum_16 : decode cX7_sum 16 = .ok (.if_icmp .ne 12, 3) := by decide +kernel
theorem dX7_sum_19 : decode cX7_sum 19 = .ok (.aload_n 0, 1) := by decide +kernel
theorem dX7_sum_20 : decode cX7_sum 20 = .ok (.getfield 25, 3) := by decide +kernel
theorem dX7_sum_23 : decode cX7_sum 23 = .ok (.iload_n 3, 1) := by decide +kernel
theorem dX7_sum_24 : decode cX7_sum 24 = .ok (.iaload, 1) := by decide +kernel
theorem dX7_sum_25 : decode cX7_sum 25 = .ok (.goto 4, 3) := by decide +kernel
theorem dX7_sum_28 : decode cX7_sum 28 = .ok (.iconst 0, 1) := by decide +kernel
theorem dX7_sum_29 : decode cX7_sum 29 = .ok (.iadd, 1) := by decide +kernel
theorem dX7_sum_30 : decode cX7_sum 30 = .ok (.istore_n 2, 1) := by decide +kernel
theorem dX7_sum_31 : decode cX7_sum 31 = .ok (.iinc 3 1, 3) := by decide +kernel
theorem dX7_sum_34 : decode cX7_sum 34 = .ok (.goto (-30), 3) := by decide +kernel
theorem dX7_sum_37 : decode cX7_sum 37 = .ok (.iload_n 2, 1) := by decide +kernel
theorem dX7_sum_38 : decode cX7_sum 38 = .ok (.ireturn, 1) := by decide +kernel
theorem dX7_white_0 : decode cX7_white 0 = .ok (.iconst 2, 1) := by decide +kernel
theorem dX7_white_1 : decode cX7_white 1 = .ok (.aload_n 0, 1) := by decide +kernel
theorem dX7_white_2 : decode cX7_white 2 = .ok (.iload_n 1, 1) := by decide +kernel
theorem dX7_white_3 : decode cX7_white 3 = .ok (.invokevirtual 33, 3) := by decide +kernel
theorem dX7_white_6 : decode cX7_white 6 = .ok (.imul, 1) := by decide +kernel
theorem dX7_white_7 : decode cX7_white 7 = .ok (.istore_n 2, 1) := by decide +kernel
theorem dX7_white_8 : decode cX7_white 8 = .ok (.iload_n 2, 1) := by decide +kernel
theorem dX7_white_9 : decode cX7_white 9 = .ok (.ifCond .ne 8, 3) := by decide +kernel
theorem dX7_white_12 : decode cX7_white 12 = .ok (.bipush 16, 2) := by decide +kernel
theorem dX7_white_14 : decode cX7_white 14 = .ok (.goto 21, 3) := by decide +kernel
theorem dX7_white_17 : decode cX7_white 17 = .ok (.iconst 1, 1) := by decide +kernel
theorem dX7_white_18 : decode cX7_white 18 = .ok (.bipush 16, 2) := by decide +kernel
theorem dX7_white_20 : decode cX7_white 20 = .ok (.iconst 4, 1) := by decide +kernel
theorem dX7_white_21 : decode cX7_white 21 = .ok (.aload_n 0, 1) := by decide +kernel
theorem dX7_white_22 : decode cX7_white 22 = .ok (.iconst 1, 1) := by decide +kernel
theorem dX7_white_23 : decode cX7_white 23 = .ok (.invokevirtual 33, 3) := by decide +kernel
theorem dX7_white_26 : decode cX7_white 26 = .ok (.imul, 1) := by decide +kernel
theorem dX7_white_27 : decode cX7_white 27 = .ok (.iload_n 2, 1) := by decide +kernel
theorem dX7_white_28 : decode cX7_white 28 = .ok (.idiv, 1) := by decide +kernel
theorem dX7_white_29 : decode cX7_white 29 = .ok (.invokestatic 36, 3) := by decide +kernel
theorem dX7_white_32 : decode cX7_white 32 = .ok (.invokestatic 42, 3) := by decide +kernel
theorem dX7_white_35 : decode cX7_white 35 = .ok (.ireturn, 1) := by decide +kernel
theorem dX7_clipped_0 : decode cX7_clipped 0 = .ok (.iconst 0, 1) := by decide +kernel
theorem dX7_clipped_1 : decode cX7_clipped 1 = .ok (.istore_n 1, 1) := by decide +kernel
theorem dX7_clipped_2 : decode cX7_clipped 2 = .ok (.aload_n 0, 1) := by decide +kernel
theorem dX7_clipped_3 : decode cX7_clipped 3 = .ok (.getfield 25, 3) := by decide +kernel
theorem dX7_clipped_6 : decode cX7_clipped 6 = .ok (.astore_n 2, 1) := by decide +kernel
theorem dX7_clipped_7 : decode cX7_clipped 7 = .ok (.aload_n 2, 1) := by decide +kernel
theorem dX7_clipped_8 : decode cX7_clipped 8 = .ok (.arraylength, 1) := by decide +kernel
theorem dX7_clipped_9 : decode cX7_clipped 9 = .ok (.istore_n 3, 1) := by decide +kernel
theorem dX7_clipped_10 : decode cX7_clipped 10 = .ok (.iconst 0, 1) := by decide +kernel
theorem dX7_clipped_11 : decode cX7_clipped 11 = .ok (.istore 4, 2) := by decide +kernel
theorem dX7_clipped_13 : decode cX7_clipped 13 = .ok (.iload 4, 2) := by decide +kernel
theorem dX7_clipped_15 : decode cX7_clipped 15 = .ok (.iload_n 3, 1) := by decide +kernel
theorem dX7_clipped_16 : decode cX7_clipped 16 = .ok (.if_icmp .ge 31, 3) := by decide +kernel
theorem dX7_clipped_19 : decode cX7_clipped 19 = .ok (.aload_n 2, 1) := by decide +kernel
theorem dX7_clipped_20 : decode cX7_clipped 20 = .ok (.iload 4, 2) := by decide +kernel
theorem dX7_clipped_22 : decode cX7_clipped 22 = .ok (.iaload, 1) := by decide +kernel
theorem dX7_clipped_23 : decode cX7_clipped 23 = .ok (.istore 5, 2) := by decide +kernel
theorem dX7_clipped_25 : decode cX7_clipped 25 = .ok (.iload_n 1, 1) := by decide +kernel
theorem dX7_clipped_26 : decode cX7_clipped 26 = .ok (.iload 5, 2) := by decide +kernel
theorem dX7_clipped_28 : decode cX7_clipped 28 = .ok (.sipush 255, 3) := by decide +kernel
theorem dX7_clipped_31 : decode cX7_clipped 31 = .ok (.if_icmp .ne 7, 3) := by decide +kernel
theorem dX7_clipped_34 : decode cX7_clipped 34 = .ok (.iconst 1, 1) := by decide +kernel
theorem dX7_clipped_35 : decode cX7_clipped 35 = .ok (.goto 4, 3) := by decide +kernel
theorem dX7_clipped_38 : decode cX7_clipped 38 = .ok (.iconst 0, 1) := by decide +kernel
theorem dX7_clipped_39 : decode cX7_clipped 39 = .ok (.iadd, 1) := by decide +kernel
theorem dX7_clipped_40 : decode cX7_clipped 40 = .ok (.istore_n 1, 1) := by decide +kernel
theorem dX7_clipped_41 : decode cX7_clipped 41 = .ok (.iinc 4 1, 3) := by decide +kernel
theorem dX7_clipped_44 : decode cX7_clipped 44 = .ok (.goto (-31), 3) := by decide +kernel
theorem dX7_clipped_47 : decode cX7_clipped 47 = .ok (.iload_n 1, 1) := by decide +kernel
theorem dX7_clipped_48 : decode cX7_clipped 48 = .ok (.ireturn, 1) := by decide +kernel
theorem dX7_sharp_0 : decode cX7_sharp 0 = .ok (.iconst 0, 1) := by decide +kernel
theorem dX7_sharp_1 : decode cX7_sharp 1 = .ok (.istore_n 1, 1) := by decide +kernel
theorem dX7_sharp_2 : decode cX7_sharp 2 = .ok (.iconst 0, 1) := by decide +kernel
theorem dX7_sharp_3 : decode cX7_sharp 3 = .ok (.istore_n 2, 1) := by decide +kernel
theorem dX7_sharp_4 : decode cX7_sharp 4 = .ok (.iload_n 2, 1) := by decide +kernel
theorem dX7_sharp_5 : decode cX7_sharp 5 = .ok (.bipush 56, 2) := by decide +kernel
theorem dX7_sharp_7 : decode cX7_sharp 7 = .ok (.if_icmp .ge 54, 3) := by decide +kernel
theorem dX7_sharp_10 : decode cX7_sharp 10 = .ok (.iload_n 1, 1) := by decide +kernel
theorem dX7_sharp_11 : decode cX7_sharp 11 = .ok (.iload_n 2, 1) := by decide +kernel
theorem dX7_sharp_12 : decode cX7_sharp 12 = .ok (.invokestatic 29, 3) := by decide +kernel
theorem dX7_sharp_15 : decode cX7_sharp 15 = .ok (.iconst 1, 1) := by decide +kernel
theorem dX7_sharp_16 : decode cX7_sharp 16 = .ok (.if_icmp .ne 36, 3) := by decide +kernel
theorem dX7_sharp_19 : decode cX7_sharp 19 = .ok (.iload_n 2, 1) := by decide +kernel
theorem dX7_sharp_20 : decode cX7_sharp 20 = .ok (.bipush 8, 2) := by decide +kernel
theorem dX7_sharp_22 : decode cX7_sharp 22 = .ok (.irem, 1) := by decide +kernel
theorem dX7_sharp_23 : decode cX7_sharp 23 = .ok (.bipush 7, 2) := by decide +kernel
theorem dX7_sharp_25 : decode cX7_sharp 25 = .ok (.if_icmp .ge 27, 3) := by decide +kernel
theorem dX7_sharp_28 : decode cX7_sharp 28 = .ok (.aload_n 0, 1) := by decide +kernel
theorem dX7_sharp_29 : decode cX7_sharp 29 = .ok (.getfield 25, 3) := by decide +kernel
theorem dX7_sharp_32 : decode cX7_sharp 32 = .ok (.iload_n 2, 1) := by decide +kernel
theorem dX7_sharp_33 : decode cX7_sharp 33 = .ok (.iaload, 1) := by decide +kernel
theorem dX7_sharp_34 : decode cX7_sharp 34 = .ok (.aload_n 0, 1) := by decide +kernel
theorem dX7_sharp_35 : decode cX7_sharp 35 = .ok (.getfield 25, 3) := by decide +kernel
theorem dX7_sharp_38 : decode cX7_sharp 38 = .ok (.iload_n 2, 1) := by decide +kernel
theorem dX7_sharp_39 : decode cX7_sharp 39 = .ok (.bipush 8, 2) := by decide +kernel
theorem dX7_sharp_41 : decode cX7_sharp 41 = .ok (.iadd, 1) := by decide +kernel
theorem dX7_sharp_42 : decode cX7_sharp 42 = .ok (.iconst 1, 1) := by decide +kernel
theorem dX7_sharp_43 : decode cX7_sharp 43 = .ok (.iadd, 1) := by decide +kernel
theorem dX7_sharp_44 : decode cX7_sharp 44 = .ok (.iaload, 1) := by decide +kernel
theorem dX7_sharp_45 : decode cX7_sharp 45 = .ok (.isub, 1) := by decide +kernel
theorem dX7_sharp_46 : decode cX7_sharp 46 = .ok (.invokestatic 45, 3) := by decide +kernel
theorem dX7_sharp_49 : decode cX7_sharp 49 = .ok (.goto 4, 3) := by decide +kernel
theorem dX7_sharp_52 : decode cX7_sharp 52 = .ok (.iconst 0, 1) := by decide +kernel
theorem dX7_sharp_53 : decode cX7_sharp 53 = .ok (.iadd, 1) := by decide +kernel
theorem dX7_sharp_54 : decode cX7_sharp 54 = .ok (.istore_n 1, 1) := by decide +kernel
theorem dX7_sharp_55 : decode cX7_sharp 55 = .ok (.iinc 2 1, 3) := by decide +kernel
theorem dX7_sharp_58 : decode cX7_sharp 58 = .ok (.goto (-54), 3) := by decide +kernel
theorem dX7_sharp_61 : decode cX7_sharp 61 = .ok (.iload_n 1, 1) := by decide +kernel
theorem dX7_sharp_62 : decode cX7_sharp 62 = .ok (.ireturn, 1) := by decide +kernel
theorem dX7_zone_0 : decode cX7_zone 0 = .ok (.iconst 0, 1) := by decide +kernel
theorem dX7_zone_1 : decode cX7_zone 1 = .ok (.istore_n 2, 1) := by decide +kernel
theorem dX7_zone_2 : decode cX7_zone 2 = .ok (.iconst 0, 1) := by decide +kernel
theorem dX7_zone_3 : decode cX7_zone 3 = .ok (.istore_n 3, 1) := by decide +kernel
theorem dX7_zone_4 : decode cX7_zone 4 = .ok (.iload_n 3, 1) := by decide +kernel
theorem dX7_zone_5 : decode cX7_zone 5 = .ok (.bipush 64, 2) := by decide +kernel
theorem dX7_zone_7 : decode cX7_zone 7 = .ok (.if_icmp .ge 49, 3) := by decide +kernel
theorem dX7_zone_10 : decode cX7_zone 10 = .ok (.iload_n 2, 1) := by decide +kernel
theorem dX7_zone_11 : decode cX7_zone 11 = .ok (.iload_n 3, 1) := by decide +kernel
theorem dX7_zone_12 : decode cX7_zone 12 = .ok (.invokestatic 29, 3) := by decide +kernel
theorem dX7_zone_15 : decode cX7_zone 15 = .ok (.iconst 1, 1) := by decide +kernel
theorem dX7_zone_16 : decode cX7_zone 16 = .ok (.if_icmp .ne 31, 3) := by decide +kernel
theorem dX7_zone_19 : decode cX7_zone 19 = .ok (.iload_n 3, 1) := by decide +kernel
theorem dX7_zone_20 : decode cX7_zone 20 = .ok (.bipush 8, 2) := by decide +kernel
theorem dX7_zone_22 : decode cX7_zone 22 = .ok (.irem, 1) := by decide +kernel
theorem dX7_zone_23 : decode cX7_zone 23 = .ok (.iconst 4, 1) := by decide +kernel
theorem dX7_zone_24 : decode cX7_zone 24 = .ok (.idiv, 1) := by decide +kernel
theorem dX7_zone_25 : decode cX7_zone 25 = .ok (.iconst 2, 1) := by decide +kernel
theorem dX7_zone_26 : decode cX7_zone 26 = .ok (.iload_n 3, 1) := by decide +kernel
theorem dX7_zone_27 : decode cX7_zone 27 = .ok (.bipush 8, 2) := by decide +kernel
theorem dX7_zone_29 : decode cX7_zone 29 = .ok (.idiv, 1) := by decide +kernel
theorem dX7_zone_30 : decode cX7_zone 30 = .ok (.iconst 4, 1) := by decide +kernel
theorem dX7_zone_31 : decode cX7_zone 31 = .ok (.idiv, 1) := by decide +kernel
theorem dX7_zone_32 : decode cX7_zone 32 = .ok (.imul, 1) := by decide +kernel
theorem dX7_zone_33 : decode cX7_zone 33 = .ok (.iadd, 1) := by decide +kernel
theorem dX7_zone_34 : decode cX7_zone 34 = .ok (.iload_n 1, 1) := by decide +kernel
theorem dX7_zone_35 : decode cX7_zone 35 = .ok (.if_icmp .ne 12, 3) := by decide +kernel
theorem dX7_zone_38 : decode cX7_zone 38 = .ok (.aload_n 0, 1) := by decide +kernel
theorem dX7_zone_39 : decode cX7_zone 39 = .ok (.getfield 25, 3) := by decide +kernel
theorem dX7_zone_42 : decode cX7_zone 42 = .ok (.iload_n 3, 1) := by decide +kernel
theorem dX7_zone_43 : decode cX7_zone 43 = .ok (.iaload, 1) := by decide +kernel
theorem dX7_zone_44 : decode cX7_zone 44 = .ok (.goto 4, 3) := by decide +kernel
theorem dX7_zone_47 : decode cX7_zone 47 = .ok (.iconst 0, 1) := by decide +kernel
theorem dX7_zone_48 : decode cX7_zone 48 = .ok (.iadd, 1) := by decide +kernel
theorem dX7_zone_49 : decode cX7_zone 49 = .ok (.istore_n 2, 1) := by decide +kernel
theorem dX7_zone_50 : decode cX7_zone 50 = .ok (.iinc 3 1, 3) := by decide +kernel
theorem dX7_zone_53 : decode cX7_zone 53 = .ok (.goto (-49), 3) := by decide +kernel
theorem dX7_zone_56 : decode cX7_zone 56 = .ok (.iload_n 2, 1) := by decide +kernel
theorem dX7_zone_57 : decode cX7_zone 57 = .ok (.i2d, 1) := by decide +kernel
theorem dX7_zone_58 : decode cX7_zone 58 = .ok (.ldc2_w 48, 3) := by decide +kernel
theorem dX7_zone_61 : decode cX7_zone 61 = .ok (.ddiv, 1) := by decide +kernel
theorem dX7_zone_62 : decode cX7_zone 62 = .ok (.dreturn, 1) := by decide +kernel
theorem dX7_meter_0 : decode cX7_meter 0 = .ok (.aload_n 0, 1) := by decide +kernel
theorem dX7_meter_1 : decode cX7_meter 1 = .ok (.iconst 0, 1) := by decide +kernel
theorem dX7_meter_2 : decode cX7_meter 2 = .ok (.invokevirtual 50, 3) := by decide +kernel
theorem dX7_meter_5 : decode cX7_meter 5 = .ok (.dstore_n 1, 1) := by decide +kernel
theorem dX7_meter_6 : decode cX7_meter 6 = .ok (.iconst 1, 1) := by decide +kernel
theorem dX7_meter_7 : decode cX7_meter 7 = .ok (.istore_n 3, 1) := by decide +kernel
theorem dX7_meter_8 : decode cX7_meter 8 = .ok (.iload_n 3, 1) := by decide +kernel
theorem dX7_meter_9 : decode cX7_meter 9 = .ok (.iconst 4, 1) := by decide +kernel
theorem dX7_meter_10 : decode cX7_meter 10 = .ok (.if_icmp .ge 17, 3) := by decide +kernel
theorem dX7_meter_13 : decode cX7_meter 13 = .ok (.dload_n 1, 1) := by decide +kernel
theorem dX7_meter_14 : decode cX7_meter 14 = .ok (.aload_n 0, 1) := by decide +kernel
theorem dX7_meter_15 : decode cX7_meter 15 = .ok (.iload_n 3, 1) := by decide +kernel
theorem dX7_meter_16 : decode cX7_meter 16 = .ok (.invokevirtual 50, 3) := by decide +kernel
theorem dX7_meter_19 : decode cX7_meter 19 = .ok (.dadd, 1) := by decide +kernel
theorem dX7_meter_20 : decode cX7_meter 20 = .ok (.dstore_n 1, 1) := by decide +kernel
theorem dX7_meter_21 : decode cX7_meter 21 = .ok (.iinc 3 1, 3) := by decide +kernel
theorem dX7_meter_24 : decode cX7_meter 24 = .ok (.goto (-16), 3) := by decide +kernel
theorem dX7_meter_27 : decode cX7_meter 27 = .ok (.dload_n 1, 1) := by decide +kernel
theorem dX7_meter_28 : decode cX7_meter 28 = .ok (.ldc2_w 54, 3) := by decide +kernel
theorem dX7_meter_31 : decode cX7_meter 31 = .ok (.ddiv, 1) := by decide +kernel
theorem dX7_meter_32 : decode cX7_meter 32 = .ok (.dreturn, 1) := by decide +kernel
theorem dX8_init_0 : decode cX8_init 0 = .ok (.aload_n 0, 1) := by decide +kernel
theorem dX8_init_1 : decode cX8_init 1 = .ok (.invokespecial 1, 3) := by decide +kernel
theorem dX8_init_4 : decode cX8_init 4 = .ok (.aload_n 0, 1) := by decide +kernel
theorem dX8_init_5 : decode cX8_init 5 = .ok (.new 7, 3) := by decide +kernel
theorem dX8_init_8 : decode cX8_init 8 = .ok (.dup, 1) := by decide +kernel
theorem dX8_init_9 : decode cX8_init 9 = .ok (.invokespecial 9, 3) := by decide +kernel
theorem dX8_init_12 : decode cX8_init 12 = .ok (.putfield 10, 3) := by decide +kernel
theorem dX8_init_15 : decode cX8_init 15 = .ok (.aload_n 0, 1) := by decide +kernel
theorem dX8_init_16 : decode cX8_init 16 = .ok (.iload_n 1, 1) := by decide +kernel
theorem dX8_init_17 : decode cX8_init 17 = .ok (.putfield 16, 3) := by decide +kernel
theorem dX8_init_20 : decode cX8_init 20 = .ok (.aload_n 0, 1) := by decide +kernel
theorem dX8_init_21 : decode cX8_init 21 = .ok (.iload_n 2, 1) := by decide +kernel
theorem dX8_init_22 : decode cX8_init 22 = .ok (.putfield 20, 3) := by decide +kernel
theorem dX8_init_25 : decode cX8_init 25 = .ok (.return_, 1) := by decide +kernel
theorem dX9_init_0 : decode cX9_init 0 = .ok (.aload_n 0, 1) := by decide +kernel
theorem dX9_init_1 : decode cX9_init 1 = .ok (.invokespecial 1, 3) := by decide +kernel
theorem dX9_init_4 : decode cX9_init 4 = .ok (.aload_n 0, 1) := by decide +kernel
theorem dX9_init_5 : decode cX9_init 5 = .ok (.sipush 192, 3) := by decide +kernel
theorem dX9_init_8 : decode cX9_init 8 = .ok (.newarray .int, 2) := by decide +kernel
theorem dX9_init_10 : decode cX9_init 10 = .ok (.putfield 9, 3) := by decide +kernel
theorem dX9_init_13 : decode cX9_init 13 = .ok (.aload_n 0, 1) := by decide +kernel
theorem dX9_init_14 : decode cX9_init 14 = .ok (.iconst 3, 1) := by decide +kernel
theorem dX9_init_15 : decode cX9_init 15 = .ok (.newarray .int, 2) := by decide +kernel
theorem dX9_init_17 : decode cX9_init 17 = .ok (.dup, 1) := by decide +kernel
theorem dX9_init_18 : decode cX9_init 18 = .ok (.iconst 0, 1) := by decide +kernel
theorem dX9_init_19 : decode cX9_init 19 = .ok (.iconst 4, 1) := by decide +kernel
theorem dX9_init_20 : decode cX9_init 20 = .ok (.iastore, 1) := by decide +kernel
theorem dX9_init_21 : decode cX9_init 21 = .ok (.dup, 1) := by decide +kernel
theorem dX9_init_22 : decode cX9_init 22 = .ok (.iconst 1, 1) := by decide +kernel
theorem dX9_init_23 : decode cX9_init 23 = .ok (.iconst 4, 1) := by decide +kernel
theorem dX9_init_24 : decode cX9_init 24 = .ok (.iastore, 1) := by decide +kernel
theorem dX9_init_25 : decode cX9_init 25 = .ok (.dup, 1) := by decide +kernel
theorem dX9_init_26 : decode cX9_init 26 = .ok (.iconst 2, 1) := by decide +kernel
theorem dX9_init_27 : decode cX9_init 27 = .ok (.iconst 4, 1) := by decide +kernel
theorem dX9_init_28 : decode cX9_init 28 = .ok (.iastore, 1) := by decide +kernel
theorem dX9_init_29 : decode cX9_init 29 = .ok (.putfield 13, 3) := by decide +kernel
theorem dX9_init_32 : decode cX9_init 32 = .ok (.aload_n 0, 1) := by decide +kernel
theorem dX9_init_33 : decode cX9_init 33 = .ok (.bipush 64, 2) := by decide +kernel
theorem dX9_init_35 : decode cX9_init 35 = .ok (.newarray .int, 2) := by decide +kernel
theorem dX9_init_37 : decode cX9_init 37 = .ok (.putfield 16, 3) := by decide +kernel
theorem dX9_init_40 : decode cX9_init 40 = .ok (.aload_n 0, 1) := by decide +kernel
theorem dX9_init_41 : decode cX9_init 41 = .ok (.bipush 64, 2) := by decide +kernel
theorem dX9_init_43 : decode cX9_init 43 = .ok (.newarray .boolean, 2) := by decide +kernel
theorem dX9_init_45 : decode cX9_init 45 = .ok (.putfield 19, 3) := by decide +kernel
theorem dX9_init_48 : decode cX9_init 48 = .ok (.aload_n 0, 1) := by decide +kernel
theorem dX9_init_49 : decode cX9_init 49 = .ok (.new 23, 3) := by decide +kernel
theorem dX9_init_52 : decode cX9_init 52 = .ok (.dup, 1) := by decide +kernel
theorem dX9_init_53 : decode cX9_init 53 = .ok (.invokespecial 25, 3) := by decide +kernel
theorem dX9_init_56 : decode cX9_init 56 = .ok (.putfield 26, 3) := by decide +kernel
theorem dX9_init_59 : decode cX9_init 59 = .ok (.aload_n 0, 1) := by decide +kernel
theorem dX9_init_60 : decode cX9_init 60 = .ok (.new 23, 3) := by decide +kernel
theorem dX9_init_63 : decode cX9_init 63 = .ok (.dup, 1) := by decide +kernel
theorem dX9_init_64 : decode cX9_init 64 = .ok (.invokespecial 25, 3) := by decide +kernel
theorem dX9_init_67 : decode cX9_init 67 = .ok (.putfield 30, 3) := by decide +kernel
theorem dX9_init_70 : decode cX9_init 70 = .ok (.return_, 1) := by decide +kernel
theorem dX9_thrown_0 : decode cX9_thrown 0 = .ok (.aload_n 0, 1) := by decide +kernel
theorem dX9_thrown_1 : decode cX9_thrown 1 = .ok (.getfield 33, 3) := by decide +kernel
theorem dX9_thrown_4 : decode cX9_thrown 4 = .ok (.ireturn, 1) := by decide +kernel
theorem dX9_no_0 : decode cX9_no 0 = .ok (.aload_n 0, 1) := by decide +kernel
theorem dX9_no_1 : decode cX9_no 1 = .ok (.iload_n 1, 1) := by decide +kernel
theorem dX9_no_2 : decode cX9_no 2 = .ok (.putfield 33, 3) := by decide +kernel
theorem dX9_no_5 : decode cX9_no 5 = .ok (.iconst 0, 1) := by decide +kernel
theorem dX9_no_6 : decode cX9_no 6 = .ok (.ireturn, 1) := by decide +kernel
theorem dX9_in_0 : decode cX9_in 0 = .ok (.iload_n 0, 1) := by decide +kernel
theorem dX9_in_1 : decode cX9_in 1 = .ok (.iload_n 1, 1) := by decide +kernel
theorem dX9_in_2 : decode cX9_in 2 = .ok (.if_icmp .lt 12, 3) := by decide +kernel
theorem dX9_in_5 : decode cX9_in 5 = .ok (.iload_n 0, 1) := by decide +kernel
theorem dX9_in_6 : decode cX9_in 6 = .ok (.iload_n 2, 1) := by decide +kernel
theorem dX9_in_7 : decode cX9_in 7 = .ok (.if_icmp .gt 7, 3) := by decide +kernel
theorem dX9_in_10 : decode cX9_in 10 = .ok (.iconst 1, 1) := by decide +kernel
theorem dX9_in_11 : decode cX9_in 11 = .ok (.goto 4, 3) := by decide +kernel
theorem dX9_in_14 : decode cX9_in 14 = .ok (.iconst 0, 1) := by decide +kernel
theorem dX9_in_15 : decode cX9_in 15 = .ok (.ireturn, 1) := by decide +kernel
theorem dX9_isPlace_0 : decode cX9_isPlace 0 = .ok (.iload_n 0, 1) := by decide +kernel
theorem dX9_isPlace_1 : decode cX9_isPlace 1 = .ok (.iconst 0, 1) := by decide +kernel
theorem dX9_isPlace_2 : decode cX9_isPlace 2 = .ok (.bipush 7, 2) := by decide +kernel
theorem dX9_isPlace_4 : decode cX9_isPlace 4 = .ok (.invokestatic 37, 3) := by decide +kernel
theorem dX9_isPlace_7 : decode cX9_isPlace 7 = .ok (.ifCond .eq 17, 3) := by decide +kernel
theorem dX9_isPlace_10 : decode cX9_isPlace 10 = .ok (.iload_n 1, 1) := by decide +kernel
theorem dX9_isPlace_11 : decode cX9_isPlace 11 = .ok (.iconst 0, 1) := by decide +kernel
theorem dX9_isPlace_12 : decode cX9_isPlace 12 = .ok (.bipush 7, 2) := by decide +kernel
theorem dX9_isPlace_14 : decode cX9_isPlace 14 = .ok (.invokestatic 37, 3) := by decide +kernel
theorem dX9_isPlace_17 : decode cX9_isPlace 17 = .ok (.ifCond .eq 7, 3) := by decide +kernel
theorem dX9_isPlace_20 : decode cX9_isPlace 20 = .ok (.iconst 1, 1) := by decide +kernel
theorem dX9_isPlace_21 : decode cX9_isPlace 21 = .ok (.goto 4, 3) := by decide +kernel
theorem dX9_isPlace_24 : decode cX9_isPlace 24 = .ok (.iconst 0, 1) := by decide +kernel
theorem dX9_isPlace_25 : decode cX9_isPlace 25 = .ok (.ireturn, 1) := by decide +kernel
theorem dX9_at_0 : decode cX9_at 0 = .ok (.bipush 8, 2) := by decide +kernel
theorem dX9_at_2 : decode cX9_at 2 = .ok (.iload_n 1, 1) := by decide +kernel
theorem dX9_at_3 : decode cX9_at 3 = .ok (.imul, 1) := by decide +kernel
theorem dX9_at_4 : decode cX9_at 4 = .ok (.iload_n 0, 1) := by decide +kernel
theorem dX9_at_5 : decode cX9_at 5 = .ok (.iadd, 1) := by decide +kernel
theorem dX9_at_6 : decode cX9_at 6 = .ok (.ireturn, 1) := by decide +kernel
theorem dX9_colour_0 : decode cX9_colour 0 = .ok (.iload_n 0, 1) := by decide +kernel
theorem dX9_colour_1 : decode cX9_colour 1 = .ok (.bipush 8, 2) := by decide +kernel
theorem dX9_colour_3 : decode cX9_colour 3 = .ok (.irem, 1) := by decide +kernel
theorem dX9_colour_4 : decode cX9_colour 4 = .ok (.iconst 2, 1) := by decide +kernel
theorem dX9_colour_5 : decode cX9_colour 5 = .ok (.irem, 1) := by decide +kernel
theorem dX9_colour_6 : decode cX9_colour 6 = .ok (.istore_n 1, 1) := by decide +kernel
theorem dX9_colour_7 : decode cX9_colour 7 = .ok (.iload_n 0, 1) := by decide +kernel
theorem dX9_colour_8 : decode cX9_colour 8 = .ok (.bipush 8, 2) := by decide +kernel
theorem dX9_colour_10 : decode cX9_colour 10 = .ok (.idiv, 1) := by decide +kernel
theorem dX9_colour_11 : decode cX9_colour 11 = .ok (.iconst 2, 1) := by decide +kernel
theorem dX9_colour_12 : decode cX9_colour 12 = .ok (.irem, 1) := by decide +kernel
theorem dX9_colour_13 : decode cX9_colour 13 = .ok (.istore_n 2, 1) := by decide +kernel
theorem dX9_colour_14 : decode cX9_colour 14 = .ok (.iload_n 1, 1) := by decide +kernel
theorem dX9_colour_15 : decode cX9_colour 15 = .ok (.iload_n 2, 1) := by decide +kernel
theorem dX9_colour_16 : decode cX9_colour 16 = .ok (.iadd, 1) := by decide +kernel
theorem dX9_colour_17 : decode cX9_colour 17 = .ok (.ireturn, 1) := by decide +kernel
theorem dX9_isFrame_0 : decode cX9_isFrame 0 = .ok (.iload_n 1, 1) := by decide +kernel
theorem dX9_isFrame_1 : decode cX9_isFrame 1 = .ok (.iconst 0, 1) := by decide +kernel
theorem dX9_isFrame_2 : decode cX9_isFrame 2 = .ok (.aload_n 0, 1) := by decide +kernel
theorem dX9_isFrame_3 : decode cX9_isFrame 3 = .ok (.getfield 26, 3) := by decide +kernel
theorem dX9_isFrame_6 : decode cX9_isFrame 6 = .ok (.invokeinterface 41 1, 5) := by decide +kernel
theorem dX9_isFrame_11 : decode cX9_isFrame 11 = .ok (.iconst 1, 1) := by decide +kernel
theorem dX9_isFrame_12 : decode cX9_isFrame 12 = .ok (.isub, 1) := by decide +kernel
theorem dX9_isFrame_13 : decode cX9_isFrame 13 = .ok (.invokestatic 37, 3) := by decide +kernel
theorem dX9_isFrame_16 : decode cX9_isFrame 16 = .ok (.ireturn, 1) := by decide +kernel
theorem dX9_paint_0 : decode cX9_paint 0 = .ok (.aload_n 0, 1) := by decide +kernel
theorem dX9_paint_1 : decode cX9_paint 1 = .ok (.iconst 0, 1) := by decide +kernel
theorem dX9_paint_2 : decode cX9_paint 2 = .ok (.putfield 33, 3) := by decide +kernel
theorem dX9_paint_5 : decode cX9_paint 5 = .ok (.iload_n 1, 1) := by decide +kernel
theorem dX9_paint_6 : decode cX9_paint 6 = .ok (.iload_n 2, 1) := by decide +kernel
theorem dX9_paint_7 : decode cX9_paint 7 = .ok (.invokestatic 47, 3) := by decide +kernel
theorem dX9_paint_10 : decode cX9_paint 10 = .ok (.ifCond .eq 12, 3) := by decide +kernel
theorem dX9_paint_13 : decode cX9_paint 13 = .ok (.iload_n 3, 1) := by decide +kernel
theorem dX9_paint_14 : decode cX9_paint 14 = .ok (.iload 4, 2) := by decide +kernel
theorem dX9_paint_16 : decode cX9_paint 16 = .ok (.invokestatic 47, 3) := by decide +kernel
theorem dX9_paint_19 : decode cX9_paint 19 = .ok (.ifCond .ne 9, 3) := by decide +kernel
theorem dX9_paint_22 : decode cX9_paint 22 = .ok (.aload_n 0, 1) := by decide +kernel
theorem dX9_paint_23 : decode cX9_paint 23 = .ok (.iconst 1, 1) := by decide +kernel
theorem dX9_paint_24 : decode cX9_paint 24 = .ok (.invokevirtual 51, 3) := by decide +kernel
theorem dX9_paint_27 : decode cX9_paint 27 = .ok (.ireturn, 1) := by decide +kernel
theorem dX9_paint_28 : decode cX9_paint 28 = .ok (.iload_n 3, 1) := by decide +kernel
theorem dX9_paint_29 : decode cX9_paint 29 = .ok (.iload_n 1, 1) := by decide +kernel
theorem dX9_paint_30 : decode cX9_paint 30 = .ok (.if_icmp .lt 20, 3) := by decide +kernel
theorem dX9_paint_33 : decode cX9_paint 33 = .ok (.iload 4, 2) := by decide +kernel
theorem dX9_paint_35 : decode cX9_paint 35 = .ok (.iload_n 2, 1) := by decide +kernel
theorem dX9_paint_36 : decode cX9_paint 36 = .ok (.if_icmp .lt 14, 3) := by decide +kernel
theorem dX9_paint_39 : decode cX9_paint 39 = .ok (.iload 5, 2) := by decide +kernel
theorem dX9_paint_41 : decode cX9_paint 41 = .ok (.iconst 0, 1) := by decide +kernel
theorem dX9_paint_42 : decode cX9_paint 42 = .ok (.ldc 55, 2) := by decide +kernel
theorem dX9_paint_44 : decode cX9_paint 44 = .ok (.invokestatic 37, 3) := by decide +kernel
theorem dX9_paint_47 : decode cX9_paint 47 = .ok (.ifCond .ne 9, 3) := by decide +kernel
theorem dX9_paint_50 : decode cX9_paint 50 = .ok (.aload_n 0, 1) := by decide +kernel
theorem dX9_paint_51 : decode cX9_paint 51 = .ok (.iconst 2, 1) := by decide +kernel
theorem dX9_paint_52 : decode cX9_paint 52 = .ok (.invokevirtual 51, 3) := by decide +kernel
theorem dX9_paint_55 : decode cX9_paint 55 = .ok (.ireturn, 1) := by decide +kernel
theorem dX9_paint_56 : decode cX9_paint 56 = .ok (.iload_n 2, 1) := by decide +kernel
theorem dX9_paint_57 : decode cX9_paint 57 = .ok (.istore 6, 2) := by decide +kernel
theorem dX9_paint_59 : decode cX9_paint 59 = .ok (.iload 6, 2) := by decide +kernel
theorem dX9_paint_61 : decode cX9_paint 61 = .ok (.iload 4, 2) := by decide +kernel
theorem dX9_paint_63 : decode cX9_paint 63 = .ok (.if_icmp .gt 91, 3) := by decide +kernel
theorem dX9_paint_66 : decode cX9_paint 66 = .ok (.iload_n 1, 1) := by decide +kernel
theorem dX9_paint_67 : decode cX9_paint 67 = .ok (.istore 7, 2) := by decide +kernel
theorem dX9_paint_69 : decode cX9_paint 69 = .ok (.iload 7, 2) := by decide +kernel
theorem dX9_paint_71 : decode cX9_paint 71 = .ok (.iload_n 3, 1) := by decide +kernel
theorem dX9_paint_72 : decode cX9_paint 72 = .ok (.if_icmp .gt 76, 3) := by decide +kernel
theorem dX9_paint_75 : decode cX9_paint 75 = .ok (.aload_n 0, 1) := by decide +kernel
theorem dX9_paint_76 : decode cX9_paint 76 = .ok (.getfield 9, 3) := by decide +kernel
theorem dX9_paint_79 : decode cX9_paint 79 = .ok (.iconst 3, 1) := by decide +kernel
theorem dX9_paint_80 : decode cX9_paint 80 = .ok (.iload 7, 2) := by decide +kernel
theorem dX9_paint_82 : decode cX9_paint 82 = .ok (.iload 6, 2) := by decide +kernel
theorem dX9_paint_84 : decode cX9_paint 84 = .ok (.invokestatic 56, 3) := by decide +kernel
theorem dX9_paint_87 : decode cX9_paint 87 = .ok (.imul, 1) := by decide +kernel
theorem dX9_paint_88 : decode cX9_paint 88 = .ok (.iload 5, 2) := by decide +kernel
theorem dX9_paint_90 : decode cX9_paint 90 = .ok (.sipush 256, 3) := by decide +kernel
theorem dX9_paint_93 : decode cX9_paint 93 = .ok (.irem, 1) := by decide +kernel
theorem dX9_paint_94 : decode cX9_paint 94 = .ok (.iastore, 1) := by decide +kernel
theorem dX9_paint_95 : decode cX9_paint 95 = .ok (.aload_n 0, 1) := by decide +kernel
theorem dX9_paint_96 : decode cX9_paint 96 = .ok (.getfield 9, 3) := by decide +kernel
theorem dX9_paint_99 : decode cX9_paint 99 = .ok (.iconst 3, 1) := by decide +kernel
theorem dX9_paint_100 : decode cX9_paint 100 = .ok (.iload 7, 2) := by decide +kernel
theorem dX9_paint_102 : decode cX9_paint 102 = .ok (.iload 6, 2) := by decide +kernel
theorem dX9_paint_104 : decode cX9_paint 104 = .ok (.invokestatic 56, 3) := by decide +kernel
theorem dX9_paint_107 : decode cX9_paint 107 = .ok (.imul, 1) := by decide +kernel
theorem dX9_paint_108 : decode cX9_paint 108 = .ok (.iconst 1, 1) := by decide +kernel
theorem dX9_paint_109 : decode cX9_paint 109 = .ok (.iadd, 1) := by decide +kernel
theorem dX9_paint_110 : decode cX9_paint 110 = .ok (.iload 5, 2) := by decide +kernel
theorem dX9_paint_112 : decode cX9_paint 112 = .ok (.sipush 256, 3) := by decide +kernel
theorem dX9_paint_115 : decode cX9_paint 115 = .ok (.idiv, 1) := by decide +kernel
theorem dX9_paint_116 : decode cX9_paint 116 = .ok (.sipush 256, 3) := by decide +kernel
theorem dX9_paint_119 : decode cX9_paint 119 = .ok (.irem, 1) := by decide +kernel
theorem dX9_paint_120 : decode cX9_paint 120 = .ok (.iastore, 1) := by decide +kernel
theorem dX9_paint_121 : decode cX9_paint 121 = .ok (.aload_n 0, 1) := by decide +kernel
theorem dX9_paint_122 : decode cX9_paint 122 = .ok (.getfield 9, 3) := by decide +kernel
theorem dX9_paint_125 : decode cX9_paint 125 = .ok (.iconst 3, 1) := by decide +kernel
theorem dX9_paint_126 : decode cX9_paint 126 = .ok (.iload 7, 2) := by decide +kernel
theorem dX9_paint_128 : decode cX9_paint 128 = .ok (.iload 6, 2) := by decide +kernel
theorem dX9_paint_130 : decode cX9_paint 130 = .ok (.invokestatic 56, 3) := by decide +kernel
theorem dX9_paint_133 : decode cX9_paint 133 = .ok (.imul, 1) := by decide +kernel
theorem dX9_paint_134 : decode cX9_paint 134 = .ok (.iconst 2, 1) := by decide +kernel
theorem dX9_paint_135 : decode cX9_paint 135 = .ok (.iadd, 1) := by decide +kernel
theorem dX9_paint_136 : decode cX9_paint 136 = .ok (.iload 5, 2) := by decide +kernel
theorem dX9_paint_138 : decode cX9_paint 138 = .ok (.ldc 60, 2) := by decide +kernel
theorem dX9_paint_140 : decode cX9_paint 140 = .ok (.idiv, 1) := by decide +kernel
theorem dX9_paint_141 : decode cX9_paint 141 = .ok (.iastore, 1) := by decide +kernel
theorem dX9_paint_142 : decode cX9_paint 142 = .ok (.iinc 7 1, 3) := by decide +kernel
theorem dX9_paint_145 : decode cX9_paint 145 = .ok (.goto (-76), 3) := by decide +kernel
theorem dX9_paint_148 : decode cX9_paint 148 = .ok (.iinc 6 1, 3) := by decide +kernel
theorem dX9_paint_151 : decode cX9_paint 151 = .ok (.goto (-92), 3) := by decide +kernel
theorem dX9_paint_154 : decode cX9_paint 154 = .ok (.iload_n 3, 1) := by decide +kernel
theorem dX9_paint_155 : decode cX9_paint 155 = .ok (.iload_n 1, 1) := by decide +kernel
theorem dX9_paint_156 : decode cX9_paint 156 = .ok (.isub, 1) := by decide +kernel
theorem dX9_paint_157 : decode cX9_paint 157 = .ok (.iconst 1, 1) := by decide +kernel
theorem dX9_paint_158 : decode cX9_paint 158 = .ok (.iadd, 1) := by decide +kernel
theorem dX9_paint_159 : decode cX9_paint 159 = .ok (.iload 4, 2) := by decide +kernel
theorem dX9_paint_161 : decode cX9_paint 161 = .ok (.iload_n 2, 1) := by decide +kernel
theorem dX9_paint_162 : decode cX9_paint 162 = .ok (.isub, 1) := by decide +kernel
theorem dX9_paint_163 : decode cX9_paint 163 = .ok (.iconst 1, 1) := by decide +kernel
theorem dX9_paint_164 : decode cX9_paint 164 = .ok (.iadd, 1) := by decide +kernel
theorem dX9_paint_165 : decode cX9_paint 165 = .ok (.imul, 1) := by decide +kernel
theorem dX9_paint_166 : decode cX9_paint 166 = .ok (.ireturn, 1) := by decide +kernel
theorem dX9_lamp_0 : decode cX9_lamp 0 = .ok (.aload_n 0, 1) := by decide +kernel
theorem dX9_lamp_1 : decode cX9_lamp 1 = .ok (.iconst 0, 1) := by decide +kernel
theorem dX9_lamp_2 : decode cX9_lamp 2 = .ok (.putfield 33, 3) := by decide +kernel
theorem dX9_lamp_5 : decode cX9_lamp 5 = .ok (.iload_n 1, 1) := by decide +kernel
theorem dX9_lamp_6 : decode cX9_lamp 6 = .ok (.iconst 1, 1) := by decide +kernel
theorem dX9_lamp_7 : decode cX9_lamp 7 = .ok (.bipush 16, 2) := by decide +kernel
theorem dX9_lamp_9 : decode cX9_lamp 9 = .ok (.invokestatic 37, 3) := by decide +kernel
theorem dX9_lamp_12 : decode cX9_lamp 12 = .ok (.ifCond .eq 23, 3) := by decide +kernel
theorem dX9_lamp_15 : decode cX9_lamp 15 = .ok (.iload_n 2, 1) := by decide +kernel
theorem dX9_lamp_16 : decode cX9_lamp 16 = .ok (.iconst 1, 1) := by decide +kernel
theorem dX9_lamp_17 : decode cX9_lamp 17 = .ok (.bipush 16, 2) := by decide +kernel
theorem dX9_lamp_19 : decode cX9_lamp 19 = .ok (.invokestatic 37, 3) := by decide +kernel
theorem dX9_lamp_22 : decode cX9_lamp 22 = .ok (.ifCond .eq 13, 3) := by decide +kernel
theorem dX9_lamp_25 : decode cX9_lamp 25 = .ok (.iload_n 3, 1) := by decide +kernel
theorem dX9_lamp_26 : decode cX9_lamp 26 = .ok (.iconst 1, 1) := by decide +kernel
theorem dX9_lamp_27 : decode cX9_lamp 27 = .ok (.bipush 16, 2) := by decide +kernel
theorem dX9_lamp_29 : decode cX9_lamp 29 = .ok (.invokestatic 37, 3) := by decide +kernel
theorem dX9_lamp_32 : decode cX9_lamp 32 = .ok (.ifCond .ne 9, 3) := by decide +kernel
theorem dX9_lamp_35 : decode cX9_lamp 35 = .ok (.aload_n 0, 1) := by decide +kernel
theorem dX9_lamp_36 : decode cX9_lamp 36 = .ok (.iconst 1, 1) := by decide +kernel
theorem dX9_lamp_37 : decode cX9_lamp 37 = .ok (.invokevirtual 51, 3) := by decide +kernel
theorem dX9_lamp_40 : decode cX9_lamp 40 = .ok (.ireturn, 1) := by decide +kernel
theorem dX9_lamp_41 : decode cX9_lamp 41 = .ok (.aload_n 0, 1) := by decide +kernel
theorem dX9_lamp_42 : decode cX9_lamp 42 = .ok (.getfield 13, 3) := by decide +kernel
theorem dX9_lamp_45 : decode cX9_lamp 45 = .ok (.iconst 1, 1) := by decide +kernel
theorem dX9_lamp_46 : decode cX9_lamp 46 = .ok (.iaload, 1) := by decide +kernel
theorem dX9_lamp_47 : decode cX9_lamp 47 = .ok (.istore 4, 2) := by decide +kernel
theorem dX9_lamp_49 : decode cX9_lamp 49 = .ok (.aload_n 0, 1) := by decide +kernel
