theorem dX6_save_15 : decode cX6_save 15 = .ok (.getfield 39, 3) := by decide +kernel
theorem dX6_save_18 : decode cX6_save 18 = .ok (.istore_n 2, 1) := by decide +kernel
theorem dX6_save_19 : decode cX6_save 19 = .ok (.aload_n 0, 1) := by decide +kernel
theorem dX6_save_20 : decode cX6_save 20 = .ok (.getfield 31, 3) := by decide +kernel
theorem dX6_save_23 : decode cX6_save 23 = .ok (.iload_n 2, 1) := by decide +kernel
theorem dX6_save_24 : decode cX6_save 24 = .ok (.aaload, 1) := by decide +kernel
theorem dX6_save_25 : decode cX6_save 25 = .ok (.iload_n 1, 1) := by decide +kernel
theorem dX6_save_26 : decode cX6_save 26 = .ok (.aload_n 0, 1) := by decide +kernel
theorem dX6_save_27 : decode cX6_save 27 = .ok (.iload_n 1, 1) := by decide +kernel
theorem dX6_save_28 : decode cX6_save 28 = .ok (.invokevirtual 151, 3) := by decide +kernel
theorem dX6_save_31 : decode cX6_save 31 = .ok (.iconst 1, 1) := by decide +kernel
theorem dX6_save_32 : decode cX6_save 32 = .ok (.iadd, 1) := by decide +kernel
theorem dX6_save_33 : decode cX6_save 33 = .ok (.aload_n 0, 1) := by decide +kernel
theorem dX6_save_34 : decode cX6_save 34 = .ok (.getfield 25, 3) := by decide +kernel
theorem dX6_save_37 : decode cX6_save 37 = .ok (.iload_n 1, 1) := by decide +kernel
theorem dX6_save_38 : decode cX6_save 38 = .ok (.aaload, 1) := by decide +kernel
theorem dX6_save_39 : decode cX6_save 39 = .ok (.getfield 136, 3) := by decide +kernel
theorem dX6_save_42 : decode cX6_save 42 = .ok (.invokevirtual 154, 3) := by decide +kernel
theorem dX6_save_45 : decode cX6_save 45 = .ok (.aload_n 0, 1) := by decide +kernel
theorem dX6_save_46 : decode cX6_save 46 = .ok (.iload_n 2, 1) := by decide +kernel
theorem dX6_save_47 : decode cX6_save 47 = .ok (.iconst 1, 1) := by decide +kernel
theorem dX6_save_48 : decode cX6_save 48 = .ok (.iadd, 1) := by decide +kernel
theorem dX6_save_49 : decode cX6_save 49 = .ok (.putfield 39, 3) := by decide +kernel
theorem dX6_save_52 : decode cX6_save 52 = .ok (.iload_n 2, 1) := by decide +kernel
theorem dX6_save_53 : decode cX6_save 53 = .ok (.ireturn, 1) := by decide +kernel
theorem dX6_raw_0 : decode cX6_raw 0 = .ok (.aload_n 0, 1) := by decide +kernel
theorem dX6_raw_1 : decode cX6_raw 1 = .ok (.iload_n 1, 1) := by decide +kernel
theorem dX6_raw_2 : decode cX6_raw 2 = .ok (.invokevirtual 127, 3) := by decide +kernel
theorem dX6_raw_5 : decode cX6_raw 5 = .ok (.iload_n 2, 1) := by decide +kernel
theorem dX6_raw_6 : decode cX6_raw 6 = .ok (.iload_n 3, 1) := by decide +kernel
theorem dX6_raw_7 : decode cX6_raw 7 = .ok (.invokestatic 58, 3) := by decide +kernel
theorem dX6_raw_10 : decode cX6_raw 10 = .ok (.aload_n 0, 1) := by decide +kernel
theorem dX6_raw_11 : decode cX6_raw 11 = .ok (.getfield 25, 3) := by decide +kernel
theorem dX6_raw_14 : decode cX6_raw 14 = .ok (.iload_n 1, 1) := by decide +kernel
theorem dX6_raw_15 : decode cX6_raw 15 = .ok (.aaload, 1) := by decide +kernel
theorem dX6_raw_16 : decode cX6_raw 16 = .ok (.getfield 158, 3) := by decide +kernel
theorem dX6_raw_19 : decode cX6_raw 19 = .ok (.iload_n 2, 1) := by decide +kernel
theorem dX6_raw_20 : decode cX6_raw 20 = .ok (.iload_n 3, 1) := by decide +kernel
theorem dX6_raw_21 : decode cX6_raw 21 = .ok (.invokestatic 74, 3) := by decide +kernel
theorem dX6_raw_24 : decode cX6_raw 24 = .ok (.iaload, 1) := by decide +kernel
theorem dX6_raw_25 : decode cX6_raw 25 = .ok (.ireturn, 1) := by decide +kernel
theorem dX6_picture_0 : decode cX6_picture 0 = .ok (.aload_n 0, 1) := by decide +kernel
theorem dX6_picture_1 : decode cX6_picture 1 = .ok (.iload_n 1, 1) := by decide +kernel
theorem dX6_picture_2 : decode cX6_picture 2 = .ok (.invokevirtual 127, 3) := by decide +kernel
theorem dX6_picture_5 : decode cX6_picture 5 = .ok (.iload_n 2, 1) := by decide +kernel
theorem dX6_picture_6 : decode cX6_picture 6 = .ok (.iload_n 3, 1) := by decide +kernel
theorem dX6_picture_7 : decode cX6_picture 7 = .ok (.invokestatic 58, 3) := by decide +kernel
theorem dX6_picture_10 : decode cX6_picture 10 = .ok (.iload 4, 2) := by decide +kernel
theorem dX6_picture_12 : decode cX6_picture 12 = .ok (.iconst 0, 1) := by decide +kernel
theorem dX6_picture_13 : decode cX6_picture 13 = .ok (.iconst 2, 1) := by decide +kernel
theorem dX6_picture_14 : decode cX6_picture 14 = .ok (.invokestatic 70, 3) := by decide +kernel
theorem dX6_picture_17 : decode cX6_picture 17 = .ok (.aload_n 0, 1) := by decide +kernel
theorem dX6_picture_18 : decode cX6_picture 18 = .ok (.iload_n 1, 1) := by decide +kernel
theorem dX6_picture_19 : decode cX6_picture 19 = .ok (.aload_n 0, 1) := by decide +kernel
theorem dX6_picture_20 : decode cX6_picture 20 = .ok (.getfield 50, 3) := by decide +kernel
theorem dX6_picture_23 : decode cX6_picture 23 = .ok (.invokevirtual 162, 3) := by decide +kernel
theorem dX6_picture_26 : decode cX6_picture 26 = .ok (.aload_n 0, 1) := by decide +kernel
theorem dX6_picture_27 : decode cX6_picture 27 = .ok (.getfield 50, 3) := by decide +kernel
theorem dX6_picture_30 : decode cX6_picture 30 = .ok (.getfield 166, 3) := by decide +kernel
theorem dX6_picture_33 : decode cX6_picture 33 = .ok (.iload_n 2, 1) := by decide +kernel
theorem dX6_picture_34 : decode cX6_picture 34 = .ok (.iload_n 3, 1) := by decide +kernel
theorem dX6_picture_35 : decode cX6_picture 35 = .ok (.invokestatic 74, 3) := by decide +kernel
theorem dX6_picture_38 : decode cX6_picture 38 = .ok (.iload 4, 2) := by decide +kernel
theorem dX6_picture_40 : decode cX6_picture 40 = .ok (.invokestatic 170, 3) := by decide +kernel
theorem dX6_picture_43 : decode cX6_picture 43 = .ok (.faload, 1) := by decide +kernel
theorem dX6_picture_44 : decode cX6_picture 44 = .ok (.f2d, 1) := by decide +kernel
theorem dX6_picture_45 : decode cX6_picture 45 = .ok (.dreturn, 1) := by decide +kernel
theorem dX6_word_0 : decode cX6_word 0 = .ok (.aload_n 0, 1) := by decide +kernel
theorem dX6_word_1 : decode cX6_word 1 = .ok (.iload_n 1, 1) := by decide +kernel
theorem dX6_word_2 : decode cX6_word 2 = .ok (.invokevirtual 127, 3) := by decide +kernel
theorem dX6_word_5 : decode cX6_word 5 = .ok (.aload_n 0, 1) := by decide +kernel
theorem dX6_word_6 : decode cX6_word 6 = .ok (.iload_n 1, 1) := by decide +kernel
theorem dX6_word_7 : decode cX6_word 7 = .ok (.aload_n 0, 1) := by decide +kernel
theorem dX6_word_8 : decode cX6_word 8 = .ok (.getfield 25, 3) := by decide +kernel
theorem dX6_word_11 : decode cX6_word 11 = .ok (.iload_n 1, 1) := by decide +kernel
theorem dX6_word_12 : decode cX6_word 12 = .ok (.aaload, 1) := by decide +kernel
theorem dX6_word_13 : decode cX6_word 13 = .ok (.getfield 136, 3) := by decide +kernel
theorem dX6_word_16 : decode cX6_word 16 = .ok (.invokevirtual 173, 3) := by decide +kernel
theorem dX6_word_19 : decode cX6_word 19 = .ok (.ireturn, 1) := by decide +kernel
theorem dX6_ofFrame_0 : decode cX6_ofFrame 0 = .ok (.aload_n 0, 1) := by decide +kernel
theorem dX6_ofFrame_1 : decode cX6_ofFrame 1 = .ok (.iload_n 1, 1) := by decide +kernel
theorem dX6_ofFrame_2 : decode cX6_ofFrame 2 = .ok (.invokevirtual 127, 3) := by decide +kernel
theorem dX6_ofFrame_5 : decode cX6_ofFrame 5 = .ok (.iload_n 2, 1) := by decide +kernel
theorem dX6_ofFrame_6 : decode cX6_ofFrame 6 = .ok (.iconst 0, 1) := by decide +kernel
theorem dX6_ofFrame_7 : decode cX6_ofFrame 7 = .ok (.bipush 8, 2) := by decide +kernel
theorem dX6_ofFrame_9 : decode cX6_ofFrame 9 = .ok (.invokestatic 70, 3) := by decide +kernel
theorem dX6_ofFrame_12 : decode cX6_ofFrame 12 = .ok (.aload_n 0, 1) := by decide +kernel
theorem dX6_ofFrame_13 : decode cX6_ofFrame 13 = .ok (.getfield 25, 3) := by decide +kernel
theorem dX6_ofFrame_16 : decode cX6_ofFrame 16 = .ok (.iload_n 1, 1) := by decide +kernel
theorem dX6_ofFrame_17 : decode cX6_ofFrame 17 = .ok (.aaload, 1) := by decide +kernel
theorem dX6_ofFrame_18 : decode cX6_ofFrame 18 = .ok (.astore_n 3, 1) := by decide +kernel
theorem dX6_ofFrame_19 : decode cX6_ofFrame 19 = .ok (.iload_n 2, 1) := by decide +kernel
theorem dX6_ofFrame_20 : decode cX6_ofFrame 20 = .ok (.tableswitch 93 0 7 #[48, 53, 58, 66, 71, 76, 81, 87], 48) := by decide +kernel
theorem dX6_ofFrame_68 : decode cX6_ofFrame 68 = .ok (.aload_n 3, 1) := by decide +kernel
theorem dX6_ofFrame_69 : decode cX6_ofFrame 69 = .ok (.getfield 177, 3) := by decide +kernel
theorem dX6_ofFrame_72 : decode cX6_ofFrame 72 = .ok (.ireturn, 1) := by decide +kernel
theorem dX6_ofFrame_73 : decode cX6_ofFrame 73 = .ok (.aload_n 3, 1) := by decide +kernel
theorem dX6_ofFrame_74 : decode cX6_ofFrame 74 = .ok (.getfield 180, 3) := by decide +kernel
theorem dX6_ofFrame_77 : decode cX6_ofFrame 77 = .ok (.ireturn, 1) := by decide +kernel
theorem dX6_ofFrame_78 : decode cX6_ofFrame 78 = .ok (.aload_n 3, 1) := by decide +kernel
theorem dX6_ofFrame_79 : decode cX6_ofFrame 79 = .ok (.getfield 136, 3) := by decide +kernel
theorem dX6_ofFrame_82 : decode cX6_ofFrame 82 = .ok (.invokevirtual 140, 3) := by decide +kernel
theorem dX6_ofFrame_85 : decode cX6_ofFrame 85 = .ok (.ireturn, 1) := by decide +kernel
theorem dX6_ofFrame_86 : decode cX6_ofFrame 86 = .ok (.aload_n 3, 1) := by decide +kernel
theorem dX6_ofFrame_87 : decode cX6_ofFrame 87 = .ok (.invokevirtual 183, 3) := by decide +kernel
theorem dX6_ofFrame_90 : decode cX6_ofFrame 90 = .ok (.ireturn, 1) := by decide +kernel
theorem dX6_ofFrame_91 : decode cX6_ofFrame 91 = .ok (.aload_n 3, 1) := by decide +kernel
theorem dX6_ofFrame_92 : decode cX6_ofFrame 92 = .ok (.getfield 186, 3) := by decide +kernel
theorem dX6_ofFrame_95 : decode cX6_ofFrame 95 = .ok (.ireturn, 1) := by decide +kernel
theorem dX6_ofFrame_96 : decode cX6_ofFrame 96 = .ok (.aload_n 3, 1) := by decide +kernel
theorem dX6_ofFrame_97 : decode cX6_ofFrame 97 = .ok (.invokevirtual 189, 3) := by decide +kernel
theorem dX6_ofFrame_100 : decode cX6_ofFrame 100 = .ok (.ireturn, 1) := by decide +kernel
theorem dX6_ofFrame_101 : decode cX6_ofFrame 101 = .ok (.aload_n 3, 1) := by decide +kernel
theorem dX6_ofFrame_102 : decode cX6_ofFrame 102 = .ok (.iconst 0, 1) := by decide +kernel
theorem dX6_ofFrame_103 : decode cX6_ofFrame 103 = .ok (.invokevirtual 192, 3) := by decide +kernel
theorem dX6_ofFrame_106 : decode cX6_ofFrame 106 = .ok (.ireturn, 1) := by decide +kernel
theorem dX6_ofFrame_107 : decode cX6_ofFrame 107 = .ok (.aload_n 3, 1) := by decide +kernel
theorem dX6_ofFrame_108 : decode cX6_ofFrame 108 = .ok (.iconst 2, 1) := by decide +kernel
theorem dX6_ofFrame_109 : decode cX6_ofFrame 109 = .ok (.invokevirtual 192, 3) := by decide +kernel
theorem dX6_ofFrame_112 : decode cX6_ofFrame 112 = .ok (.ireturn, 1) := by decide +kernel
theorem dX6_ofFrame_113 : decode cX6_ofFrame 113 = .ok (.aload_n 0, 1) := by decide +kernel
theorem dX6_ofFrame_114 : decode cX6_ofFrame 114 = .ok (.iload_n 1, 1) := by decide +kernel
theorem dX6_ofFrame_115 : decode cX6_ofFrame 115 = .ok (.invokevirtual 151, 3) := by decide +kernel
theorem dX6_ofFrame_118 : decode cX6_ofFrame 118 = .ok (.ireturn, 1) := by decide +kernel
theorem dX6_meter_0 : decode cX6_meter 0 = .ok (.aload_n 0, 1) := by decide +kernel
theorem dX6_meter_1 : decode cX6_meter 1 = .ok (.iload_n 1, 1) := by decide +kernel
theorem dX6_meter_2 : decode cX6_meter 2 = .ok (.invokevirtual 127, 3) := by decide +kernel
theorem dX6_meter_5 : decode cX6_meter 5 = .ok (.aload_n 0, 1) := by decide +kernel
theorem dX6_meter_6 : decode cX6_meter 6 = .ok (.getfield 25, 3) := by decide +kernel
theorem dX6_meter_9 : decode cX6_meter 9 = .ok (.iload_n 1, 1) := by decide +kernel
theorem dX6_meter_10 : decode cX6_meter 10 = .ok (.aaload, 1) := by decide +kernel
theorem dX6_meter_11 : decode cX6_meter 11 = .ok (.invokevirtual 207, 3) := by decide +kernel
theorem dX6_meter_14 : decode cX6_meter 14 = .ok (.dreturn, 1) := by decide +kernel
theorem dX6_ofFile_0 : decode cX6_ofFile 0 = .ok (.iload_n 1, 1) := by decide +kernel
theorem dX6_ofFile_1 : decode cX6_ofFile 1 = .ok (.aload_n 0, 1) := by decide +kernel
theorem dX6_ofFile_2 : decode cX6_ofFile 2 = .ok (.getfield 39, 3) := by decide +kernel
theorem dX6_ofFile_5 : decode cX6_ofFile 5 = .ok (.invokestatic 195, 3) := by decide +kernel
theorem dX6_ofFile_8 : decode cX6_ofFile 8 = .ok (.iload_n 2, 1) := by decide +kernel
theorem dX6_ofFile_9 : decode cX6_ofFile 9 = .ok (.iconst 0, 1) := by decide +kernel
theorem dX6_ofFile_10 : decode cX6_ofFile 10 = .ok (.iconst 3, 1) := by decide +kernel
theorem dX6_ofFile_11 : decode cX6_ofFile 11 = .ok (.invokestatic 70, 3) := by decide +kernel
theorem dX6_ofFile_14 : decode cX6_ofFile 14 = .ok (.aload_n 0, 1) := by decide +kernel
theorem dX6_ofFile_15 : decode cX6_ofFile 15 = .ok (.getfield 31, 3) := by decide +kernel
theorem dX6_ofFile_18 : decode cX6_ofFile 18 = .ok (.iload_n 1, 1) := by decide +kernel
theorem dX6_ofFile_19 : decode cX6_ofFile 19 = .ok (.aaload, 1) := by decide +kernel
theorem dX6_ofFile_20 : decode cX6_ofFile 20 = .ok (.astore_n 3, 1) := by decide +kernel
theorem dX6_ofFile_21 : decode cX6_ofFile 21 = .ok (.iload_n 2, 1) := by decide +kernel
theorem dX6_ofFile_22 : decode cX6_ofFile 22 = .ok (.tableswitch 44 0 2 #[26, 31, 36], 26) := by decide +kernel
theorem dX6_ofFile_48 : decode cX6_ofFile 48 = .ok (.aload_n 3, 1) := by decide +kernel
theorem dX6_ofFile_49 : decode cX6_ofFile 49 = .ok (.getfield 211, 3) := by decide +kernel
theorem dX6_ofFile_52 : decode cX6_ofFile 52 = .ok (.ireturn, 1) := by decide +kernel
theorem dX6_ofFile_53 : decode cX6_ofFile 53 = .ok (.aload_n 3, 1) := by decide +kernel
theorem dX6_ofFile_54 : decode cX6_ofFile 54 = .ok (.getfield 214, 3) := by decide +kernel
theorem dX6_ofFile_57 : decode cX6_ofFile 57 = .ok (.ireturn, 1) := by decide +kernel
theorem dX6_ofFile_58 : decode cX6_ofFile 58 = .ok (.aload_n 3, 1) := by decide +kernel
theorem dX6_ofFile_59 : decode cX6_ofFile 59 = .ok (.getfield 217, 3) := by decide +kernel
theorem dX6_ofFile_62 : decode cX6_ofFile 62 = .ok (.invokevirtual 140, 3) := by decide +kernel
theorem dX6_ofFile_65 : decode cX6_ofFile 65 = .ok (.ireturn, 1) := by decide +kernel
theorem dX6_ofFile_66 : decode cX6_ofFile 66 = .ok (.aload_n 0, 1) := by decide +kernel
theorem dX6_ofFile_67 : decode cX6_ofFile 67 = .ok (.aload_n 3, 1) := by decide +kernel
theorem dX6_ofFile_68 : decode cX6_ofFile 68 = .ok (.getfield 211, 3) := by decide +kernel
theorem dX6_ofFile_71 : decode cX6_ofFile 71 = .ok (.aload_n 3, 1) := by decide +kernel
theorem dX6_ofFile_72 : decode cX6_ofFile 72 = .ok (.getfield 217, 3) := by decide +kernel
theorem dX6_ofFile_75 : decode cX6_ofFile 75 = .ok (.invokevirtual 173, 3) := by decide +kernel
theorem dX6_ofFile_78 : decode cX6_ofFile 78 = .ok (.ireturn, 1) := by decide +kernel
theorem dX6_ofPlace_0 : decode cX6_ofPlace 0 = .ok (.iload_n 1, 1) := by decide +kernel
theorem dX6_ofPlace_1 : decode cX6_ofPlace 1 = .ok (.iload_n 2, 1) := by decide +kernel
theorem dX6_ofPlace_2 : decode cX6_ofPlace 2 = .ok (.invokestatic 58, 3) := by decide +kernel
theorem dX6_ofPlace_5 : decode cX6_ofPlace 5 = .ok (.iload_n 3, 1) := by decide +kernel
theorem dX6_ofPlace_6 : decode cX6_ofPlace 6 = .ok (.iconst 0, 1) := by decide +kernel
theorem dX6_ofPlace_7 : decode cX6_ofPlace 7 = .ok (.iconst 5, 1) := by decide +kernel
theorem dX6_ofPlace_8 : decode cX6_ofPlace 8 = .ok (.invokestatic 70, 3) := by decide +kernel
theorem dX6_ofPlace_11 : decode cX6_ofPlace 11 = .ok (.iload_n 1, 1) := by decide +kernel
theorem dX6_ofPlace_12 : decode cX6_ofPlace 12 = .ok (.iload_n 2, 1) := by decide +kernel
theorem dX6_ofPlace_13 : decode cX6_ofPlace 13 = .ok (.invokestatic 74, 3) := by decide +kernel
theorem dX6_ofPlace_16 : decode cX6_ofPlace 16 = .ok (.istore 4, 2) := by decide +kernel
theorem dX6_ofPlace_18 : decode cX6_ofPlace 18 = .ok (.iload_n 3, 1) := by decide +kernel
theorem dX6_ofPlace_19 : decode cX6_ofPlace 19 = .ok (.tableswitch 60 0 4 #[33, 33, 33, 44, 50], 33) := by decide +kernel
theorem dX6_ofPlace_52 : decode cX6_ofPlace 52 = .ok (.aload_n 0, 1) := by decide +kernel
theorem dX6_ofPlace_53 : decode cX6_ofPlace 53 = .ok (.getfield 12, 3) := by decide +kernel
theorem dX6_ofPlace_56 : decode cX6_ofPlace 56 = .ok (.iload 4, 2) := by decide +kernel
theorem dX6_ofPlace_58 : decode cX6_ofPlace 58 = .ok (.iload_n 3, 1) := by decide +kernel
theorem dX6_ofPlace_59 : decode cX6_ofPlace 59 = .ok (.invokevirtual 218, 3) := by decide +kernel
theorem dX6_ofPlace_62 : decode cX6_ofPlace 62 = .ok (.ireturn, 1) := by decide +kernel
theorem dX6_ofPlace_63 : decode cX6_ofPlace 63 = .ok (.iload_n 1, 1) := by decide +kernel
theorem dX6_ofPlace_64 : decode cX6_ofPlace 64 = .ok (.iload_n 2, 1) := by decide +kernel
theorem dX6_ofPlace_65 : decode cX6_ofPlace 65 = .ok (.invokestatic 221, 3) := by decide +kernel
theorem dX6_ofPlace_68 : decode cX6_ofPlace 68 = .ok (.ireturn, 1) := by decide +kernel
theorem dX6_ofPlace_69 : decode cX6_ofPlace 69 = .ok (.aload_n 0, 1) := by decide +kernel
theorem dX6_ofPlace_70 : decode cX6_ofPlace 70 = .ok (.getfield 19, 3) := by decide +kernel
theorem dX6_ofPlace_73 : decode cX6_ofPlace 73 = .ok (.iload 4, 2) := by decide +kernel
theorem dX6_ofPlace_75 : decode cX6_ofPlace 75 = .ok (.invokevirtual 88, 3) := by decide +kernel
theorem dX6_ofPlace_78 : decode cX6_ofPlace 78 = .ok (.ireturn, 1) := by decide +kernel
theorem dX6_ofPlace_79 : decode cX6_ofPlace 79 = .ok (.aload_n 0, 1) := by decide +kernel
theorem dX6_ofPlace_80 : decode cX6_ofPlace 80 = .ok (.getfield 19, 3) := by decide +kernel
theorem dX6_ofPlace_83 : decode cX6_ofPlace 83 = .ok (.iload 4, 2) := by decide +kernel
theorem dX6_ofPlace_85 : decode cX6_ofPlace 85 = .ok (.invokevirtual 224, 3) := by decide +kernel
theorem dX6_ofPlace_88 : decode cX6_ofPlace 88 = .ok (.ifCond .eq 7, 3) := by decide +kernel
theorem dX6_ofPlace_91 : decode cX6_ofPlace 91 = .ok (.iconst 1, 1) := by decide +kernel
theorem dX6_ofPlace_92 : decode cX6_ofPlace 92 = .ok (.goto 4, 3) := by decide +kernel
theorem dX6_ofPlace_95 : decode cX6_ofPlace 95 = .ok (.iconst 0, 1) := by decide +kernel
theorem dX6_ofPlace_96 : decode cX6_ofPlace 96 = .ok (.ireturn, 1) := by decide +kernel
theorem dX6_many_0 : decode cX6_many 0 = .ok (.iload_n 1, 1) := by decide +kernel
theorem dX6_many_1 : decode cX6_many 1 = .ok (.iconst 0, 1) := by decide +kernel
theorem dX6_many_2 : decode cX6_many 2 = .ok (.bipush 6, 2) := by decide +kernel
theorem dX6_many_4 : decode cX6_many 4 = .ok (.invokestatic 70, 3) := by decide +kernel
theorem dX6_many_7 : decode cX6_many 7 = .ok (.iload_n 1, 1) := by decide +kernel
theorem dX6_many_8 : decode cX6_many 8 = .ok (.tableswitch 80 0 5 #[40, 45, 50, 58, 66, 71], 40) := by decide +kernel
theorem dX6_many_48 : decode cX6_many 48 = .ok (.aload_n 0, 1) := by decide +kernel
theorem dX6_many_49 : decode cX6_many 49 = .ok (.getfield 35, 3) := by decide +kernel
theorem dX6_many_52 : decode cX6_many 52 = .ok (.ireturn, 1) := by decide +kernel
theorem dX6_many_53 : decode cX6_many 53 = .ok (.aload_n 0, 1) := by decide +kernel
theorem dX6_many_54 : decode cX6_many 54 = .ok (.getfield 39, 3) := by decide +kernel
theorem dX6_many_57 : decode cX6_many 57 = .ok (.ireturn, 1) := by decide +kernel
theorem dX6_many_58 : decode cX6_many 58 = .ok (.aload_n 0, 1) := by decide +kernel
theorem dX6_many_59 : decode cX6_many 59 = .ok (.getfield 19, 3) := by decide +kernel
theorem dX6_many_62 : decode cX6_many 62 = .ok (.invokevirtual 99, 3) := by decide +kernel
theorem dX6_many_65 : decode cX6_many 65 = .ok (.ireturn, 1) := by decide +kernel
theorem dX6_many_66 : decode cX6_many 66 = .ok (.aload_n 0, 1) := by decide +kernel
theorem dX6_many_67 : decode cX6_many 67 = .ok (.getfield 19, 3) := by decide +kernel
theorem dX6_many_70 : decode cX6_many 70 = .ok (.getfield 228, 3) := by decide +kernel
theorem dX6_many_73 : decode cX6_many 73 = .ok (.ireturn, 1) := by decide +kernel
theorem dX6_many_74 : decode cX6_many 74 = .ok (.aload_n 0, 1) := by decide +kernel
theorem dX6_many_75 : decode cX6_many 75 = .ok (.invokevirtual 231, 3) := by decide +kernel
theorem dX6_many_78 : decode cX6_many 78 = .ok (.ireturn, 1) := by decide +kernel
theorem dX6_many_79 : decode cX6_many 79 = .ok (.aload_n 0, 1) := by decide +kernel
theorem dX6_many_80 : decode cX6_many 80 = .ok (.getfield 19, 3) := by decide +kernel
theorem dX6_many_83 : decode cX6_many 83 = .ok (.iconst 1, 1) := by decide +kernel
theorem dX6_many_84 : decode cX6_many 84 = .ok (.invokevirtual 234, 3) := by decide +kernel
theorem dX6_many_87 : decode cX6_many 87 = .ok (.ireturn, 1) := by decide +kernel
theorem dX6_many_88 : decode cX6_many 88 = .ok (.aload_n 0, 1) := by decide +kernel
theorem dX6_many_89 : decode cX6_many 89 = .ok (.getfield 19, 3) := by decide +kernel
theorem dX6_many_92 : decode cX6_many 92 = .ok (.iconst 0, 1) := by decide +kernel
theorem dX6_many_93 : decode cX6_many 93 = .ok (.invokevirtual 234, 3) := by decide +kernel
theorem dX6_many_96 : decode cX6_many 96 = .ok (.ireturn, 1) := by decide +kernel
theorem dX6_wouldClip_0 : decode cX6_wouldClip 0 = .ok (.iload_n 1, 1) := by decide +kernel
theorem dX6_wouldClip_1 : decode cX6_wouldClip 1 = .ok (.iload_n 2, 1) := by decide +kernel
theorem dX6_wouldClip_2 : decode cX6_wouldClip 2 = .ok (.invokestatic 102, 3) := by decide +kernel
theorem dX6_wouldClip_5 : decode cX6_wouldClip 5 = .ok (.aload_n 0, 1) := by decide +kernel
theorem dX6_wouldClip_6 : decode cX6_wouldClip 6 = .ok (.getfield 19, 3) := by decide +kernel
theorem dX6_wouldClip_9 : decode cX6_wouldClip 9 = .ok (.aload_n 0, 1) := by decide +kernel
theorem dX6_wouldClip_10 : decode cX6_wouldClip 10 = .ok (.getfield 12, 3) := by decide +kernel
theorem dX6_wouldClip_13 : decode cX6_wouldClip 13 = .ok (.iload_n 1, 1) := by decide +kernel
theorem dX6_wouldClip_14 : decode cX6_wouldClip 14 = .ok (.iload_n 2, 1) := by decide +kernel
theorem dX6_wouldClip_15 : decode cX6_wouldClip 15 = .ok (.aload_n 0, 1) := by decide +kernel
theorem dX6_wouldClip_16 : decode cX6_wouldClip 16 = .ok (.getfield 43, 3) := by decide +kernel
theorem dX6_wouldClip_19 : decode cX6_wouldClip 19 = .ok (.invokevirtual 108, 3) := by decide +kernel
theorem dX6_wouldClip_22 : decode cX6_wouldClip 22 = .ok (.pop, 1) := by decide +kernel
theorem dX6_wouldClip_23 : decode cX6_wouldClip 23 = .ok (.aload_n 0, 1) := by decide +kernel
theorem dX6_wouldClip_24 : decode cX6_wouldClip 24 = .ok (.getfield 43, 3) := by decide +kernel
theorem dX6_wouldClip_27 : decode cX6_wouldClip 27 = .ok (.invokevirtual 183, 3) := by decide +kernel
theorem dX6_wouldClip_30 : decode cX6_wouldClip 30 = .ok (.ireturn, 1) := by decide +kernel
theorem dX6_bestTake_0 : decode cX6_bestTake 0 = .ok (.iload_n 1, 1) := by decide +kernel
theorem dX6_bestTake_1 : decode cX6_bestTake 1 = .ok (.iconst 0, 1) := by decide +kernel
theorem dX6_bestTake_2 : decode cX6_bestTake 2 = .ok (.sipush 255, 3) := by decide +kernel
theorem dX6_bestTake_5 : decode cX6_bestTake 5 = .ok (.invokestatic 70, 3) := by decide +kernel
theorem dX6_bestTake_8 : decode cX6_bestTake 8 = .ok (.iconst (-1), 1) := by decide +kernel
theorem dX6_bestTake_9 : decode cX6_bestTake 9 = .ok (.istore_n 2, 1) := by decide +kernel
theorem dX6_bestTake_10 : decode cX6_bestTake 10 = .ok (.dconst 0, 1) := by decide +kernel
theorem dX6_bestTake_11 : decode cX6_bestTake 11 = .ok (.dstore_n 3, 1) := by decide +kernel
theorem dX6_bestTake_12 : decode cX6_bestTake 12 = .ok (.iconst 1, 1) := by decide +kernel
theorem dX6_bestTake_13 : decode cX6_bestTake 13 = .ok (.istore 5, 2) := by decide +kernel
theorem dX6_bestTake_15 : decode cX6_bestTake 15 = .ok (.iload 5, 2) := by decide +kernel
theorem dX6_bestTake_17 : decode cX6_bestTake 17 = .ok (.bipush 8, 2) := by decide +kernel
theorem dX6_bestTake_19 : decode cX6_bestTake 19 = .ok (.if_icmp .gt 101, 3) := by decide +kernel
theorem dX6_bestTake_22 : decode cX6_bestTake 22 = .ok (.iconst 1, 1) := by decide +kernel
theorem dX6_bestTake_23 : decode cX6_bestTake 23 = .ok (.istore 6, 2) := by decide +kernel
theorem dX6_bestTake_25 : decode cX6_bestTake 25 = .ok (.iload 6, 2) := by decide +kernel
theorem dX6_bestTake_27 : decode cX6_bestTake 27 = .ok (.bipush 64, 2) := by decide +kernel
theorem dX6_bestTake_29 : decode cX6_bestTake 29 = .ok (.if_icmp .gt 85, 3) := by decide +kernel
theorem dX6_bestTake_32 : decode cX6_bestTake 32 = .ok (.aload_n 0, 1) := by decide +kernel
theorem dX6_bestTake_33 : decode cX6_bestTake 33 = .ok (.getfield 19, 3) := by decide +kernel
theorem dX6_bestTake_36 : decode cX6_bestTake 36 = .ok (.aload_n 0, 1) := by decide +kernel
theorem dX6_bestTake_37 : decode cX6_bestTake 37 = .ok (.getfield 12, 3) := by decide +kernel
theorem dX6_bestTake_40 : decode cX6_bestTake 40 = .ok (.iload 6, 2) := by decide +kernel
theorem dX6_bestTake_42 : decode cX6_bestTake 42 = .ok (.iload 5, 2) := by decide +kernel
theorem dX6_bestTake_44 : decode cX6_bestTake 44 = .ok (.aload_n 0, 1) := by decide +kernel
theorem dX6_bestTake_45 : decode cX6_bestTake 45 = .ok (.getfield 43, 3) := by decide +kernel
theorem dX6_bestTake_48 : decode cX6_bestTake 48 = .ok (.invokevirtual 108, 3) := by decide +kernel
theorem dX6_bestTake_51 : decode cX6_bestTake 51 = .ok (.pop, 1) := by decide +kernel
theorem dX6_bestTake_52 : decode cX6_bestTake 52 = .ok (.aload_n 0, 1) := by decide +kernel
theorem dX6_bestTake_53 : decode cX6_bestTake 53 = .ok (.getfield 43, 3) := by decide +kernel
theorem dX6_bestTake_56 : decode cX6_bestTake 56 = .ok (.invokevirtual 207, 3) := by decide +kernel
theorem dX6_bestTake_59 : decode cX6_bestTake 59 = .ok (.iload_n 1, 1) := by decide +kernel
theorem dX6_bestTake_60 : decode cX6_bestTake 60 = .ok (.i2d, 1) := by decide +kernel
theorem dX6_bestTake_61 : decode cX6_bestTake 61 = .ok (.dsub, 1) := by decide +kernel
theorem dX6_bestTake_62 : decode cX6_bestTake 62 = .ok (.dstore 7, 2) := by decide +kernel
theorem dX6_bestTake_64 : decode cX6_bestTake 64 = .ok (.dload 7, 2) := by decide +kernel
theorem dX6_bestTake_66 : decode cX6_bestTake 66 = .ok (.dconst 0, 1) := by decide +kernel
theorem dX6_bestTake_67 : decode cX6_bestTake 67 = .ok (.dcmp .g, 1) := by decide +kernel
theorem dX6_bestTake_68 : decode cX6_bestTake 68 = .ok (.ifCond .ge 9, 3) := by decide +kernel
theorem dX6_bestTake_71 : decode cX6_bestTake 71 = .ok (.dload 7, 2) := by decide +kernel
theorem dX6_bestTake_73 : decode cX6_bestTake 73 = .ok (.dneg, 1) := by decide +kernel
theorem dX6_bestTake_74 : decode cX6_bestTake 74 = .ok (.goto 5, 3) := by decide +kernel
theorem dX6_bestTake_77 : decode cX6_bestTake 77 = .ok (.dload 7, 2) := by decide +kernel
theorem dX6_bestTake_79 : decode cX6_bestTake 79 = .ok (.dstore 7, 2) := by decide +kernel
theorem dX6_bestTake_81 : decode cX6_bestTake 81 = .ok (.iload_n 2, 1) := by decide +kernel
theorem dX6_bestTake_82 : decode cX6_bestTake 82 = .ok (.iconst (-1), 1) := by decide +kernel
theorem dX6_bestTake_83 : decode cX6_bestTake 83 = .ok (.if_icmp .eq 10, 3) := by decide +kernel
theorem dX6_bestTake_86 : decode cX6_bestTake 86 = .ok (.dload 7, 2) := by decide +kernel
theorem dX6_bestTake_88 : decode cX6_bestTake 88 = .ok (.dload_n 3, 1) := by decide +kernel
theorem dX6_bestTake_89 : decode cX6_bestTake 89 = .ok (.dcmp .g, 1) := by decide +kernel
theorem dX6_bestTake_90 : decode cX6_bestTake 90 = .ok (.ifCond .ge 15, 3) := by decide +kernel
theorem dX6_bestTake_93 : decode cX6_bestTake 93 = .ok (.bipush 16, 2) := by decide +kernel
theorem dX6_bestTake_95 : decode cX6_bestTake 95 = .ok (.iload 6, 2) := by decide +kernel
theorem dX6_bestTake_97 : decode cX6_bestTake 97 = .ok (.imul, 1) := by decide +kernel
theorem dX6_bestTake_98 : decode cX6_bestTake 98 = .ok (.iload 5, 2) := by decide +kernel
theorem dX6_bestTake_100 : decode cX6_bestTake 100 = .ok (.iadd, 1) := by decide +kernel
theorem dX6_bestTake_101 : decode cX6_bestTake 101 = .ok (.istore_n 2, 1) := by decide +kernel
theorem dX6_bestTake_102 : decode cX6_bestTake 102 = .ok (.dload 7, 2) := by decide +kernel
theorem dX6_bestTake_104 : decode cX6_bestTake 104 = .ok (.dstore_n 3, 1) := by decide +kernel
theorem dX6_bestTake_105 : decode cX6_bestTake 105 = .ok (.iconst 2, 1) := by decide +kernel
theorem dX6_bestTake_106 : decode cX6_bestTake 106 = .ok (.iload 6, 2) := by decide +kernel
theorem dX6_bestTake_108 : decode cX6_bestTake 108 = .ok (.imul, 1) := by decide +kernel
theorem dX6_bestTake_109 : decode cX6_bestTake 109 = .ok (.istore 6, 2) := by decide +kernel
theorem dX6_bestTake_111 : decode cX6_bestTake 111 = .ok (.goto (-86), 3) := by decide +kernel
theorem dX6_bestTake_114 : decode cX6_bestTake 114 = .ok (.iinc 5 1, 3) := by decide +kernel
theorem dX6_bestTake_117 : decode cX6_bestTake 117 = .ok (.goto (-102), 3) := by decide +kernel
theorem dX6_bestTake_120 : decode cX6_bestTake 120 = .ok (.iload_n 2, 1) := by decide +kernel
theorem dX6_bestTake_121 : decode cX6_bestTake 121 = .ok (.ireturn, 1) := by decide +kernel
theorem dX6_bestWhite_0 : decode cX6_bestWhite 0 = .ok (.aload_n 0, 1) := by decide +kernel
theorem dX6_bestWhite_1 : decode cX6_bestWhite 1 = .ok (.iload_n 1, 1) := by decide +kernel
theorem dX6_bestWhite_2 : decode cX6_bestWhite 2 = .ok (.invokevirtual 127, 3) := by decide +kernel
theorem dX6_bestWhite_5 : decode cX6_bestWhite 5 = .ok (.iload_n 2, 1) := by decide +kernel
theorem dX6_bestWhite_6 : decode cX6_bestWhite 6 = .ok (.iconst 1, 1) := by decide +kernel
theorem dX6_bestWhite_7 : decode cX6_bestWhite 7 = .ok (.iconst 2, 1) := by decide +kernel
theorem dX6_bestWhite_8 : decode cX6_bestWhite 8 = .ok (.invokestatic 70, 3) := by decide +kernel
theorem dX6_bestWhite_11 : decode cX6_bestWhite 11 = .ok (.aload_n 0, 1) := by decide +kernel
theorem dX6_bestWhite_12 : decode cX6_bestWhite 12 = .ok (.getfield 25, 3) := by decide +kernel
theorem dX6_bestWhite_15 : decode cX6_bestWhite 15 = .ok (.iload_n 1, 1) := by decide +kernel
theorem dX6_bestWhite_16 : decode cX6_bestWhite 16 = .ok (.aaload, 1) := by decide +kernel
theorem dX6_bestWhite_17 : decode cX6_bestWhite 17 = .ok (.astore_n 3, 1) := by decide +kernel
theorem dX6_bestWhite_18 : decode cX6_bestWhite 18 = .ok (.aload_n 0, 1) := by decide +kernel
theorem dX6_bestWhite_19 : decode cX6_bestWhite 19 = .ok (.getfield 50, 3) := by decide +kernel
theorem dX6_bestWhite_22 : decode cX6_bestWhite 22 = .ok (.aload_n 3, 1) := by decide +kernel
theorem dX6_bestWhite_23 : decode cX6_bestWhite 23 = .ok (.getfield 158, 3) := by decide +kernel
theorem dX6_bestWhite_26 : decode cX6_bestWhite 26 = .ok (.aload_n 3, 1) := by decide +kernel
theorem dX6_bestWhite_27 : decode cX6_bestWhite 27 = .ok (.getfield 136, 3) := by decide +kernel
theorem dX6_bestWhite_30 : decode cX6_bestWhite 30 = .ok (.aload_n 0, 1) := by decide +kernel
theorem dX6_bestWhite_31 : decode cX6_bestWhite 31 = .ok (.getfield 19, 3) := by decide +kernel
theorem dX6_bestWhite_34 : decode cX6_bestWhite 34 = .ok (.getfield 242, 3) := by decide +kernel
theorem dX6_bestWhite_37 : decode cX6_bestWhite 37 = .ok (.invokevirtual 246, 3) := by decide +kernel
theorem dX6_bestWhite_40 : decode cX6_bestWhite 40 = .ok (.iload_n 2, 1) := by decide +kernel
theorem dX6_bestWhite_41 : decode cX6_bestWhite 41 = .ok (.iconst 1, 1) := by decide +kernel
theorem dX6_bestWhite_42 : decode cX6_bestWhite 42 = .ok (.if_icmp .ne 7, 3) := by decide +kernel
theorem dX6_bestWhite_45 : decode cX6_bestWhite 45 = .ok (.iconst 0, 1) := by decide +kernel
theorem dX6_bestWhite_46 : decode cX6_bestWhite 46 = .ok (.goto 4, 3) := by decide +kernel
theorem dX6_bestWhite_49 : decode cX6_bestWhite 49 = .ok (.iconst 2, 1) := by decide +kernel
theorem dX6_bestWhite_50 : decode cX6_bestWhite 50 = .ok (.istore 4, 2) := by decide +kernel
theorem dX6_bestWhite_52 : decode cX6_bestWhite 52 = .ok (.aload_n 0, 1) := by decide +kernel
theorem dX6_bestWhite_53 : decode cX6_bestWhite 53 = .ok (.getfield 50, 3) := by decide +kernel
theorem dX6_bestWhite_56 : decode cX6_bestWhite 56 = .ok (.iconst 1, 1) := by decide +kernel
theorem dX6_bestWhite_57 : decode cX6_bestWhite 57 = .ok (.fconst 1, 1) := by decide +kernel
theorem dX6_bestWhite_58 : decode cX6_bestWhite 58 = .ok (.invokevirtual 250, 3) := by decide +kernel
theorem dX6_bestWhite_61 : decode cX6_bestWhite 61 = .ok (.istore 5, 2) := by decide +kernel
theorem dX6_bestWhite_63 : decode cX6_bestWhite 63 = .ok (.iconst (-1), 1) := by decide +kernel
theorem dX6_bestWhite_64 : decode cX6_bestWhite 64 = .ok (.istore 6, 2) := by decide +kernel
theorem dX6_bestWhite_66 : decode cX6_bestWhite 66 = .ok (.iconst 0, 1) := by decide +kernel
theorem dX6_bestWhite_67 : decode cX6_bestWhite 67 = .ok (.istore 7, 2) := by decide +kernel
theorem dX6_bestWhite_69 : decode cX6_bestWhite 69 = .ok (.iload_n 2, 1) := by decide +kernel
theorem dX6_bestWhite_70 : decode cX6_bestWhite 70 = .ok (.invokestatic 130, 3) := by decide +kernel
theorem dX6_bestWhite_73 : decode cX6_bestWhite 73 = .ok (.istore 8, 2) := by decide +kernel
theorem dX6_bestWhite_75 : decode cX6_bestWhite 75 = .ok (.iload 8, 2) := by decide +kernel
theorem dX6_bestWhite_77 : decode cX6_bestWhite 77 = .ok (.iload_n 2, 1) := by decide +kernel
theorem dX6_bestWhite_78 : decode cX6_bestWhite 78 = .ok (.invokestatic 133, 3) := by decide +kernel
theorem dX6_bestWhite_81 : decode cX6_bestWhite 81 = .ok (.if_icmp .gt 53, 3) := by decide +kernel
theorem dX6_bestWhite_84 : decode cX6_bestWhite 84 = .ok (.iload 5, 2) := by decide +kernel
theorem dX6_bestWhite_86 : decode cX6_bestWhite 86 = .ok (.aload_n 0, 1) := by decide +kernel
theorem dX6_bestWhite_87 : decode cX6_bestWhite 87 = .ok (.getfield 50, 3) := by decide +kernel
theorem dX6_bestWhite_90 : decode cX6_bestWhite 90 = .ok (.iload 4, 2) := by decide +kernel
theorem dX6_bestWhite_92 : decode cX6_bestWhite 92 = .ok (.iload 8, 2) := by decide +kernel
theorem dX6_bestWhite_94 : decode cX6_bestWhite 94 = .ok (.i2f, 1) := by decide +kernel
theorem dX6_bestWhite_95 : decode cX6_bestWhite 95 = .ok (.ldc 254, 2) := by decide +kernel
theorem dX6_bestWhite_97 : decode cX6_bestWhite 97 = .ok (.fdiv, 1) := by decide +kernel
theorem dX6_bestWhite_98 : decode cX6_bestWhite 98 = .ok (.invokevirtual 250, 3) := by decide +kernel
theorem dX6_bestWhite_101 : decode cX6_bestWhite 101 = .ok (.isub, 1) := by decide +kernel
theorem dX6_bestWhite_102 : decode cX6_bestWhite 102 = .ok (.invokestatic 255, 3) := by decide +kernel
theorem dX6_bestWhite_105 : decode cX6_bestWhite 105 = .ok (.istore 9, 2) := by decide +kernel
theorem dX6_bestWhite_107 : decode cX6_bestWhite 107 = .ok (.iload 6, 2) := by decide +kernel
theorem dX6_bestWhite_109 : decode cX6_bestWhite 109 = .ok (.iconst (-1), 1) := by decide +kernel
theorem dX6_bestWhite_110 : decode cX6_bestWhite 110 = .ok (.if_icmp .eq 10, 3) := by decide +kernel
theorem dX6_bestWhite_113 : decode cX6_bestWhite 113 = .ok (.iload 9, 2) := by decide +kernel
theorem dX6_bestWhite_115 : decode cX6_bestWhite 115 = .ok (.iload 7, 2) := by decide +kernel
theorem dX6_bestWhite_117 : decode cX6_bestWhite 117 = .ok (.if_icmp .ge 11, 3) := by decide +kernel
theorem dX6_bestWhite_120 : decode cX6_bestWhite 120 = .ok (.iload 8, 2) := by decide +kernel
theorem dX6_bestWhite_122 : decode cX6_bestWhite 122 = .ok (.istore 6, 2) := by decide +kernel
theorem dX6_bestWhite_124 : decode cX6_bestWhite 124 = .ok (.iload 9, 2) := by decide +kernel
theorem dX6_bestWhite_126 : decode cX6_bestWhite 126 = .ok (.istore 7, 2) := by decide +kernel
theorem dX6_bestWhite_128 : decode cX6_bestWhite 128 = .ok (.iinc 8 1, 3) := by decide +kernel
theorem dX6_bestWhite_131 : decode cX6_bestWhite 131 = .ok (.goto (-56), 3) := by decide +kernel
theorem dX6_bestWhite_134 : decode cX6_bestWhite 134 = .ok (.iload 6, 2) := by decide +kernel
theorem dX6_bestWhite_136 : decode cX6_bestWhite 136 = .ok (.ireturn, 1) := by decide +kernel
theorem dX6_digest_0 : decode cX6_digest 0 = .ok (.ldc2_w 260, 3) := by decide +kernel
theorem dX6_digest_3 : decode cX6_digest 3 = .ok (.lstore_n 1, 1) := by decide +kernel
theorem dX6_digest_4 : decode cX6_digest 4 = .ok (.iconst 0, 1) := by decide +kernel
theorem dX6_digest_5 : decode cX6_digest 5 = .ok (.istore_n 3, 1) := by decide +kernel
theorem dX6_digest_6 : decode cX6_digest 6 = .ok (.iload_n 3, 1) := by decide +kernel
theorem dX6_digest_7 : decode cX6_digest 7 = .ok (.bipush 6, 2) := by decide +kernel
theorem dX6_digest_9 : decode cX6_digest 9 = .ok (.if_icmp .gt 22, 3) := by decide +kernel
theorem dX6_digest_12 : decode cX6_digest 12 = .ok (.lload_n 1, 1) := by decide +kernel
theorem dX6_digest_13 : decode cX6_digest 13 = .ok (.ldc2_w 262, 3) := by decide +kernel
theorem dX6_digest_16 : decode cX6_digest 16 = .ok (.lmul, 1) := by decide +kernel
theorem dX6_digest_17 : decode cX6_digest 17 = .ok (.aload_n 0, 1) := by decide +kernel
theorem dX6_digest_18 : decode cX6_digest 18 = .ok (.iload_n 3, 1) := by decide +kernel
theorem dX6_digest_19 : decode cX6_digest 19 = .ok (.invokevirtual 264, 3) := by decide +kernel
theorem dX6_digest_22 : decode cX6_digest 22 = .ok (.i2l, 1) := by decide +kernel
theorem dX6_digest_23 : decode cX6_digest 23 = .ok (.ladd, 1) := by decide +kernel
theorem dX6_digest_24 : decode cX6_digest 24 = .ok (.lstore_n 1, 1) := by decide +kernel
theorem dX6_digest_25 : decode cX6_digest 25 = .ok (.iinc 3 1, 3) := by decide +kernel
theorem dX6_digest_28 : decode cX6_digest 28 = .ok (.goto (-22), 3) := by decide +kernel
theorem dX6_digest_31 : decode cX6_digest 31 = .ok (.iconst 0, 1) := by decide +kernel
theorem dX6_digest_32 : decode cX6_digest 32 = .ok (.istore_n 3, 1) := by decide +kernel
theorem dX6_digest_33 : decode cX6_digest 33 = .ok (.iload_n 3, 1) := by decide +kernel
theorem dX6_digest_34 : decode cX6_digest 34 = .ok (.aload_n 0, 1) := by decide +kernel
theorem dX6_digest_35 : decode cX6_digest 35 = .ok (.getfield 35, 3) := by decide +kernel
theorem dX6_digest_38 : decode cX6_digest 38 = .ok (.if_icmp .ge 110, 3) := by decide +kernel
theorem dX6_digest_41 : decode cX6_digest 41 = .ok (.iconst 0, 1) := by decide +kernel
theorem dX6_digest_42 : decode cX6_digest 42 = .ok (.istore 4, 2) := by decide +kernel
theorem dX6_digest_44 : decode cX6_digest 44 = .ok (.iload 4, 2) := by decide +kernel
theorem dX6_digest_46 : decode cX6_digest 46 = .ok (.bipush 8, 2) := by decide +kernel
theorem dX6_digest_48 : decode cX6_digest 48 = .ok (.if_icmp .gt 24, 3) := by decide +kernel
theorem dX6_digest_51 : decode cX6_digest 51 = .ok (.lload_n 1, 1) := by decide +kernel
theorem dX6_digest_52 : decode cX6_digest 52 = .ok (.ldc2_w 262, 3) := by decide +kernel
theorem dX6_digest_55 : decode cX6_digest 55 = .ok (.lmul, 1) := by decide +kernel
theorem dX6_digest_56 : decode cX6_digest 56 = .ok (.aload_n 0, 1) := by decide +kernel
theorem dX6_digest_57 : decode cX6_digest 57 = .ok (.iload_n 3, 1) := by decide +kernel
theorem dX6_digest_58 : decode cX6_digest 58 = .ok (.iload 4, 2) := by decide +kernel
theorem dX6_digest_60 : decode cX6_digest 60 = .ok (.invokevirtual 267, 3) := by decide +kernel
theorem dX6_digest_63 : decode cX6_digest 63 = .ok (.i2l, 1) := by decide +kernel
theorem dX6_digest_64 : decode cX6_digest 64 = .ok (.ladd, 1) := by decide +kernel
theorem dX6_digest_65 : decode cX6_digest 65 = .ok (.lstore_n 1, 1) := by decide +kernel
theorem dX6_digest_66 : decode cX6_digest 66 = .ok (.iinc 4 1, 3) := by decide +kernel
theorem dX6_digest_69 : decode cX6_digest 69 = .ok (.goto (-25), 3) := by decide +kernel
theorem dX6_digest_72 : decode cX6_digest 72 = .ok (.lload_n 1, 1) := by decide +kernel
theorem dX6_digest_73 : decode cX6_digest 73 = .ok (.ldc2_w 262, 3) := by decide +kernel
theorem dX6_digest_76 : decode cX6_digest 76 = .ok (.lmul, 1) := by decide +kernel
theorem dX6_digest_77 : decode cX6_digest 77 = .ok (.aload_n 0, 1) := by decide +kernel
theorem dX6_digest_78 : decode cX6_digest 78 = .ok (.iload_n 3, 1) := by decide +kernel
theorem dX6_digest_79 : decode cX6_digest 79 = .ok (.invokevirtual 270, 3) := by decide +kernel
theorem dX6_digest_82 : decode cX6_digest 82 = .ok (.i2l, 1) := by decide +kernel
theorem dX6_digest_83 : decode cX6_digest 83 = .ok (.ladd, 1) := by decide +kernel
theorem dX6_digest_84 : decode cX6_digest 84 = .ok (.lstore_n 1, 1) := by decide +kernel
theorem dX6_digest_85 : decode cX6_digest 85 = .ok (.lload_n 1, 1) := by decide +kernel
theorem dX6_digest_86 : decode cX6_digest 86 = .ok (.ldc2_w 262, 3) := by decide +kernel
theorem dX6_digest_89 : decode cX6_digest 89 = .ok (.lmul, 1) := by decide +kernel
theorem dX6_digest_90 : decode cX6_digest 90 = .ok (.aload_n 0, 1) := by decide +kernel
theorem dX6_digest_91 : decode cX6_digest 91 = .ok (.iload_n 3, 1) := by decide +kernel
theorem dX6_digest_92 : decode cX6_digest 92 = .ok (.invokevirtual 273, 3) := by decide +kernel
theorem dX6_digest_95 : decode cX6_digest 95 = .ok (.ldc2_w 276, 3) := by decide +kernel
theorem dX6_digest_98 : decode cX6_digest 98 = .ok (.dmul, 1) := by decide +kernel
theorem dX6_digest_99 : decode cX6_digest 99 = .ok (.d2l, 1) := by decide +kernel
theorem dX6_digest_100 : decode cX6_digest 100 = .ok (.ladd, 1) := by decide +kernel
theorem dX6_digest_101 : decode cX6_digest 101 = .ok (.lstore_n 1, 1) := by decide +kernel
theorem dX6_digest_102 : decode cX6_digest 102 = .ok (.aload_n 0, 1) := by decide +kernel
theorem dX6_digest_103 : decode cX6_digest 103 = .ok (.getfield 25, 3) := by decide +kernel
theorem dX6_digest_106 : decode cX6_digest 106 = .ok (.iload_n 3, 1) := by decide +kernel
theorem dX6_digest_107 : decode cX6_digest 107 = .ok (.aaload, 1) := by decide +kernel
theorem dX6_digest_108 : decode cX6_digest 108 = .ok (.getfield 158, 3) := by decide +kernel
theorem dX6_digest_111 : decode cX6_digest 111 = .ok (.astore 4, 2) := by decide +kernel
theorem dX6_digest_113 : decode cX6_digest 113 = .ok (.iconst 0, 1) := by decide +kernel
theorem dX6_digest_114 : decode cX6_digest 114 = .ok (.istore 5, 2) := by decide +kernel
theorem dX6_digest_116 : decode cX6_digest 116 = .ok (.iload 5, 2) := by decide +kernel
theorem dX6_digest_118 : decode cX6_digest 118 = .ok (.bipush 64, 2) := by decide +kernel
theorem dX6_digest_120 : decode cX6_digest 120 = .ok (.if_icmp .ge 22, 3) := by decide +kernel
theorem dX6_digest_123 : decode cX6_digest 123 = .ok (.lload_n 1, 1) := by decide +kernel
theorem dX6_digest_124 : decode cX6_digest 124 = .ok (.ldc2_w 262, 3) := by decide +kernel
theorem dX6_digest_127 : decode cX6_digest 127 = .ok (.lmul, 1) := by decide +kernel
theorem dX6_digest_128 : decode cX6_digest 128 = .ok (.aload 4, 2) := by decide +kernel
theorem dX6_digest_130 : decode cX6_digest 130 = .ok (.iload 5, 2) := by decide +kernel
theorem dX6_digest_132 : decode cX6_digest 132 = .ok (.iaload, 1) := by decide +kernel
theorem dX6_digest_133 : decode cX6_digest 133 = .ok (.i2l, 1) := by decide +kernel
theorem dX6_digest_134 : decode cX6_digest 134 = .ok (.ladd, 1) := by decide +kernel
theorem dX6_digest_135 : decode cX6_digest 135 = .ok (.lstore_n 1, 1) := by decide +kernel
theorem dX6_digest_136 : decode cX6_digest 136 = .ok (.iinc 5 1, 3) := by decide +kernel
theorem dX6_digest_139 : decode cX6_digest 139 = .ok (.goto (-23), 3) := by decide +kernel
theorem dX6_digest_142 : decode cX6_digest 142 = .ok (.iinc 3 1, 3) := by decide +kernel
theorem dX6_digest_145 : decode cX6_digest 145 = .ok (.goto (-112), 3) := by decide +kernel
theorem dX6_digest_148 : decode cX6_digest 148 = .ok (.iconst 0, 1) := by decide +kernel
theorem dX6_digest_149 : decode cX6_digest 149 = .ok (.istore_n 3, 1) := by decide +kernel
theorem dX6_digest_150 : decode cX6_digest 150 = .ok (.iload_n 3, 1) := by decide +kernel
theorem dX6_digest_151 : decode cX6_digest 151 = .ok (.aload_n 0, 1) := by decide +kernel
theorem dX6_digest_152 : decode cX6_digest 152 = .ok (.getfield 39, 3) := by decide +kernel
theorem dX6_digest_155 : decode cX6_digest 155 = .ok (.if_icmp .ge 39, 3) := by decide +kernel
theorem dX6_digest_158 : decode cX6_digest 158 = .ok (.iconst 0, 1) := by decide +kernel
theorem dX6_digest_159 : decode cX6_digest 159 = .ok (.istore 4, 2) := by decide +kernel
theorem dX6_digest_161 : decode cX6_digest 161 = .ok (.iload 4, 2) := by decide +kernel
theorem dX6_digest_163 : decode cX6_digest 163 = .ok (.iconst 3, 1) := by decide +kernel
theorem dX6_digest_164 : decode cX6_digest 164 = .ok (.if_icmp .gt 24, 3) := by decide +kernel
theorem dX6_digest_167 : decode cX6_digest 167 = .ok (.lload_n 1, 1) := by decide +kernel
theorem dX6_digest_168 : decode cX6_digest 168 = .ok (.ldc2_w 262, 3) := by decide +kernel
theorem dX6_digest_171 : decode cX6_digest 171 = .ok (.lmul, 1) := by decide +kernel
theorem dX6_digest_172 : decode cX6_digest 172 = .ok (.aload_n 0, 1) := by decide +kernel
theorem dX6_digest_173 : decode cX6_digest 173 = .ok (.iload_n 3, 1) := by decide +kernel
theorem dX6_digest_174 : decode cX6_digest 174 = .ok (.iload 4, 2) := by decide +kernel
theorem dX6_digest_176 : decode cX6_digest 176 = .ok (.invokevirtual 278, 3) := by decide +kernel
theorem dX6_digest_179 : decode cX6_digest 179 = .ok (.i2l, 1) := by decide +kernel
theorem dX6_digest_180 : decode cX6_digest 180 = .ok (.ladd, 1) := by decide +kernel
theorem dX6_digest_181 : decode cX6_digest 181 = .ok (.lstore_n 1, 1) := by decide +kernel
theorem dX6_digest_182 : decode cX6_digest 182 = .ok (.iinc 4 1, 3) := by decide +kernel
theorem dX6_digest_185 : decode cX6_digest 185 = .ok (.goto (-24), 3) := by decide +kernel
theorem dX6_digest_188 : decode cX6_digest 188 = .ok (.iinc 3 1, 3) := by decide +kernel
theorem dX6_digest_191 : decode cX6_digest 191 = .ok (.goto (-41), 3) := by decide +kernel
theorem dX6_digest_194 : decode cX6_digest 194 = .ok (.lload_n 1, 1) := by decide +kernel
theorem dX6_digest_195 : decode cX6_digest 195 = .ok (.ldc2_w 262, 3) := by decide +kernel
theorem dX6_digest_198 : decode cX6_digest 198 = .ok (.lmul, 1) := by decide +kernel
theorem dX6_digest_199 : decode cX6_digest 199 = .ok (.aload_n 0, 1) := by decide +kernel
theorem dX6_digest_200 : decode cX6_digest 200 = .ok (.bipush 16, 2) := by decide +kernel
theorem dX6_digest_202 : decode cX6_digest 202 = .ok (.iconst 1, 1) := by decide +kernel
theorem dX6_digest_203 : decode cX6_digest 203 = .ok (.invokevirtual 281, 3) := by decide +kernel
theorem dX6_digest_206 : decode cX6_digest 206 = .ok (.i2l, 1) := by decide +kernel
theorem dX6_digest_207 : decode cX6_digest 207 = .ok (.ladd, 1) := by decide +kernel
theorem dX6_digest_208 : decode cX6_digest 208 = .ok (.lreturn, 1) := by decide +kernel
theorem dX6_needIndex_0 : decode cX6_needIndex 0 = .ok (.iload_n 0, 1) := by decide +kernel
theorem dX6_needIndex_1 : decode cX6_needIndex 1 = .ok (.ifCond .lt 8, 3) := by decide +kernel
theorem dX6_needIndex_4 : decode cX6_needIndex 4 = .ok (.iload_n 0, 1) := by decide +kernel
theorem dX6_needIndex_5 : decode cX6_needIndex 5 = .ok (.iload_n 1, 1) := by decide +kernel
theorem dX6_needIndex_6 : decode cX6_needIndex 6 = .ok (.if_icmp .lt 14, 3) := by decide +kernel
theorem dX6_needIndex_9 : decode cX6_needIndex 9 = .ok (.new 284, 3) := by decide +kernel
theorem dX6_needIndex_12 : decode cX6_needIndex 12 = .ok (.dup, 1) := by decide +kernel
theorem dX6_needIndex_13 : decode cX6_needIndex 13 = .ok (.ldc_w 286, 3) := by decide +kernel
theorem dX6_needIndex_16 : decode cX6_needIndex 16 = .ok (.invokespecial 288, 3) := by decide +kernel
theorem dX6_needIndex_19 : decode cX6_needIndex 19 = .ok (.athrow, 1) := by decide +kernel
theorem dX6_needIndex_20 : decode cX6_needIndex 20 = .ok (.return_, 1) := by decide +kernel
theorem dX6_needPlace_0 : decode cX6_needPlace 0 = .ok (.iload_n 0, 1) := by decide +kernel
theorem dX6_needPlace_1 : decode cX6_needPlace 1 = .ok (.iload_n 1, 1) := by decide +kernel
theorem dX6_needPlace_2 : decode cX6_needPlace 2 = .ok (.invokestatic 289, 3) := by decide +kernel
theorem dX6_needPlace_5 : decode cX6_needPlace 5 = .ok (.ifCond .ne 14, 3) := by decide +kernel
theorem dX6_needPlace_8 : decode cX6_needPlace 8 = .ok (.new 284, 3) := by decide +kernel
theorem dX6_needPlace_11 : decode cX6_needPlace 11 = .ok (.dup, 1) := by decide +kernel
theorem dX6_needPlace_12 : decode cX6_needPlace 12 = .ok (.ldc_w 293, 3) := by decide +kernel
theorem dX6_needPlace_15 : decode cX6_needPlace 15 = .ok (.invokespecial 288, 3) := by decide +kernel
theorem dX6_needPlace_18 : decode cX6_needPlace 18 = .ok (.athrow, 1) := by decide +kernel
theorem dX6_needPlace_19 : decode cX6_needPlace 19 = .ok (.return_, 1) := by decide +kernel
theorem dX6_needFrame_0 : decode cX6_needFrame 0 = .ok (.iload_n 1, 1) := by decide +kernel
theorem dX6_needFrame_1 : decode cX6_needFrame 1 = .ok (.ifCond .lt 11, 3) := by decide +kernel
theorem dX6_needFrame_4 : decode cX6_needFrame 4 = .ok (.iload_n 1, 1) := by decide +kernel
theorem dX6_needFrame_5 : decode cX6_needFrame 5 = .ok (.aload_n 0, 1) := by decide +kernel
theorem dX6_needFrame_6 : decode cX6_needFrame 6 = .ok (.getfield 35, 3) := by decide +kernel
theorem dX6_needFrame_9 : decode cX6_needFrame 9 = .ok (.if_icmp .lt 14, 3) := by decide +kernel
theorem dX6_needFrame_12 : decode cX6_needFrame 12 = .ok (.new 284, 3) := by decide +kernel
theorem dX6_needFrame_15 : decode cX6_needFrame 15 = .ok (.dup, 1) := by decide +kernel
theorem dX6_needFrame_16 : decode cX6_needFrame 16 = .ok (.ldc_w 295, 3) := by decide +kernel
theorem dX6_needFrame_19 : decode cX6_needFrame 19 = .ok (.invokespecial 288, 3) := by decide +kernel
theorem dX6_needFrame_22 : decode cX6_needFrame 22 = .ok (.athrow, 1) := by decide +kernel
theorem dX6_needFrame_23 : decode cX6_needFrame 23 = .ok (.return_, 1) := by decide +kernel
theorem dX6_needRange_0 : decode cX6_needRange 0 = .ok (.iload_n 0, 1) := by decide +kernel
theorem dX6_needRange_1 : decode cX6_needRange 1 = .ok (.iload_n 1, 1) := by decide +kernel
theorem dX6_needRange_2 : decode cX6_needRange 2 = .ok (.if_icmp .lt 8, 3) := by decide +kernel
theorem dX6_needRange_5 : decode cX6_needRange 5 = .ok (.iload_n 0, 1) := by decide +kernel
theorem dX6_needRange_6 : decode cX6_needRange 6 = .ok (.iload_n 2, 1) := by decide +kernel
theorem dX6_needRange_7 : decode cX6_needRange 7 = .ok (.if_icmp .le 14, 3) := by decide +kernel
theorem dX6_needRange_10 : decode cX6_needRange 10 = .ok (.new 62, 3) := by decide +kernel
theorem dX6_needRange_13 : decode cX6_needRange 13 = .ok (.dup, 1) := by decide +kernel
theorem dX6_needRange_14 : decode cX6_needRange 14 = .ok (.ldc_w 297, 3) := by decide +kernel
theorem dX6_needRange_17 : decode cX6_needRange 17 = .ok (.invokespecial 66, 3) := by decide +kernel
theorem dX6_needRange_20 : decode cX6_needRange 20 = .ok (.athrow, 1) := by decide +kernel
theorem dX6_needRange_21 : decode cX6_needRange 21 = .ok (.return_, 1) := by decide +kernel
theorem dX6_needExposure_0 : decode cX6_needExposure 0 = .ok (.iload_n 0, 1) := by decide +kernel
theorem dX6_needExposure_1 : decode cX6_needExposure 1 = .ok (.iconst 1, 1) := by decide +kernel
theorem dX6_needExposure_2 : decode cX6_needExposure 2 = .ok (.bipush 64, 2) := by decide +kernel
theorem dX6_needExposure_4 : decode cX6_needExposure 4 = .ok (.invokestatic 70, 3) := by decide +kernel
theorem dX6_needExposure_7 : decode cX6_needExposure 7 = .ok (.iload_n 1, 1) := by decide +kernel
theorem dX6_needExposure_8 : decode cX6_needExposure 8 = .ok (.iconst 1, 1) := by decide +kernel
theorem dX6_needExposure_9 : decode cX6_needExposure 9 = .ok (.bipush 8, 2) := by decide +kernel
theorem dX6_needExposure_11 : decode cX6_needExposure 11 = .ok (.invokestatic 70, 3) := by decide +kernel
theorem dX6_needExposure_14 : decode cX6_needExposure 14 = .ok (.return_, 1) := by decide +kernel
theorem dX6_needRoom_0 : decode cX6_needRoom 0 = .ok (.iload_n 0, 1) := by decide +kernel
theorem dX6_needRoom_1 : decode cX6_needRoom 1 = .ok (.iload_n 1, 1) := by decide +kernel
theorem dX6_needRoom_2 : decode cX6_needRoom 2 = .ok (.if_icmp .lt 14, 3) := by decide +kernel
theorem dX6_needRoom_5 : decode cX6_needRoom 5 = .ok (.new 299, 3) := by decide +kernel
theorem dX6_needRoom_8 : decode cX6_needRoom 8 = .ok (.dup, 1) := by decide +kernel
theorem dX6_needRoom_9 : decode cX6_needRoom 9 = .ok (.ldc_w 301, 3) := by decide +kernel
theorem dX6_needRoom_12 : decode cX6_needRoom 12 = .ok (.invokespecial 303, 3) := by decide +kernel
theorem dX6_needRoom_15 : decode cX6_needRoom 15 = .ok (.athrow, 1) := by decide +kernel
theorem dX6_needRoom_16 : decode cX6_needRoom 16 = .ok (.return_, 1) := by decide +kernel
theorem dX6_isPlace_0 : decode cX6_isPlace 0 = .ok (.iload_n 0, 1) := by decide +kernel
theorem dX6_isPlace_1 : decode cX6_isPlace 1 = .ok (.ifCond .lt 23, 3) := by decide +kernel
theorem dX6_isPlace_4 : decode cX6_isPlace 4 = .ok (.iload_n 0, 1) := by decide +kernel
theorem dX6_isPlace_5 : decode cX6_isPlace 5 = .ok (.bipush 8, 2) := by decide +kernel
theorem dX6_isPlace_7 : decode cX6_isPlace 7 = .ok (.if_icmp .ge 17, 3) := by decide +kernel
theorem dX6_isPlace_10 : decode cX6_isPlace 10 = .ok (.iload_n 1, 1) := by decide +kernel
theorem dX6_isPlace_11 : decode cX6_isPlace 11 = .ok (.ifCond .lt 13, 3) := by decide +kernel
theorem dX6_isPlace_14 : decode cX6_isPlace 14 = .ok (.iload_n 1, 1) := by decide +kernel
theorem dX6_isPlace_15 : decode cX6_isPlace 15 = .ok (.bipush 8, 2) := by decide +kernel
theorem dX6_isPlace_17 : decode cX6_isPlace 17 = .ok (.if_icmp .ge 7, 3) := by decide +kernel
theorem dX6_isPlace_20 : decode cX6_isPlace 20 = .ok (.iconst 1, 1) := by decide +kernel
theorem dX6_isPlace_21 : decode cX6_isPlace 21 = .ok (.goto 4, 3) := by decide +kernel
theorem dX6_isPlace_24 : decode cX6_isPlace 24 = .ok (.iconst 0, 1) := by decide +kernel
theorem dX6_isPlace_25 : decode cX6_isPlace 25 = .ok (.ireturn, 1) := by decide +kernel
theorem dX6_placeOf_0 : decode cX6_placeOf 0 = .ok (.bipush 8, 2) := by decide +kernel
theorem dX6_placeOf_2 : decode cX6_placeOf 2 = .ok (.iload_n 1, 1) := by decide +kernel
theorem dX6_placeOf_3 : decode cX6_placeOf 3 = .ok (.imul, 1) := by decide +kernel
theorem dX6_placeOf_4 : decode cX6_placeOf 4 = .ok (.iload_n 0, 1) := by decide +kernel
theorem dX6_placeOf_5 : decode cX6_placeOf 5 = .ok (.iadd, 1) := by decide +kernel
theorem dX6_placeOf_6 : decode cX6_placeOf 6 = .ok (.ireturn, 1) := by decide +kernel
theorem dX6_colourSeen_0 : decode cX6_colourSeen 0 = .ok (.iload_n 0, 1) := by decide +kernel
theorem dX6_colourSeen_1 : decode cX6_colourSeen 1 = .ok (.iconst 2, 1) := by decide +kernel
theorem dX6_colourSeen_2 : decode cX6_colourSeen 2 = .ok (.irem, 1) := by decide +kernel
theorem dX6_colourSeen_3 : decode cX6_colourSeen 3 = .ok (.iload_n 1, 1) := by decide +kernel
theorem dX6_colourSeen_4 : decode cX6_colourSeen 4 = .ok (.iconst 2, 1) := by decide +kernel
theorem dX6_colourSeen_5 : decode cX6_colourSeen 5 = .ok (.irem, 1) := by decide +kernel
theorem dX6_colourSeen_6 : decode cX6_colourSeen 6 = .ok (.if_icmp .eq 5, 3) := by decide +kernel
theorem dX6_colourSeen_9 : decode cX6_colourSeen 9 = .ok (.iconst 1, 1) := by decide +kernel
theorem dX6_colourSeen_10 : decode cX6_colourSeen 10 = .ok (.ireturn, 1) := by decide +kernel
theorem dX6_colourSeen_11 : decode cX6_colourSeen 11 = .ok (.iload_n 0, 1) := by decide +kernel
theorem dX6_colourSeen_12 : decode cX6_colourSeen 12 = .ok (.iconst 2, 1) := by decide +kernel
theorem dX6_colourSeen_13 : decode cX6_colourSeen 13 = .ok (.irem, 1) := by decide +kernel
theorem dX6_colourSeen_14 : decode cX6_colourSeen 14 = .ok (.ifCond .ne 7, 3) := by decide +kernel
theorem dX6_colourSeen_17 : decode cX6_colourSeen 17 = .ok (.iconst 0, 1) := by decide +kernel
theorem dX6_colourSeen_18 : decode cX6_colourSeen 18 = .ok (.goto 4, 3) := by decide +kernel
theorem dX6_colourSeen_21 : decode cX6_colourSeen 21 = .ok (.iconst 2, 1) := by decide +kernel
theorem dX6_colourSeen_22 : decode cX6_colourSeen 22 = .ok (.ireturn, 1) := by decide +kernel
theorem dX6_leastNumber_0 : decode cX6_leastNumber 0 = .ok (.iload_n 0, 1) := by decide +kernel
theorem dX6_leastNumber_1 : decode cX6_leastNumber 1 = .ok (.iconst 1, 1) := by decide +kernel
theorem dX6_leastNumber_2 : decode cX6_leastNumber 2 = .ok (.if_icmp .eq 8, 3) := by decide +kernel
theorem dX6_leastNumber_5 : decode cX6_leastNumber 5 = .ok (.iload_n 0, 1) := by decide +kernel
theorem dX6_leastNumber_6 : decode cX6_leastNumber 6 = .ok (.iconst 2, 1) := by decide +kernel
theorem dX6_leastNumber_7 : decode cX6_leastNumber 7 = .ok (.if_icmp .ne 7, 3) := by decide +kernel
theorem dX6_leastNumber_10 : decode cX6_leastNumber 10 = .ok (.iconst 1, 1) := by decide +kernel
theorem dX6_leastNumber_11 : decode cX6_leastNumber 11 = .ok (.goto 4, 3) := by decide +kernel
theorem dX6_leastNumber_14 : decode cX6_leastNumber 14 = .ok (.iconst 0, 1) := by decide +kernel
theorem dX6_leastNumber_15 : decode cX6_leastNumber 15 = .ok (.ireturn, 1) := by decide +kernel
theorem dX6_mostNumber_0 : decode cX6_mostNumber 0 = .ok (.iload_n 0, 1) := by decide +kernel
theorem dX6_mostNumber_1 : decode cX6_mostNumber 1 = .ok (.tableswitch 39 0 3 #[31, 34, 34, 37], 31) := by decide +kernel
theorem dX6_mostNumber_32 : decode cX6_mostNumber 32 = .ok (.bipush 64, 2) := by decide +kernel
theorem dX6_mostNumber_34 : decode cX6_mostNumber 34 = .ok (.ireturn, 1) := by decide +kernel
theorem dX6_mostNumber_35 : decode cX6_mostNumber 35 = .ok (.bipush 16, 2) := by decide +kernel
theorem dX6_mostNumber_37 : decode cX6_mostNumber 37 = .ok (.ireturn, 1) := by decide +kernel
theorem dX6_mostNumber_38 : decode cX6_mostNumber 38 = .ok (.iconst 2, 1) := by decide +kernel
theorem dX6_mostNumber_39 : decode cX6_mostNumber 39 = .ok (.ireturn, 1) := by decide +kernel
theorem dX6_mostNumber_40 : decode cX6_mostNumber 40 = .ok (.iconst 0, 1) := by decide +kernel
theorem dX6_mostNumber_41 : decode cX6_mostNumber 41 = .ok (.ireturn, 1) := by decide +kernel
theorem dX6_countFilesOf_0 : decode cX6_countFilesOf 0 = .ok (.iconst 0, 1) := by decide +kernel
theorem dX6_countFilesOf_1 : decode cX6_countFilesOf 1 = .ok (.istore_n 2, 1) := by decide +kernel
theorem dX6_countFilesOf_2 : decode cX6_countFilesOf 2 = .ok (.iconst 0, 1) := by decide +kernel
theorem dX6_countFilesOf_3 : decode cX6_countFilesOf 3 = .ok (.istore_n 3, 1) := by decide +kernel
theorem dX6_countFilesOf_4 : decode cX6_countFilesOf 4 = .ok (.iload_n 3, 1) := by decide +kernel
theorem dX6_countFilesOf_5 : decode cX6_countFilesOf 5 = .ok (.aload_n 0, 1) := by decide +kernel
theorem dX6_countFilesOf_6 : decode cX6_countFilesOf 6 = .ok (.getfield 39, 3) := by decide +kernel
theorem dX6_countFilesOf_9 : decode cX6_countFilesOf 9 = .ok (.if_icmp .ge 25, 3) := by decide +kernel
theorem dX6_countFilesOf_12 : decode cX6_countFilesOf 12 = .ok (.aload_n 0, 1) := by decide +kernel
theorem dX6_countFilesOf_13 : decode cX6_countFilesOf 13 = .ok (.getfield 31, 3) := by decide +kernel
theorem dX6_countFilesOf_16 : decode cX6_countFilesOf 16 = .ok (.iload_n 3, 1) := by decide +kernel
theorem dX6_countFilesOf_17 : decode cX6_countFilesOf 17 = .ok (.aaload, 1) := by decide +kernel
theorem dX6_countFilesOf_18 : decode cX6_countFilesOf 18 = .ok (.getfield 211, 3) := by decide +kernel
theorem dX6_countFilesOf_21 : decode cX6_countFilesOf 21 = .ok (.iload_n 1, 1) := by decide +kernel
theorem dX6_countFilesOf_22 : decode cX6_countFilesOf 22 = .ok (.if_icmp .ne 6, 3) := by decide +kernel
theorem dX6_countFilesOf_25 : decode cX6_countFilesOf 25 = .ok (.iinc 2 1, 3) := by decide +kernel
theorem dX6_countFilesOf_28 : decode cX6_countFilesOf 28 = .ok (.iinc 3 1, 3) := by decide +kernel
theorem dX6_countFilesOf_31 : decode cX6_countFilesOf 31 = .ok (.goto (-27), 3) := by decide +kernel
theorem dX6_countFilesOf_34 : decode cX6_countFilesOf 34 = .ok (.iload_n 2, 1) := by decide +kernel
theorem dX6_countFilesOf_35 : decode cX6_countFilesOf 35 = .ok (.ireturn, 1) := by decide +kernel
theorem dX6_countEdits_0 : decode cX6_countEdits 0 = .ok (.iconst 0, 1) := by decide +kernel
theorem dX6_countEdits_1 : decode cX6_countEdits 1 = .ok (.istore_n 1, 1) := by decide +kernel
theorem dX6_countEdits_2 : decode cX6_countEdits 2 = .ok (.iconst 0, 1) := by decide +kernel
theorem dX6_countEdits_3 : decode cX6_countEdits 3 = .ok (.istore_n 2, 1) := by decide +kernel
theorem dX6_countEdits_4 : decode cX6_countEdits 4 = .ok (.iload_n 2, 1) := by decide +kernel
theorem dX6_countEdits_5 : decode cX6_countEdits 5 = .ok (.aload_n 0, 1) := by decide +kernel
theorem dX6_countEdits_6 : decode cX6_countEdits 6 = .ok (.getfield 35, 3) := by decide +kernel
theorem dX6_countEdits_9 : decode cX6_countEdits 9 = .ok (.if_icmp .ge 24, 3) := by decide +kernel
theorem dX6_countEdits_12 : decode cX6_countEdits 12 = .ok (.iload_n 1, 1) := by decide +kernel
theorem dX6_countEdits_13 : decode cX6_countEdits 13 = .ok (.aload_n 0, 1) := by decide +kernel
theorem dX6_countEdits_14 : decode cX6_countEdits 14 = .ok (.getfield 25, 3) := by decide +kernel
theorem dX6_countEdits_17 : decode cX6_countEdits 17 = .ok (.iload_n 2, 1) := by decide +kernel
theorem dX6_countEdits_18 : decode cX6_countEdits 18 = .ok (.aaload, 1) := by decide +kernel
theorem dX6_countEdits_19 : decode cX6_countEdits 19 = .ok (.getfield 136, 3) := by decide +kernel
theorem dX6_countEdits_22 : decode cX6_countEdits 22 = .ok (.invokevirtual 140, 3) := by decide +kernel
theorem dX6_countEdits_25 : decode cX6_countEdits 25 = .ok (.iadd, 1) := by decide +kernel
theorem dX6_countEdits_26 : decode cX6_countEdits 26 = .ok (.istore_n 1, 1) := by decide +kernel
theorem dX6_countEdits_27 : decode cX6_countEdits 27 = .ok (.iinc 2 1, 3) := by decide +kernel
theorem dX6_countEdits_30 : decode cX6_countEdits 30 = .ok (.goto (-26), 3) := by decide +kernel
theorem dX6_countEdits_33 : decode cX6_countEdits 33 = .ok (.iload_n 1, 1) := by decide +kernel
theorem dX6_countEdits_34 : decode cX6_countEdits 34 = .ok (.ireturn, 1) := by decide +kernel
theorem dX6_developFrame_0 : decode cX6_developFrame 0 = .ok (.aload_n 0, 1) := by decide +kernel
theorem dX6_developFrame_1 : decode cX6_developFrame 1 = .ok (.getfield 25, 3) := by decide +kernel
theorem dX6_developFrame_4 : decode cX6_developFrame 4 = .ok (.iload_n 1, 1) := by decide +kernel
theorem dX6_developFrame_5 : decode cX6_developFrame 5 = .ok (.aaload, 1) := by decide +kernel
theorem dX6_developFrame_6 : decode cX6_developFrame 6 = .ok (.astore_n 3, 1) := by decide +kernel
theorem dX6_developFrame_7 : decode cX6_developFrame 7 = .ok (.aload_n 2, 1) := by decide +kernel
theorem dX6_developFrame_8 : decode cX6_developFrame 8 = .ok (.aload_n 3, 1) := by decide +kernel
theorem dX6_developFrame_9 : decode cX6_developFrame 9 = .ok (.getfield 158, 3) := by decide +kernel
theorem dX6_developFrame_12 : decode cX6_developFrame 12 = .ok (.aload_n 3, 1) := by decide +kernel
theorem dX6_developFrame_13 : decode cX6_developFrame 13 = .ok (.getfield 136, 3) := by decide +kernel
theorem dX6_developFrame_16 : decode cX6_developFrame 16 = .ok (.aload_n 0, 1) := by decide +kernel
theorem dX6_developFrame_17 : decode cX6_developFrame 17 = .ok (.getfield 19, 3) := by decide +kernel
theorem dX6_developFrame_20 : decode cX6_developFrame 20 = .ok (.getfield 242, 3) := by decide +kernel
theorem dX6_developFrame_23 : decode cX6_developFrame 23 = .ok (.invokevirtual 246, 3) := by decide +kernel
theorem dX6_developFrame_26 : decode cX6_developFrame 26 = .ok (.aload_n 2, 1) := by decide +kernel
theorem dX6_developFrame_27 : decode cX6_developFrame 27 = .ok (.invokevirtual 304, 3) := by decide +kernel
theorem dX6_developFrame_30 : decode cX6_developFrame 30 = .ok (.return_, 1) := by decide +kernel
theorem dX6_wordBehind_0 : decode cX6_wordBehind 0 = .ok (.aload_n 0, 1) := by decide +kernel
theorem dX6_wordBehind_1 : decode cX6_wordBehind 1 = .ok (.getfield 50, 3) := by decide +kernel
theorem dX6_wordBehind_4 : decode cX6_wordBehind 4 = .ok (.aload_n 0, 1) := by decide +kernel
theorem dX6_wordBehind_5 : decode cX6_wordBehind 5 = .ok (.getfield 25, 3) := by decide +kernel
theorem dX6_wordBehind_8 : decode cX6_wordBehind 8 = .ok (.iload_n 1, 1) := by decide +kernel
theorem dX6_wordBehind_9 : decode cX6_wordBehind 9 = .ok (.aaload, 1) := by decide +kernel
theorem dX6_wordBehind_10 : decode cX6_wordBehind 10 = .ok (.getfield 158, 3) := by decide +kernel
theorem dX6_wordBehind_13 : decode cX6_wordBehind 13 = .ok (.aload_n 2, 1) := by decide +kernel
theorem dX6_wordBehind_14 : decode cX6_wordBehind 14 = .ok (.aload_n 0, 1) := by decide +kernel
theorem dX6_wordBehind_15 : decode cX6_wordBehind 15 = .ok (.getfield 19, 3) := by decide +kernel
theorem dX6_wordBehind_18 : decode cX6_wordBehind 18 = .ok (.getfield 242, 3) := by decide +kernel
theorem dX6_wordBehind_21 : decode cX6_wordBehind 21 = .ok (.invokevirtual 246, 3) := by decide +kernel
theorem dX6_wordBehind_24 : decode cX6_wordBehind 24 = .ok (.aload_n 0, 1) := by decide +kernel
theorem dX6_wordBehind_25 : decode cX6_wordBehind 25 = .ok (.getfield 50, 3) := by decide +kernel
theorem dX6_wordBehind_28 : decode cX6_wordBehind 28 = .ok (.invokevirtual 304, 3) := by decide +kernel
theorem dX6_wordBehind_31 : decode cX6_wordBehind 31 = .ok (.aload_n 0, 1) := by decide +kernel
theorem dX6_wordBehind_32 : decode cX6_wordBehind 32 = .ok (.getfield 50, 3) := by decide +kernel
theorem dX6_wordBehind_35 : decode cX6_wordBehind 35 = .ok (.invokevirtual 307, 3) := by decide +kernel
theorem dX6_wordBehind_38 : decode cX6_wordBehind 38 = .ok (.ireturn, 1) := by decide +kernel
theorem dX7_init_0 : decode cX7_init 0 = .ok (.aload_n 0, 1) := by decide +kernel
theorem dX7_init_1 : decode cX7_init 1 = .ok (.invokespecial 1, 3) := by decide +kernel
theorem dX7_init_4 : decode cX7_init 4 = .ok (.aload_n 0, 1) := by decide +kernel
theorem dX7_init_5 : decode cX7_init 5 = .ok (.new 7, 3) := by decide +kernel
theorem dX7_init_8 : decode cX7_init 8 = .ok (.dup, 1) := by decide +kernel
theorem dX7_init_9 : decode cX7_init 9 = .ok (.invokespecial 9, 3) := by decide +kernel
theorem dX7_init_12 : decode cX7_init 12 = .ok (.putfield 10, 3) := by decide +kernel
theorem dX7_init_15 : decode cX7_init 15 = .ok (.aload_n 0, 1) := by decide +kernel
theorem dX7_init_16 : decode cX7_init 16 = .ok (.bipush 64, 2) := by decide +kernel
theorem dX7_init_18 : decode cX7_init 18 = .ok (.iconst 3, 1) := by decide +kernel
theorem dX7_init_19 : decode cX7_init 19 = .ok (.multianewarray 16 2, 4) := by decide +kernel
theorem dX7_init_23 : decode cX7_init 23 = .ok (.putfield 18, 3) := by decide +kernel
theorem dX7_init_26 : decode cX7_init 26 = .ok (.aload_n 0, 1) := by decide +kernel
theorem dX7_init_27 : decode cX7_init 27 = .ok (.iconst 3, 1) := by decide +kernel
theorem dX7_init_28 : decode cX7_init 28 = .ok (.newarray .int, 2) := by decide +kernel
theorem dX7_init_30 : decode cX7_init 30 = .ok (.dup, 1) := by decide +kernel
theorem dX7_init_31 : decode cX7_init 31 = .ok (.iconst 0, 1) := by decide +kernel
theorem dX7_init_32 : decode cX7_init 32 = .ok (.iconst 4, 1) := by decide +kernel
theorem dX7_init_33 : decode cX7_init 33 = .ok (.iastore, 1) := by decide +kernel
theorem dX7_init_34 : decode cX7_init 34 = .ok (.dup, 1) := by decide +kernel
theorem dX7_init_35 : decode cX7_init 35 = .ok (.iconst 1, 1) := by decide +kernel
theorem dX7_init_36 : decode cX7_init 36 = .ok (.iconst 4, 1) := by decide +kernel
theorem dX7_init_37 : decode cX7_init 37 = .ok (.iastore, 1) := by decide +kernel
theorem dX7_init_38 : decode cX7_init 38 = .ok (.dup, 1) := by decide +kernel
theorem dX7_init_39 : decode cX7_init 39 = .ok (.iconst 2, 1) := by decide +kernel
theorem dX7_init_40 : decode cX7_init 40 = .ok (.iconst 4, 1) := by decide +kernel
theorem dX7_init_41 : decode cX7_init 41 = .ok (.iastore, 1) := by decide +kernel
theorem dX7_init_42 : decode cX7_init 42 = .ok (.putfield 21, 3) := by decide +kernel
theorem dX7_init_45 : decode cX7_init 45 = .ok (.aload_n 0, 1) := by decide +kernel
theorem dX7_init_46 : decode cX7_init 46 = .ok (.bipush 64, 2) := by decide +kernel
theorem dX7_init_48 : decode cX7_init 48 = .ok (.newarray .int, 2) := by decide +kernel
theorem dX7_init_50 : decode cX7_init 50 = .ok (.putfield 25, 3) := by decide +kernel
theorem dX7_init_53 : decode cX7_init 53 = .ok (.aload_n 0, 1) := by decide +kernel
theorem dX7_init_54 : decode cX7_init 54 = .ok (.bipush 64, 2) := by decide +kernel
theorem dX7_init_56 : decode cX7_init 56 = .ok (.newarray .boolean, 2) := by decide +kernel
theorem dX7_init_58 : decode cX7_init 58 = .ok (.putfield 28, 3) := by decide +kernel
theorem dX7_init_61 : decode cX7_init 61 = .ok (.aload_n 0, 1) := by decide +kernel
theorem dX7_init_62 : decode cX7_init 62 = .ok (.iconst 0, 1) := by decide +kernel
theorem dX7_init_63 : decode cX7_init 63 = .ok (.anewarray 32, 3) := by decide +kernel
theorem dX7_init_66 : decode cX7_init 66 = .ok (.putfield 33, 3) := by decide +kernel
theorem dX7_init_69 : decode cX7_init 69 = .ok (.aload_n 0, 1) := by decide +kernel
theorem dX7_init_70 : decode cX7_init 70 = .ok (.iconst 0, 1) := by decide +kernel
theorem dX7_init_71 : decode cX7_init 71 = .ok (.anewarray 32, 3) := by decide +kernel
theorem dX7_init_74 : decode cX7_init 74 = .ok (.putfield 36, 3) := by decide +kernel
theorem dX7_init_77 : decode cX7_init 77 = .ok (.aload_n 0, 1) := by decide +kernel
theorem dX7_init_78 : decode cX7_init 78 = .ok (.iconst 0, 1) := by decide +kernel
theorem dX7_init_79 : decode cX7_init 79 = .ok (.anewarray 32, 3) := by decide +kernel
theorem dX7_init_82 : decode cX7_init 82 = .ok (.putfield 39, 3) := by decide +kernel
theorem dX7_init_85 : decode cX7_init 85 = .ok (.aload_n 0, 1) := by decide +kernel
theorem dX7_init_86 : decode cX7_init 86 = .ok (.iconst 0, 1) := by decide +kernel
theorem dX7_init_87 : decode cX7_init 87 = .ok (.anewarray 32, 3) := by decide +kernel
theorem dX7_init_90 : decode cX7_init 90 = .ok (.putfield 42, 3) := by decide +kernel
theorem dX7_init_93 : decode cX7_init 93 = .ok (.aload_n 0, 1) := by decide +kernel
theorem dX7_init_94 : decode cX7_init 94 = .ok (.aload_n 1, 1) := by decide +kernel
theorem dX7_init_95 : decode cX7_init 95 = .ok (.putfield 45, 3) := by decide +kernel
theorem dX7_init_98 : decode cX7_init 98 = .ok (.aload_n 0, 1) := by decide +kernel
theorem dX7_init_99 : decode cX7_init 99 = .ok (.iload_n 2, 1) := by decide +kernel
theorem dX7_init_100 : decode cX7_init 100 = .ok (.putfield 48, 3) := by decide +kernel
theorem dX7_init_103 : decode cX7_init 103 = .ok (.return_, 1) := by decide +kernel
theorem dX7_draw_0 : decode cX7_draw 0 = .ok (.aload_n 0, 1) := by decide +kernel
theorem dX7_draw_1 : decode cX7_draw 1 = .ok (.getfield 45, 3) := by decide +kernel
theorem dX7_draw_4 : decode cX7_draw 4 = .ok (.aload_n 0, 1) := by decide +kernel
theorem dX7_draw_5 : decode cX7_draw 5 = .ok (.getfield 48, 3) := by decide +kernel
theorem dX7_draw_8 : decode cX7_draw 8 = .ok (.bipush 24, 2) := by decide +kernel
theorem dX7_draw_10 : decode cX7_draw 10 = .ok (.irem, 1) := by decide +kernel
theorem dX7_draw_11 : decode cX7_draw 11 = .ok (.invokestatic 52, 3) := by decide +kernel
theorem dX7_draw_14 : decode cX7_draw 14 = .ok (.aload_n 0, 1) := by decide +kernel
theorem dX7_draw_15 : decode cX7_draw 15 = .ok (.getfield 48, 3) := by decide +kernel
theorem dX7_draw_18 : decode cX7_draw 18 = .ok (.bipush 24, 2) := by decide +kernel
theorem dX7_draw_20 : decode cX7_draw 20 = .ok (.idiv, 1) := by decide +kernel
theorem dX7_draw_21 : decode cX7_draw 21 = .ok (.bipush 8, 2) := by decide +kernel
theorem dX7_draw_23 : decode cX7_draw 23 = .ok (.irem, 1) := by decide +kernel
theorem dX7_draw_24 : decode cX7_draw 24 = .ok (.ishr, 1) := by decide +kernel
theorem dX7_draw_25 : decode cX7_draw 25 = .ok (.sipush 401, 3) := by decide +kernel
theorem dX7_draw_28 : decode cX7_draw 28 = .ok (.aload_n 0, 1) := by decide +kernel
theorem dX7_draw_29 : decode cX7_draw 29 = .ok (.getfield 48, 3) := by decide +kernel
theorem dX7_draw_32 : decode cX7_draw 32 = .ok (.imul, 1) := by decide +kernel
theorem dX7_draw_33 : decode cX7_draw 33 = .ok (.iadd, 1) := by decide +kernel
theorem dX7_draw_34 : decode cX7_draw 34 = .ok (.iload_n 1, 1) := by decide +kernel
theorem dX7_draw_35 : decode cX7_draw 35 = .ok (.invokestatic 58, 3) := by decide +kernel
theorem dX7_draw_38 : decode cX7_draw 38 = .ok (.istore_n 2, 1) := by decide +kernel
theorem dX7_draw_39 : decode cX7_draw 39 = .ok (.aload_n 0, 1) := by decide +kernel
theorem dX7_draw_40 : decode cX7_draw 40 = .ok (.dup, 1) := by decide +kernel
theorem dX7_draw_41 : decode cX7_draw 41 = .ok (.getfield 48, 3) := by decide +kernel
theorem dX7_draw_44 : decode cX7_draw 44 = .ok (.iconst 1, 1) := by decide +kernel
theorem dX7_draw_45 : decode cX7_draw 45 = .ok (.iadd, 1) := by decide +kernel
theorem dX7_draw_46 : decode cX7_draw 46 = .ok (.putfield 48, 3) := by decide +kernel
theorem dX7_draw_49 : decode cX7_draw 49 = .ok (.iload_n 2, 1) := by decide +kernel
theorem dX7_draw_50 : decode cX7_draw 50 = .ok (.ireturn, 1) := by decide +kernel
theorem dX7_plus_0 : decode cX7_plus 0 = .ok (.aload_n 0, 1) := by decide +kernel
theorem dX7_plus_1 : decode cX7_plus 1 = .ok (.arraylength, 1) := by decide +kernel
theorem dX7_plus_2 : decode cX7_plus 2 = .ok (.iconst 1, 1) := by decide +kernel
theorem dX7_plus_3 : decode cX7_plus 3 = .ok (.iadd, 1) := by decide +kernel
theorem dX7_plus_4 : decode cX7_plus 4 = .ok (.anewarray 32, 3) := by decide +kernel
theorem dX7_plus_7 : decode cX7_plus 7 = .ok (.astore_n 2, 1) := by decide +kernel
theorem dX7_plus_8 : decode cX7_plus 8 = .ok (.aload_n 0, 1) := by decide +kernel
theorem dX7_plus_9 : decode cX7_plus 9 = .ok (.iconst 0, 1) := by decide +kernel
theorem dX7_plus_10 : decode cX7_plus 10 = .ok (.aload_n 2, 1) := by decide +kernel
theorem dX7_plus_11 : decode cX7_plus 11 = .ok (.iconst 0, 1) := by decide +kernel
theorem dX7_plus_12 : decode cX7_plus 12 = .ok (.aload_n 0, 1) := by decide +kernel
theorem dX7_plus_13 : decode cX7_plus 13 = .ok (.arraylength, 1) := by decide +kernel
theorem dX7_plus_14 : decode cX7_plus 14 = .ok (.invokestatic 62, 3) := by decide +kernel
theorem dX7_plus_17 : decode cX7_plus 17 = .ok (.aload_n 2, 1) := by decide +kernel
theorem dX7_plus_18 : decode cX7_plus 18 = .ok (.aload_n 0, 1) := by decide +kernel
theorem dX7_plus_19 : decode cX7_plus 19 = .ok (.arraylength, 1) := by decide +kernel
theorem dX7_plus_20 : decode cX7_plus 20 = .ok (.aload_n 1, 1) := by decide +kernel
theorem dX7_plus_21 : decode cX7_plus 21 = .ok (.aastore, 1) := by decide +kernel
theorem dX7_plus_22 : decode cX7_plus 22 = .ok (.aload_n 2, 1) := by decide +kernel
theorem dX7_plus_23 : decode cX7_plus 23 = .ok (.areturn, 1) := by decide +kernel
theorem dX7_plus__0 : decode cX7_plus_ 0 = .ok (.aload_n 0, 1) := by decide +kernel
theorem dX7_plus__1 : decode cX7_plus_ 1 = .ok (.arraylength, 1) := by decide +kernel
theorem dX7_plus__2 : decode cX7_plus_ 2 = .ok (.iconst 2, 1) := by decide +kernel
theorem dX7_plus__3 : decode cX7_plus_ 3 = .ok (.iadd, 1) := by decide +kernel
theorem dX7_plus__4 : decode cX7_plus_ 4 = .ok (.newarray .int, 2) := by decide +kernel
theorem dX7_plus__6 : decode cX7_plus_ 6 = .ok (.astore_n 3, 1) := by decide +kernel
theorem dX7_plus__7 : decode cX7_plus_ 7 = .ok (.aload_n 0, 1) := by decide +kernel
theorem dX7_plus__8 : decode cX7_plus_ 8 = .ok (.iconst 0, 1) := by decide +kernel
theorem dX7_plus__9 : decode cX7_plus_ 9 = .ok (.aload_n 3, 1) := by decide +kernel
theorem dX7_plus__10 : decode cX7_plus_ 10 = .ok (.iconst 0, 1) := by decide +kernel
theorem dX7_plus__11 : decode cX7_plus_ 11 = .ok (.aload_n 0, 1) := by decide +kernel
theorem dX7_plus__12 : decode cX7_plus_ 12 = .ok (.arraylength, 1) := by decide +kernel
theorem dX7_plus__13 : decode cX7_plus_ 13 = .ok (.invokestatic 62, 3) := by decide +kernel
theorem dX7_plus__16 : decode cX7_plus_ 16 = .ok (.aload_n 3, 1) := by decide +kernel
theorem dX7_plus__17 : decode cX7_plus_ 17 = .ok (.aload_n 0, 1) := by decide +kernel
theorem dX7_plus__18 : decode cX7_plus_ 18 = .ok (.arraylength, 1) := by decide +kernel
theorem dX7_plus__19 : decode cX7_plus_ 19 = .ok (.iload_n 1, 1) := by decide +kernel
theorem dX7_plus__20 : decode cX7_plus_ 20 = .ok (.iastore, 1) := by decide +kernel
theorem dX7_plus__21 : decode cX7_plus_ 21 = .ok (.aload_n 3, 1) := by decide +kernel
theorem dX7_plus__22 : decode cX7_plus_ 22 = .ok (.aload_n 0, 1) := by decide +kernel
theorem dX7_plus__23 : decode cX7_plus_ 23 = .ok (.arraylength, 1) := by decide +kernel
theorem dX7_plus__24 : decode cX7_plus_ 24 = .ok (.iconst 1, 1) := by decide +kernel
theorem dX7_plus__25 : decode cX7_plus_ 25 = .ok (.iadd, 1) := by decide +kernel
theorem dX7_plus__26 : decode cX7_plus_ 26 = .ok (.iload_n 2, 1) := by decide +kernel
theorem dX7_plus__27 : decode cX7_plus_ 27 = .ok (.iastore, 1) := by decide +kernel
theorem dX7_plus__28 : decode cX7_plus_ 28 = .ok (.aload_n 3, 1) := by decide +kernel
theorem dX7_plus__29 : decode cX7_plus_ 29 = .ok (.areturn, 1) := by decide +kernel
theorem dX7_paint_0 : decode cX7_paint 0 = .ok (.aload_n 0, 1) := by decide +kernel
theorem dX7_paint_1 : decode cX7_paint 1 = .ok (.bipush 8, 2) := by decide +kernel
theorem dX7_paint_3 : decode cX7_paint 3 = .ok (.invokevirtual 68, 3) := by decide +kernel
theorem dX7_paint_6 : decode cX7_paint 6 = .ok (.istore_n 1, 1) := by decide +kernel
theorem dX7_paint_7 : decode cX7_paint 7 = .ok (.aload_n 0, 1) := by decide +kernel
theorem dX7_paint_8 : decode cX7_paint 8 = .ok (.bipush 8, 2) := by decide +kernel
theorem dX7_paint_10 : decode cX7_paint 10 = .ok (.invokevirtual 68, 3) := by decide +kernel
theorem dX7_paint_13 : decode cX7_paint 13 = .ok (.istore_n 2, 1) := by decide +kernel
theorem dX7_paint_14 : decode cX7_paint 14 = .ok (.iload_n 1, 1) := by decide +kernel
theorem dX7_paint_15 : decode cX7_paint 15 = .ok (.aload_n 0, 1) := by decide +kernel
theorem dX7_paint_16 : decode cX7_paint 16 = .ok (.bipush 8, 2) := by decide +kernel
theorem dX7_paint_18 : decode cX7_paint 18 = .ok (.iload_n 1, 1) := by decide +kernel
theorem dX7_paint_19 : decode cX7_paint 19 = .ok (.isub, 1) := by decide +kernel
theorem dX7_paint_20 : decode cX7_paint 20 = .ok (.invokevirtual 68, 3) := by decide +kernel
theorem dX7_paint_23 : decode cX7_paint 23 = .ok (.iadd, 1) := by decide +kernel
theorem dX7_paint_24 : decode cX7_paint 24 = .ok (.istore_n 3, 1) := by decide +kernel
theorem dX7_paint_25 : decode cX7_paint 25 = .ok (.iload_n 2, 1) := by decide +kernel
theorem dX7_paint_26 : decode cX7_paint 26 = .ok (.aload_n 0, 1) := by decide +kernel
theorem dX7_paint_27 : decode cX7_paint 27 = .ok (.bipush 8, 2) := by decide +kernel
theorem dX7_paint_29 : decode cX7_paint 29 = .ok (.iload_n 2, 1) := by decide +kernel
theorem dX7_paint_30 : decode cX7_paint 30 = .ok (.isub, 1) := by decide +kernel
theorem dX7_paint_31 : decode cX7_paint 31 = .ok (.invokevirtual 68, 3) := by decide +kernel
theorem dX7_paint_34 : decode cX7_paint 34 = .ok (.iadd, 1) := by decide +kernel
theorem dX7_paint_35 : decode cX7_paint 35 = .ok (.istore 4, 2) := by decide +kernel
theorem dX7_paint_37 : decode cX7_paint 37 = .ok (.iconst 3, 1) := by decide +kernel
theorem dX7_paint_38 : decode cX7_paint 38 = .ok (.newarray .int, 2) := by decide +kernel
theorem dX7_paint_40 : decode cX7_paint 40 = .ok (.dup, 1) := by decide +kernel
theorem dX7_paint_41 : decode cX7_paint 41 = .ok (.iconst 0, 1) := by decide +kernel
theorem dX7_paint_42 : decode cX7_paint 42 = .ok (.aload_n 0, 1) := by decide +kernel
theorem dX7_paint_43 : decode cX7_paint 43 = .ok (.sipush 256, 3) := by decide +kernel
theorem dX7_paint_46 : decode cX7_paint 46 = .ok (.invokevirtual 68, 3) := by decide +kernel
theorem dX7_paint_49 : decode cX7_paint 49 = .ok (.iastore, 1) := by decide +kernel
theorem dX7_paint_50 : decode cX7_paint 50 = .ok (.dup, 1) := by decide +kernel
theorem dX7_paint_51 : decode cX7_paint 51 = .ok (.iconst 1, 1) := by decide +kernel
theorem dX7_paint_52 : decode cX7_paint 52 = .ok (.aload_n 0, 1) := by decide +kernel
theorem dX7_paint_53 : decode cX7_paint 53 = .ok (.sipush 256, 3) := by decide +kernel
theorem dX7_paint_56 : decode cX7_paint 56 = .ok (.invokevirtual 68, 3) := by decide +kernel
theorem dX7_paint_59 : decode cX7_paint 59 = .ok (.iastore, 1) := by decide +kernel
theorem dX7_paint_60 : decode cX7_paint 60 = .ok (.dup, 1) := by decide +kernel
theorem dX7_paint_61 : decode cX7_paint 61 = .ok (.iconst 2, 1) := by decide +kernel
theorem dX7_paint_62 : decode cX7_paint 62 = .ok (.aload_n 0, 1) := by decide +kernel
theorem dX7_paint_63 : decode cX7_paint 63 = .ok (.sipush 256, 3) := by decide +kernel
theorem dX7_paint_66 : decode cX7_paint 66 = .ok (.invokevirtual 68, 3) := by decide +kernel
theorem dX7_paint_69 : decode cX7_paint 69 = .ok (.iastore, 1) := by decide +kernel
theorem dX7_paint_70 : decode cX7_paint 70 = .ok (.astore 5, 2) := by decide +kernel
theorem dX7_paint_72 : decode cX7_paint 72 = .ok (.iconst 0, 1) := by decide +kernel
theorem dX7_paint_73 : decode cX7_paint 73 = .ok (.istore 6, 2) := by decide +kernel
theorem dX7_paint_75 : decode cX7_paint 75 = .ok (.iload 6, 2) := by decide +kernel
theorem dX7_paint_77 : decode cX7_paint 77 = .ok (.bipush 64, 2) := by decide +kernel
theorem dX7_paint_79 : decode cX7_paint 79 = .ok (.if_icmp .ge 55, 3) := by decide +kernel
theorem dX7_paint_82 : decode cX7_paint 82 = .ok (.iload 6, 2) := by decide +kernel
theorem dX7_paint_84 : decode cX7_paint 84 = .ok (.bipush 8, 2) := by decide +kernel
theorem dX7_paint_86 : decode cX7_paint 86 = .ok (.irem, 1) := by decide +kernel
theorem dX7_paint_87 : decode cX7_paint 87 = .ok (.iload_n 1, 1) := by decide +kernel
theorem dX7_paint_88 : decode cX7_paint 88 = .ok (.if_icmp .lt 40, 3) := by decide +kernel
theorem dX7_paint_91 : decode cX7_paint 91 = .ok (.iload 6, 2) := by decide +kernel
theorem dX7_paint_93 : decode cX7_paint 93 = .ok (.bipush 8, 2) := by decide +kernel
theorem dX7_paint_95 : decode cX7_paint 95 = .ok (.irem, 1) := by decide +kernel
theorem dX7_paint_96 : decode cX7_paint 96 = .ok (.iload_n 3, 1) := by decide +kernel
theorem dX7_paint_97 : decode cX7_paint 97 = .ok (.if_icmp .gt 31, 3) := by decide +kernel
theorem dX7_paint_100 : decode cX7_paint 100 = .ok (.iload 6, 2) := by decide +kernel
theorem dX7_paint_102 : decode cX7_paint 102 = .ok (.bipush 8, 2) := by decide +kernel
theorem dX7_paint_104 : decode cX7_paint 104 = .ok (.idiv, 1) := by decide +kernel
theorem dX7_paint_105 : decode cX7_paint 105 = .ok (.iload_n 2, 1) := by decide +kernel
theorem dX7_paint_106 : decode cX7_paint 106 = .ok (.if_icmp .lt 22, 3) := by decide +kernel
theorem dX7_paint_109 : decode cX7_paint 109 = .ok (.iload 6, 2) := by decide +kernel
theorem dX7_paint_111 : decode cX7_paint 111 = .ok (.bipush 8, 2) := by decide +kernel
theorem dX7_paint_113 : decode cX7_paint 113 = .ok (.idiv, 1) := by decide +kernel
theorem dX7_paint_114 : decode cX7_paint 114 = .ok (.iload 4, 2) := by decide +kernel
theorem dX7_paint_116 : decode cX7_paint 116 = .ok (.if_icmp .gt 12, 3) := by decide +kernel
theorem dX7_paint_119 : decode cX7_paint 119 = .ok (.aload_n 0, 1) := by decide +kernel
theorem dX7_paint_120 : decode cX7_paint 120 = .ok (.getfield 18, 3) := by decide +kernel
theorem dX7_paint_123 : decode cX7_paint 123 = .ok (.iload 6, 2) := by decide +kernel
theorem dX7_paint_125 : decode cX7_paint 125 = .ok (.aload 5, 2) := by decide +kernel
theorem dX7_paint_127 : decode cX7_paint 127 = .ok (.aastore, 1) := by decide +kernel
theorem dX7_paint_128 : decode cX7_paint 128 = .ok (.iinc 6 1, 3) := by decide +kernel
theorem dX7_paint_131 : decode cX7_paint 131 = .ok (.goto (-56), 3) := by decide +kernel
theorem dX7_paint_134 : decode cX7_paint 134 = .ok (.aload_n 0, 1) := by decide +kernel
theorem dX7_paint_135 : decode cX7_paint 135 = .ok (.getfield 10, 3) := by decide +kernel
theorem dX7_paint_138 : decode cX7_paint 138 = .ok (.iload_n 1, 1) := by decide +kernel
theorem dX7_paint_139 : decode cX7_paint 139 = .ok (.iload_n 2, 1) := by decide +kernel
theorem dX7_paint_140 : decode cX7_paint 140 = .ok (.iload_n 3, 1) := by decide +kernel
theorem dX7_paint_141 : decode cX7_paint 141 = .ok (.iload 4, 2) := by decide +kernel
theorem dX7_paint_143 : decode cX7_paint 143 = .ok (.aload 5, 2) := by decide +kernel
theorem dX7_paint_145 : decode cX7_paint 145 = .ok (.iconst 0, 1) := by decide +kernel
theorem dX7_paint_146 : decode cX7_paint 146 = .ok (.iaload, 1) := by decide +kernel
theorem dX7_paint_147 : decode cX7_paint 147 = .ok (.sipush 256, 3) := by decide +kernel
theorem dX7_paint_150 : decode cX7_paint 150 = .ok (.aload 5, 2) := by decide +kernel
theorem dX7_paint_152 : decode cX7_paint 152 = .ok (.iconst 1, 1) := by decide +kernel
theorem dX7_paint_153 : decode cX7_paint 153 = .ok (.iaload, 1) := by decide +kernel
theorem dX7_paint_154 : decode cX7_paint 154 = .ok (.imul, 1) := by decide +kernel
theorem dX7_paint_155 : decode cX7_paint 155 = .ok (.iadd, 1) := by decide +kernel
theorem dX7_paint_156 : decode cX7_paint 156 = .ok (.ldc 72, 2) := by decide +kernel
theorem dX7_paint_158 : decode cX7_paint 158 = .ok (.aload 5, 2) := by decide +kernel
theorem dX7_paint_160 : decode cX7_paint 160 = .ok (.iconst 2, 1) := by decide +kernel
theorem dX7_paint_161 : decode cX7_paint 161 = .ok (.iaload, 1) := by decide +kernel
theorem dX7_paint_162 : decode cX7_paint 162 = .ok (.imul, 1) := by decide +kernel
theorem dX7_paint_163 : decode cX7_paint 163 = .ok (.iadd, 1) := by decide +kernel
theorem dX7_paint_164 : decode cX7_paint 164 = .ok (.invokevirtual 73, 3) := by decide +kernel
theorem dX7_paint_167 : decode cX7_paint 167 = .ok (.iload_n 3, 1) := by decide +kernel
theorem dX7_paint_168 : decode cX7_paint 168 = .ok (.iconst 1, 1) := by decide +kernel
theorem dX7_paint_169 : decode cX7_paint 169 = .ok (.iadd, 1) := by decide +kernel
theorem dX7_paint_170 : decode cX7_paint 170 = .ok (.iload_n 1, 1) := by decide +kernel
theorem dX7_paint_171 : decode cX7_paint 171 = .ok (.isub, 1) := by decide +kernel
theorem dX7_paint_172 : decode cX7_paint 172 = .ok (.iload 4, 2) := by decide +kernel
theorem dX7_paint_174 : decode cX7_paint 174 = .ok (.iconst 1, 1) := by decide +kernel
theorem dX7_paint_175 : decode cX7_paint 175 = .ok (.iadd, 1) := by decide +kernel
theorem dX7_paint_176 : decode cX7_paint 176 = .ok (.iload_n 2, 1) := by decide +kernel
theorem dX7_paint_177 : decode cX7_paint 177 = .ok (.isub, 1) := by decide +kernel
theorem dX7_paint_178 : decode cX7_paint 178 = .ok (.imul, 1) := by decide +kernel
theorem dX7_paint_179 : decode cX7_paint 179 = .ok (.if_icmp .ne 7, 3) := by decide +kernel
theorem dX7_paint_182 : decode cX7_paint 182 = .ok (.iconst 1, 1) := by decide +kernel
theorem dX7_paint_183 : decode cX7_paint 183 = .ok (.goto 4, 3) := by decide +kernel
theorem dX7_paint_186 : decode cX7_paint 186 = .ok (.iconst 0, 1) := by decide +kernel
theorem dX7_paint_187 : decode cX7_paint 187 = .ok (.ireturn, 1) := by decide +kernel
theorem dX7_light_0 : decode cX7_light 0 = .ok (.aload_n 0, 1) := by decide +kernel
theorem dX7_light_1 : decode cX7_light 1 = .ok (.getfield 21, 3) := by decide +kernel
theorem dX7_light_4 : decode cX7_light 4 = .ok (.iconst 1, 1) := by decide +kernel
theorem dX7_light_5 : decode cX7_light 5 = .ok (.iaload, 1) := by decide +kernel
theorem dX7_light_6 : decode cX7_light 6 = .ok (.istore_n 1, 1) := by decide +kernel
theorem dX7_light_7 : decode cX7_light 7 = .ok (.iconst 0, 1) := by decide +kernel
theorem dX7_light_8 : decode cX7_light 8 = .ok (.istore_n 2, 1) := by decide +kernel
theorem dX7_light_9 : decode cX7_light 9 = .ok (.iload_n 2, 1) := by decide +kernel
theorem dX7_light_10 : decode cX7_light 10 = .ok (.iconst 3, 1) := by decide +kernel
theorem dX7_light_11 : decode cX7_light 11 = .ok (.if_icmp .ge 23, 3) := by decide +kernel
theorem dX7_light_14 : decode cX7_light 14 = .ok (.aload_n 0, 1) := by decide +kernel
theorem dX7_light_15 : decode cX7_light 15 = .ok (.getfield 21, 3) := by decide +kernel
theorem dX7_light_18 : decode cX7_light 18 = .ok (.iload_n 2, 1) := by decide +kernel
theorem dX7_light_19 : decode cX7_light 19 = .ok (.iconst 1, 1) := by decide +kernel
theorem dX7_light_20 : decode cX7_light 20 = .ok (.aload_n 0, 1) := by decide +kernel
theorem dX7_light_21 : decode cX7_light 21 = .ok (.bipush 16, 2) := by decide +kernel
theorem dX7_light_23 : decode cX7_light 23 = .ok (.invokevirtual 68, 3) := by decide +kernel
theorem dX7_light_26 : decode cX7_light 26 = .ok (.iadd, 1) := by decide +kernel
theorem dX7_light_27 : decode cX7_light 27 = .ok (.iastore, 1) := by decide +kernel
theorem dX7_light_28 : decode cX7_light 28 = .ok (.iinc 2 1, 3) := by decide +kernel
theorem dX7_light_31 : decode cX7_light 31 = .ok (.goto (-22), 3) := by decide +kernel
theorem dX7_light_34 : decode cX7_light 34 = .ok (.aload_n 0, 1) := by decide +kernel
theorem dX7_light_35 : decode cX7_light 35 = .ok (.getfield 10, 3) := by decide +kernel
theorem dX7_light_38 : decode cX7_light 38 = .ok (.aload_n 0, 1) := by decide +kernel
theorem dX7_light_39 : decode cX7_light 39 = .ok (.getfield 21, 3) := by decide +kernel
theorem dX7_light_42 : decode cX7_light 42 = .ok (.iconst 0, 1) := by decide +kernel
theorem dX7_light_43 : decode cX7_light 43 = .ok (.iaload, 1) := by decide +kernel
theorem dX7_light_44 : decode cX7_light 44 = .ok (.aload_n 0, 1) := by decide +kernel
theorem dX7_light_45 : decode cX7_light 45 = .ok (.getfield 21, 3) := by decide +kernel
theorem dX7_light_48 : decode cX7_light 48 = .ok (.iconst 1, 1) := by decide +kernel
theorem dX7_light_49 : decode cX7_light 49 = .ok (.iaload, 1) := by decide +kernel
theorem dX7_light_50 : decode cX7_light 50 = .ok (.aload_n 0, 1) := by decide +kernel
theorem dX7_light_51 : decode cX7_light 51 = .ok (.getfield 21, 3) := by decide +kernel
theorem dX7_light_54 : decode cX7_light 54 = .ok (.iconst 2, 1) := by decide +kernel
theorem dX7_light_55 : decode cX7_light 55 = .ok (.iaload, 1) := by decide +kernel
theorem dX7_light_56 : decode cX7_light 56 = .ok (.invokevirtual 77, 3) := by decide +kernel
theorem dX7_light_59 : decode cX7_light 59 = .ok (.iload_n 1, 1) := by decide +kernel
theorem dX7_light_60 : decode cX7_light 60 = .ok (.if_icmp .ne 7, 3) := by decide +kernel
theorem dX7_light_63 : decode cX7_light 63 = .ok (.iconst 1, 1) := by decide +kernel
theorem dX7_light_64 : decode cX7_light 64 = .ok (.goto 4, 3) := by decide +kernel
theorem dX7_light_67 : decode cX7_light 67 = .ok (.iconst 0, 1) := by decide +kernel
theorem dX7_light_68 : decode cX7_light 68 = .ok (.ireturn, 1) := by decide +kernel
theorem dX7_colour_0 : decode cX7_colour 0 = .ok (.iload_n 0, 1) := by decide +kernel
theorem dX7_colour_1 : decode cX7_colour 1 = .ok (.bipush 8, 2) := by decide +kernel
theorem dX7_colour_3 : decode cX7_colour 3 = .ok (.idiv, 1) := by decide +kernel
theorem dX7_colour_4 : decode cX7_colour 4 = .ok (.iconst 2, 1) := by decide +kernel
theorem dX7_colour_5 : decode cX7_colour 5 = .ok (.irem, 1) := by decide +kernel
theorem dX7_colour_6 : decode cX7_colour 6 = .ok (.ifCond .ne 9, 3) := by decide +kernel
theorem dX7_colour_9 : decode cX7_colour 9 = .ok (.iload_n 0, 1) := by decide +kernel
theorem dX7_colour_10 : decode cX7_colour 10 = .ok (.iconst 2, 1) := by decide +kernel
theorem dX7_colour_11 : decode cX7_colour 11 = .ok (.irem, 1) := by decide +kernel
theorem dX7_colour_12 : decode cX7_colour 12 = .ok (.goto 8, 3) := by decide +kernel
theorem dX7_colour_15 : decode cX7_colour 15 = .ok (.iconst 1, 1) := by decide +kernel
theorem dX7_colour_16 : decode cX7_colour 16 = .ok (.iload_n 0, 1) := by decide +kernel
theorem dX7_colour_17 : decode cX7_colour 17 = .ok (.iconst 2, 1) := by decide +kernel
theorem dX7_colour_18 : decode cX7_colour 18 = .ok (.irem, 1) := by decide +kernel
theorem dX7_colour_19 : decode cX7_colour 19 = .ok (.iadd, 1) := by decide +kernel
theorem dX7_colour_20 : decode cX7_colour 20 = .ok (.ireturn, 1) := by decide +kernel
theorem dX7_frame_0 : decode cX7_frame 0 = .ok (.bipush 65, 2) := by decide +kernel
theorem dX7_frame_2 : decode cX7_frame 2 = .ok (.newarray .int, 2) := by decide +kernel
theorem dX7_frame_4 : decode cX7_frame 4 = .ok (.astore_n 3, 1) := by decide +kernel
theorem dX7_frame_5 : decode cX7_frame 5 = .ok (.aload_n 0, 1) := by decide +kernel
theorem dX7_frame_6 : decode cX7_frame 6 = .ok (.getfield 91, 3) := by decide +kernel
theorem dX7_frame_9 : decode cX7_frame 9 = .ok (.istore 4, 2) := by decide +kernel
theorem dX7_frame_11 : decode cX7_frame 11 = .ok (.iconst 0, 1) := by decide +kernel
theorem dX7_frame_12 : decode cX7_frame 12 = .ok (.istore 5, 2) := by decide +kernel
theorem dX7_frame_14 : decode cX7_frame 14 = .ok (.iload 5, 2) := by decide +kernel
theorem dX7_frame_16 : decode cX7_frame 16 = .ok (.bipush 64, 2) := by decide +kernel
theorem dX7_frame_18 : decode cX7_frame 18 = .ok (.if_icmp .ge 165, 3) := by decide +kernel
theorem dX7_frame_21 : decode cX7_frame 21 = .ok (.iconst 2, 1) := by decide +kernel
theorem dX7_frame_22 : decode cX7_frame 22 = .ok (.iload 4, 2) := by decide +kernel
theorem dX7_frame_24 : decode cX7_frame 24 = .ok (.imul, 1) := by decide +kernel
theorem dX7_frame_25 : decode cX7_frame 25 = .ok (.iconst 5, 1) := by decide +kernel
theorem dX7_frame_26 : decode cX7_frame 26 = .ok (.iadd, 1) := by decide +kernel
theorem dX7_frame_27 : decode cX7_frame 27 = .ok (.istore 4, 2) := by decide +kernel
theorem dX7_frame_29 : decode cX7_frame 29 = .ok (.iload 4, 2) := by decide +kernel
theorem dX7_frame_31 : decode cX7_frame 31 = .ok (.bipush 60, 2) := by decide +kernel
theorem dX7_frame_33 : decode cX7_frame 33 = .ok (.if_icmp .le 9, 3) := by decide +kernel
theorem dX7_frame_36 : decode cX7_frame 36 = .ok (.iinc 4 (-61), 3) := by decide +kernel
theorem dX7_frame_39 : decode cX7_frame 39 = .ok (.goto (-10), 3) := by decide +kernel
theorem dX7_frame_42 : decode cX7_frame 42 = .ok (.iload 5, 2) := by decide +kernel
theorem dX7_frame_44 : decode cX7_frame 44 = .ok (.invokestatic 93, 3) := by decide +kernel
theorem dX7_frame_47 : decode cX7_frame 47 = .ok (.istore 6, 2) := by decide +kernel
theorem dX7_frame_49 : decode cX7_frame 49 = .ok (.aload_n 0, 1) := by decide +kernel
theorem dX7_frame_50 : decode cX7_frame 50 = .ok (.getfield 18, 3) := by decide +kernel
theorem dX7_frame_53 : decode cX7_frame 53 = .ok (.iload 5, 2) := by decide +kernel
theorem dX7_frame_55 : decode cX7_frame 55 = .ok (.aaload, 1) := by decide +kernel
theorem dX7_frame_56 : decode cX7_frame 56 = .ok (.iload 6, 2) := by decide +kernel
theorem dX7_frame_58 : decode cX7_frame 58 = .ok (.iaload, 1) := by decide +kernel
theorem dX7_frame_59 : decode cX7_frame 59 = .ok (.i2f, 1) := by decide +kernel
theorem dX7_frame_60 : decode cX7_frame 60 = .ok (.fstore 7, 2) := by decide +kernel
theorem dX7_frame_62 : decode cX7_frame 62 = .ok (.fload 7, 2) := by decide +kernel
theorem dX7_frame_64 : decode cX7_frame 64 = .ok (.aload_n 0, 1) := by decide +kernel
theorem dX7_frame_65 : decode cX7_frame 65 = .ok (.getfield 21, 3) := by decide +kernel
theorem dX7_frame_68 : decode cX7_frame 68 = .ok (.iload 6, 2) := by decide +kernel
theorem dX7_frame_70 : decode cX7_frame 70 = .ok (.iaload, 1) := by decide +kernel
theorem dX7_frame_71 : decode cX7_frame 71 = .ok (.i2f, 1) := by decide +kernel
theorem dX7_frame_72 : decode cX7_frame 72 = .ok (.ldc 96, 2) := by decide +kernel
theorem dX7_frame_74 : decode cX7_frame 74 = .ok (.fdiv, 1) := by decide +kernel
theorem dX7_frame_75 : decode cX7_frame 75 = .ok (.fmul, 1) := by decide +kernel
theorem dX7_frame_76 : decode cX7_frame 76 = .ok (.fstore 7, 2) := by decide +kernel
theorem dX7_frame_78 : decode cX7_frame 78 = .ok (.fload 7, 2) := by decide +kernel
theorem dX7_frame_80 : decode cX7_frame 80 = .ok (.iload_n 1, 1) := by decide +kernel
theorem dX7_frame_81 : decode cX7_frame 81 = .ok (.i2f, 1) := by decide +kernel
theorem dX7_frame_82 : decode cX7_frame 82 = .ok (.fmul, 1) := by decide +kernel
theorem dX7_frame_83 : decode cX7_frame 83 = .ok (.fstore 7, 2) := by decide +kernel
theorem dX7_frame_85 : decode cX7_frame 85 = .ok (.fload 7, 2) := by decide +kernel
theorem dX7_frame_87 : decode cX7_frame 87 = .ok (.ldc 97, 2) := by decide +kernel
theorem dX7_frame_89 : decode cX7_frame 89 = .ok (.fdiv, 1) := by decide +kernel
theorem dX7_frame_90 : decode cX7_frame 90 = .ok (.fstore 7, 2) := by decide +kernel
theorem dX7_frame_92 : decode cX7_frame 92 = .ok (.fload 7, 2) := by decide +kernel
theorem dX7_frame_94 : decode cX7_frame 94 = .ok (.ldc 98, 2) := by decide +kernel
theorem dX7_frame_96 : decode cX7_frame 96 = .ok (.fcmp .l, 1) := by decide +kernel
theorem dX7_frame_97 : decode cX7_frame 97 = .ok (.ifCond .le 9, 3) := by decide +kernel
theorem dX7_frame_100 : decode cX7_frame 100 = .ok (.sipush 255, 3) := by decide +kernel
theorem dX7_frame_103 : decode cX7_frame 103 = .ok (.goto 6, 3) := by decide +kernel
theorem dX7_frame_106 : decode cX7_frame 106 = .ok (.fload 7, 2) := by decide +kernel
theorem dX7_frame_108 : decode cX7_frame 108 = .ok (.f2i, 1) := by decide +kernel
theorem dX7_frame_109 : decode cX7_frame 109 = .ok (.istore 8, 2) := by decide +kernel
theorem dX7_frame_111 : decode cX7_frame 111 = .ok (.bipush 12, 2) := by decide +kernel
theorem dX7_frame_113 : decode cX7_frame 113 = .ok (.iload 8, 2) := by decide +kernel
theorem dX7_frame_115 : decode cX7_frame 115 = .ok (.iload_n 2, 1) := by decide +kernel
theorem dX7_frame_116 : decode cX7_frame 116 = .ok (.imul, 1) := by decide +kernel
theorem dX7_frame_117 : decode cX7_frame 117 = .ok (.iadd, 1) := by decide +kernel
theorem dX7_frame_118 : decode cX7_frame 118 = .ok (.iload 4, 2) := by decide +kernel
theorem dX7_frame_120 : decode cX7_frame 120 = .ok (.bipush 8, 2) := by decide +kernel
theorem dX7_frame_122 : decode cX7_frame 122 = .ok (.irem, 1) := by decide +kernel
theorem dX7_frame_123 : decode cX7_frame 123 = .ok (.iadd, 1) := by decide +kernel
theorem dX7_frame_124 : decode cX7_frame 124 = .ok (.istore 9, 2) := by decide +kernel
theorem dX7_frame_126 : decode cX7_frame 126 = .ok (.aload_n 3, 1) := by decide +kernel
theorem dX7_frame_127 : decode cX7_frame 127 = .ok (.iload 5, 2) := by decide +kernel
theorem dX7_frame_129 : decode cX7_frame 129 = .ok (.aload_n 0, 1) := by decide +kernel
theorem dX7_frame_130 : decode cX7_frame 130 = .ok (.getfield 25, 3) := by decide +kernel
theorem dX7_frame_133 : decode cX7_frame 133 = .ok (.iload 5, 2) := by decide +kernel
theorem dX7_frame_135 : decode cX7_frame 135 = .ok (.iaload, 1) := by decide +kernel
theorem dX7_frame_136 : decode cX7_frame 136 = .ok (.iconst 1, 1) := by decide +kernel
theorem dX7_frame_137 : decode cX7_frame 137 = .ok (.if_icmp .eq 8, 3) := by decide +kernel
theorem dX7_frame_140 : decode cX7_frame 140 = .ok (.iload 9, 2) := by decide +kernel
theorem dX7_frame_142 : decode cX7_frame 142 = .ok (.ifCond .ge 7, 3) := by decide +kernel
theorem dX7_frame_145 : decode cX7_frame 145 = .ok (.iconst 0, 1) := by decide +kernel
theorem dX7_frame_146 : decode cX7_frame 146 = .ok (.goto 30, 3) := by decide +kernel
theorem dX7_frame_149 : decode cX7_frame 149 = .ok (.aload_n 0, 1) := by decide +kernel
theorem dX7_frame_150 : decode cX7_frame 150 = .ok (.getfield 25, 3) := by decide +kernel
theorem dX7_frame_153 : decode cX7_frame 153 = .ok (.iload 5, 2) := by decide +kernel
theorem dX7_frame_155 : decode cX7_frame 155 = .ok (.iaload, 1) := by decide +kernel
theorem dX7_frame_156 : decode cX7_frame 156 = .ok (.iconst 2, 1) := by decide +kernel
theorem dX7_frame_157 : decode cX7_frame 157 = .ok (.if_icmp .eq 11, 3) := by decide +kernel
theorem dX7_frame_160 : decode cX7_frame 160 = .ok (.iload 9, 2) := by decide +kernel
theorem dX7_frame_162 : decode cX7_frame 162 = .ok (.sipush 255, 3) := by decide +kernel
theorem dX7_frame_165 : decode cX7_frame 165 = .ok (.if_icmp .le 9, 3) := by decide +kernel
theorem dX7_frame_168 : decode cX7_frame 168 = .ok (.sipush 255, 3) := by decide +kernel
theorem dX7_frame_171 : decode cX7_frame 171 = .ok (.goto 5, 3) := by decide +kernel
theorem dX7_frame_174 : decode cX7_frame 174 = .ok (.iload 9, 2) := by decide +kernel
theorem dX7_frame_176 : decode cX7_frame 176 = .ok (.iastore, 1) := by decide +kernel
theorem dX7_frame_177 : decode cX7_frame 177 = .ok (.iinc 5 1, 3) := by decide +kernel
theorem dX7_frame_180 : decode cX7_frame 180 = .ok (.goto (-166), 3) := by decide +kernel
theorem dX7_frame_183 : decode cX7_frame 183 = .ok (.aload_n 3, 1) := by decide +kernel
theorem dX7_frame_184 : decode cX7_frame 184 = .ok (.bipush 64, 2) := by decide +kernel
theorem dX7_frame_186 : decode cX7_frame 186 = .ok (.iload 4, 2) := by decide +kernel
theorem dX7_frame_188 : decode cX7_frame 188 = .ok (.iastore, 1) := by decide +kernel
theorem dX7_frame_189 : decode cX7_frame 189 = .ok (.aload_n 3, 1) := by decide +kernel
theorem dX7_frame_190 : decode cX7_frame 190 = .ok (.areturn, 1) := by decide +kernel
theorem dX7_take_0 : decode cX7_take 0 = .ok (.iconst 1, 1) := by decide +kernel
theorem dX7_take_1 : decode cX7_take 1 = .ok (.aload_n 0, 1) := by decide +kernel
theorem dX7_take_2 : decode cX7_take 2 = .ok (.aload_n 0, 1) := by decide +kernel
theorem dX7_take_3 : decode cX7_take 3 = .ok (.iconst 2, 1) := by decide +kernel
theorem dX7_take_4 : decode cX7_take 4 = .ok (.invokevirtual 68, 3) := by decide +kernel
theorem dX7_take_7 : decode cX7_take 7 = .ok (.ifCond .ne 8, 3) := by decide +kernel
theorem dX7_take_10 : decode cX7_take 10 = .ok (.bipush 64, 2) := by decide +kernel
theorem dX7_take_12 : decode cX7_take 12 = .ok (.goto 5, 3) := by decide +kernel
theorem dX7_take_15 : decode cX7_take 15 = .ok (.bipush 20, 2) := by decide +kernel
theorem dX7_take_17 : decode cX7_take 17 = .ok (.invokevirtual 68, 3) := by decide +kernel
theorem dX7_take_20 : decode cX7_take 20 = .ok (.iadd, 1) := by decide +kernel
theorem dX7_take_21 : decode cX7_take 21 = .ok (.istore_n 1, 1) := by decide +kernel
theorem dX7_take_22 : decode cX7_take 22 = .ok (.iconst 1, 1) := by decide +kernel
theorem dX7_take_23 : decode cX7_take 23 = .ok (.aload_n 0, 1) := by decide +kernel
theorem dX7_take_24 : decode cX7_take 24 = .ok (.aload_n 0, 1) := by decide +kernel
theorem dX7_take_25 : decode cX7_take 25 = .ok (.iconst 2, 1) := by decide +kernel
theorem dX7_take_26 : decode cX7_take 26 = .ok (.invokevirtual 68, 3) := by decide +kernel
theorem dX7_take_29 : decode cX7_take 29 = .ok (.ifCond .ne 8, 3) := by decide +kernel
theorem dX7_take_32 : decode cX7_take 32 = .ok (.bipush 8, 2) := by decide +kernel
theorem dX7_take_34 : decode cX7_take 34 = .ok (.goto 4, 3) := by decide +kernel
theorem dX7_take_37 : decode cX7_take 37 = .ok (.iconst 2, 1) := by decide +kernel
theorem dX7_take_38 : decode cX7_take 38 = .ok (.invokevirtual 68, 3) := by decide +kernel
theorem dX7_take_41 : decode cX7_take 41 = .ok (.iadd, 1) := by decide +kernel
theorem dX7_take_42 : decode cX7_take 42 = .ok (.istore_n 2, 1) := by decide +kernel
theorem dX7_take_43 : decode cX7_take 43 = .ok (.aload_n 0, 1) := by decide +kernel
theorem dX7_take_44 : decode cX7_take 44 = .ok (.iload_n 1, 1) := by decide +kernel
theorem dX7_take_45 : decode cX7_take 45 = .ok (.iload_n 2, 1) := by decide +kernel
theorem dX7_take_46 : decode cX7_take 46 = .ok (.invokevirtual 99, 3) := by decide +kernel
theorem dX7_take_49 : decode cX7_take 49 = .ok (.astore_n 3, 1) := by decide +kernel
theorem dX7_take_50 : decode cX7_take 50 = .ok (.aload_n 0, 1) := by decide +kernel
theorem dX7_take_51 : decode cX7_take 51 = .ok (.aload_n 3, 1) := by decide +kernel
theorem dX7_take_52 : decode cX7_take 52 = .ok (.bipush 64, 2) := by decide +kernel
theorem dX7_take_54 : decode cX7_take 54 = .ok (.iaload, 1) := by decide +kernel
theorem dX7_take_55 : decode cX7_take 55 = .ok (.putfield 91, 3) := by decide +kernel
theorem dX7_take_58 : decode cX7_take 58 = .ok (.aload_n 0, 1) := by decide +kernel
theorem dX7_take_59 : decode cX7_take 59 = .ok (.aload_n 0, 1) := by decide +kernel
theorem dX7_take_60 : decode cX7_take 60 = .ok (.getfield 33, 3) := by decide +kernel
theorem dX7_take_63 : decode cX7_take 63 = .ok (.aload_n 3, 1) := by decide +kernel
theorem dX7_take_64 : decode cX7_take 64 = .ok (.invokestatic 103, 3) := by decide +kernel
theorem dX7_take_67 : decode cX7_take 67 = .ok (.putfield 33, 3) := by decide +kernel
theorem dX7_take_70 : decode cX7_take 70 = .ok (.aload_n 0, 1) := by decide +kernel
theorem dX7_take_71 : decode cX7_take 71 = .ok (.aload_n 0, 1) := by decide +kernel
theorem dX7_take_72 : decode cX7_take 72 = .ok (.getfield 36, 3) := by decide +kernel
theorem dX7_take_75 : decode cX7_take 75 = .ok (.iconst 3, 1) := by decide +kernel
theorem dX7_take_76 : decode cX7_take 76 = .ok (.newarray .int, 2) := by decide +kernel
theorem dX7_take_78 : decode cX7_take 78 = .ok (.dup, 1) := by decide +kernel
theorem dX7_take_79 : decode cX7_take 79 = .ok (.iconst 0, 1) := by decide +kernel
theorem dX7_take_80 : decode cX7_take 80 = .ok (.iload_n 1, 1) := by decide +kernel
theorem dX7_take_81 : decode cX7_take 81 = .ok (.iastore, 1) := by decide +kernel
theorem dX7_take_82 : decode cX7_take 82 = .ok (.dup, 1) := by decide +kernel
theorem dX7_take_83 : decode cX7_take 83 = .ok (.iconst 1, 1) := by decide +kernel
theorem dX7_take_84 : decode cX7_take 84 = .ok (.iload_n 2, 1) := by decide +kernel
theorem dX7_take_85 : decode cX7_take 85 = .ok (.iastore, 1) := by decide +kernel
theorem dX7_take_86 : decode cX7_take 86 = .ok (.dup, 1) := by decide +kernel
theorem dX7_take_87 : decode cX7_take 87 = .ok (.iconst 2, 1) := by decide +kernel
theorem dX7_take_88 : decode cX7_take 88 = .ok (.iconst 0, 1) := by decide +kernel
theorem dX7_take_89 : decode cX7_take 89 = .ok (.iastore, 1) := by decide +kernel
theorem dX7_take_90 : decode cX7_take 90 = .ok (.invokestatic 103, 3) := by decide +kernel
theorem dX7_take_93 : decode cX7_take 93 = .ok (.putfield 36, 3) := by decide +kernel
theorem dX7_take_96 : decode cX7_take 96 = .ok (.aload_n 0, 1) := by decide +kernel
theorem dX7_take_97 : decode cX7_take 97 = .ok (.aload_n 0, 1) := by decide +kernel
theorem dX7_take_98 : decode cX7_take 98 = .ok (.getfield 39, 3) := by decide +kernel
theorem dX7_take_101 : decode cX7_take 101 = .ok (.iconst 0, 1) := by decide +kernel
theorem dX7_take_102 : decode cX7_take 102 = .ok (.newarray .int, 2) := by decide +kernel
theorem dX7_take_104 : decode cX7_take 104 = .ok (.invokestatic 103, 3) := by decide +kernel
theorem dX7_take_107 : decode cX7_take 107 = .ok (.putfield 39, 3) := by decide +kernel
theorem dX7_take_110 : decode cX7_take 110 = .ok (.aload_n 0, 1) := by decide +kernel
theorem dX7_take_111 : decode cX7_take 111 = .ok (.getfield 10, 3) := by decide +kernel
theorem dX7_take_114 : decode cX7_take 114 = .ok (.iload_n 1, 1) := by decide +kernel
theorem dX7_take_115 : decode cX7_take 115 = .ok (.iload_n 2, 1) := by decide +kernel
theorem dX7_take_116 : decode cX7_take 116 = .ok (.invokevirtual 107, 3) := by decide +kernel
theorem dX7_take_119 : decode cX7_take 119 = .ok (.aload_n 0, 1) := by decide +kernel
theorem dX7_take_120 : decode cX7_take 120 = .ok (.getfield 33, 3) := by decide +kernel
theorem dX7_take_123 : decode cX7_take 123 = .ok (.arraylength, 1) := by decide +kernel
theorem dX7_take_124 : decode cX7_take 124 = .ok (.iconst 1, 1) := by decide +kernel
theorem dX7_take_125 : decode cX7_take 125 = .ok (.isub, 1) := by decide +kernel
theorem dX7_take_126 : decode cX7_take 126 = .ok (.if_icmp .ne 7, 3) := by decide +kernel
theorem dX7_take_129 : decode cX7_take 129 = .ok (.iconst 1, 1) := by decide +kernel
theorem dX7_take_130 : decode cX7_take 130 = .ok (.goto 4, 3) := by decide +kernel
theorem dX7_take_133 : decode cX7_take 133 = .ok (.iconst 0, 1) := by decide +kernel
theorem dX7_take_134 : decode cX7_take 134 = .ok (.ireturn, 1) := by decide +kernel
theorem dX7_edit_0 : decode cX7_edit 0 = .ok (.aload_n 0, 1) := by decide +kernel
theorem dX7_edit_1 : decode cX7_edit 1 = .ok (.bipush 6, 2) := by decide +kernel
theorem dX7_edit_3 : decode cX7_edit 3 = .ok (.invokevirtual 68, 3) := by decide +kernel
theorem dX7_edit_6 : decode cX7_edit 6 = .ok (.istore_n 2, 1) := by decide +kernel
theorem dX7_edit_7 : decode cX7_edit 7 = .ok (.iload_n 2, 1) := by decide +kernel
theorem dX7_edit_8 : decode cX7_edit 8 = .ok (.ifCond .ne 12, 3) := by decide +kernel
theorem dX7_edit_11 : decode cX7_edit 11 = .ok (.aload_n 0, 1) := by decide +kernel
theorem dX7_edit_12 : decode cX7_edit 12 = .ok (.bipush 65, 2) := by decide +kernel
theorem dX7_edit_14 : decode cX7_edit 14 = .ok (.invokevirtual 68, 3) := by decide +kernel
theorem dX7_edit_17 : decode cX7_edit 17 = .ok (.goto 33, 3) := by decide +kernel
theorem dX7_edit_20 : decode cX7_edit 20 = .ok (.iload_n 2, 1) := by decide +kernel
theorem dX7_edit_21 : decode cX7_edit 21 = .ok (.iconst 3, 1) := by decide +kernel
theorem dX7_edit_22 : decode cX7_edit 22 = .ok (.if_icmp .ge 14, 3) := by decide +kernel
theorem dX7_edit_25 : decode cX7_edit 25 = .ok (.iconst 1, 1) := by decide +kernel
theorem dX7_edit_26 : decode cX7_edit 26 = .ok (.aload_n 0, 1) := by decide +kernel
theorem dX7_edit_27 : decode cX7_edit 27 = .ok (.bipush 16, 2) := by decide +kernel
theorem dX7_edit_29 : decode cX7_edit 29 = .ok (.invokevirtual 68, 3) := by decide +kernel
theorem dX7_edit_32 : decode cX7_edit 32 = .ok (.iadd, 1) := by decide +kernel
theorem dX7_edit_33 : decode cX7_edit 33 = .ok (.goto 17, 3) := by decide +kernel
theorem dX7_edit_36 : decode cX7_edit 36 = .ok (.iload_n 2, 1) := by decide +kernel
theorem dX7_edit_37 : decode cX7_edit 37 = .ok (.iconst 3, 1) := by decide +kernel
theorem dX7_edit_38 : decode cX7_edit 38 = .ok (.if_icmp .ne 11, 3) := by decide +kernel
theorem dX7_edit_41 : decode cX7_edit 41 = .ok (.aload_n 0, 1) := by decide +kernel
theorem dX7_edit_42 : decode cX7_edit 42 = .ok (.iconst 3, 1) := by decide +kernel
theorem dX7_edit_43 : decode cX7_edit 43 = .ok (.invokevirtual 68, 3) := by decide +kernel
theorem dX7_edit_46 : decode cX7_edit 46 = .ok (.goto 4, 3) := by decide +kernel
theorem dX7_edit_49 : decode cX7_edit 49 = .ok (.iconst 0, 1) := by decide +kernel
theorem dX7_edit_50 : decode cX7_edit 50 = .ok (.istore_n 3, 1) := by decide +kernel
theorem dX7_edit_51 : decode cX7_edit 51 = .ok (.aload_n 0, 1) := by decide +kernel
theorem dX7_edit_52 : decode cX7_edit 52 = .ok (.getfield 39, 3) := by decide +kernel
theorem dX7_edit_55 : decode cX7_edit 55 = .ok (.iload_n 1, 1) := by decide +kernel
theorem dX7_edit_56 : decode cX7_edit 56 = .ok (.aaload, 1) := by decide +kernel
theorem dX7_edit_57 : decode cX7_edit 57 = .ok (.arraylength, 1) := by decide +kernel
theorem dX7_edit_58 : decode cX7_edit 58 = .ok (.bipush 11, 2) := by decide +kernel
theorem dX7_edit_60 : decode cX7_edit 60 = .ok (.if_icmp .le 5, 3) := by decide +kernel
theorem dX7_edit_63 : decode cX7_edit 63 = .ok (.iconst 1, 1) := by decide +kernel
theorem dX7_edit_64 : decode cX7_edit 64 = .ok (.ireturn, 1) := by decide +kernel
theorem dX7_edit_65 : decode cX7_edit 65 = .ok (.aload_n 0, 1) := by decide +kernel
theorem dX7_edit_66 : decode cX7_edit 66 = .ok (.getfield 39, 3) := by decide +kernel
theorem dX7_edit_69 : decode cX7_edit 69 = .ok (.iload_n 1, 1) := by decide +kernel
theorem dX7_edit_70 : decode cX7_edit 70 = .ok (.aload_n 0, 1) := by decide +kernel
theorem dX7_edit_71 : decode cX7_edit 71 = .ok (.getfield 39, 3) := by decide +kernel
theorem dX7_edit_74 : decode cX7_edit 74 = .ok (.iload_n 1, 1) := by decide +kernel
theorem dX7_edit_75 : decode cX7_edit 75 = .ok (.aaload, 1) := by decide +kernel
theorem dX7_edit_76 : decode cX7_edit 76 = .ok (.iload_n 2, 1) := by decide +kernel
theorem dX7_edit_77 : decode cX7_edit 77 = .ok (.iload_n 3, 1) := by decide +kernel
theorem dX7_edit_78 : decode cX7_edit 78 = .ok (.invokestatic 113, 3) := by decide +kernel
theorem dX7_edit_81 : decode cX7_edit 81 = .ok (.aastore, 1) := by decide +kernel
theorem dX7_edit_82 : decode cX7_edit 82 = .ok (.aload_n 0, 1) := by decide +kernel
theorem dX7_edit_83 : decode cX7_edit 83 = .ok (.getfield 10, 3) := by decide +kernel
theorem dX7_edit_86 : decode cX7_edit 86 = .ok (.iload_n 1, 1) := by decide +kernel
theorem dX7_edit_87 : decode cX7_edit 87 = .ok (.iload_n 2, 1) := by decide +kernel
theorem dX7_edit_88 : decode cX7_edit 88 = .ok (.iload_n 3, 1) := by decide +kernel
theorem dX7_edit_89 : decode cX7_edit 89 = .ok (.invokevirtual 116, 3) := by decide +kernel
theorem dX7_edit_92 : decode cX7_edit 92 = .ok (.aload_n 0, 1) := by decide +kernel
theorem dX7_edit_93 : decode cX7_edit 93 = .ok (.getfield 39, 3) := by decide +kernel
theorem dX7_edit_96 : decode cX7_edit 96 = .ok (.iload_n 1, 1) := by decide +kernel
theorem dX7_edit_97 : decode cX7_edit 97 = .ok (.aaload, 1) := by decide +kernel
theorem dX7_edit_98 : decode cX7_edit 98 = .ok (.arraylength, 1) := by decide +kernel
theorem dX7_edit_99 : decode cX7_edit 99 = .ok (.iconst 2, 1) := by decide +kernel
theorem dX7_edit_100 : decode cX7_edit 100 = .ok (.idiv, 1) := by decide +kernel
theorem dX7_edit_101 : decode cX7_edit 101 = .ok (.if_icmp .ne 7, 3) := by decide +kernel
theorem dX7_edit_104 : decode cX7_edit 104 = .ok (.iconst 1, 1) := by decide +kernel
theorem dX7_edit_105 : decode cX7_edit 105 = .ok (.goto 4, 3) := by decide +kernel
theorem dX7_edit_108 : decode cX7_edit 108 = .ok (.iconst 0, 1) := by decide +kernel
theorem dX7_edit_109 : decode cX7_edit 109 = .ok (.ireturn, 1) := by decide +kernel
theorem dX7_save_0 : decode cX7_save 0 = .ok (.aload_n 0, 1) := by decide +kernel
theorem dX7_save_1 : decode cX7_save 1 = .ok (.getfield 42, 3) := by decide +kernel
theorem dX7_save_4 : decode cX7_save 4 = .ok (.arraylength, 1) := by decide +kernel
theorem dX7_save_5 : decode cX7_save 5 = .ok (.iconst 5, 1) := by decide +kernel
theorem dX7_save_6 : decode cX7_save 6 = .ok (.if_icmp .le 5, 3) := by decide +kernel
theorem dX7_save_9 : decode cX7_save 9 = .ok (.iconst 1, 1) := by decide +kernel
theorem dX7_save_10 : decode cX7_save 10 = .ok (.ireturn, 1) := by decide +kernel
theorem dX7_save_11 : decode cX7_save 11 = .ok (.aload_n 0, 1) := by decide +kernel
theorem dX7_save_12 : decode cX7_save 12 = .ok (.getfield 39, 3) := by decide +kernel
theorem dX7_save_15 : decode cX7_save 15 = .ok (.iload_n 1, 1) := by decide +kernel
theorem dX7_save_16 : decode cX7_save 16 = .ok (.aaload, 1) := by decide +kernel
theorem dX7_save_17 : decode cX7_save 17 = .ok (.arraylength, 1) := by decide +kernel
theorem dX7_save_18 : decode cX7_save 18 = .ok (.iconst 1, 1) := by decide +kernel
theorem dX7_save_19 : decode cX7_save 19 = .ok (.iadd, 1) := by decide +kernel
theorem dX7_save_20 : decode cX7_save 20 = .ok (.newarray .int, 2) := by decide +kernel
theorem dX7_save_22 : decode cX7_save 22 = .ok (.astore_n 2, 1) := by decide +kernel
theorem dX7_save_23 : decode cX7_save 23 = .ok (.aload_n 2, 1) := by decide +kernel
theorem dX7_save_24 : decode cX7_save 24 = .ok (.iconst 0, 1) := by decide +kernel
theorem dX7_save_25 : decode cX7_save 25 = .ok (.iload_n 1, 1) := by decide +kernel
theorem dX7_save_26 : decode cX7_save 26 = .ok (.iastore, 1) := by decide +kernel
theorem dX7_save_27 : decode cX7_save 27 = .ok (.aload_n 0, 1) := by decide +kernel
theorem dX7_save_28 : decode cX7_save 28 = .ok (.getfield 39, 3) := by decide +kernel
theorem dX7_save_31 : decode cX7_save 31 = .ok (.iload_n 1, 1) := by decide +kernel
theorem dX7_save_32 : decode cX7_save 32 = .ok (.aaload, 1) := by decide +kernel
theorem dX7_save_33 : decode cX7_save 33 = .ok (.iconst 0, 1) := by decide +kernel
theorem dX7_save_34 : decode cX7_save 34 = .ok (.aload_n 2, 1) := by decide +kernel
theorem dX7_save_35 : decode cX7_save 35 = .ok (.iconst 1, 1) := by decide +kernel
theorem dX7_save_36 : decode cX7_save 36 = .ok (.aload_n 0, 1) := by decide +kernel
theorem dX7_save_37 : decode cX7_save 37 = .ok (.getfield 39, 3) := by decide +kernel
theorem dX7_save_40 : decode cX7_save 40 = .ok (.iload_n 1, 1) := by decide +kernel
theorem dX7_save_41 : decode cX7_save 41 = .ok (.aaload, 1) := by decide +kernel
theorem dX7_save_42 : decode cX7_save 42 = .ok (.arraylength, 1) := by decide +kernel
theorem dX7_save_43 : decode cX7_save 43 = .ok (.invokestatic 62, 3) := by decide +kernel
theorem dX7_save_46 : decode cX7_save 46 = .ok (.aload_n 0, 1) := by decide +kernel
theorem dX7_save_47 : decode cX7_save 47 = .ok (.aload_n 0, 1) := by decide +kernel
theorem dX7_save_48 : decode cX7_save 48 = .ok (.getfield 42, 3) := by decide +kernel
theorem dX7_save_51 : decode cX7_save 51 = .ok (.aload_n 2, 1) := by decide +kernel
theorem dX7_save_52 : decode cX7_save 52 = .ok (.invokestatic 103, 3) := by decide +kernel
theorem dX7_save_55 : decode cX7_save 55 = .ok (.putfield 42, 3) := by decide +kernel
theorem dX7_save_58 : decode cX7_save 58 = .ok (.aload_n 0, 1) := by decide +kernel
theorem dX7_save_59 : decode cX7_save 59 = .ok (.getfield 10, 3) := by decide +kernel
theorem dX7_save_62 : decode cX7_save 62 = .ok (.iload_n 1, 1) := by decide +kernel
theorem dX7_save_63 : decode cX7_save 63 = .ok (.invokevirtual 122, 3) := by decide +kernel
theorem dX7_save_66 : decode cX7_save 66 = .ok (.aload_n 0, 1) := by decide +kernel
theorem dX7_save_67 : decode cX7_save 67 = .ok (.getfield 42, 3) := by decide +kernel
theorem dX7_save_70 : decode cX7_save 70 = .ok (.arraylength, 1) := by decide +kernel
theorem dX7_save_71 : decode cX7_save 71 = .ok (.iconst 1, 1) := by decide +kernel
theorem dX7_save_72 : decode cX7_save 72 = .ok (.isub, 1) := by decide +kernel
theorem dX7_save_73 : decode cX7_save 73 = .ok (.if_icmp .ne 7, 3) := by decide +kernel
theorem dX7_save_76 : decode cX7_save 76 = .ok (.iconst 1, 1) := by decide +kernel
theorem dX7_save_77 : decode cX7_save 77 = .ok (.goto 4, 3) := by decide +kernel
theorem dX7_save_80 : decode cX7_save 80 = .ok (.iconst 0, 1) := by decide +kernel
theorem dX7_save_81 : decode cX7_save 81 = .ok (.ireturn, 1) := by decide +kernel
theorem dJ9_abs_0f7a4_0 : decode cJ9_abs_0f7a4 0 = .ok (.iload_n 0, 1) := by decide +kernel
theorem dJ9_abs_0f7a4_1 : decode cJ9_abs_0f7a4 1 = .ok (.ifCond .ge 8, 3) := by decide +kernel
theorem dJ9_abs_0f7a4_4 : decode cJ9_abs_0f7a4 4 = .ok (.iload_n 0, 1) := by decide +kernel
theorem dJ9_abs_0f7a4_5 : decode cJ9_abs_0f7a4 5 = .ok (.ineg, 1) := by decide +kernel
theorem dJ9_abs_0f7a4_6 : decode cJ9_abs_0f7a4 6 = .ok (.goto 4, 3) := by decide +kernel
theorem dJ9_abs_0f7a4_9 : decode cJ9_abs_0f7a4 9 = .ok (.iload_n 0, 1) := by decide +kernel
theorem dJ9_abs_0f7a4_10 : decode cJ9_abs_0f7a4 10 = .ok (.ireturn, 1) := by decide +kernel
theorem dJ9_abs_294c1_0 : decode cJ9_abs_294c1 0 = .ok (.dload_n 0, 1) := by decide +kernel
theorem dJ9_abs_294c1_1 : decode cJ9_abs_294c1 1 = .ok (.invokestatic 79, 3) := by decide +kernel
theorem dJ9_abs_294c1_4 : decode cJ9_abs_294c1 4 = .ok (.ldc2_w 135, 3) := by decide +kernel
theorem dJ9_abs_294c1_7 : decode cJ9_abs_294c1 7 = .ok (.land, 1) := by decide +kernel
theorem dJ9_abs_294c1_8 : decode cJ9_abs_294c1 8 = .ok (.invokestatic 166, 3) := by decide +kernel
theorem dJ9_abs_294c1_11 : decode cJ9_abs_294c1 11 = .ok (.dreturn, 1) := by decide +kernel
theorem dJ9_max_7cf53_0 : decode cJ9_max_7cf53 0 = .ok (.iload_n 0, 1) := by decide +kernel
theorem dJ9_max_7cf53_1 : decode cJ9_max_7cf53 1 = .ok (.iload_n 1, 1) := by decide +kernel
theorem dJ9_max_7cf53_2 : decode cJ9_max_7cf53 2 = .ok (.if_icmp .lt 7, 3) := by decide +kernel
theorem dJ9_max_7cf53_5 : decode cJ9_max_7cf53 5 = .ok (.iload_n 0, 1) := by decide +kernel
theorem dJ9_max_7cf53_6 : decode cJ9_max_7cf53 6 = .ok (.goto 4, 3) := by decide +kernel
theorem dJ9_max_7cf53_9 : decode cJ9_max_7cf53 9 = .ok (.iload_n 1, 1) := by decide +kernel
theorem dJ9_max_7cf53_10 : decode cJ9_max_7cf53 10 = .ok (.ireturn, 1) := by decide +kernel
theorem dJ9_min_7cf53_0 : decode cJ9_min_7cf53 0 = .ok (.iload_n 0, 1) := by decide +kernel
theorem dJ9_min_7cf53_1 : decode cJ9_min_7cf53 1 = .ok (.iload_n 1, 1) := by decide +kernel
theorem dJ9_min_7cf53_2 : decode cJ9_min_7cf53 2 = .ok (.if_icmp .gt 7, 3) := by decide +kernel
theorem dJ9_min_7cf53_5 : decode cJ9_min_7cf53 5 = .ok (.iload_n 0, 1) := by decide +kernel
theorem dJ9_min_7cf53_6 : decode cJ9_min_7cf53 6 = .ok (.goto 4, 3) := by decide +kernel
theorem dJ9_min_7cf53_9 : decode cJ9_min_7cf53 9 = .ok (.iload_n 1, 1) := by decide +kernel
theorem dJ9_min_7cf53_10 : decode cJ9_min_7cf53 10 = .ok (.ireturn, 1) := by decide +kernel
theorem dL_below_0 : decode cL_below 0 = .ok (.iload_n 0, 1) := by decide +kernel
theorem dL_below_1 : decode cL_below 1 = .ok (.ldc 7, 2) := by decide +kernel
theorem dL_below_3 : decode cL_below 3 = .ok (.iand, 1) := by decide +kernel
theorem dL_below_4 : decode cL_below 4 = .ok (.iload_n 1, 1) := by decide +kernel
theorem dL_below_5 : decode cL_below 5 = .ok (.irem, 1) := by decide +kernel
theorem dL_below_6 : decode cL_below 6 = .ok (.ireturn, 1) := by decide +kernel
theorem dL_cell_0 : decode cL_cell 0 = .ok (.iload_n 1, 1) := by decide +kernel
theorem dL_cell_1 : decode cL_cell 1 = .ok (.aload_n 0, 1) := by decide +kernel
theorem dL_cell_2 : decode cL_cell 2 = .ok (.arraylength, 1) := by decide +kernel
theorem dL_cell_3 : decode cL_cell 3 = .ok (.if_icmp .ge 9, 3) := by decide +kernel
theorem dL_cell_6 : decode cL_cell 6 = .ok (.aload_n 0, 1) := by decide +kernel
theorem dL_cell_7 : decode cL_cell 7 = .ok (.iload_n 1, 1) := by decide +kernel
theorem dL_cell_8 : decode cL_cell 8 = .ok (.iaload, 1) := by decide +kernel
theorem dL_cell_9 : decode cL_cell 9 = .ok (.goto 9, 3) := by decide +kernel
theorem dL_cell_12 : decode cL_cell 12 = .ok (.ldc 8, 2) := by decide +kernel
theorem dL_cell_14 : decode cL_cell 14 = .ok (.iload_n 1, 1) := by decide +kernel
theorem dL_cell_15 : decode cL_cell 15 = .ok (.iconst 3, 1) := by decide +kernel
theorem dL_cell_16 : decode cL_cell 16 = .ok (.iadd, 1) := by decide +kernel
theorem dL_cell_17 : decode cL_cell 17 = .ok (.imul, 1) := by decide +kernel
theorem dL_cell_18 : decode cL_cell 18 = .ok (.ireturn, 1) := by decide +kernel
theorem dL_isMended_0 : decode cL_isMended 0 = .ok (.iconst 2, 1) := by decide +kernel
theorem dL_isMended_1 : decode cL_isMended 1 = .ok (.aload_n 0, 1) := by decide +kernel
theorem dL_isMended_2 : decode cL_isMended 2 = .ok (.iconst 4, 1) := by decide +kernel
theorem dL_isMended_3 : decode cL_isMended 3 = .ok (.invokevirtual 25, 3) := by decide +kernel
theorem dL_isMended_6 : decode cL_isMended 6 = .ok (.iadd, 1) := by decide +kernel
theorem dL_isMended_7 : decode cL_isMended 7 = .ok (.istore_n 1, 1) := by decide +kernel
theorem dL_isMended_8 : decode cL_isMended 8 = .ok (.iconst 2, 1) := by decide +kernel
theorem dL_isMended_9 : decode cL_isMended 9 = .ok (.aload_n 0, 1) := by decide +kernel
theorem dL_isMended_10 : decode cL_isMended 10 = .ok (.iconst 4, 1) := by decide +kernel
theorem dL_isMended_11 : decode cL_isMended 11 = .ok (.invokevirtual 25, 3) := by decide +kernel
theorem dL_isMended_14 : decode cL_isMended 14 = .ok (.iadd, 1) := by decide +kernel
theorem dL_isMended_15 : decode cL_isMended 15 = .ok (.istore_n 2, 1) := by decide +kernel
theorem dL_isMended_16 : decode cL_isMended 16 = .ok (.aload_n 0, 1) := by decide +kernel
theorem dL_isMended_17 : decode cL_isMended 17 = .ok (.getfield 14, 3) := by decide +kernel
theorem dL_isMended_20 : decode cL_isMended 20 = .ok (.astore_n 3, 1) := by decide +kernel
theorem dL_isMended_21 : decode cL_isMended 21 = .ok (.iconst 0, 1) := by decide +kernel
theorem dL_isMended_22 : decode cL_isMended 22 = .ok (.istore 4, 2) := by decide +kernel
theorem dL_isMended_24 : decode cL_isMended 24 = .ok (.iload 4, 2) := by decide +kernel
theorem dL_isMended_26 : decode cL_isMended 26 = .ok (.bipush 64, 2) := by decide +kernel
theorem dL_isMended_28 : decode cL_isMended 28 = .ok (.if_icmp .ge 44, 3) := by decide +kernel
theorem dL_isMended_31 : decode cL_isMended 31 = .ok (.aload_n 3, 1) := by decide +kernel
theorem dL_isMended_32 : decode cL_isMended 32 = .ok (.iload 4, 2) := by decide +kernel
theorem dL_isMended_34 : decode cL_isMended 34 = .ok (.bipush 8, 2) := by decide +kernel
theorem dL_isMended_36 : decode cL_isMended 36 = .ok (.irem, 1) := by decide +kernel
theorem dL_isMended_37 : decode cL_isMended 37 = .ok (.iload 4, 2) := by decide +kernel
theorem dL_isMended_39 : decode cL_isMended 39 = .ok (.bipush 8, 2) := by decide +kernel
theorem dL_isMended_41 : decode cL_isMended 41 = .ok (.idiv, 1) := by decide +kernel
theorem dL_isMended_42 : decode cL_isMended 42 = .ok (.iload 4, 2) := by decide +kernel
theorem dL_isMended_44 : decode cL_isMended 44 = .ok (.bipush 8, 2) := by decide +kernel
theorem dL_isMended_46 : decode cL_isMended 46 = .ok (.iload_n 2, 1) := by decide +kernel
theorem dL_isMended_47 : decode cL_isMended 47 = .ok (.imul, 1) := by decide +kernel
