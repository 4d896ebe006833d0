theorem dX9_ofPlace_74 : decode cX9_ofPlace 74 = .ok (.getfield 9, 3) := by decide +kernel
theorem dX9_ofPlace_77 : decode cX9_ofPlace 77 = .ok (.iconst 3, 1) := by decide +kernel
theorem dX9_ofPlace_78 : decode cX9_ofPlace 78 = .ok (.iload 4, 2) := by decide +kernel
theorem dX9_ofPlace_80 : decode cX9_ofPlace 80 = .ok (.imul, 1) := by decide +kernel
theorem dX9_ofPlace_81 : decode cX9_ofPlace 81 = .ok (.iconst 2, 1) := by decide +kernel
theorem dX9_ofPlace_82 : decode cX9_ofPlace 82 = .ok (.iadd, 1) := by decide +kernel
theorem dX9_ofPlace_83 : decode cX9_ofPlace 83 = .ok (.iaload, 1) := by decide +kernel
theorem dX9_ofPlace_84 : decode cX9_ofPlace 84 = .ok (.iastore, 1) := by decide +kernel
theorem dX9_ofPlace_85 : decode cX9_ofPlace 85 = .ok (.dup, 1) := by decide +kernel
theorem dX9_ofPlace_86 : decode cX9_ofPlace 86 = .ok (.iconst 3, 1) := by decide +kernel
theorem dX9_ofPlace_87 : decode cX9_ofPlace 87 = .ok (.iload 4, 2) := by decide +kernel
theorem dX9_ofPlace_89 : decode cX9_ofPlace 89 = .ok (.invokestatic 67, 3) := by decide +kernel
theorem dX9_ofPlace_92 : decode cX9_ofPlace 92 = .ok (.iastore, 1) := by decide +kernel
theorem dX9_ofPlace_93 : decode cX9_ofPlace 93 = .ok (.dup, 1) := by decide +kernel
theorem dX9_ofPlace_94 : decode cX9_ofPlace 94 = .ok (.iconst 4, 1) := by decide +kernel
theorem dX9_ofPlace_95 : decode cX9_ofPlace 95 = .ok (.aload_n 0, 1) := by decide +kernel
theorem dX9_ofPlace_96 : decode cX9_ofPlace 96 = .ok (.getfield 16, 3) := by decide +kernel
theorem dX9_ofPlace_99 : decode cX9_ofPlace 99 = .ok (.iload 4, 2) := by decide +kernel
theorem dX9_ofPlace_101 : decode cX9_ofPlace 101 = .ok (.iaload, 1) := by decide +kernel
theorem dX9_ofPlace_102 : decode cX9_ofPlace 102 = .ok (.iastore, 1) := by decide +kernel
theorem dX9_ofPlace_103 : decode cX9_ofPlace 103 = .ok (.dup, 1) := by decide +kernel
theorem dX9_ofPlace_104 : decode cX9_ofPlace 104 = .ok (.iconst 5, 1) := by decide +kernel
theorem dX9_ofPlace_105 : decode cX9_ofPlace 105 = .ok (.aload_n 0, 1) := by decide +kernel
theorem dX9_ofPlace_106 : decode cX9_ofPlace 106 = .ok (.getfield 19, 3) := by decide +kernel
theorem dX9_ofPlace_109 : decode cX9_ofPlace 109 = .ok (.iload 4, 2) := by decide +kernel
theorem dX9_ofPlace_111 : decode cX9_ofPlace 111 = .ok (.baload, 1) := by decide +kernel
theorem dX9_ofPlace_112 : decode cX9_ofPlace 112 = .ok (.ifCond .eq 7, 3) := by decide +kernel
theorem dX9_ofPlace_115 : decode cX9_ofPlace 115 = .ok (.iconst 1, 1) := by decide +kernel
theorem dX9_ofPlace_116 : decode cX9_ofPlace 116 = .ok (.goto 4, 3) := by decide +kernel
theorem dX9_ofPlace_119 : decode cX9_ofPlace 119 = .ok (.iconst 0, 1) := by decide +kernel
theorem dX9_ofPlace_120 : decode cX9_ofPlace 120 = .ok (.iastore, 1) := by decide +kernel
theorem dX9_ofPlace_121 : decode cX9_ofPlace 121 = .ok (.astore 5, 2) := by decide +kernel
theorem dX9_ofPlace_123 : decode cX9_ofPlace 123 = .ok (.aload 5, 2) := by decide +kernel
theorem dX9_ofPlace_125 : decode cX9_ofPlace 125 = .ok (.iload_n 3, 1) := by decide +kernel
theorem dX9_ofPlace_126 : decode cX9_ofPlace 126 = .ok (.iaload, 1) := by decide +kernel
theorem dX9_ofPlace_127 : decode cX9_ofPlace 127 = .ok (.ireturn, 1) := by decide +kernel
theorem dX9_manyNow_0 : decode cX9_manyNow 0 = .ok (.iconst 0, 1) := by decide +kernel
theorem dX9_manyNow_1 : decode cX9_manyNow 1 = .ok (.istore_n 2, 1) := by decide +kernel
theorem dX9_manyNow_2 : decode cX9_manyNow 2 = .ok (.iconst 0, 1) := by decide +kernel
theorem dX9_manyNow_3 : decode cX9_manyNow 3 = .ok (.istore_n 3, 1) := by decide +kernel
theorem dX9_manyNow_4 : decode cX9_manyNow 4 = .ok (.iconst 0, 1) := by decide +kernel
theorem dX9_manyNow_5 : decode cX9_manyNow 5 = .ok (.istore 4, 2) := by decide +kernel
theorem dX9_manyNow_7 : decode cX9_manyNow 7 = .ok (.iconst 0, 1) := by decide +kernel
theorem dX9_manyNow_8 : decode cX9_manyNow 8 = .ok (.istore 5, 2) := by decide +kernel
theorem dX9_manyNow_10 : decode cX9_manyNow 10 = .ok (.iload 5, 2) := by decide +kernel
theorem dX9_manyNow_12 : decode cX9_manyNow 12 = .ok (.aload_n 0, 1) := by decide +kernel
theorem dX9_manyNow_13 : decode cX9_manyNow 13 = .ok (.getfield 26, 3) := by decide +kernel
theorem dX9_manyNow_16 : decode cX9_manyNow 16 = .ok (.invokeinterface 41 1, 5) := by decide +kernel
theorem dX9_manyNow_21 : decode cX9_manyNow 21 = .ok (.if_icmp .ge 34, 3) := by decide +kernel
theorem dX9_manyNow_24 : decode cX9_manyNow 24 = .ok (.iload_n 2, 1) := by decide +kernel
theorem dX9_manyNow_25 : decode cX9_manyNow 25 = .ok (.aload_n 0, 1) := by decide +kernel
theorem dX9_manyNow_26 : decode cX9_manyNow 26 = .ok (.getfield 26, 3) := by decide +kernel
theorem dX9_manyNow_29 : decode cX9_manyNow 29 = .ok (.iload 5, 2) := by decide +kernel
theorem dX9_manyNow_31 : decode cX9_manyNow 31 = .ok (.invokeinterface 93 2, 5) := by decide +kernel
theorem dX9_manyNow_36 : decode cX9_manyNow 36 = .ok (.checkcast 80, 3) := by decide +kernel
theorem dX9_manyNow_39 : decode cX9_manyNow 39 = .ok (.getfield 119, 3) := by decide +kernel
theorem dX9_manyNow_42 : decode cX9_manyNow 42 = .ok (.invokeinterface 41 1, 5) := by decide +kernel
theorem dX9_manyNow_47 : decode cX9_manyNow 47 = .ok (.iadd, 1) := by decide +kernel
theorem dX9_manyNow_48 : decode cX9_manyNow 48 = .ok (.istore_n 2, 1) := by decide +kernel
theorem dX9_manyNow_49 : decode cX9_manyNow 49 = .ok (.iinc 5 1, 3) := by decide +kernel
theorem dX9_manyNow_52 : decode cX9_manyNow 52 = .ok (.goto (-42), 3) := by decide +kernel
theorem dX9_manyNow_55 : decode cX9_manyNow 55 = .ok (.iconst 0, 1) := by decide +kernel
theorem dX9_manyNow_56 : decode cX9_manyNow 56 = .ok (.istore 5, 2) := by decide +kernel
theorem dX9_manyNow_58 : decode cX9_manyNow 58 = .ok (.iload 5, 2) := by decide +kernel
theorem dX9_manyNow_60 : decode cX9_manyNow 60 = .ok (.bipush 64, 2) := by decide +kernel
theorem dX9_manyNow_62 : decode cX9_manyNow 62 = .ok (.if_icmp .ge 57, 3) := by decide +kernel
theorem dX9_manyNow_65 : decode cX9_manyNow 65 = .ok (.iload_n 3, 1) := by decide +kernel
theorem dX9_manyNow_66 : decode cX9_manyNow 66 = .ok (.aload_n 0, 1) := by decide +kernel
theorem dX9_manyNow_67 : decode cX9_manyNow 67 = .ok (.getfield 16, 3) := by decide +kernel
theorem dX9_manyNow_70 : decode cX9_manyNow 70 = .ok (.iload 5, 2) := by decide +kernel
theorem dX9_manyNow_72 : decode cX9_manyNow 72 = .ok (.iaload, 1) := by decide +kernel
theorem dX9_manyNow_73 : decode cX9_manyNow 73 = .ok (.ifCond .ne 7, 3) := by decide +kernel
theorem dX9_manyNow_76 : decode cX9_manyNow 76 = .ok (.iconst 0, 1) := by decide +kernel
theorem dX9_manyNow_77 : decode cX9_manyNow 77 = .ok (.goto 4, 3) := by decide +kernel
theorem dX9_manyNow_80 : decode cX9_manyNow 80 = .ok (.iconst 1, 1) := by decide +kernel
theorem dX9_manyNow_81 : decode cX9_manyNow 81 = .ok (.iadd, 1) := by decide +kernel
theorem dX9_manyNow_82 : decode cX9_manyNow 82 = .ok (.istore_n 3, 1) := by decide +kernel
theorem dX9_manyNow_83 : decode cX9_manyNow 83 = .ok (.iload 4, 2) := by decide +kernel
theorem dX9_manyNow_85 : decode cX9_manyNow 85 = .ok (.aload_n 0, 1) := by decide +kernel
theorem dX9_manyNow_86 : decode cX9_manyNow 86 = .ok (.getfield 16, 3) := by decide +kernel
theorem dX9_manyNow_89 : decode cX9_manyNow 89 = .ok (.iload 5, 2) := by decide +kernel
theorem dX9_manyNow_91 : decode cX9_manyNow 91 = .ok (.iaload, 1) := by decide +kernel
theorem dX9_manyNow_92 : decode cX9_manyNow 92 = .ok (.ifCond .eq 13, 3) := by decide +kernel
theorem dX9_manyNow_95 : decode cX9_manyNow 95 = .ok (.aload_n 0, 1) := by decide +kernel
theorem dX9_manyNow_96 : decode cX9_manyNow 96 = .ok (.getfield 19, 3) := by decide +kernel
theorem dX9_manyNow_99 : decode cX9_manyNow 99 = .ok (.iload 5, 2) := by decide +kernel
theorem dX9_manyNow_101 : decode cX9_manyNow 101 = .ok (.baload, 1) := by decide +kernel
theorem dX9_manyNow_102 : decode cX9_manyNow 102 = .ok (.ifCond .eq 7, 3) := by decide +kernel
theorem dX9_manyNow_105 : decode cX9_manyNow 105 = .ok (.iconst 0, 1) := by decide +kernel
theorem dX9_manyNow_106 : decode cX9_manyNow 106 = .ok (.goto 4, 3) := by decide +kernel
theorem dX9_manyNow_109 : decode cX9_manyNow 109 = .ok (.iconst 1, 1) := by decide +kernel
theorem dX9_manyNow_110 : decode cX9_manyNow 110 = .ok (.iadd, 1) := by decide +kernel
theorem dX9_manyNow_111 : decode cX9_manyNow 111 = .ok (.istore 4, 2) := by decide +kernel
theorem dX9_manyNow_113 : decode cX9_manyNow 113 = .ok (.iinc 5 1, 3) := by decide +kernel
theorem dX9_manyNow_116 : decode cX9_manyNow 116 = .ok (.goto (-58), 3) := by decide +kernel
theorem dX9_manyNow_119 : decode cX9_manyNow 119 = .ok (.bipush 7, 2) := by decide +kernel
theorem dX9_manyNow_121 : decode cX9_manyNow 121 = .ok (.newarray .int, 2) := by decide +kernel
theorem dX9_manyNow_123 : decode cX9_manyNow 123 = .ok (.dup, 1) := by decide +kernel
theorem dX9_manyNow_124 : decode cX9_manyNow 124 = .ok (.iconst 0, 1) := by decide +kernel
theorem dX9_manyNow_125 : decode cX9_manyNow 125 = .ok (.aload_n 0, 1) := by decide +kernel
theorem dX9_manyNow_126 : decode cX9_manyNow 126 = .ok (.getfield 26, 3) := by decide +kernel
theorem dX9_manyNow_129 : decode cX9_manyNow 129 = .ok (.invokeinterface 41 1, 5) := by decide +kernel
theorem dX9_manyNow_134 : decode cX9_manyNow 134 = .ok (.iastore, 1) := by decide +kernel
theorem dX9_manyNow_135 : decode cX9_manyNow 135 = .ok (.dup, 1) := by decide +kernel
theorem dX9_manyNow_136 : decode cX9_manyNow 136 = .ok (.iconst 1, 1) := by decide +kernel
theorem dX9_manyNow_137 : decode cX9_manyNow 137 = .ok (.aload_n 0, 1) := by decide +kernel
theorem dX9_manyNow_138 : decode cX9_manyNow 138 = .ok (.getfield 30, 3) := by decide +kernel
theorem dX9_manyNow_141 : decode cX9_manyNow 141 = .ok (.invokeinterface 41 1, 5) := by decide +kernel
theorem dX9_manyNow_146 : decode cX9_manyNow 146 = .ok (.iastore, 1) := by decide +kernel
theorem dX9_manyNow_147 : decode cX9_manyNow 147 = .ok (.dup, 1) := by decide +kernel
theorem dX9_manyNow_148 : decode cX9_manyNow 148 = .ok (.iconst 2, 1) := by decide +kernel
theorem dX9_manyNow_149 : decode cX9_manyNow 149 = .ok (.aload_n 0, 1) := by decide +kernel
theorem dX9_manyNow_150 : decode cX9_manyNow 150 = .ok (.invokevirtual 61, 3) := by decide +kernel
theorem dX9_manyNow_153 : decode cX9_manyNow 153 = .ok (.iastore, 1) := by decide +kernel
theorem dX9_manyNow_154 : decode cX9_manyNow 154 = .ok (.dup, 1) := by decide +kernel
theorem dX9_manyNow_155 : decode cX9_manyNow 155 = .ok (.iconst 3, 1) := by decide +kernel
theorem dX9_manyNow_156 : decode cX9_manyNow 156 = .ok (.aload_n 0, 1) := by decide +kernel
theorem dX9_manyNow_157 : decode cX9_manyNow 157 = .ok (.getfield 64, 3) := by decide +kernel
theorem dX9_manyNow_160 : decode cX9_manyNow 160 = .ok (.iastore, 1) := by decide +kernel
theorem dX9_manyNow_161 : decode cX9_manyNow 161 = .ok (.dup, 1) := by decide +kernel
theorem dX9_manyNow_162 : decode cX9_manyNow 162 = .ok (.iconst 4, 1) := by decide +kernel
theorem dX9_manyNow_163 : decode cX9_manyNow 163 = .ok (.iload_n 2, 1) := by decide +kernel
theorem dX9_manyNow_164 : decode cX9_manyNow 164 = .ok (.iastore, 1) := by decide +kernel
theorem dX9_manyNow_165 : decode cX9_manyNow 165 = .ok (.dup, 1) := by decide +kernel
theorem dX9_manyNow_166 : decode cX9_manyNow 166 = .ok (.iconst 5, 1) := by decide +kernel
theorem dX9_manyNow_167 : decode cX9_manyNow 167 = .ok (.iload_n 3, 1) := by decide +kernel
theorem dX9_manyNow_168 : decode cX9_manyNow 168 = .ok (.iastore, 1) := by decide +kernel
theorem dX9_manyNow_169 : decode cX9_manyNow 169 = .ok (.dup, 1) := by decide +kernel
theorem dX9_manyNow_170 : decode cX9_manyNow 170 = .ok (.bipush 6, 2) := by decide +kernel
theorem dX9_manyNow_172 : decode cX9_manyNow 172 = .ok (.iload 4, 2) := by decide +kernel
theorem dX9_manyNow_174 : decode cX9_manyNow 174 = .ok (.iastore, 1) := by decide +kernel
theorem dX9_manyNow_175 : decode cX9_manyNow 175 = .ok (.astore 5, 2) := by decide +kernel
theorem dX9_manyNow_177 : decode cX9_manyNow 177 = .ok (.aload 5, 2) := by decide +kernel
theorem dX9_manyNow_179 : decode cX9_manyNow 179 = .ok (.iload_n 1, 1) := by decide +kernel
theorem dX9_manyNow_180 : decode cX9_manyNow 180 = .ok (.iaload, 1) := by decide +kernel
theorem dX9_manyNow_181 : decode cX9_manyNow 181 = .ok (.ireturn, 1) := by decide +kernel
theorem dX9_many_0 : decode cX9_many 0 = .ok (.aload_n 0, 1) := by decide +kernel
theorem dX9_many_1 : decode cX9_many 1 = .ok (.iconst 0, 1) := by decide +kernel
theorem dX9_many_2 : decode cX9_many 2 = .ok (.putfield 33, 3) := by decide +kernel
theorem dX9_many_5 : decode cX9_many 5 = .ok (.iload_n 1, 1) := by decide +kernel
theorem dX9_many_6 : decode cX9_many 6 = .ok (.iconst 0, 1) := by decide +kernel
theorem dX9_many_7 : decode cX9_many 7 = .ok (.bipush 6, 2) := by decide +kernel
theorem dX9_many_9 : decode cX9_many 9 = .ok (.invokestatic 37, 3) := by decide +kernel
theorem dX9_many_12 : decode cX9_many 12 = .ok (.ifCond .ne 9, 3) := by decide +kernel
theorem dX9_many_15 : decode cX9_many 15 = .ok (.aload_n 0, 1) := by decide +kernel
theorem dX9_many_16 : decode cX9_many 16 = .ok (.iconst 1, 1) := by decide +kernel
theorem dX9_many_17 : decode cX9_many 17 = .ok (.invokevirtual 51, 3) := by decide +kernel
theorem dX9_many_20 : decode cX9_many 20 = .ok (.ireturn, 1) := by decide +kernel
theorem dX9_many_21 : decode cX9_many 21 = .ok (.aload_n 0, 1) := by decide +kernel
theorem dX9_many_22 : decode cX9_many 22 = .ok (.iload_n 1, 1) := by decide +kernel
theorem dX9_many_23 : decode cX9_many 23 = .ok (.invokevirtual 198, 3) := by decide +kernel
theorem dX9_many_26 : decode cX9_many 26 = .ok (.ireturn, 1) := by decide +kernel
theorem dX9_apart_0 : decode cX9_apart 0 = .ok (.aload_n 0, 1) := by decide +kernel
theorem dX9_apart_1 : decode cX9_apart 1 = .ok (.iconst 0, 1) := by decide +kernel
theorem dX9_apart_2 : decode cX9_apart 2 = .ok (.putfield 33, 3) := by decide +kernel
theorem dX9_apart_5 : decode cX9_apart 5 = .ok (.aload_n 0, 1) := by decide +kernel
theorem dX9_apart_6 : decode cX9_apart 6 = .ok (.iload_n 1, 1) := by decide +kernel
theorem dX9_apart_7 : decode cX9_apart 7 = .ok (.invokevirtual 112, 3) := by decide +kernel
theorem dX9_apart_10 : decode cX9_apart 10 = .ok (.ifCond .eq 11, 3) := by decide +kernel
theorem dX9_apart_13 : decode cX9_apart 13 = .ok (.aload_n 0, 1) := by decide +kernel
theorem dX9_apart_14 : decode cX9_apart 14 = .ok (.iload_n 2, 1) := by decide +kernel
theorem dX9_apart_15 : decode cX9_apart 15 = .ok (.invokevirtual 112, 3) := by decide +kernel
theorem dX9_apart_18 : decode cX9_apart 18 = .ok (.ifCond .ne 10, 3) := by decide +kernel
theorem dX9_apart_21 : decode cX9_apart 21 = .ok (.aload_n 0, 1) := by decide +kernel
theorem dX9_apart_22 : decode cX9_apart 22 = .ok (.iconst 1, 1) := by decide +kernel
theorem dX9_apart_23 : decode cX9_apart 23 = .ok (.invokevirtual 51, 3) := by decide +kernel
theorem dX9_apart_26 : decode cX9_apart 26 = .ok (.i2d, 1) := by decide +kernel
theorem dX9_apart_27 : decode cX9_apart 27 = .ok (.dreturn, 1) := by decide +kernel
theorem dX9_apart_28 : decode cX9_apart 28 = .ok (.aload_n 0, 1) := by decide +kernel
theorem dX9_apart_29 : decode cX9_apart 29 = .ok (.iload_n 1, 1) := by decide +kernel
theorem dX9_apart_30 : decode cX9_apart 30 = .ok (.invokevirtual 165, 3) := by decide +kernel
theorem dX9_apart_33 : decode cX9_apart 33 = .ok (.astore_n 3, 1) := by decide +kernel
theorem dX9_apart_34 : decode cX9_apart 34 = .ok (.aload_n 0, 1) := by decide +kernel
theorem dX9_apart_35 : decode cX9_apart 35 = .ok (.iload_n 2, 1) := by decide +kernel
theorem dX9_apart_36 : decode cX9_apart 36 = .ok (.invokevirtual 165, 3) := by decide +kernel
theorem dX9_apart_39 : decode cX9_apart 39 = .ok (.astore 4, 2) := by decide +kernel
theorem dX9_apart_41 : decode cX9_apart 41 = .ok (.fconst 0, 1) := by decide +kernel
theorem dX9_apart_42 : decode cX9_apart 42 = .ok (.fstore 5, 2) := by decide +kernel
theorem dX9_apart_44 : decode cX9_apart 44 = .ok (.iconst 0, 1) := by decide +kernel
theorem dX9_apart_45 : decode cX9_apart 45 = .ok (.istore 6, 2) := by decide +kernel
theorem dX9_apart_47 : decode cX9_apart 47 = .ok (.iload 6, 2) := by decide +kernel
theorem dX9_apart_49 : decode cX9_apart 49 = .ok (.aload_n 3, 1) := by decide +kernel
theorem dX9_apart_50 : decode cX9_apart 50 = .ok (.arraylength, 1) := by decide +kernel
theorem dX9_apart_51 : decode cX9_apart 51 = .ok (.if_icmp .ge 29, 3) := by decide +kernel
theorem dX9_apart_54 : decode cX9_apart 54 = .ok (.fload 5, 2) := by decide +kernel
theorem dX9_apart_56 : decode cX9_apart 56 = .ok (.aload_n 3, 1) := by decide +kernel
theorem dX9_apart_57 : decode cX9_apart 57 = .ok (.iload 6, 2) := by decide +kernel
theorem dX9_apart_59 : decode cX9_apart 59 = .ok (.faload, 1) := by decide +kernel
theorem dX9_apart_60 : decode cX9_apart 60 = .ok (.aload 4, 2) := by decide +kernel
theorem dX9_apart_62 : decode cX9_apart 62 = .ok (.iload 6, 2) := by decide +kernel
theorem dX9_apart_64 : decode cX9_apart 64 = .ok (.faload, 1) := by decide +kernel
theorem dX9_apart_65 : decode cX9_apart 65 = .ok (.fsub, 1) := by decide +kernel
theorem dX9_apart_66 : decode cX9_apart 66 = .ok (.invokestatic 201, 3) := by decide +kernel
theorem dX9_apart_69 : decode cX9_apart 69 = .ok (.invokestatic 138, 3) := by decide +kernel
theorem dX9_apart_72 : decode cX9_apart 72 = .ok (.fstore 5, 2) := by decide +kernel
theorem dX9_apart_74 : decode cX9_apart 74 = .ok (.iinc 6 1, 3) := by decide +kernel
theorem dX9_apart_77 : decode cX9_apart 77 = .ok (.goto (-30), 3) := by decide +kernel
theorem dX9_apart_80 : decode cX9_apart 80 = .ok (.fload 5, 2) := by decide +kernel
theorem dX9_apart_82 : decode cX9_apart 82 = .ok (.f2d, 1) := by decide +kernel
theorem dX9_apart_83 : decode cX9_apart 83 = .ok (.dreturn, 1) := by decide +kernel
theorem dX9_wouldClip_0 : decode cX9_wouldClip 0 = .ok (.aload_n 0, 1) := by decide +kernel
theorem dX9_wouldClip_1 : decode cX9_wouldClip 1 = .ok (.iconst 0, 1) := by decide +kernel
theorem dX9_wouldClip_2 : decode cX9_wouldClip 2 = .ok (.putfield 33, 3) := by decide +kernel
theorem dX9_wouldClip_5 : decode cX9_wouldClip 5 = .ok (.iload_n 1, 1) := by decide +kernel
theorem dX9_wouldClip_6 : decode cX9_wouldClip 6 = .ok (.iconst 1, 1) := by decide +kernel
theorem dX9_wouldClip_7 : decode cX9_wouldClip 7 = .ok (.bipush 64, 2) := by decide +kernel
theorem dX9_wouldClip_9 : decode cX9_wouldClip 9 = .ok (.invokestatic 37, 3) := by decide +kernel
theorem dX9_wouldClip_12 : decode cX9_wouldClip 12 = .ok (.ifCond .eq 13, 3) := by decide +kernel
theorem dX9_wouldClip_15 : decode cX9_wouldClip 15 = .ok (.iload_n 2, 1) := by decide +kernel
theorem dX9_wouldClip_16 : decode cX9_wouldClip 16 = .ok (.iconst 1, 1) := by decide +kernel
theorem dX9_wouldClip_17 : decode cX9_wouldClip 17 = .ok (.bipush 8, 2) := by decide +kernel
theorem dX9_wouldClip_19 : decode cX9_wouldClip 19 = .ok (.invokestatic 37, 3) := by decide +kernel
theorem dX9_wouldClip_22 : decode cX9_wouldClip 22 = .ok (.ifCond .ne 9, 3) := by decide +kernel
theorem dX9_wouldClip_25 : decode cX9_wouldClip 25 = .ok (.aload_n 0, 1) := by decide +kernel
theorem dX9_wouldClip_26 : decode cX9_wouldClip 26 = .ok (.iconst 1, 1) := by decide +kernel
theorem dX9_wouldClip_27 : decode cX9_wouldClip 27 = .ok (.invokevirtual 51, 3) := by decide +kernel
theorem dX9_wouldClip_30 : decode cX9_wouldClip 30 = .ok (.ireturn, 1) := by decide +kernel
theorem dX9_wouldClip_31 : decode cX9_wouldClip 31 = .ok (.aload_n 0, 1) := by decide +kernel
theorem dX9_wouldClip_32 : decode cX9_wouldClip 32 = .ok (.iload_n 1, 1) := by decide +kernel
theorem dX9_wouldClip_33 : decode cX9_wouldClip 33 = .ok (.iload_n 2, 1) := by decide +kernel
theorem dX9_wouldClip_34 : decode cX9_wouldClip 34 = .ok (.iconst 0, 1) := by decide +kernel
theorem dX9_wouldClip_35 : decode cX9_wouldClip 35 = .ok (.invokevirtual 85, 3) := by decide +kernel
theorem dX9_wouldClip_38 : decode cX9_wouldClip 38 = .ok (.invokevirtual 172, 3) := by decide +kernel
theorem dX9_wouldClip_41 : decode cX9_wouldClip 41 = .ok (.ireturn, 1) := by decide +kernel
theorem dX9_bestTake_0 : decode cX9_bestTake 0 = .ok (.aload_n 0, 1) := by decide +kernel
theorem dX9_bestTake_1 : decode cX9_bestTake 1 = .ok (.iconst 0, 1) := by decide +kernel
theorem dX9_bestTake_2 : decode cX9_bestTake 2 = .ok (.putfield 33, 3) := by decide +kernel
theorem dX9_bestTake_5 : decode cX9_bestTake 5 = .ok (.iload_n 1, 1) := by decide +kernel
theorem dX9_bestTake_6 : decode cX9_bestTake 6 = .ok (.iconst 0, 1) := by decide +kernel
theorem dX9_bestTake_7 : decode cX9_bestTake 7 = .ok (.sipush 255, 3) := by decide +kernel
theorem dX9_bestTake_10 : decode cX9_bestTake 10 = .ok (.invokestatic 37, 3) := by decide +kernel
theorem dX9_bestTake_13 : decode cX9_bestTake 13 = .ok (.ifCond .ne 9, 3) := by decide +kernel
theorem dX9_bestTake_16 : decode cX9_bestTake 16 = .ok (.aload_n 0, 1) := by decide +kernel
theorem dX9_bestTake_17 : decode cX9_bestTake 17 = .ok (.iconst 1, 1) := by decide +kernel
theorem dX9_bestTake_18 : decode cX9_bestTake 18 = .ok (.invokevirtual 51, 3) := by decide +kernel
theorem dX9_bestTake_21 : decode cX9_bestTake 21 = .ok (.ireturn, 1) := by decide +kernel
theorem dX9_bestTake_22 : decode cX9_bestTake 22 = .ok (.iconst 0, 1) := by decide +kernel
theorem dX9_bestTake_23 : decode cX9_bestTake 23 = .ok (.istore_n 2, 1) := by decide +kernel
theorem dX9_bestTake_24 : decode cX9_bestTake 24 = .ok (.dconst 0, 1) := by decide +kernel
theorem dX9_bestTake_25 : decode cX9_bestTake 25 = .ok (.dstore_n 3, 1) := by decide +kernel
theorem dX9_bestTake_26 : decode cX9_bestTake 26 = .ok (.iconst 1, 1) := by decide +kernel
theorem dX9_bestTake_27 : decode cX9_bestTake 27 = .ok (.istore 5, 2) := by decide +kernel
theorem dX9_bestTake_29 : decode cX9_bestTake 29 = .ok (.iload 5, 2) := by decide +kernel
theorem dX9_bestTake_31 : decode cX9_bestTake 31 = .ok (.bipush 8, 2) := by decide +kernel
theorem dX9_bestTake_33 : decode cX9_bestTake 33 = .ok (.if_icmp .gt 74, 3) := by decide +kernel
theorem dX9_bestTake_36 : decode cX9_bestTake 36 = .ok (.iconst 1, 1) := by decide +kernel
theorem dX9_bestTake_37 : decode cX9_bestTake 37 = .ok (.istore 6, 2) := by decide +kernel
theorem dX9_bestTake_39 : decode cX9_bestTake 39 = .ok (.iload 6, 2) := by decide +kernel
theorem dX9_bestTake_41 : decode cX9_bestTake 41 = .ok (.bipush 64, 2) := by decide +kernel
theorem dX9_bestTake_43 : decode cX9_bestTake 43 = .ok (.if_icmp .gt 58, 3) := by decide +kernel
theorem dX9_bestTake_46 : decode cX9_bestTake 46 = .ok (.aload_n 0, 1) := by decide +kernel
theorem dX9_bestTake_47 : decode cX9_bestTake 47 = .ok (.iload 6, 2) := by decide +kernel
theorem dX9_bestTake_49 : decode cX9_bestTake 49 = .ok (.iload 5, 2) := by decide +kernel
theorem dX9_bestTake_51 : decode cX9_bestTake 51 = .ok (.iconst 0, 1) := by decide +kernel
theorem dX9_bestTake_52 : decode cX9_bestTake 52 = .ok (.invokevirtual 85, 3) := by decide +kernel
theorem dX9_bestTake_55 : decode cX9_bestTake 55 = .ok (.invokevirtual 188, 3) := by decide +kernel
theorem dX9_bestTake_58 : decode cX9_bestTake 58 = .ok (.iload_n 1, 1) := by decide +kernel
theorem dX9_bestTake_59 : decode cX9_bestTake 59 = .ok (.i2d, 1) := by decide +kernel
theorem dX9_bestTake_60 : decode cX9_bestTake 60 = .ok (.dsub, 1) := by decide +kernel
theorem dX9_bestTake_61 : decode cX9_bestTake 61 = .ok (.invokestatic 204, 3) := by decide +kernel
theorem dX9_bestTake_64 : decode cX9_bestTake 64 = .ok (.dstore 7, 2) := by decide +kernel
theorem dX9_bestTake_66 : decode cX9_bestTake 66 = .ok (.iload_n 2, 1) := by decide +kernel
theorem dX9_bestTake_67 : decode cX9_bestTake 67 = .ok (.ifCond .le 13, 3) := by decide +kernel
theorem dX9_bestTake_70 : decode cX9_bestTake 70 = .ok (.dload 7, 2) := by decide +kernel
theorem dX9_bestTake_72 : decode cX9_bestTake 72 = .ok (.dload_n 3, 1) := by decide +kernel
theorem dX9_bestTake_73 : decode cX9_bestTake 73 = .ok (.dcmp .l, 1) := by decide +kernel
theorem dX9_bestTake_74 : decode cX9_bestTake 74 = .ok (.ifCond .lt 6, 3) := by decide +kernel
theorem dX9_bestTake_77 : decode cX9_bestTake 77 = .ok (.goto 15, 3) := by decide +kernel
theorem dX9_bestTake_80 : decode cX9_bestTake 80 = .ok (.bipush 16, 2) := by decide +kernel
theorem dX9_bestTake_82 : decode cX9_bestTake 82 = .ok (.iload 6, 2) := by decide +kernel
theorem dX9_bestTake_84 : decode cX9_bestTake 84 = .ok (.imul, 1) := by decide +kernel
theorem dX9_bestTake_85 : decode cX9_bestTake 85 = .ok (.iload 5, 2) := by decide +kernel
theorem dX9_bestTake_87 : decode cX9_bestTake 87 = .ok (.iadd, 1) := by decide +kernel
theorem dX9_bestTake_88 : decode cX9_bestTake 88 = .ok (.istore_n 2, 1) := by decide +kernel
theorem dX9_bestTake_89 : decode cX9_bestTake 89 = .ok (.dload 7, 2) := by decide +kernel
theorem dX9_bestTake_91 : decode cX9_bestTake 91 = .ok (.dstore_n 3, 1) := by decide +kernel
theorem dX9_bestTake_92 : decode cX9_bestTake 92 = .ok (.iload 6, 2) := by decide +kernel
theorem dX9_bestTake_94 : decode cX9_bestTake 94 = .ok (.iconst 2, 1) := by decide +kernel
theorem dX9_bestTake_95 : decode cX9_bestTake 95 = .ok (.imul, 1) := by decide +kernel
theorem dX9_bestTake_96 : decode cX9_bestTake 96 = .ok (.istore 6, 2) := by decide +kernel
theorem dX9_bestTake_98 : decode cX9_bestTake 98 = .ok (.goto (-59), 3) := by decide +kernel
theorem dX9_bestTake_101 : decode cX9_bestTake 101 = .ok (.iinc 5 1, 3) := by decide +kernel
theorem dX9_bestTake_104 : decode cX9_bestTake 104 = .ok (.goto (-75), 3) := by decide +kernel
theorem dX9_bestTake_107 : decode cX9_bestTake 107 = .ok (.iload_n 2, 1) := by decide +kernel
theorem dX9_bestTake_108 : decode cX9_bestTake 108 = .ok (.ireturn, 1) := by decide +kernel
theorem dX9_bestWhite_0 : decode cX9_bestWhite 0 = .ok (.aload_n 0, 1) := by decide +kernel
theorem dX9_bestWhite_1 : decode cX9_bestWhite 1 = .ok (.iconst 0, 1) := by decide +kernel
theorem dX9_bestWhite_2 : decode cX9_bestWhite 2 = .ok (.putfield 33, 3) := by decide +kernel
theorem dX9_bestWhite_5 : decode cX9_bestWhite 5 = .ok (.aload_n 0, 1) := by decide +kernel
theorem dX9_bestWhite_6 : decode cX9_bestWhite 6 = .ok (.iload_n 1, 1) := by decide +kernel
theorem dX9_bestWhite_7 : decode cX9_bestWhite 7 = .ok (.invokevirtual 112, 3) := by decide +kernel
theorem dX9_bestWhite_10 : decode cX9_bestWhite 10 = .ok (.ifCond .ne 9, 3) := by decide +kernel
theorem dX9_bestWhite_13 : decode cX9_bestWhite 13 = .ok (.aload_n 0, 1) := by decide +kernel
theorem dX9_bestWhite_14 : decode cX9_bestWhite 14 = .ok (.iconst 1, 1) := by decide +kernel
theorem dX9_bestWhite_15 : decode cX9_bestWhite 15 = .ok (.invokevirtual 51, 3) := by decide +kernel
theorem dX9_bestWhite_18 : decode cX9_bestWhite 18 = .ok (.ireturn, 1) := by decide +kernel
theorem dX9_bestWhite_19 : decode cX9_bestWhite 19 = .ok (.iload_n 2, 1) := by decide +kernel
theorem dX9_bestWhite_20 : decode cX9_bestWhite 20 = .ok (.iconst 1, 1) := by decide +kernel
theorem dX9_bestWhite_21 : decode cX9_bestWhite 21 = .ok (.iconst 2, 1) := by decide +kernel
theorem dX9_bestWhite_22 : decode cX9_bestWhite 22 = .ok (.invokestatic 37, 3) := by decide +kernel
theorem dX9_bestWhite_25 : decode cX9_bestWhite 25 = .ok (.ifCond .ne 9, 3) := by decide +kernel
theorem dX9_bestWhite_28 : decode cX9_bestWhite 28 = .ok (.aload_n 0, 1) := by decide +kernel
theorem dX9_bestWhite_29 : decode cX9_bestWhite 29 = .ok (.iconst 2, 1) := by decide +kernel
theorem dX9_bestWhite_30 : decode cX9_bestWhite 30 = .ok (.invokevirtual 51, 3) := by decide +kernel
theorem dX9_bestWhite_33 : decode cX9_bestWhite 33 = .ok (.ireturn, 1) := by decide +kernel
theorem dX9_bestWhite_34 : decode cX9_bestWhite 34 = .ok (.aload_n 0, 1) := by decide +kernel
theorem dX9_bestWhite_35 : decode cX9_bestWhite 35 = .ok (.getfield 26, 3) := by decide +kernel
theorem dX9_bestWhite_38 : decode cX9_bestWhite 38 = .ok (.iload_n 1, 1) := by decide +kernel
theorem dX9_bestWhite_39 : decode cX9_bestWhite 39 = .ok (.invokeinterface 93 2, 5) := by decide +kernel
theorem dX9_bestWhite_44 : decode cX9_bestWhite 44 = .ok (.checkcast 80, 3) := by decide +kernel
theorem dX9_bestWhite_47 : decode cX9_bestWhite 47 = .ok (.astore_n 3, 1) := by decide +kernel
theorem dX9_bestWhite_48 : decode cX9_bestWhite 48 = .ok (.iconst 0, 1) := by decide +kernel
theorem dX9_bestWhite_49 : decode cX9_bestWhite 49 = .ok (.istore 4, 2) := by decide +kernel
theorem dX9_bestWhite_51 : decode cX9_bestWhite 51 = .ok (.iconst 0, 1) := by decide +kernel
theorem dX9_bestWhite_52 : decode cX9_bestWhite 52 = .ok (.istore 5, 2) := by decide +kernel
theorem dX9_bestWhite_54 : decode cX9_bestWhite 54 = .ok (.iconst 1, 1) := by decide +kernel
theorem dX9_bestWhite_55 : decode cX9_bestWhite 55 = .ok (.istore 6, 2) := by decide +kernel
theorem dX9_bestWhite_57 : decode cX9_bestWhite 57 = .ok (.iload 6, 2) := by decide +kernel
theorem dX9_bestWhite_59 : decode cX9_bestWhite 59 = .ok (.bipush 16, 2) := by decide +kernel
theorem dX9_bestWhite_61 : decode cX9_bestWhite 61 = .ok (.if_icmp .gt 180, 3) := by decide +kernel
theorem dX9_bestWhite_64 : decode cX9_bestWhite 64 = .ok (.new 23, 3) := by decide +kernel
theorem dX9_bestWhite_67 : decode cX9_bestWhite 67 = .ok (.dup, 1) := by decide +kernel
theorem dX9_bestWhite_68 : decode cX9_bestWhite 68 = .ok (.invokespecial 25, 3) := by decide +kernel
theorem dX9_bestWhite_71 : decode cX9_bestWhite 71 = .ok (.astore 7, 2) := by decide +kernel
theorem dX9_bestWhite_73 : decode cX9_bestWhite 73 = .ok (.iconst 0, 1) := by decide +kernel
theorem dX9_bestWhite_74 : decode cX9_bestWhite 74 = .ok (.istore 8, 2) := by decide +kernel
theorem dX9_bestWhite_76 : decode cX9_bestWhite 76 = .ok (.iload 8, 2) := by decide +kernel
theorem dX9_bestWhite_78 : decode cX9_bestWhite 78 = .ok (.aload_n 3, 1) := by decide +kernel
theorem dX9_bestWhite_79 : decode cX9_bestWhite 79 = .ok (.getfield 119, 3) := by decide +kernel
theorem dX9_bestWhite_82 : decode cX9_bestWhite 82 = .ok (.invokeinterface 41 1, 5) := by decide +kernel
theorem dX9_bestWhite_87 : decode cX9_bestWhite 87 = .ok (.if_icmp .ge 31, 3) := by decide +kernel
theorem dX9_bestWhite_90 : decode cX9_bestWhite 90 = .ok (.aload 7, 2) := by decide +kernel
theorem dX9_bestWhite_92 : decode cX9_bestWhite 92 = .ok (.aload_n 3, 1) := by decide +kernel
theorem dX9_bestWhite_93 : decode cX9_bestWhite 93 = .ok (.getfield 119, 3) := by decide +kernel
theorem dX9_bestWhite_96 : decode cX9_bestWhite 96 = .ok (.iload 8, 2) := by decide +kernel
theorem dX9_bestWhite_98 : decode cX9_bestWhite 98 = .ok (.invokeinterface 93 2, 5) := by decide +kernel
theorem dX9_bestWhite_103 : decode cX9_bestWhite 103 = .ok (.checkcast 125, 3) := by decide +kernel
theorem dX9_bestWhite_106 : decode cX9_bestWhite 106 = .ok (.invokeinterface 89 2, 5) := by decide +kernel
theorem dX9_bestWhite_111 : decode cX9_bestWhite 111 = .ok (.pop, 1) := by decide +kernel
theorem dX9_bestWhite_112 : decode cX9_bestWhite 112 = .ok (.iinc 8 1, 3) := by decide +kernel
theorem dX9_bestWhite_115 : decode cX9_bestWhite 115 = .ok (.goto (-39), 3) := by decide +kernel
theorem dX9_bestWhite_118 : decode cX9_bestWhite 118 = .ok (.iconst 2, 1) := by decide +kernel
theorem dX9_bestWhite_119 : decode cX9_bestWhite 119 = .ok (.newarray .int, 2) := by decide +kernel
theorem dX9_bestWhite_121 : decode cX9_bestWhite 121 = .ok (.dup, 1) := by decide +kernel
theorem dX9_bestWhite_122 : decode cX9_bestWhite 122 = .ok (.iconst 0, 1) := by decide +kernel
theorem dX9_bestWhite_123 : decode cX9_bestWhite 123 = .ok (.iload_n 2, 1) := by decide +kernel
theorem dX9_bestWhite_124 : decode cX9_bestWhite 124 = .ok (.iastore, 1) := by decide +kernel
theorem dX9_bestWhite_125 : decode cX9_bestWhite 125 = .ok (.dup, 1) := by decide +kernel
theorem dX9_bestWhite_126 : decode cX9_bestWhite 126 = .ok (.iconst 1, 1) := by decide +kernel
theorem dX9_bestWhite_127 : decode cX9_bestWhite 127 = .ok (.iload 6, 2) := by decide +kernel
theorem dX9_bestWhite_129 : decode cX9_bestWhite 129 = .ok (.iastore, 1) := by decide +kernel
theorem dX9_bestWhite_130 : decode cX9_bestWhite 130 = .ok (.astore 8, 2) := by decide +kernel
theorem dX9_bestWhite_132 : decode cX9_bestWhite 132 = .ok (.aload 7, 2) := by decide +kernel
theorem dX9_bestWhite_134 : decode cX9_bestWhite 134 = .ok (.aload 8, 2) := by decide +kernel
theorem dX9_bestWhite_136 : decode cX9_bestWhite 136 = .ok (.invokeinterface 89 2, 5) := by decide +kernel
theorem dX9_bestWhite_141 : decode cX9_bestWhite 141 = .ok (.pop, 1) := by decide +kernel
theorem dX9_bestWhite_142 : decode cX9_bestWhite 142 = .ok (.aload_n 0, 1) := by decide +kernel
theorem dX9_bestWhite_143 : decode cX9_bestWhite 143 = .ok (.aload_n 3, 1) := by decide +kernel
theorem dX9_bestWhite_144 : decode cX9_bestWhite 144 = .ok (.aload 7, 2) := by decide +kernel
theorem dX9_bestWhite_146 : decode cX9_bestWhite 146 = .ok (.invokevirtual 161, 3) := by decide +kernel
theorem dX9_bestWhite_149 : decode cX9_bestWhite 149 = .ok (.astore 9, 2) := by decide +kernel
theorem dX9_bestWhite_151 : decode cX9_bestWhite 151 = .ok (.iconst 0, 1) := by decide +kernel
theorem dX9_bestWhite_152 : decode cX9_bestWhite 152 = .ok (.istore 10, 2) := by decide +kernel
theorem dX9_bestWhite_154 : decode cX9_bestWhite 154 = .ok (.iconst 0, 1) := by decide +kernel
theorem dX9_bestWhite_155 : decode cX9_bestWhite 155 = .ok (.istore 11, 2) := by decide +kernel
theorem dX9_bestWhite_157 : decode cX9_bestWhite 157 = .ok (.iload 11, 2) := by decide +kernel
theorem dX9_bestWhite_159 : decode cX9_bestWhite 159 = .ok (.bipush 64, 2) := by decide +kernel
theorem dX9_bestWhite_161 : decode cX9_bestWhite 161 = .ok (.if_icmp .ge 44, 3) := by decide +kernel
theorem dX9_bestWhite_164 : decode cX9_bestWhite 164 = .ok (.iload 10, 2) := by decide +kernel
theorem dX9_bestWhite_166 : decode cX9_bestWhite 166 = .ok (.aload 9, 2) := by decide +kernel
theorem dX9_bestWhite_168 : decode cX9_bestWhite 168 = .ok (.iconst 3, 1) := by decide +kernel
theorem dX9_bestWhite_169 : decode cX9_bestWhite 169 = .ok (.iload 11, 2) := by decide +kernel
theorem dX9_bestWhite_171 : decode cX9_bestWhite 171 = .ok (.imul, 1) := by decide +kernel
theorem dX9_bestWhite_172 : decode cX9_bestWhite 172 = .ok (.iconst 1, 1) := by decide +kernel
theorem dX9_bestWhite_173 : decode cX9_bestWhite 173 = .ok (.iadd, 1) := by decide +kernel
theorem dX9_bestWhite_174 : decode cX9_bestWhite 174 = .ok (.faload, 1) := by decide +kernel
theorem dX9_bestWhite_175 : decode cX9_bestWhite 175 = .ok (.f2i, 1) := by decide +kernel
theorem dX9_bestWhite_176 : decode cX9_bestWhite 176 = .ok (.aload 9, 2) := by decide +kernel
theorem dX9_bestWhite_178 : decode cX9_bestWhite 178 = .ok (.iconst 3, 1) := by decide +kernel
theorem dX9_bestWhite_179 : decode cX9_bestWhite 179 = .ok (.iload 11, 2) := by decide +kernel
theorem dX9_bestWhite_181 : decode cX9_bestWhite 181 = .ok (.imul, 1) := by decide +kernel
theorem dX9_bestWhite_182 : decode cX9_bestWhite 182 = .ok (.iload_n 2, 1) := by decide +kernel
theorem dX9_bestWhite_183 : decode cX9_bestWhite 183 = .ok (.iconst 1, 1) := by decide +kernel
theorem dX9_bestWhite_184 : decode cX9_bestWhite 184 = .ok (.if_icmp .ne 7, 3) := by decide +kernel
theorem dX9_bestWhite_187 : decode cX9_bestWhite 187 = .ok (.iconst 0, 1) := by decide +kernel
theorem dX9_bestWhite_188 : decode cX9_bestWhite 188 = .ok (.goto 4, 3) := by decide +kernel
theorem dX9_bestWhite_191 : decode cX9_bestWhite 191 = .ok (.iconst 2, 1) := by decide +kernel
theorem dX9_bestWhite_192 : decode cX9_bestWhite 192 = .ok (.iadd, 1) := by decide +kernel
theorem dX9_bestWhite_193 : decode cX9_bestWhite 193 = .ok (.faload, 1) := by decide +kernel
theorem dX9_bestWhite_194 : decode cX9_bestWhite 194 = .ok (.f2i, 1) := by decide +kernel
theorem dX9_bestWhite_195 : decode cX9_bestWhite 195 = .ok (.isub, 1) := by decide +kernel
theorem dX9_bestWhite_196 : decode cX9_bestWhite 196 = .ok (.iadd, 1) := by decide +kernel
theorem dX9_bestWhite_197 : decode cX9_bestWhite 197 = .ok (.istore 10, 2) := by decide +kernel
theorem dX9_bestWhite_199 : decode cX9_bestWhite 199 = .ok (.iinc 11 1, 3) := by decide +kernel
theorem dX9_bestWhite_202 : decode cX9_bestWhite 202 = .ok (.goto (-45), 3) := by decide +kernel
theorem dX9_bestWhite_205 : decode cX9_bestWhite 205 = .ok (.iload 10, 2) := by decide +kernel
theorem dX9_bestWhite_207 : decode cX9_bestWhite 207 = .ok (.invokestatic 106, 3) := by decide +kernel
theorem dX9_bestWhite_210 : decode cX9_bestWhite 210 = .ok (.istore 10, 2) := by decide +kernel
theorem dX9_bestWhite_212 : decode cX9_bestWhite 212 = .ok (.iload 4, 2) := by decide +kernel
theorem dX9_bestWhite_214 : decode cX9_bestWhite 214 = .ok (.ifCond .le 13, 3) := by decide +kernel
theorem dX9_bestWhite_217 : decode cX9_bestWhite 217 = .ok (.iload 10, 2) := by decide +kernel
theorem dX9_bestWhite_219 : decode cX9_bestWhite 219 = .ok (.iload 5, 2) := by decide +kernel
theorem dX9_bestWhite_221 : decode cX9_bestWhite 221 = .ok (.if_icmp .lt 6, 3) := by decide +kernel
theorem dX9_bestWhite_224 : decode cX9_bestWhite 224 = .ok (.goto 11, 3) := by decide +kernel
theorem dX9_bestWhite_227 : decode cX9_bestWhite 227 = .ok (.iload 6, 2) := by decide +kernel
theorem dX9_bestWhite_229 : decode cX9_bestWhite 229 = .ok (.istore 4, 2) := by decide +kernel
theorem dX9_bestWhite_231 : decode cX9_bestWhite 231 = .ok (.iload 10, 2) := by decide +kernel
theorem dX9_bestWhite_233 : decode cX9_bestWhite 233 = .ok (.istore 5, 2) := by decide +kernel
theorem dX9_bestWhite_235 : decode cX9_bestWhite 235 = .ok (.iinc 6 1, 3) := by decide +kernel
theorem dX9_bestWhite_238 : decode cX9_bestWhite 238 = .ok (.goto (-181), 3) := by decide +kernel
theorem dX9_bestWhite_241 : decode cX9_bestWhite 241 = .ok (.iload 4, 2) := by decide +kernel
theorem dX9_bestWhite_243 : decode cX9_bestWhite 243 = .ok (.ireturn, 1) := by decide +kernel
theorem dX9_digest_0 : decode cX9_digest 0 = .ok (.aload_n 0, 1) := by decide +kernel
theorem dX9_digest_1 : decode cX9_digest 1 = .ok (.iconst 0, 1) := by decide +kernel
theorem dX9_digest_2 : decode cX9_digest 2 = .ok (.putfield 33, 3) := by decide +kernel
theorem dX9_digest_5 : decode cX9_digest 5 = .ok (.ldc2_w 207, 3) := by decide +kernel
theorem dX9_digest_8 : decode cX9_digest 8 = .ok (.lstore_n 1, 1) := by decide +kernel
theorem dX9_digest_9 : decode cX9_digest 9 = .ok (.iconst 0, 1) := by decide +kernel
theorem dX9_digest_10 : decode cX9_digest 10 = .ok (.istore_n 3, 1) := by decide +kernel
theorem dX9_digest_11 : decode cX9_digest 11 = .ok (.iload_n 3, 1) := by decide +kernel
theorem dX9_digest_12 : decode cX9_digest 12 = .ok (.bipush 6, 2) := by decide +kernel
theorem dX9_digest_14 : decode cX9_digest 14 = .ok (.if_icmp .gt 22, 3) := by decide +kernel
theorem dX9_digest_17 : decode cX9_digest 17 = .ok (.lload_n 1, 1) := by decide +kernel
theorem dX9_digest_18 : decode cX9_digest 18 = .ok (.ldc2_w 209, 3) := by decide +kernel
theorem dX9_digest_21 : decode cX9_digest 21 = .ok (.lmul, 1) := by decide +kernel
theorem dX9_digest_22 : decode cX9_digest 22 = .ok (.aload_n 0, 1) := by decide +kernel
theorem dX9_digest_23 : decode cX9_digest 23 = .ok (.iload_n 3, 1) := by decide +kernel
theorem dX9_digest_24 : decode cX9_digest 24 = .ok (.invokevirtual 198, 3) := by decide +kernel
theorem dX9_digest_27 : decode cX9_digest 27 = .ok (.i2l, 1) := by decide +kernel
theorem dX9_digest_28 : decode cX9_digest 28 = .ok (.ladd, 1) := by decide +kernel
theorem dX9_digest_29 : decode cX9_digest 29 = .ok (.lstore_n 1, 1) := by decide +kernel
theorem dX9_digest_30 : decode cX9_digest 30 = .ok (.iinc 3 1, 3) := by decide +kernel
theorem dX9_digest_33 : decode cX9_digest 33 = .ok (.goto (-22), 3) := by decide +kernel
theorem dX9_digest_36 : decode cX9_digest 36 = .ok (.iconst 0, 1) := by decide +kernel
theorem dX9_digest_37 : decode cX9_digest 37 = .ok (.istore_n 3, 1) := by decide +kernel
theorem dX9_digest_38 : decode cX9_digest 38 = .ok (.iload_n 3, 1) := by decide +kernel
theorem dX9_digest_39 : decode cX9_digest 39 = .ok (.aload_n 0, 1) := by decide +kernel
theorem dX9_digest_40 : decode cX9_digest 40 = .ok (.getfield 26, 3) := by decide +kernel
theorem dX9_digest_43 : decode cX9_digest 43 = .ok (.invokeinterface 41 1, 5) := by decide +kernel
theorem dX9_digest_48 : decode cX9_digest 48 = .ok (.if_icmp .ge 141, 3) := by decide +kernel
theorem dX9_digest_51 : decode cX9_digest 51 = .ok (.iconst 0, 1) := by decide +kernel
theorem dX9_digest_52 : decode cX9_digest 52 = .ok (.istore 4, 2) := by decide +kernel
theorem dX9_digest_54 : decode cX9_digest 54 = .ok (.iload 4, 2) := by decide +kernel
theorem dX9_digest_56 : decode cX9_digest 56 = .ok (.bipush 8, 2) := by decide +kernel
theorem dX9_digest_58 : decode cX9_digest 58 = .ok (.if_icmp .gt 24, 3) := by decide +kernel
theorem dX9_digest_61 : decode cX9_digest 61 = .ok (.lload_n 1, 1) := by decide +kernel
theorem dX9_digest_62 : decode cX9_digest 62 = .ok (.ldc2_w 209, 3) := by decide +kernel
theorem dX9_digest_65 : decode cX9_digest 65 = .ok (.lmul, 1) := by decide +kernel
theorem dX9_digest_66 : decode cX9_digest 66 = .ok (.aload_n 0, 1) := by decide +kernel
theorem dX9_digest_67 : decode cX9_digest 67 = .ok (.iload_n 3, 1) := by decide +kernel
theorem dX9_digest_68 : decode cX9_digest 68 = .ok (.iload 4, 2) := by decide +kernel
theorem dX9_digest_70 : decode cX9_digest 70 = .ok (.invokevirtual 181, 3) := by decide +kernel
theorem dX9_digest_73 : decode cX9_digest 73 = .ok (.i2l, 1) := by decide +kernel
theorem dX9_digest_74 : decode cX9_digest 74 = .ok (.ladd, 1) := by decide +kernel
theorem dX9_digest_75 : decode cX9_digest 75 = .ok (.lstore_n 1, 1) := by decide +kernel
theorem dX9_digest_76 : decode cX9_digest 76 = .ok (.iinc 4 1, 3) := by decide +kernel
theorem dX9_digest_79 : decode cX9_digest 79 = .ok (.goto (-25), 3) := by decide +kernel
theorem dX9_digest_82 : decode cX9_digest 82 = .ok (.lload_n 1, 1) := by decide +kernel
theorem dX9_digest_83 : decode cX9_digest 83 = .ok (.ldc2_w 209, 3) := by decide +kernel
theorem dX9_digest_86 : decode cX9_digest 86 = .ok (.lmul, 1) := by decide +kernel
theorem dX9_digest_87 : decode cX9_digest 87 = .ok (.aload_n 0, 1) := by decide +kernel
theorem dX9_digest_88 : decode cX9_digest 88 = .ok (.iload_n 3, 1) := by decide +kernel
theorem dX9_digest_89 : decode cX9_digest 89 = .ok (.invokevirtual 165, 3) := by decide +kernel
theorem dX9_digest_92 : decode cX9_digest 92 = .ok (.invokestatic 168, 3) := by decide +kernel
theorem dX9_digest_95 : decode cX9_digest 95 = .ok (.i2l, 1) := by decide +kernel
theorem dX9_digest_96 : decode cX9_digest 96 = .ok (.ladd, 1) := by decide +kernel
theorem dX9_digest_97 : decode cX9_digest 97 = .ok (.lstore_n 1, 1) := by decide +kernel
theorem dX9_digest_98 : decode cX9_digest 98 = .ok (.lload_n 1, 1) := by decide +kernel
theorem dX9_digest_99 : decode cX9_digest 99 = .ok (.ldc2_w 209, 3) := by decide +kernel
theorem dX9_digest_102 : decode cX9_digest 102 = .ok (.lmul, 1) := by decide +kernel
theorem dX9_digest_103 : decode cX9_digest 103 = .ok (.aload_n 0, 1) := by decide +kernel
theorem dX9_digest_104 : decode cX9_digest 104 = .ok (.getfield 26, 3) := by decide +kernel
theorem dX9_digest_107 : decode cX9_digest 107 = .ok (.iload_n 3, 1) := by decide +kernel
theorem dX9_digest_108 : decode cX9_digest 108 = .ok (.invokeinterface 93 2, 5) := by decide +kernel
theorem dX9_digest_113 : decode cX9_digest 113 = .ok (.checkcast 80, 3) := by decide +kernel
theorem dX9_digest_116 : decode cX9_digest 116 = .ok (.invokevirtual 188, 3) := by decide +kernel
theorem dX9_digest_119 : decode cX9_digest 119 = .ok (.ldc2_w 211, 3) := by decide +kernel
theorem dX9_digest_122 : decode cX9_digest 122 = .ok (.dmul, 1) := by decide +kernel
theorem dX9_digest_123 : decode cX9_digest 123 = .ok (.d2i, 1) := by decide +kernel
theorem dX9_digest_124 : decode cX9_digest 124 = .ok (.i2l, 1) := by decide +kernel
theorem dX9_digest_125 : decode cX9_digest 125 = .ok (.ladd, 1) := by decide +kernel
theorem dX9_digest_126 : decode cX9_digest 126 = .ok (.lstore_n 1, 1) := by decide +kernel
theorem dX9_digest_127 : decode cX9_digest 127 = .ok (.aload_n 0, 1) := by decide +kernel
theorem dX9_digest_128 : decode cX9_digest 128 = .ok (.getfield 26, 3) := by decide +kernel
theorem dX9_digest_131 : decode cX9_digest 131 = .ok (.iload_n 3, 1) := by decide +kernel
theorem dX9_digest_132 : decode cX9_digest 132 = .ok (.invokeinterface 93 2, 5) := by decide +kernel
theorem dX9_digest_137 : decode cX9_digest 137 = .ok (.checkcast 80, 3) := by decide +kernel
theorem dX9_digest_140 : decode cX9_digest 140 = .ok (.getfield 103, 3) := by decide +kernel
theorem dX9_digest_143 : decode cX9_digest 143 = .ok (.astore 4, 2) := by decide +kernel
theorem dX9_digest_145 : decode cX9_digest 145 = .ok (.aload 4, 2) := by decide +kernel
theorem dX9_digest_147 : decode cX9_digest 147 = .ok (.arraylength, 1) := by decide +kernel
theorem dX9_digest_148 : decode cX9_digest 148 = .ok (.istore 5, 2) := by decide +kernel
theorem dX9_digest_150 : decode cX9_digest 150 = .ok (.iconst 0, 1) := by decide +kernel
theorem dX9_digest_151 : decode cX9_digest 151 = .ok (.istore 6, 2) := by decide +kernel
theorem dX9_digest_153 : decode cX9_digest 153 = .ok (.iload 6, 2) := by decide +kernel
theorem dX9_digest_155 : decode cX9_digest 155 = .ok (.iload 5, 2) := by decide +kernel
theorem dX9_digest_157 : decode cX9_digest 157 = .ok (.if_icmp .ge 26, 3) := by decide +kernel
theorem dX9_digest_160 : decode cX9_digest 160 = .ok (.aload 4, 2) := by decide +kernel
theorem dX9_digest_162 : decode cX9_digest 162 = .ok (.iload 6, 2) := by decide +kernel
theorem dX9_digest_164 : decode cX9_digest 164 = .ok (.iaload, 1) := by decide +kernel
theorem dX9_digest_165 : decode cX9_digest 165 = .ok (.istore 7, 2) := by decide +kernel
theorem dX9_digest_167 : decode cX9_digest 167 = .ok (.lload_n 1, 1) := by decide +kernel
theorem dX9_digest_168 : decode cX9_digest 168 = .ok (.ldc2_w 209, 3) := by decide +kernel
theorem dX9_digest_171 : decode cX9_digest 171 = .ok (.lmul, 1) := by decide +kernel
theorem dX9_digest_172 : decode cX9_digest 172 = .ok (.iload 7, 2) := by decide +kernel
theorem dX9_digest_174 : decode cX9_digest 174 = .ok (.i2l, 1) := by decide +kernel
theorem dX9_digest_175 : decode cX9_digest 175 = .ok (.ladd, 1) := by decide +kernel
theorem dX9_digest_176 : decode cX9_digest 176 = .ok (.lstore_n 1, 1) := by decide +kernel
theorem dX9_digest_177 : decode cX9_digest 177 = .ok (.iinc 6 1, 3) := by decide +kernel
theorem dX9_digest_180 : decode cX9_digest 180 = .ok (.goto (-27), 3) := by decide +kernel
theorem dX9_digest_183 : decode cX9_digest 183 = .ok (.iinc 3 1, 3) := by decide +kernel
theorem dX9_digest_186 : decode cX9_digest 186 = .ok (.goto (-148), 3) := by decide +kernel
theorem dX9_digest_189 : decode cX9_digest 189 = .ok (.iconst 0, 1) := by decide +kernel
theorem dX9_digest_190 : decode cX9_digest 190 = .ok (.istore_n 3, 1) := by decide +kernel
theorem dX9_digest_191 : decode cX9_digest 191 = .ok (.iload_n 3, 1) := by decide +kernel
theorem dX9_digest_192 : decode cX9_digest 192 = .ok (.aload_n 0, 1) := by decide +kernel
theorem dX9_digest_193 : decode cX9_digest 193 = .ok (.getfield 30, 3) := by decide +kernel
theorem dX9_digest_196 : decode cX9_digest 196 = .ok (.invokeinterface 41 1, 5) := by decide +kernel
theorem dX9_digest_201 : decode cX9_digest 201 = .ok (.if_icmp .ge 39, 3) := by decide +kernel
theorem dX9_digest_204 : decode cX9_digest 204 = .ok (.iconst 0, 1) := by decide +kernel
theorem dX9_digest_205 : decode cX9_digest 205 = .ok (.istore 4, 2) := by decide +kernel
theorem dX9_digest_207 : decode cX9_digest 207 = .ok (.iload 4, 2) := by decide +kernel
theorem dX9_digest_209 : decode cX9_digest 209 = .ok (.iconst 3, 1) := by decide +kernel
theorem dX9_digest_210 : decode cX9_digest 210 = .ok (.if_icmp .gt 24, 3) := by decide +kernel
theorem dX9_digest_213 : decode cX9_digest 213 = .ok (.lload_n 1, 1) := by decide +kernel
theorem dX9_digest_214 : decode cX9_digest 214 = .ok (.ldc2_w 209, 3) := by decide +kernel
theorem dX9_digest_217 : decode cX9_digest 217 = .ok (.lmul, 1) := by decide +kernel
theorem dX9_digest_218 : decode cX9_digest 218 = .ok (.aload_n 0, 1) := by decide +kernel
theorem dX9_digest_219 : decode cX9_digest 219 = .ok (.iload_n 3, 1) := by decide +kernel
theorem dX9_digest_220 : decode cX9_digest 220 = .ok (.iload 4, 2) := by decide +kernel
theorem dX9_digest_222 : decode cX9_digest 222 = .ok (.invokevirtual 195, 3) := by decide +kernel
theorem dX9_digest_225 : decode cX9_digest 225 = .ok (.i2l, 1) := by decide +kernel
theorem dX9_digest_226 : decode cX9_digest 226 = .ok (.ladd, 1) := by decide +kernel
theorem dX9_digest_227 : decode cX9_digest 227 = .ok (.lstore_n 1, 1) := by decide +kernel
theorem dX9_digest_228 : decode cX9_digest 228 = .ok (.iinc 4 1, 3) := by decide +kernel
theorem dX9_digest_231 : decode cX9_digest 231 = .ok (.goto (-24), 3) := by decide +kernel
theorem dX9_digest_234 : decode cX9_digest 234 = .ok (.iinc 3 1, 3) := by decide +kernel
theorem dX9_digest_237 : decode cX9_digest 237 = .ok (.goto (-46), 3) := by decide +kernel
theorem dX9_digest_240 : decode cX9_digest 240 = .ok (.lload_n 1, 1) := by decide +kernel
theorem dX9_digest_241 : decode cX9_digest 241 = .ok (.ldc2_w 209, 3) := by decide +kernel
theorem dX9_digest_244 : decode cX9_digest 244 = .ok (.lmul, 1) := by decide +kernel
theorem dX9_digest_245 : decode cX9_digest 245 = .ok (.aload_n 0, 1) := by decide +kernel
theorem dX9_digest_246 : decode cX9_digest 246 = .ok (.bipush 16, 2) := by decide +kernel
theorem dX9_digest_248 : decode cX9_digest 248 = .ok (.iconst 1, 1) := by decide +kernel
theorem dX9_digest_249 : decode cX9_digest 249 = .ok (.iconst 0, 1) := by decide +kernel
theorem dX9_digest_250 : decode cX9_digest 250 = .ok (.invokevirtual 85, 3) := by decide +kernel
theorem dX9_digest_253 : decode cX9_digest 253 = .ok (.invokevirtual 172, 3) := by decide +kernel
theorem dX9_digest_256 : decode cX9_digest 256 = .ok (.i2l, 1) := by decide +kernel
theorem dX9_digest_257 : decode cX9_digest 257 = .ok (.ladd, 1) := by decide +kernel
theorem dX9_digest_258 : decode cX9_digest 258 = .ok (.lreturn, 1) := by decide +kernel
theorem dJ6_bitCount_0f7a4_0 : decode cJ6_bitCount_0f7a4 0 = .ok (.iload_n 0, 1) := by decide +kernel
theorem dJ6_bitCount_0f7a4_1 : decode cJ6_bitCount_0f7a4 1 = .ok (.iload_n 0, 1) := by decide +kernel
theorem dJ6_bitCount_0f7a4_2 : decode cJ6_bitCount_0f7a4 2 = .ok (.iconst 1, 1) := by decide +kernel
theorem dJ6_bitCount_0f7a4_3 : decode cJ6_bitCount_0f7a4 3 = .ok (.iushr, 1) := by decide +kernel
theorem dJ6_bitCount_0f7a4_4 : decode cJ6_bitCount_0f7a4 4 = .ok (.ldc_w 265, 3) := by decide +kernel
theorem dJ6_bitCount_0f7a4_7 : decode cJ6_bitCount_0f7a4 7 = .ok (.iand, 1) := by decide +kernel
theorem dJ6_bitCount_0f7a4_8 : decode cJ6_bitCount_0f7a4 8 = .ok (.isub, 1) := by decide +kernel
theorem dJ6_bitCount_0f7a4_9 : decode cJ6_bitCount_0f7a4 9 = .ok (.istore_n 0, 1) := by decide +kernel
theorem dJ6_bitCount_0f7a4_10 : decode cJ6_bitCount_0f7a4 10 = .ok (.iload_n 0, 1) := by decide +kernel
theorem dJ6_bitCount_0f7a4_11 : decode cJ6_bitCount_0f7a4 11 = .ok (.ldc_w 266, 3) := by decide +kernel
theorem dJ6_bitCount_0f7a4_14 : decode cJ6_bitCount_0f7a4 14 = .ok (.iand, 1) := by decide +kernel
theorem dJ6_bitCount_0f7a4_15 : decode cJ6_bitCount_0f7a4 15 = .ok (.iload_n 0, 1) := by decide +kernel
theorem dJ6_bitCount_0f7a4_16 : decode cJ6_bitCount_0f7a4 16 = .ok (.iconst 2, 1) := by decide +kernel
theorem dJ6_bitCount_0f7a4_17 : decode cJ6_bitCount_0f7a4 17 = .ok (.iushr, 1) := by decide +kernel
theorem dJ6_bitCount_0f7a4_18 : decode cJ6_bitCount_0f7a4 18 = .ok (.ldc_w 266, 3) := by decide +kernel
theorem dJ6_bitCount_0f7a4_21 : decode cJ6_bitCount_0f7a4 21 = .ok (.iand, 1) := by decide +kernel
theorem dJ6_bitCount_0f7a4_22 : decode cJ6_bitCount_0f7a4 22 = .ok (.iadd, 1) := by decide +kernel
theorem dJ6_bitCount_0f7a4_23 : decode cJ6_bitCount_0f7a4 23 = .ok (.istore_n 0, 1) := by decide +kernel
theorem dJ6_bitCount_0f7a4_24 : decode cJ6_bitCount_0f7a4 24 = .ok (.iload_n 0, 1) := by decide +kernel
theorem dJ6_bitCount_0f7a4_25 : decode cJ6_bitCount_0f7a4 25 = .ok (.iload_n 0, 1) := by decide +kernel
theorem dJ6_bitCount_0f7a4_26 : decode cJ6_bitCount_0f7a4 26 = .ok (.iconst 4, 1) := by decide +kernel
theorem dJ6_bitCount_0f7a4_27 : decode cJ6_bitCount_0f7a4 27 = .ok (.iushr, 1) := by decide +kernel
theorem dJ6_bitCount_0f7a4_28 : decode cJ6_bitCount_0f7a4 28 = .ok (.iadd, 1) := by decide +kernel
theorem dJ6_bitCount_0f7a4_29 : decode cJ6_bitCount_0f7a4 29 = .ok (.ldc_w 267, 3) := by decide +kernel
theorem dJ6_bitCount_0f7a4_32 : decode cJ6_bitCount_0f7a4 32 = .ok (.iand, 1) := by decide +kernel
theorem dJ6_bitCount_0f7a4_33 : decode cJ6_bitCount_0f7a4 33 = .ok (.istore_n 0, 1) := by decide +kernel
theorem dJ6_bitCount_0f7a4_34 : decode cJ6_bitCount_0f7a4 34 = .ok (.iload_n 0, 1) := by decide +kernel
theorem dJ6_bitCount_0f7a4_35 : decode cJ6_bitCount_0f7a4 35 = .ok (.iload_n 0, 1) := by decide +kernel
theorem dJ6_bitCount_0f7a4_36 : decode cJ6_bitCount_0f7a4 36 = .ok (.bipush 8, 2) := by decide +kernel
theorem dJ6_bitCount_0f7a4_38 : decode cJ6_bitCount_0f7a4 38 = .ok (.iushr, 1) := by decide +kernel
theorem dJ6_bitCount_0f7a4_39 : decode cJ6_bitCount_0f7a4 39 = .ok (.iadd, 1) := by decide +kernel
theorem dJ6_bitCount_0f7a4_40 : decode cJ6_bitCount_0f7a4 40 = .ok (.istore_n 0, 1) := by decide +kernel
theorem dJ6_bitCount_0f7a4_41 : decode cJ6_bitCount_0f7a4 41 = .ok (.iload_n 0, 1) := by decide +kernel
theorem dJ6_bitCount_0f7a4_42 : decode cJ6_bitCount_0f7a4 42 = .ok (.iload_n 0, 1) := by decide +kernel
theorem dJ6_bitCount_0f7a4_43 : decode cJ6_bitCount_0f7a4 43 = .ok (.bipush 16, 2) := by decide +kernel
theorem dJ6_bitCount_0f7a4_45 : decode cJ6_bitCount_0f7a4 45 = .ok (.iushr, 1) := by decide +kernel
theorem dJ6_bitCount_0f7a4_46 : decode cJ6_bitCount_0f7a4 46 = .ok (.iadd, 1) := by decide +kernel
theorem dJ6_bitCount_0f7a4_47 : decode cJ6_bitCount_0f7a4 47 = .ok (.istore_n 0, 1) := by decide +kernel
theorem dJ6_bitCount_0f7a4_48 : decode cJ6_bitCount_0f7a4 48 = .ok (.iload_n 0, 1) := by decide +kernel
theorem dJ6_bitCount_0f7a4_49 : decode cJ6_bitCount_0f7a4 49 = .ok (.bipush 63, 2) := by decide +kernel
theorem dJ6_bitCount_0f7a4_51 : decode cJ6_bitCount_0f7a4 51 = .ok (.iand, 1) := by decide +kernel
theorem dJ6_bitCount_0f7a4_52 : decode cJ6_bitCount_0f7a4 52 = .ok (.ireturn, 1) := by decide +kernel
theorem dJ9_abs_0f7a4_0 : decode cJ9_abs_0f7a4 0 = .ok (.iload_n 0, 1) := by decide +kernel
theorem dJ9_abs_0f7a4_1 : decode cJ9_abs_0f7a4 1 = .ok (.ifCond .ge 8, 3) := by decide +kernel
theorem dJ9_abs_0f7a4_4 : decode cJ9_abs_0f7a4 4 = .ok (.iload_n 0, 1) := by decide +kernel
theorem dJ9_abs_0f7a4_5 : decode cJ9_abs_0f7a4 5 = .ok (.ineg, 1) := by decide +kernel
theorem dJ9_abs_0f7a4_6 : decode cJ9_abs_0f7a4 6 = .ok (.goto 4, 3) := by decide +kernel
theorem dJ9_abs_0f7a4_9 : decode cJ9_abs_0f7a4 9 = .ok (.iload_n 0, 1) := by decide +kernel
theorem dJ9_abs_0f7a4_10 : decode cJ9_abs_0f7a4 10 = .ok (.ireturn, 1) := by decide +kernel
theorem dJ9_abs_f6c48_0 : decode cJ9_abs_f6c48 0 = .ok (.fload_n 0, 1) := by decide +kernel
theorem dJ9_abs_f6c48_1 : decode cJ9_abs_f6c48 1 = .ok (.invokestatic 68, 3) := by decide +kernel
theorem dJ9_abs_f6c48_4 : decode cJ9_abs_f6c48 4 = .ok (.ldc 134, 2) := by decide +kernel
theorem dJ9_abs_f6c48_6 : decode cJ9_abs_f6c48 6 = .ok (.iand, 1) := by decide +kernel
theorem dJ9_abs_f6c48_7 : decode cJ9_abs_f6c48 7 = .ok (.invokestatic 162, 3) := by decide +kernel
theorem dJ9_abs_f6c48_10 : decode cJ9_abs_f6c48 10 = .ok (.freturn, 1) := by decide +kernel
theorem dJ9_abs_294c1_0 : decode cJ9_abs_294c1 0 = .ok (.dload_n 0, 1) := by decide +kernel
theorem dJ9_abs_294c1_1 : decode cJ9_abs_294c1 1 = .ok (.invokestatic 79, 3) := by decide +kernel
theorem dJ9_abs_294c1_4 : decode cJ9_abs_294c1 4 = .ok (.ldc2_w 135, 3) := by decide +kernel
theorem dJ9_abs_294c1_7 : decode cJ9_abs_294c1 7 = .ok (.land, 1) := by decide +kernel
theorem dJ9_abs_294c1_8 : decode cJ9_abs_294c1 8 = .ok (.invokestatic 166, 3) := by decide +kernel
theorem dJ9_abs_294c1_11 : decode cJ9_abs_294c1 11 = .ok (.dreturn, 1) := by decide +kernel
theorem dJ9_max_7cf53_0 : decode cJ9_max_7cf53 0 = .ok (.iload_n 0, 1) := by decide +kernel
theorem dJ9_max_7cf53_1 : decode cJ9_max_7cf53 1 = .ok (.iload_n 1, 1) := by decide +kernel
theorem dJ9_max_7cf53_2 : decode cJ9_max_7cf53 2 = .ok (.if_icmp .lt 7, 3) := by decide +kernel
theorem dJ9_max_7cf53_5 : decode cJ9_max_7cf53 5 = .ok (.iload_n 0, 1) := by decide +kernel
theorem dJ9_max_7cf53_6 : decode cJ9_max_7cf53 6 = .ok (.goto 4, 3) := by decide +kernel
theorem dJ9_max_7cf53_9 : decode cJ9_max_7cf53 9 = .ok (.iload_n 1, 1) := by decide +kernel
theorem dJ9_max_7cf53_10 : decode cJ9_max_7cf53 10 = .ok (.ireturn, 1) := by decide +kernel
theorem dJ9_max_e70c8_0 : decode cJ9_max_e70c8 0 = .ok (.fload_n 0, 1) := by decide +kernel
theorem dJ9_max_e70c8_1 : decode cJ9_max_e70c8 1 = .ok (.fload_n 0, 1) := by decide +kernel
theorem dJ9_max_e70c8_2 : decode cJ9_max_e70c8 2 = .ok (.fcmp .l, 1) := by decide +kernel
theorem dJ9_max_e70c8_3 : decode cJ9_max_e70c8 3 = .ok (.ifCond .eq 5, 3) := by decide +kernel
theorem dJ9_max_e70c8_6 : decode cJ9_max_e70c8 6 = .ok (.fload_n 0, 1) := by decide +kernel
theorem dJ9_max_e70c8_7 : decode cJ9_max_e70c8 7 = .ok (.freturn, 1) := by decide +kernel
theorem dJ9_max_e70c8_8 : decode cJ9_max_e70c8 8 = .ok (.fload_n 0, 1) := by decide +kernel
theorem dJ9_max_e70c8_9 : decode cJ9_max_e70c8 9 = .ok (.fconst 0, 1) := by decide +kernel
theorem dJ9_max_e70c8_10 : decode cJ9_max_e70c8 10 = .ok (.fcmp .l, 1) := by decide +kernel
theorem dJ9_max_e70c8_11 : decode cJ9_max_e70c8 11 = .ok (.ifCond .ne 23, 3) := by decide +kernel
theorem dJ9_max_e70c8_14 : decode cJ9_max_e70c8 14 = .ok (.fload_n 1, 1) := by decide +kernel
theorem dJ9_max_e70c8_15 : decode cJ9_max_e70c8 15 = .ok (.fconst 0, 1) := by decide +kernel
theorem dJ9_max_e70c8_16 : decode cJ9_max_e70c8 16 = .ok (.fcmp .l, 1) := by decide +kernel
theorem dJ9_max_e70c8_17 : decode cJ9_max_e70c8 17 = .ok (.ifCond .ne 17, 3) := by decide +kernel
theorem dJ9_max_e70c8_20 : decode cJ9_max_e70c8 20 = .ok (.fload_n 0, 1) := by decide +kernel
theorem dJ9_max_e70c8_21 : decode cJ9_max_e70c8 21 = .ok (.invokestatic 68, 3) := by decide +kernel
theorem dJ9_max_e70c8_24 : decode cJ9_max_e70c8 24 = .ok (.i2l, 1) := by decide +kernel
theorem dJ9_max_e70c8_25 : decode cJ9_max_e70c8 25 = .ok (.getstatic 170, 3) := by decide +kernel
theorem dJ9_max_e70c8_28 : decode cJ9_max_e70c8 28 = .ok (.lcmp, 1) := by decide +kernel
theorem dJ9_max_e70c8_29 : decode cJ9_max_e70c8 29 = .ok (.ifCond .ne 5, 3) := by decide +kernel
theorem dJ9_max_e70c8_32 : decode cJ9_max_e70c8 32 = .ok (.fload_n 1, 1) := by decide +kernel
theorem dJ9_max_e70c8_33 : decode cJ9_max_e70c8 33 = .ok (.freturn, 1) := by decide +kernel
theorem dJ9_max_e70c8_34 : decode cJ9_max_e70c8 34 = .ok (.fload_n 0, 1) := by decide +kernel
theorem dJ9_max_e70c8_35 : decode cJ9_max_e70c8 35 = .ok (.fload_n 1, 1) := by decide +kernel
theorem dJ9_max_e70c8_36 : decode cJ9_max_e70c8 36 = .ok (.fcmp .l, 1) := by decide +kernel
theorem dJ9_max_e70c8_37 : decode cJ9_max_e70c8 37 = .ok (.ifCond .lt 7, 3) := by decide +kernel
theorem dJ9_max_e70c8_40 : decode cJ9_max_e70c8 40 = .ok (.fload_n 0, 1) := by decide +kernel
theorem dJ9_max_e70c8_41 : decode cJ9_max_e70c8 41 = .ok (.goto 4, 3) := by decide +kernel
theorem dJ9_max_e70c8_44 : decode cJ9_max_e70c8 44 = .ok (.fload_n 1, 1) := by decide +kernel
theorem dJ9_max_e70c8_45 : decode cJ9_max_e70c8 45 = .ok (.freturn, 1) := by decide +kernel
theorem dJ9_min_7cf53_0 : decode cJ9_min_7cf53 0 = .ok (.iload_n 0, 1) := by decide +kernel
theorem dJ9_min_7cf53_1 : decode cJ9_min_7cf53 1 = .ok (.iload_n 1, 1) := by decide +kernel
theorem dJ9_min_7cf53_2 : decode cJ9_min_7cf53 2 = .ok (.if_icmp .gt 7, 3) := by decide +kernel
theorem dJ9_min_7cf53_5 : decode cJ9_min_7cf53 5 = .ok (.iload_n 0, 1) := by decide +kernel
theorem dJ9_min_7cf53_6 : decode cJ9_min_7cf53 6 = .ok (.goto 4, 3) := by decide +kernel
theorem dJ9_min_7cf53_9 : decode cJ9_min_7cf53 9 = .ok (.iload_n 1, 1) := by decide +kernel
theorem dJ9_min_7cf53_10 : decode cJ9_min_7cf53 10 = .ok (.ireturn, 1) := by decide +kernel
theorem dJ9_min_e70c8_0 : decode cJ9_min_e70c8 0 = .ok (.fload_n 0, 1) := by decide +kernel
theorem dJ9_min_e70c8_1 : decode cJ9_min_e70c8 1 = .ok (.fload_n 0, 1) := by decide +kernel
theorem dJ9_min_e70c8_2 : decode cJ9_min_e70c8 2 = .ok (.fcmp .l, 1) := by decide +kernel
theorem dJ9_min_e70c8_3 : decode cJ9_min_e70c8 3 = .ok (.ifCond .eq 5, 3) := by decide +kernel
theorem dJ9_min_e70c8_6 : decode cJ9_min_e70c8 6 = .ok (.fload_n 0, 1) := by decide +kernel
theorem dJ9_min_e70c8_7 : decode cJ9_min_e70c8 7 = .ok (.freturn, 1) := by decide +kernel
theorem dJ9_min_e70c8_8 : decode cJ9_min_e70c8 8 = .ok (.fload_n 0, 1) := by decide +kernel
theorem dJ9_min_e70c8_9 : decode cJ9_min_e70c8 9 = .ok (.fconst 0, 1) := by decide +kernel
theorem dJ9_min_e70c8_10 : decode cJ9_min_e70c8 10 = .ok (.fcmp .l, 1) := by decide +kernel
theorem dJ9_min_e70c8_11 : decode cJ9_min_e70c8 11 = .ok (.ifCond .ne 23, 3) := by decide +kernel
theorem dJ9_min_e70c8_14 : decode cJ9_min_e70c8 14 = .ok (.fload_n 1, 1) := by decide +kernel
theorem dJ9_min_e70c8_15 : decode cJ9_min_e70c8 15 = .ok (.fconst 0, 1) := by decide +kernel
theorem dJ9_min_e70c8_16 : decode cJ9_min_e70c8 16 = .ok (.fcmp .l, 1) := by decide +kernel
theorem dJ9_min_e70c8_17 : decode cJ9_min_e70c8 17 = .ok (.ifCond .ne 17, 3) := by decide +kernel
theorem dJ9_min_e70c8_20 : decode cJ9_min_e70c8 20 = .ok (.fload_n 1, 1) := by decide +kernel
theorem dJ9_min_e70c8_21 : decode cJ9_min_e70c8 21 = .ok (.invokestatic 68, 3) := by decide +kernel
theorem dJ9_min_e70c8_24 : decode cJ9_min_e70c8 24 = .ok (.i2l, 1) := by decide +kernel
theorem dJ9_min_e70c8_25 : decode cJ9_min_e70c8 25 = .ok (.getstatic 170, 3) := by decide +kernel
theorem dJ9_min_e70c8_28 : decode cJ9_min_e70c8 28 = .ok (.lcmp, 1) := by decide +kernel
theorem dJ9_min_e70c8_29 : decode cJ9_min_e70c8 29 = .ok (.ifCond .ne 5, 3) := by decide +kernel
theorem dJ9_min_e70c8_32 : decode cJ9_min_e70c8 32 = .ok (.fload_n 1, 1) := by decide +kernel
theorem dJ9_min_e70c8_33 : decode cJ9_min_e70c8 33 = .ok (.freturn, 1) := by decide +kernel
theorem dJ9_min_e70c8_34 : decode cJ9_min_e70c8 34 = .ok (.fload_n 0, 1) := by decide +kernel
theorem dJ9_min_e70c8_35 : decode cJ9_min_e70c8 35 = .ok (.fload_n 1, 1) := by decide +kernel
theorem dJ9_min_e70c8_36 : decode cJ9_min_e70c8 36 = .ok (.fcmp .g, 1) := by decide +kernel
theorem dJ9_min_e70c8_37 : decode cJ9_min_e70c8 37 = .ok (.ifCond .gt 7, 3) := by decide +kernel
theorem dJ9_min_e70c8_40 : decode cJ9_min_e70c8 40 = .ok (.fload_n 0, 1) := by decide +kernel
theorem dJ9_min_e70c8_41 : decode cJ9_min_e70c8 41 = .ok (.goto 4, 3) := by decide +kernel
theorem dJ9_min_e70c8_44 : decode cJ9_min_e70c8 44 = .ok (.fload_n 1, 1) := by decide +kernel
theorem dJ9_min_e70c8_45 : decode cJ9_min_e70c8 45 = .ok (.freturn, 1) := by decide +kernel
theorem dJxa1e45_init_da8c8_0 : decode cJxa1e45_init_da8c8 0 = .ok (.aload_n 0, 1) := by decide +kernel
theorem dJxa1e45_init_da8c8_1 : decode cJxa1e45_init_da8c8 1 = .ok (.invokespecial 1, 3) := by decide +kernel
theorem dJxa1e45_init_da8c8_4 : decode cJxa1e45_init_da8c8 4 = .ok (.return_, 1) := by decide +kernel
theorem dJxc12de_init_da8c8_0 : decode cJxc12de_init_da8c8 0 = .ok (.aload_n 0, 1) := by decide +kernel
theorem dJxc12de_init_da8c8_1 : decode cJxc12de_init_da8c8 1 = .ok (.invokespecial 1, 3) := by decide +kernel
theorem dJxc12de_init_da8c8_4 : decode cJxc12de_init_da8c8 4 = .ok (.aload_n 0, 1) := by decide +kernel
theorem dJxc12de_init_da8c8_5 : decode cJxc12de_init_da8c8 5 = .ok (.iconst 0, 1) := by decide +kernel
theorem dJxc12de_init_da8c8_6 : decode cJxc12de_init_da8c8 6 = .ok (.putfield 7, 3) := by decide +kernel
theorem dJxc12de_init_da8c8_9 : decode cJxc12de_init_da8c8 9 = .ok (.return_, 1) := by decide +kernel
theorem dJx4a65c_init_da8c8_0 : decode cJx4a65c_init_da8c8 0 = .ok (.aload_n 0, 1) := by decide +kernel
theorem dJx4a65c_init_da8c8_1 : decode cJx4a65c_init_da8c8 1 = .ok (.invokespecial 1, 3) := by decide +kernel
theorem dJx4a65c_init_da8c8_4 : decode cJx4a65c_init_da8c8 4 = .ok (.aload_n 0, 1) := by decide +kernel
theorem dJx4a65c_init_da8c8_5 : decode cJx4a65c_init_da8c8 5 = .ok (.getstatic 39, 3) := by decide +kernel
theorem dJx4a65c_init_da8c8_8 : decode cJx4a65c_init_da8c8 8 = .ok (.putfield 9, 3) := by decide +kernel
theorem dJx4a65c_init_da8c8_11 : decode cJx4a65c_init_da8c8 11 = .ok (.return_, 1) := by decide +kernel
theorem dJx4a65c_grow_92f84_0 : decode cJx4a65c_grow_92f84 0 = .ok (.aload_n 0, 1) := by decide +kernel
theorem dJx4a65c_grow_92f84_1 : decode cJx4a65c_grow_92f84 1 = .ok (.getfield 9, 3) := by decide +kernel
theorem dJx4a65c_grow_92f84_4 : decode cJx4a65c_grow_92f84 4 = .ok (.arraylength, 1) := by decide +kernel
theorem dJx4a65c_grow_92f84_5 : decode cJx4a65c_grow_92f84 5 = .ok (.istore_n 2, 1) := by decide +kernel
theorem dJx4a65c_grow_92f84_6 : decode cJx4a65c_grow_92f84 6 = .ok (.iload_n 2, 1) := by decide +kernel
theorem dJx4a65c_grow_92f84_7 : decode cJx4a65c_grow_92f84 7 = .ok (.ifCond .gt 13, 3) := by decide +kernel
theorem dJx4a65c_grow_92f84_10 : decode cJx4a65c_grow_92f84 10 = .ok (.aload_n 0, 1) := by decide +kernel
theorem dJx4a65c_grow_92f84_11 : decode cJx4a65c_grow_92f84 11 = .ok (.getfield 9, 3) := by decide +kernel
theorem dJx4a65c_grow_92f84_14 : decode cJx4a65c_grow_92f84 14 = .ok (.getstatic 39, 3) := by decide +kernel
theorem dJx4a65c_grow_92f84_17 : decode cJx4a65c_grow_92f84 17 = .ok (.if_acmp .eq 28, 3) := by decide +kernel
theorem dJx4a65c_grow_92f84_20 : decode cJx4a65c_grow_92f84 20 = .ok (.iload_n 2, 1) := by decide +kernel
theorem dJx4a65c_grow_92f84_21 : decode cJx4a65c_grow_92f84 21 = .ok (.iload_n 1, 1) := by decide +kernel
theorem dJx4a65c_grow_92f84_22 : decode cJx4a65c_grow_92f84 22 = .ok (.iload_n 2, 1) := by decide +kernel
theorem dJx4a65c_grow_92f84_23 : decode cJx4a65c_grow_92f84 23 = .ok (.isub, 1) := by decide +kernel
theorem dJx4a65c_grow_92f84_24 : decode cJx4a65c_grow_92f84 24 = .ok (.iload_n 2, 1) := by decide +kernel
theorem dJx4a65c_grow_92f84_25 : decode cJx4a65c_grow_92f84 25 = .ok (.iconst 1, 1) := by decide +kernel
theorem dJx4a65c_grow_92f84_26 : decode cJx4a65c_grow_92f84 26 = .ok (.ishr, 1) := by decide +kernel
theorem dJx4a65c_grow_92f84_27 : decode cJx4a65c_grow_92f84 27 = .ok (.invokestatic 73, 3) := by decide +kernel
theorem dJx4a65c_grow_92f84_30 : decode cJx4a65c_grow_92f84 30 = .ok (.istore_n 3, 1) := by decide +kernel
theorem dJx4a65c_grow_92f84_31 : decode cJx4a65c_grow_92f84 31 = .ok (.aload_n 0, 1) := by decide +kernel
theorem dJx4a65c_grow_92f84_32 : decode cJx4a65c_grow_92f84 32 = .ok (.aload_n 0, 1) := by decide +kernel
theorem dJx4a65c_grow_92f84_33 : decode cJx4a65c_grow_92f84 33 = .ok (.getfield 9, 3) := by decide +kernel
theorem dJx4a65c_grow_92f84_36 : decode cJx4a65c_grow_92f84 36 = .ok (.iload_n 3, 1) := by decide +kernel
theorem dJx4a65c_grow_92f84_37 : decode cJx4a65c_grow_92f84 37 = .ok (.invokestatic 66, 3) := by decide +kernel
theorem dJx4a65c_grow_92f84_40 : decode cJx4a65c_grow_92f84 40 = .ok (.dup_x1, 1) := by decide +kernel
theorem dJx4a65c_grow_92f84_41 : decode cJx4a65c_grow_92f84 41 = .ok (.putfield 9, 3) := by decide +kernel
theorem dJx4a65c_grow_92f84_44 : decode cJx4a65c_grow_92f84 44 = .ok (.areturn, 1) := by decide +kernel
theorem dJx4a65c_grow_92f84_45 : decode cJx4a65c_grow_92f84 45 = .ok (.aload_n 0, 1) := by decide +kernel
theorem dJx4a65c_grow_92f84_46 : decode cJx4a65c_grow_92f84 46 = .ok (.bipush 10, 2) := by decide +kernel
theorem dJx4a65c_grow_92f84_48 : decode cJx4a65c_grow_92f84 48 = .ok (.iload_n 1, 1) := by decide +kernel
theorem dJx4a65c_grow_92f84_49 : decode cJx4a65c_grow_92f84 49 = .ok (.invokestatic 79, 3) := by decide +kernel
theorem dJx4a65c_grow_92f84_52 : decode cJx4a65c_grow_92f84 52 = .ok (.anewarray 7, 3) := by decide +kernel
theorem dJx4a65c_grow_92f84_55 : decode cJx4a65c_grow_92f84 55 = .ok (.dup_x1, 1) := by decide +kernel
theorem dJx4a65c_grow_92f84_56 : decode cJx4a65c_grow_92f84 56 = .ok (.putfield 9, 3) := by decide +kernel
theorem dJx4a65c_grow_92f84_59 : decode cJx4a65c_grow_92f84 59 = .ok (.areturn, 1) := by decide +kernel
theorem dJx4a65c_grow_d5877_0 : decode cJx4a65c_grow_d5877 0 = .ok (.aload_n 0, 1) := by decide +kernel
theorem dJx4a65c_grow_d5877_1 : decode cJx4a65c_grow_d5877 1 = .ok (.aload_n 0, 1) := by decide +kernel
theorem dJx4a65c_grow_d5877_2 : decode cJx4a65c_grow_d5877 2 = .ok (.getfield 48, 3) := by decide +kernel
theorem dJx4a65c_grow_d5877_5 : decode cJx4a65c_grow_d5877 5 = .ok (.iconst 1, 1) := by decide +kernel
theorem dJx4a65c_grow_d5877_6 : decode cJx4a65c_grow_d5877 6 = .ok (.iadd, 1) := by decide +kernel
theorem dJx4a65c_grow_d5877_7 : decode cJx4a65c_grow_d5877 7 = .ok (.invokevirtual 69, 3) := by decide +kernel
theorem dJx4a65c_grow_d5877_10 : decode cJx4a65c_grow_d5877 10 = .ok (.areturn, 1) := by decide +kernel
theorem dJx4a65c_size_8abf5_0 : decode cJx4a65c_size_8abf5 0 = .ok (.aload_n 0, 1) := by decide +kernel
theorem dJx4a65c_size_8abf5_1 : decode cJx4a65c_size_8abf5 1 = .ok (.getfield 48, 3) := by decide +kernel
theorem dJx4a65c_size_8abf5_4 : decode cJx4a65c_size_8abf5 4 = .ok (.ireturn, 1) := by decide +kernel
theorem dJx4a65c_elementData_915e3_0 : decode cJx4a65c_elementData_915e3 0 = .ok (.aload_n 0, 1) := by decide +kernel
theorem dJx4a65c_elementData_915e3_1 : decode cJx4a65c_elementData_915e3 1 = .ok (.getfield 9, 3) := by decide +kernel
theorem dJx4a65c_elementData_915e3_4 : decode cJx4a65c_elementData_915e3 4 = .ok (.iload_n 1, 1) := by decide +kernel
theorem dJx4a65c_elementData_915e3_5 : decode cJx4a65c_elementData_915e3 5 = .ok (.aaload, 1) := by decide +kernel
theorem dJx4a65c_elementData_915e3_6 : decode cJx4a65c_elementData_915e3 6 = .ok (.areturn, 1) := by decide +kernel
theorem dJx4a65c_get_915e3_0 : decode cJx4a65c_get_915e3 0 = .ok (.iload_n 1, 1) := by decide +kernel
theorem dJx4a65c_get_915e3_1 : decode cJx4a65c_get_915e3 1 = .ok (.aload_n 0, 1) := by decide +kernel
theorem dJx4a65c_get_915e3_2 : decode cJx4a65c_get_915e3 2 = .ok (.getfield 48, 3) := by decide +kernel
theorem dJx4a65c_get_915e3_5 : decode cJx4a65c_get_915e3 5 = .ok (.invokestatic 118, 3) := by decide +kernel
theorem dJx4a65c_get_915e3_8 : decode cJx4a65c_get_915e3 8 = .ok (.pop, 1) := by decide +kernel
theorem dJx4a65c_get_915e3_9 : decode cJx4a65c_get_915e3 9 = .ok (.aload_n 0, 1) := by decide +kernel
theorem dJx4a65c_get_915e3_10 : decode cJx4a65c_get_915e3 10 = .ok (.iload_n 1, 1) := by decide +kernel
theorem dJx4a65c_get_915e3_11 : decode cJx4a65c_get_915e3 11 = .ok (.invokevirtual 123, 3) := by decide +kernel
theorem dJx4a65c_get_915e3_14 : decode cJx4a65c_get_915e3 14 = .ok (.areturn, 1) := by decide +kernel
theorem dJx4a65c_add_72be8_0 : decode cJx4a65c_add_72be8 0 = .ok (.iload_n 3, 1) := by decide +kernel
theorem dJx4a65c_add_72be8_1 : decode cJx4a65c_add_72be8 1 = .ok (.aload_n 2, 1) := by decide +kernel
theorem dJx4a65c_add_72be8_2 : decode cJx4a65c_add_72be8 2 = .ok (.arraylength, 1) := by decide +kernel
theorem dJx4a65c_add_72be8_3 : decode cJx4a65c_add_72be8 3 = .ok (.if_icmp .ne 8, 3) := by decide +kernel
theorem dJx4a65c_add_72be8_6 : decode cJx4a65c_add_72be8 6 = .ok (.aload_n 0, 1) := by decide +kernel
theorem dJx4a65c_add_72be8_7 : decode cJx4a65c_add_72be8 7 = .ok (.invokevirtual 129, 3) := by decide +kernel
theorem dJx4a65c_add_72be8_10 : decode cJx4a65c_add_72be8 10 = .ok (.astore_n 2, 1) := by decide +kernel
theorem dJx4a65c_add_72be8_11 : decode cJx4a65c_add_72be8 11 = .ok (.aload_n 2, 1) := by decide +kernel
theorem dJx4a65c_add_72be8_12 : decode cJx4a65c_add_72be8 12 = .ok (.iload_n 3, 1) := by decide +kernel
theorem dJx4a65c_add_72be8_13 : decode cJx4a65c_add_72be8 13 = .ok (.aload_n 1, 1) := by decide +kernel
theorem dJx4a65c_add_72be8_14 : decode cJx4a65c_add_72be8 14 = .ok (.aastore, 1) := by decide +kernel
theorem dJx4a65c_add_72be8_15 : decode cJx4a65c_add_72be8 15 = .ok (.aload_n 0, 1) := by decide +kernel
theorem dJx4a65c_add_72be8_16 : decode cJx4a65c_add_72be8 16 = .ok (.iload_n 3, 1) := by decide +kernel
theorem dJx4a65c_add_72be8_17 : decode cJx4a65c_add_72be8 17 = .ok (.iconst 1, 1) := by decide +kernel
theorem dJx4a65c_add_72be8_18 : decode cJx4a65c_add_72be8 18 = .ok (.iadd, 1) := by decide +kernel
theorem dJx4a65c_add_72be8_19 : decode cJx4a65c_add_72be8 19 = .ok (.putfield 48, 3) := by decide +kernel
theorem dJx4a65c_add_72be8_22 : decode cJx4a65c_add_72be8 22 = .ok (.return_, 1) := by decide +kernel
theorem dJx4a65c_add_9ea2d_0 : decode cJx4a65c_add_9ea2d 0 = .ok (.aload_n 0, 1) := by decide +kernel
theorem dJx4a65c_add_9ea2d_1 : decode cJx4a65c_add_9ea2d 1 = .ok (.dup, 1) := by decide +kernel
theorem dJx4a65c_add_9ea2d_2 : decode cJx4a65c_add_9ea2d 2 = .ok (.getfield 63, 3) := by decide +kernel
theorem dJx4a65c_add_9ea2d_5 : decode cJx4a65c_add_9ea2d 5 = .ok (.iconst 1, 1) := by decide +kernel
theorem dJx4a65c_add_9ea2d_6 : decode cJx4a65c_add_9ea2d 6 = .ok (.iadd, 1) := by decide +kernel
theorem dJx4a65c_add_9ea2d_7 : decode cJx4a65c_add_9ea2d 7 = .ok (.putfield 63, 3) := by decide +kernel
theorem dJx4a65c_add_9ea2d_10 : decode cJx4a65c_add_9ea2d 10 = .ok (.aload_n 0, 1) := by decide +kernel
theorem dJx4a65c_add_9ea2d_11 : decode cJx4a65c_add_9ea2d 11 = .ok (.aload_n 1, 1) := by decide +kernel
theorem dJx4a65c_add_9ea2d_12 : decode cJx4a65c_add_9ea2d 12 = .ok (.aload_n 0, 1) := by decide +kernel
theorem dJx4a65c_add_9ea2d_13 : decode cJx4a65c_add_9ea2d 13 = .ok (.getfield 9, 3) := by decide +kernel
theorem dJx4a65c_add_9ea2d_16 : decode cJx4a65c_add_9ea2d 16 = .ok (.aload_n 0, 1) := by decide +kernel
theorem dJx4a65c_add_9ea2d_17 : decode cJx4a65c_add_9ea2d 17 = .ok (.getfield 48, 3) := by decide +kernel
theorem dJx4a65c_add_9ea2d_20 : decode cJx4a65c_add_9ea2d 20 = .ok (.invokevirtual 131, 3) := by decide +kernel
theorem dJx4a65c_add_9ea2d_23 : decode cJx4a65c_add_9ea2d 23 = .ok (.iconst 1, 1) := by decide +kernel
theorem dJx4a65c_add_9ea2d_24 : decode cJx4a65c_add_9ea2d 24 = .ok (.ireturn, 1) := by decide +kernel
theorem dJx4a65c_remove_915e3_0 : decode cJx4a65c_remove_915e3 0 = .ok (.iload_n 1, 1) := by decide +kernel
theorem dJx4a65c_remove_915e3_1 : decode cJx4a65c_remove_915e3 1 = .ok (.aload_n 0, 1) := by decide +kernel
theorem dJx4a65c_remove_915e3_2 : decode cJx4a65c_remove_915e3 2 = .ok (.getfield 48, 3) := by decide +kernel
theorem dJx4a65c_remove_915e3_5 : decode cJx4a65c_remove_915e3 5 = .ok (.invokestatic 118, 3) := by decide +kernel
theorem dJx4a65c_remove_915e3_8 : decode cJx4a65c_remove_915e3 8 = .ok (.pop, 1) := by decide +kernel
theorem dJx4a65c_remove_915e3_9 : decode cJx4a65c_remove_915e3 9 = .ok (.aload_n 0, 1) := by decide +kernel
theorem dJx4a65c_remove_915e3_10 : decode cJx4a65c_remove_915e3 10 = .ok (.getfield 9, 3) := by decide +kernel
theorem dJx4a65c_remove_915e3_13 : decode cJx4a65c_remove_915e3 13 = .ok (.astore_n 2, 1) := by decide +kernel
theorem dJx4a65c_remove_915e3_14 : decode cJx4a65c_remove_915e3 14 = .ok (.aload_n 2, 1) := by decide +kernel
theorem dJx4a65c_remove_915e3_15 : decode cJx4a65c_remove_915e3 15 = .ok (.iload_n 1, 1) := by decide +kernel
theorem dJx4a65c_remove_915e3_16 : decode cJx4a65c_remove_915e3 16 = .ok (.aaload, 1) := by decide +kernel
theorem dJx4a65c_remove_915e3_17 : decode cJx4a65c_remove_915e3 17 = .ok (.astore_n 3, 1) := by decide +kernel
theorem dJx4a65c_remove_915e3_18 : decode cJx4a65c_remove_915e3 18 = .ok (.aload_n 0, 1) := by decide +kernel
theorem dJx4a65c_remove_915e3_19 : decode cJx4a65c_remove_915e3 19 = .ok (.aload_n 2, 1) := by decide +kernel
theorem dJx4a65c_remove_915e3_20 : decode cJx4a65c_remove_915e3 20 = .ok (.iload_n 1, 1) := by decide +kernel
theorem dJx4a65c_remove_915e3_21 : decode cJx4a65c_remove_915e3 21 = .ok (.invokevirtual 144, 3) := by decide +kernel
theorem dJx4a65c_remove_915e3_24 : decode cJx4a65c_remove_915e3 24 = .ok (.aload_n 3, 1) := by decide +kernel
theorem dJx4a65c_remove_915e3_25 : decode cJx4a65c_remove_915e3 25 = .ok (.areturn, 1) := by decide +kernel
theorem dJx4a65c_fastRemove_b59b0_0 : decode cJx4a65c_fastRemove_b59b0 0 = .ok (.aload_n 0, 1) := by decide +kernel
theorem dJx4a65c_fastRemove_b59b0_1 : decode cJx4a65c_fastRemove_b59b0 1 = .ok (.dup, 1) := by decide +kernel
theorem dJx4a65c_fastRemove_b59b0_2 : decode cJx4a65c_fastRemove_b59b0 2 = .ok (.getfield 63, 3) := by decide +kernel
theorem dJx4a65c_fastRemove_b59b0_5 : decode cJx4a65c_fastRemove_b59b0 5 = .ok (.iconst 1, 1) := by decide +kernel
theorem dJx4a65c_fastRemove_b59b0_6 : decode cJx4a65c_fastRemove_b59b0 6 = .ok (.iadd, 1) := by decide +kernel
theorem dJx4a65c_fastRemove_b59b0_7 : decode cJx4a65c_fastRemove_b59b0 7 = .ok (.putfield 63, 3) := by decide +kernel
theorem dJx4a65c_fastRemove_b59b0_10 : decode cJx4a65c_fastRemove_b59b0 10 = .ok (.aload_n 0, 1) := by decide +kernel
theorem dJx4a65c_fastRemove_b59b0_11 : decode cJx4a65c_fastRemove_b59b0 11 = .ok (.getfield 48, 3) := by decide +kernel
theorem dJx4a65c_fastRemove_b59b0_14 : decode cJx4a65c_fastRemove_b59b0 14 = .ok (.iconst 1, 1) := by decide +kernel
theorem dJx4a65c_fastRemove_b59b0_15 : decode cJx4a65c_fastRemove_b59b0 15 = .ok (.isub, 1) := by decide +kernel
theorem dJx4a65c_fastRemove_b59b0_16 : decode cJx4a65c_fastRemove_b59b0 16 = .ok (.dup, 1) := by decide +kernel
theorem dJx4a65c_fastRemove_b59b0_17 : decode cJx4a65c_fastRemove_b59b0 17 = .ok (.istore_n 3, 1) := by decide +kernel
theorem dJx4a65c_fastRemove_b59b0_18 : decode cJx4a65c_fastRemove_b59b0 18 = .ok (.iload_n 2, 1) := by decide +kernel
theorem dJx4a65c_fastRemove_b59b0_19 : decode cJx4a65c_fastRemove_b59b0 19 = .ok (.if_icmp .le 15, 3) := by decide +kernel
theorem dJx4a65c_fastRemove_b59b0_22 : decode cJx4a65c_fastRemove_b59b0 22 = .ok (.aload_n 1, 1) := by decide +kernel
theorem dJx4a65c_fastRemove_b59b0_23 : decode cJx4a65c_fastRemove_b59b0 23 = .ok (.iload_n 2, 1) := by decide +kernel
theorem dJx4a65c_fastRemove_b59b0_24 : decode cJx4a65c_fastRemove_b59b0 24 = .ok (.iconst 1, 1) := by decide +kernel
theorem dJx4a65c_fastRemove_b59b0_25 : decode cJx4a65c_fastRemove_b59b0 25 = .ok (.iadd, 1) := by decide +kernel
theorem dJx4a65c_fastRemove_b59b0_26 : decode cJx4a65c_fastRemove_b59b0 26 = .ok (.aload_n 1, 1) := by decide +kernel
theorem dJx4a65c_fastRemove_b59b0_27 : decode cJx4a65c_fastRemove_b59b0 27 = .ok (.iload_n 2, 1) := by decide +kernel
theorem dJx4a65c_fastRemove_b59b0_28 : decode cJx4a65c_fastRemove_b59b0 28 = .ok (.iload_n 3, 1) := by decide +kernel
theorem dJx4a65c_fastRemove_b59b0_29 : decode cJx4a65c_fastRemove_b59b0 29 = .ok (.iload_n 2, 1) := by decide +kernel
theorem dJx4a65c_fastRemove_b59b0_30 : decode cJx4a65c_fastRemove_b59b0 30 = .ok (.isub, 1) := by decide +kernel
theorem dJx4a65c_fastRemove_b59b0_31 : decode cJx4a65c_fastRemove_b59b0 31 = .ok (.invokestatic 112, 3) := by decide +kernel
theorem dJx4a65c_fastRemove_b59b0_34 : decode cJx4a65c_fastRemove_b59b0 34 = .ok (.aload_n 1, 1) := by decide +kernel
theorem dJx4a65c_fastRemove_b59b0_35 : decode cJx4a65c_fastRemove_b59b0 35 = .ok (.aload_n 0, 1) := by decide +kernel
theorem dJx4a65c_fastRemove_b59b0_36 : decode cJx4a65c_fastRemove_b59b0 36 = .ok (.iload_n 3, 1) := by decide +kernel
theorem dJx4a65c_fastRemove_b59b0_37 : decode cJx4a65c_fastRemove_b59b0 37 = .ok (.dup_x1, 1) := by decide +kernel
theorem dJx4a65c_fastRemove_b59b0_38 : decode cJx4a65c_fastRemove_b59b0 38 = .ok (.putfield 48, 3) := by decide +kernel
theorem dJx4a65c_fastRemove_b59b0_41 : decode cJx4a65c_fastRemove_b59b0 41 = .ok (.aconst_null, 1) := by decide +kernel
theorem dJx4a65c_fastRemove_b59b0_42 : decode cJx4a65c_fastRemove_b59b0 42 = .ok (.aastore, 1) := by decide +kernel
theorem dJx4a65c_fastRemove_b59b0_43 : decode cJx4a65c_fastRemove_b59b0 43 = .ok (.return_, 1) := by decide +kernel
theorem dJ7_copyOf_1904c_0 : decode cJ7_copyOf_1904c 0 = .ok (.aload_n 0, 1) := by decide +kernel
theorem dJ7_copyOf_1904c_1 : decode cJ7_copyOf_1904c 1 = .ok (.iload_n 1, 1) := by decide +kernel
theorem dJ7_copyOf_1904c_2 : decode cJ7_copyOf_1904c 2 = .ok (.aload_n 0, 1) := by decide +kernel
theorem dJ7_copyOf_1904c_3 : decode cJ7_copyOf_1904c 3 = .ok (.invokevirtual 86, 3) := by decide +kernel
theorem dJ7_copyOf_1904c_6 : decode cJ7_copyOf_1904c 6 = .ok (.invokestatic 300, 3) := by decide +kernel
theorem dJ7_copyOf_1904c_9 : decode cJ7_copyOf_1904c 9 = .ok (.areturn, 1) := by decide +kernel
theorem dJ7_copyOf_6403c_0 : decode cJ7_copyOf_6403c 0 = .ok (.aload_n 2, 1) := by decide +kernel
theorem dJ7_copyOf_6403c_1 : decode cJ7_copyOf_6403c 1 = .ok (.ldc 110, 2) := by decide +kernel
theorem dJ7_copyOf_6403c_3 : decode cJ7_copyOf_6403c 3 = .ok (.if_acmp .ne 10, 3) := by decide +kernel
theorem dJ7_copyOf_6403c_6 : decode cJ7_copyOf_6403c 6 = .ok (.iload_n 1, 1) := by decide +kernel
theorem dJ7_copyOf_6403c_7 : decode cJ7_copyOf_6403c 7 = .ok (.anewarray 2, 3) := by decide +kernel
theorem dJ7_copyOf_6403c_10 : decode cJ7_copyOf_6403c 10 = .ok (.goto 14, 3) := by decide +kernel
theorem dJ7_copyOf_6403c_13 : decode cJ7_copyOf_6403c 13 = .ok (.aload_n 2, 1) := by decide +kernel
theorem dJ7_copyOf_6403c_14 : decode cJ7_copyOf_6403c 14 = .ok (.invokevirtual 90, 3) := by decide +kernel
theorem dJ7_copyOf_6403c_17 : decode cJ7_copyOf_6403c 17 = .ok (.iload_n 1, 1) := by decide +kernel
theorem dJ7_copyOf_6403c_18 : decode cJ7_copyOf_6403c 18 = .ok (.invokestatic 95, 3) := by decide +kernel
theorem dJ7_copyOf_6403c_21 : decode cJ7_copyOf_6403c 21 = .ok (.checkcast 110, 3) := by decide +kernel
theorem dJ7_copyOf_6403c_24 : decode cJ7_copyOf_6403c 24 = .ok (.astore_n 3, 1) := by decide +kernel
theorem dJ7_copyOf_6403c_25 : decode cJ7_copyOf_6403c 25 = .ok (.aload_n 0, 1) := by decide +kernel
theorem dJ7_copyOf_6403c_26 : decode cJ7_copyOf_6403c 26 = .ok (.iconst 0, 1) := by decide +kernel
theorem dJ7_copyOf_6403c_27 : decode cJ7_copyOf_6403c 27 = .ok (.aload_n 3, 1) := by decide +kernel
theorem dJ7_copyOf_6403c_28 : decode cJ7_copyOf_6403c 28 = .ok (.iconst 0, 1) := by decide +kernel
theorem dJ7_copyOf_6403c_29 : decode cJ7_copyOf_6403c 29 = .ok (.aload_n 0, 1) := by decide +kernel
theorem dJ7_copyOf_6403c_30 : decode cJ7_copyOf_6403c 30 = .ok (.arraylength, 1) := by decide +kernel
theorem dJ7_copyOf_6403c_31 : decode cJ7_copyOf_6403c 31 = .ok (.iload_n 1, 1) := by decide +kernel
theorem dJ7_copyOf_6403c_32 : decode cJ7_copyOf_6403c 32 = .ok (.invokestatic 304, 3) := by decide +kernel
theorem dJ7_copyOf_6403c_35 : decode cJ7_copyOf_6403c 35 = .ok (.invokestatic 150, 3) := by decide +kernel
theorem dJ7_copyOf_6403c_38 : decode cJ7_copyOf_6403c 38 = .ok (.aload_n 3, 1) := by decide +kernel
theorem dJ7_copyOf_6403c_39 : decode cJ7_copyOf_6403c 39 = .ok (.areturn, 1) := by decide +kernel
theorem dJ15_checkIndex_7cf53_0 : decode cJ15_checkIndex_7cf53 0 = .ok (.iload_n 0, 1) := by decide +kernel
theorem dJ15_checkIndex_7cf53_1 : decode cJ15_checkIndex_7cf53 1 = .ok (.iload_n 1, 1) := by decide +kernel
theorem dJ15_checkIndex_7cf53_2 : decode cJ15_checkIndex_7cf53 2 = .ok (.aconst_null, 1) := by decide +kernel
theorem dJ15_checkIndex_7cf53_3 : decode cJ15_checkIndex_7cf53 3 = .ok (.invokestatic 105, 3) := by decide +kernel
theorem dJ15_checkIndex_7cf53_6 : decode cJ15_checkIndex_7cf53 6 = .ok (.ireturn, 1) := by decide +kernel
theorem dJ8_newLength_cabcc_0 : decode cJ8_newLength_cabcc 0 = .ok (.iload_n 0, 1) := by decide +kernel
theorem dJ8_newLength_cabcc_1 : decode cJ8_newLength_cabcc 1 = .ok (.iload_n 1, 1) := by decide +kernel
theorem dJ8_newLength_cabcc_2 : decode cJ8_newLength_cabcc 2 = .ok (.iload_n 2, 1) := by decide +kernel
theorem dJ8_newLength_cabcc_3 : decode cJ8_newLength_cabcc 3 = .ok (.invokestatic 194, 3) := by decide +kernel
theorem dJ8_newLength_cabcc_6 : decode cJ8_newLength_cabcc 6 = .ok (.iadd, 1) := by decide +kernel
theorem dJ8_newLength_cabcc_7 : decode cJ8_newLength_cabcc 7 = .ok (.istore_n 3, 1) := by decide +kernel
theorem dJ8_newLength_cabcc_8 : decode cJ8_newLength_cabcc 8 = .ok (.iconst 0, 1) := by decide +kernel
theorem dJ8_newLength_cabcc_9 : decode cJ8_newLength_cabcc 9 = .ok (.iload_n 3, 1) := by decide +kernel
theorem dJ8_newLength_cabcc_10 : decode cJ8_newLength_cabcc 10 = .ok (.if_icmp .ge 11, 3) := by decide +kernel
theorem dJ8_newLength_cabcc_13 : decode cJ8_newLength_cabcc 13 = .ok (.iload_n 3, 1) := by decide +kernel
theorem dJ8_newLength_cabcc_14 : decode cJ8_newLength_cabcc 14 = .ok (.ldc 200, 2) := by decide +kernel
theorem dJ8_newLength_cabcc_16 : decode cJ8_newLength_cabcc 16 = .ok (.if_icmp .gt 5, 3) := by decide +kernel
theorem dJ8_newLength_cabcc_19 : decode cJ8_newLength_cabcc 19 = .ok (.iload_n 3, 1) := by decide +kernel
theorem dJ8_newLength_cabcc_20 : decode cJ8_newLength_cabcc 20 = .ok (.ireturn, 1) := by decide +kernel
theorem dJ8_newLength_cabcc_21 : decode cJ8_newLength_cabcc 21 = .ok (.iload_n 0, 1) := by decide +kernel
theorem dJ8_newLength_cabcc_22 : decode cJ8_newLength_cabcc 22 = .ok (.iload_n 1, 1) := by decide +kernel
theorem dJ8_newLength_cabcc_23 : decode cJ8_newLength_cabcc 23 = .ok (.invokestatic 201, 3) := by decide +kernel
theorem dJ8_newLength_cabcc_26 : decode cJ8_newLength_cabcc 26 = .ok (.ireturn, 1) := by decide +kernel
theorem dJ8_hugeLength_7cf53_0 : decode cJ8_hugeLength_7cf53 0 = .ok (.iload_n 0, 1) := by decide +kernel
theorem dJ8_hugeLength_7cf53_1 : decode cJ8_hugeLength_7cf53 1 = .ok (.iload_n 1, 1) := by decide +kernel
theorem dJ8_hugeLength_7cf53_2 : decode cJ8_hugeLength_7cf53 2 = .ok (.iadd, 1) := by decide +kernel
theorem dJ8_hugeLength_7cf53_3 : decode cJ8_hugeLength_7cf53 3 = .ok (.istore_n 2, 1) := by decide +kernel
theorem dJ8_hugeLength_7cf53_4 : decode cJ8_hugeLength_7cf53 4 = .ok (.iload_n 2, 1) := by decide +kernel
theorem dJ8_hugeLength_7cf53_5 : decode cJ8_hugeLength_7cf53 5 = .ok (.ifCond .ge 44, 3) := by decide +kernel
theorem dJ8_hugeLength_7cf53_8 : decode cJ8_hugeLength_7cf53 8 = .ok (.new 204, 3) := by decide +kernel
theorem dJ8_hugeLength_7cf53_11 : decode cJ8_hugeLength_7cf53 11 = .ok (.dup, 1) := by decide +kernel
theorem dJ8_hugeLength_7cf53_12 : decode cJ8_hugeLength_7cf53 12 = .ok (.new 89, 3) := by decide +kernel
theorem dJ8_hugeLength_7cf53_15 : decode cJ8_hugeLength_7cf53 15 = .ok (.dup, 1) := by decide +kernel
theorem dJ8_hugeLength_7cf53_16 : decode cJ8_hugeLength_7cf53 16 = .ok (.invokespecial 91, 3) := by decide +kernel
theorem dJ8_hugeLength_7cf53_19 : decode cJ8_hugeLength_7cf53 19 = .ok (.ldc 206, 2) := by decide +kernel
theorem dJ8_hugeLength_7cf53_21 : decode cJ8_hugeLength_7cf53 21 = .ok (.invokevirtual 94, 3) := by decide +kernel
theorem dJ8_hugeLength_7cf53_24 : decode cJ8_hugeLength_7cf53 24 = .ok (.iload_n 0, 1) := by decide +kernel
theorem dJ8_hugeLength_7cf53_25 : decode cJ8_hugeLength_7cf53 25 = .ok (.invokevirtual 98, 3) := by decide +kernel
theorem dJ8_hugeLength_7cf53_28 : decode cJ8_hugeLength_7cf53 28 = .ok (.ldc 208, 2) := by decide +kernel
theorem dJ8_hugeLength_7cf53_30 : decode cJ8_hugeLength_7cf53 30 = .ok (.invokevirtual 94, 3) := by decide +kernel
theorem dJ8_hugeLength_7cf53_33 : decode cJ8_hugeLength_7cf53 33 = .ok (.iload_n 1, 1) := by decide +kernel
theorem dJ8_hugeLength_7cf53_34 : decode cJ8_hugeLength_7cf53 34 = .ok (.invokevirtual 98, 3) := by decide +kernel
theorem dJ8_hugeLength_7cf53_37 : decode cJ8_hugeLength_7cf53 37 = .ok (.ldc 210, 2) := by decide +kernel
theorem dJ8_hugeLength_7cf53_39 : decode cJ8_hugeLength_7cf53 39 = .ok (.invokevirtual 94, 3) := by decide +kernel
theorem dJ8_hugeLength_7cf53_42 : decode cJ8_hugeLength_7cf53 42 = .ok (.invokevirtual 101, 3) := by decide +kernel
theorem dJ8_hugeLength_7cf53_45 : decode cJ8_hugeLength_7cf53 45 = .ok (.invokespecial 212, 3) := by decide +kernel
theorem dJ8_hugeLength_7cf53_48 : decode cJ8_hugeLength_7cf53 48 = .ok (.athrow, 1) := by decide +kernel
theorem dJ8_hugeLength_7cf53_49 : decode cJ8_hugeLength_7cf53 49 = .ok (.iload_n 2, 1) := by decide +kernel
theorem dJ8_hugeLength_7cf53_50 : decode cJ8_hugeLength_7cf53 50 = .ok (.ldc 200, 2) := by decide +kernel
theorem dJ8_hugeLength_7cf53_52 : decode cJ8_hugeLength_7cf53 52 = .ok (.if_icmp .gt 6, 3) := by decide +kernel
theorem dJ8_hugeLength_7cf53_55 : decode cJ8_hugeLength_7cf53 55 = .ok (.ldc 200, 2) := by decide +kernel
theorem dJ8_hugeLength_7cf53_57 : decode cJ8_hugeLength_7cf53 57 = .ok (.ireturn, 1) := by decide +kernel
theorem dJ8_hugeLength_7cf53_58 : decode cJ8_hugeLength_7cf53 58 = .ok (.iload_n 2, 1) := by decide +kernel
theorem dJ8_hugeLength_7cf53_59 : decode cJ8_hugeLength_7cf53 59 = .ok (.ireturn, 1) := by decide +kernel
theorem dJ3_checkIndex_8e157_0 : decode cJ3_checkIndex_8e157 0 = .ok (.iload_n 0, 1) := by decide +kernel
theorem dJ3_checkIndex_8e157_1 : decode cJ3_checkIndex_8e157 1 = .ok (.ifCond .lt 8, 3) := by decide +kernel
theorem dJ3_checkIndex_8e157_4 : decode cJ3_checkIndex_8e157 4 = .ok (.iload_n 0, 1) := by decide +kernel
theorem dJ3_checkIndex_8e157_5 : decode cJ3_checkIndex_8e157 5 = .ok (.iload_n 1, 1) := by decide +kernel
theorem dJ3_checkIndex_8e157_6 : decode cJ3_checkIndex_8e157 6 = .ok (.if_icmp .lt 10, 3) := by decide +kernel
theorem dJ3_checkIndex_8e157_9 : decode cJ3_checkIndex_8e157 9 = .ok (.aload_n 2, 1) := by decide +kernel
theorem dJ3_checkIndex_8e157_10 : decode cJ3_checkIndex_8e157 10 = .ok (.iload_n 0, 1) := by decide +kernel
theorem dJ3_checkIndex_8e157_11 : decode cJ3_checkIndex_8e157 11 = .ok (.iload_n 1, 1) := by decide +kernel
theorem dJ3_checkIndex_8e157_12 : decode cJ3_checkIndex_8e157 12 = .ok (.invokestatic 95, 3) := by decide +kernel
theorem dJ3_checkIndex_8e157_15 : decode cJ3_checkIndex_8e157 15 = .ok (.athrow, 1) := by decide +kernel
theorem dJ3_checkIndex_8e157_16 : decode cJ3_checkIndex_8e157 16 = .ok (.iload_n 0, 1) := by decide +kernel
theorem dJ3_checkIndex_8e157_17 : decode cJ3_checkIndex_8e157 17 = .ok (.ireturn, 1) := by decide +kernel
theorem dL_paint_0 : decode cL_paint 0 = .ok (.aload 6, 2) := by decide +kernel
theorem dL_paint_2 : decode cL_paint 2 = .ok (.iconst 0, 1) := by decide +kernel
theorem dL_paint_3 : decode cL_paint 3 = .ok (.aload_n 0, 1) := by decide +kernel
theorem dL_paint_4 : decode cL_paint 4 = .ok (.iload_n 1, 1) := by decide +kernel
theorem dL_paint_5 : decode cL_paint 5 = .ok (.iload_n 2, 1) := by decide +kernel
theorem dL_paint_6 : decode cL_paint 6 = .ok (.iload_n 3, 1) := by decide +kernel
theorem dL_paint_7 : decode cL_paint 7 = .ok (.iload 4, 2) := by decide +kernel
theorem dL_paint_9 : decode cL_paint 9 = .ok (.iload 5, 2) := by decide +kernel
theorem dL_paint_11 : decode cL_paint 11 = .ok (.invokevirtual 7, 3) := by decide +kernel
theorem dL_paint_14 : decode cL_paint 14 = .ok (.i2l, 1) := by decide +kernel
theorem dL_paint_15 : decode cL_paint 15 = .ok (.lastore, 1) := by decide +kernel
theorem dL_paint_16 : decode cL_paint 16 = .ok (.goto 11, 3) := by decide +kernel
theorem dL_paint_19 : decode cL_paint 19 = .ok (.astore 7, 2) := by decide +kernel
theorem dL_paint_21 : decode cL_paint 21 = .ok (.iconst 1, 1) := by decide +kernel
theorem dL_paint_22 : decode cL_paint 22 = .ok (.ireturn, 1) := by decide +kernel
theorem dL_paint_23 : decode cL_paint 23 = .ok (.astore 7, 2) := by decide +kernel
theorem dL_paint_25 : decode cL_paint 25 = .ok (.iconst 2, 1) := by decide +kernel
theorem dL_paint_26 : decode cL_paint 26 = .ok (.ireturn, 1) := by decide +kernel
theorem dL_paint_27 : decode cL_paint 27 = .ok (.iconst 0, 1) := by decide +kernel
theorem dL_paint_28 : decode cL_paint 28 = .ok (.ireturn, 1) := by decide +kernel
theorem dL_lamp_0 : decode cL_lamp 0 = .ok (.aload 4, 2) := by decide +kernel
theorem dL_lamp_2 : decode cL_lamp 2 = .ok (.iconst 0, 1) := by decide +kernel
theorem dL_lamp_3 : decode cL_lamp 3 = .ok (.aload_n 0, 1) := by decide +kernel
theorem dL_lamp_4 : decode cL_lamp 4 = .ok (.iload_n 1, 1) := by decide +kernel
theorem dL_lamp_5 : decode cL_lamp 5 = .ok (.iload_n 2, 1) := by decide +kernel
theorem dL_lamp_6 : decode cL_lamp 6 = .ok (.iload_n 3, 1) := by decide +kernel
theorem dL_lamp_7 : decode cL_lamp 7 = .ok (.invokevirtual 17, 3) := by decide +kernel
theorem dL_lamp_10 : decode cL_lamp 10 = .ok (.i2l, 1) := by decide +kernel
theorem dL_lamp_11 : decode cL_lamp 11 = .ok (.lastore, 1) := by decide +kernel
theorem dL_lamp_12 : decode cL_lamp 12 = .ok (.goto 7, 3) := by decide +kernel
theorem dL_lamp_15 : decode cL_lamp 15 = .ok (.astore 5, 2) := by decide +kernel
theorem dL_lamp_17 : decode cL_lamp 17 = .ok (.iconst 1, 1) := by decide +kernel
theorem dL_lamp_18 : decode cL_lamp 18 = .ok (.ireturn, 1) := by decide +kernel
theorem dL_lamp_19 : decode cL_lamp 19 = .ok (.iconst 0, 1) := by decide +kernel
theorem dL_lamp_20 : decode cL_lamp 20 = .ok (.ireturn, 1) := by decide +kernel
theorem dL_spoil_0 : decode cL_spoil 0 = .ok (.aload 4, 2) := by decide +kernel
theorem dL_spoil_2 : decode cL_spoil 2 = .ok (.iconst 0, 1) := by decide +kernel
theorem dL_spoil_3 : decode cL_spoil 3 = .ok (.aload_n 0, 1) := by decide +kernel
theorem dL_spoil_4 : decode cL_spoil 4 = .ok (.iload_n 1, 1) := by decide +kernel
theorem dL_spoil_5 : decode cL_spoil 5 = .ok (.iload_n 2, 1) := by decide +kernel
theorem dL_spoil_6 : decode cL_spoil 6 = .ok (.iload_n 3, 1) := by decide +kernel
theorem dL_spoil_7 : decode cL_spoil 7 = .ok (.invokevirtual 21, 3) := by decide +kernel
theorem dL_spoil_10 : decode cL_spoil 10 = .ok (.i2l, 1) := by decide +kernel
theorem dL_spoil_11 : decode cL_spoil 11 = .ok (.lastore, 1) := by decide +kernel
theorem dL_spoil_12 : decode cL_spoil 12 = .ok (.goto 11, 3) := by decide +kernel
theorem dL_spoil_15 : decode cL_spoil 15 = .ok (.astore 5, 2) := by decide +kernel
theorem dL_spoil_17 : decode cL_spoil 17 = .ok (.iconst 1, 1) := by decide +kernel
theorem dL_spoil_18 : decode cL_spoil 18 = .ok (.ireturn, 1) := by decide +kernel
theorem dL_spoil_19 : decode cL_spoil 19 = .ok (.astore 5, 2) := by decide +kernel
theorem dL_spoil_21 : decode cL_spoil 21 = .ok (.iconst 2, 1) := by decide +kernel
theorem dL_spoil_22 : decode cL_spoil 22 = .ok (.ireturn, 1) := by decide +kernel
theorem dL_spoil_23 : decode cL_spoil 23 = .ok (.iconst 0, 1) := by decide +kernel
theorem dL_spoil_24 : decode cL_spoil 24 = .ok (.ireturn, 1) := by decide +kernel
theorem dL_map_0 : decode cL_map 0 = .ok (.aload 4, 2) := by decide +kernel
theorem dL_map_2 : decode cL_map 2 = .ok (.iconst 0, 1) := by decide +kernel
theorem dL_map_3 : decode cL_map 3 = .ok (.aload_n 0, 1) := by decide +kernel
theorem dL_map_4 : decode cL_map 4 = .ok (.iload_n 1, 1) := by decide +kernel
theorem dL_map_5 : decode cL_map 5 = .ok (.iload_n 2, 1) := by decide +kernel
theorem dL_map_6 : decode cL_map 6 = .ok (.iload_n 3, 1) := by decide +kernel
theorem dL_map_7 : decode cL_map 7 = .ok (.invokevirtual 24, 3) := by decide +kernel
theorem dL_map_10 : decode cL_map 10 = .ok (.i2l, 1) := by decide +kernel
theorem dL_map_11 : decode cL_map 11 = .ok (.lastore, 1) := by decide +kernel
theorem dL_map_12 : decode cL_map 12 = .ok (.goto 7, 3) := by decide +kernel
theorem dL_map_15 : decode cL_map 15 = .ok (.astore 5, 2) := by decide +kernel
theorem dL_map_17 : decode cL_map 17 = .ok (.iconst 1, 1) := by decide +kernel
theorem dL_map_18 : decode cL_map 18 = .ok (.ireturn, 1) := by decide +kernel
theorem dL_map_19 : decode cL_map 19 = .ok (.iconst 0, 1) := by decide +kernel
theorem dL_map_20 : decode cL_map 20 = .ok (.ireturn, 1) := by decide +kernel
theorem dL_take_0 : decode cL_take 0 = .ok (.aload_n 3, 1) := by decide +kernel
theorem dL_take_1 : decode cL_take 1 = .ok (.iconst 0, 1) := by decide +kernel
theorem dL_take_2 : decode cL_take 2 = .ok (.aload_n 0, 1) := by decide +kernel
theorem dL_take_3 : decode cL_take 3 = .ok (.iload_n 1, 1) := by decide +kernel
theorem dL_take_4 : decode cL_take 4 = .ok (.iload_n 2, 1) := by decide +kernel
theorem dL_take_5 : decode cL_take 5 = .ok (.invokevirtual 28, 3) := by decide +kernel
theorem dL_take_8 : decode cL_take 8 = .ok (.i2l, 1) := by decide +kernel
theorem dL_take_9 : decode cL_take 9 = .ok (.lastore, 1) := by decide +kernel
theorem dL_take_10 : decode cL_take 10 = .ok (.goto 11, 3) := by decide +kernel
theorem dL_take_13 : decode cL_take 13 = .ok (.astore 4, 2) := by decide +kernel
theorem dL_take_15 : decode cL_take 15 = .ok (.iconst 1, 1) := by decide +kernel
theorem dL_take_16 : decode cL_take 16 = .ok (.ireturn, 1) := by decide +kernel
theorem dL_take_17 : decode cL_take 17 = .ok (.astore 4, 2) := by decide +kernel
theorem dL_take_19 : decode cL_take 19 = .ok (.iconst 2, 1) := by decide +kernel
theorem dL_take_20 : decode cL_take 20 = .ok (.ireturn, 1) := by decide +kernel
theorem dL_take_21 : decode cL_take 21 = .ok (.iconst 0, 1) := by decide +kernel
theorem dL_take_22 : decode cL_take 22 = .ok (.ireturn, 1) := by decide +kernel
theorem dL_merge_0 : decode cL_merge 0 = .ok (.aload_n 3, 1) := by decide +kernel
theorem dL_merge_1 : decode cL_merge 1 = .ok (.iconst 0, 1) := by decide +kernel
theorem dL_merge_2 : decode cL_merge 2 = .ok (.aload_n 0, 1) := by decide +kernel
theorem dL_merge_3 : decode cL_merge 3 = .ok (.iload_n 1, 1) := by decide +kernel
theorem dL_merge_4 : decode cL_merge 4 = .ok (.iload_n 2, 1) := by decide +kernel
theorem dL_merge_5 : decode cL_merge 5 = .ok (.invokevirtual 34, 3) := by decide +kernel
theorem dL_merge_8 : decode cL_merge 8 = .ok (.i2l, 1) := by decide +kernel
theorem dL_merge_9 : decode cL_merge 9 = .ok (.lastore, 1) := by decide +kernel
theorem dL_merge_10 : decode cL_merge 10 = .ok (.goto 11, 3) := by decide +kernel
theorem dL_merge_13 : decode cL_merge 13 = .ok (.astore 4, 2) := by decide +kernel
theorem dL_merge_15 : decode cL_merge 15 = .ok (.iconst 1, 1) := by decide +kernel
theorem dL_merge_16 : decode cL_merge 16 = .ok (.ireturn, 1) := by decide +kernel
theorem dL_merge_17 : decode cL_merge 17 = .ok (.astore 4, 2) := by decide +kernel
theorem dL_merge_19 : decode cL_merge 19 = .ok (.iconst 2, 1) := by decide +kernel
theorem dL_merge_20 : decode cL_merge 20 = .ok (.ireturn, 1) := by decide +kernel
theorem dL_merge_21 : decode cL_merge 21 = .ok (.iconst 0, 1) := by decide +kernel
theorem dL_merge_22 : decode cL_merge 22 = .ok (.ireturn, 1) := by decide +kernel
theorem dL_edit_0 : decode cL_edit 0 = .ok (.aload 4, 2) := by decide +kernel
theorem dL_edit_2 : decode cL_edit 2 = .ok (.iconst 0, 1) := by decide +kernel
theorem dL_edit_3 : decode cL_edit 3 = .ok (.aload_n 0, 1) := by decide +kernel
theorem dL_edit_4 : decode cL_edit 4 = .ok (.iload_n 1, 1) := by decide +kernel
theorem dL_edit_5 : decode cL_edit 5 = .ok (.iload_n 2, 1) := by decide +kernel
theorem dL_edit_6 : decode cL_edit 6 = .ok (.iload_n 3, 1) := by decide +kernel
theorem dL_edit_7 : decode cL_edit 7 = .ok (.invokevirtual 37, 3) := by decide +kernel
theorem dL_edit_10 : decode cL_edit 10 = .ok (.i2l, 1) := by decide +kernel
theorem dL_edit_11 : decode cL_edit 11 = .ok (.lastore, 1) := by decide +kernel
theorem dL_edit_12 : decode cL_edit 12 = .ok (.goto 15, 3) := by decide +kernel
theorem dL_edit_15 : decode cL_edit 15 = .ok (.astore 5, 2) := by decide +kernel
theorem dL_edit_17 : decode cL_edit 17 = .ok (.iconst 1, 1) := by decide +kernel
theorem dL_edit_18 : decode cL_edit 18 = .ok (.ireturn, 1) := by decide +kernel
theorem dL_edit_19 : decode cL_edit 19 = .ok (.astore 5, 2) := by decide +kernel
theorem dL_edit_21 : decode cL_edit 21 = .ok (.iconst 2, 1) := by decide +kernel
theorem dL_edit_22 : decode cL_edit 22 = .ok (.ireturn, 1) := by decide +kernel
theorem dL_edit_23 : decode cL_edit 23 = .ok (.astore 5, 2) := by decide +kernel
theorem dL_edit_25 : decode cL_edit 25 = .ok (.iconst 3, 1) := by decide +kernel
theorem dL_edit_26 : decode cL_edit 26 = .ok (.ireturn, 1) := by decide +kernel
theorem dL_edit_27 : decode cL_edit 27 = .ok (.iconst 0, 1) := by decide +kernel
theorem dL_edit_28 : decode cL_edit 28 = .ok (.ireturn, 1) := by decide +kernel
theorem dL_undo_0 : decode cL_undo 0 = .ok (.aload_n 2, 1) := by decide +kernel
theorem dL_undo_1 : decode cL_undo 1 = .ok (.iconst 0, 1) := by decide +kernel
theorem dL_undo_2 : decode cL_undo 2 = .ok (.aload_n 0, 1) := by decide +kernel
theorem dL_undo_3 : decode cL_undo 3 = .ok (.iload_n 1, 1) := by decide +kernel
theorem dL_undo_4 : decode cL_undo 4 = .ok (.invokevirtual 40, 3) := by decide +kernel
theorem dL_undo_7 : decode cL_undo 7 = .ok (.i2l, 1) := by decide +kernel
theorem dL_undo_8 : decode cL_undo 8 = .ok (.lastore, 1) := by decide +kernel
theorem dL_undo_9 : decode cL_undo 9 = .ok (.goto 6, 3) := by decide +kernel
theorem dL_undo_12 : decode cL_undo 12 = .ok (.astore_n 3, 1) := by decide +kernel
theorem dL_undo_13 : decode cL_undo 13 = .ok (.iconst 1, 1) := by decide +kernel
theorem dL_undo_14 : decode cL_undo 14 = .ok (.ireturn, 1) := by decide +kernel
theorem dL_undo_15 : decode cL_undo 15 = .ok (.iconst 0, 1) := by decide +kernel
theorem dL_undo_16 : decode cL_undo 16 = .ok (.ireturn, 1) := by decide +kernel
theorem dL_save_0 : decode cL_save 0 = .ok (.aload_n 2, 1) := by decide +kernel
theorem dL_save_1 : decode cL_save 1 = .ok (.iconst 0, 1) := by decide +kernel
theorem dL_save_2 : decode cL_save 2 = .ok (.aload_n 0, 1) := by decide +kernel
theorem dL_save_3 : decode cL_save 3 = .ok (.iload_n 1, 1) := by decide +kernel
theorem dL_save_4 : decode cL_save 4 = .ok (.invokevirtual 44, 3) := by decide +kernel
theorem dL_save_7 : decode cL_save 7 = .ok (.i2l, 1) := by decide +kernel
theorem dL_save_8 : decode cL_save 8 = .ok (.lastore, 1) := by decide +kernel
theorem dL_save_9 : decode cL_save 9 = .ok (.goto 9, 3) := by decide +kernel
theorem dL_save_12 : decode cL_save 12 = .ok (.astore_n 3, 1) := by decide +kernel
theorem dL_save_13 : decode cL_save 13 = .ok (.iconst 1, 1) := by decide +kernel
theorem dL_save_14 : decode cL_save 14 = .ok (.ireturn, 1) := by decide +kernel
theorem dL_save_15 : decode cL_save 15 = .ok (.astore_n 3, 1) := by decide +kernel
theorem dL_save_16 : decode cL_save 16 = .ok (.iconst 2, 1) := by decide +kernel
theorem dL_save_17 : decode cL_save 17 = .ok (.ireturn, 1) := by decide +kernel
theorem dL_save_18 : decode cL_save 18 = .ok (.iconst 0, 1) := by decide +kernel
theorem dL_save_19 : decode cL_save 19 = .ok (.ireturn, 1) := by decide +kernel
theorem dL_raw_0 : decode cL_raw 0 = .ok (.aload 4, 2) := by decide +kernel
theorem dL_raw_2 : decode cL_raw 2 = .ok (.iconst 0, 1) := by decide +kernel
theorem dL_raw_3 : decode cL_raw 3 = .ok (.aload_n 0, 1) := by decide +kernel
theorem dL_raw_4 : decode cL_raw 4 = .ok (.iload_n 1, 1) := by decide +kernel
theorem dL_raw_5 : decode cL_raw 5 = .ok (.iload_n 2, 1) := by decide +kernel
theorem dL_raw_6 : decode cL_raw 6 = .ok (.iload_n 3, 1) := by decide +kernel
theorem dL_raw_7 : decode cL_raw 7 = .ok (.invokevirtual 47, 3) := by decide +kernel
theorem dL_raw_10 : decode cL_raw 10 = .ok (.i2l, 1) := by decide +kernel
theorem dL_raw_11 : decode cL_raw 11 = .ok (.lastore, 1) := by decide +kernel
theorem dL_raw_12 : decode cL_raw 12 = .ok (.goto 7, 3) := by decide +kernel
theorem dL_raw_15 : decode cL_raw 15 = .ok (.astore 5, 2) := by decide +kernel
theorem dL_raw_17 : decode cL_raw 17 = .ok (.iconst 1, 1) := by decide +kernel
theorem dL_raw_18 : decode cL_raw 18 = .ok (.ireturn, 1) := by decide +kernel
theorem dL_raw_19 : decode cL_raw 19 = .ok (.iconst 0, 1) := by decide +kernel
theorem dL_raw_20 : decode cL_raw 20 = .ok (.ireturn, 1) := by decide +kernel
theorem dL_picture_0 : decode cL_picture 0 = .ok (.aload 5, 2) := by decide +kernel
theorem dL_picture_2 : decode cL_picture 2 = .ok (.iconst 0, 1) := by decide +kernel
theorem dL_picture_3 : decode cL_picture 3 = .ok (.aload_n 0, 1) := by decide +kernel
theorem dL_picture_4 : decode cL_picture 4 = .ok (.iload_n 1, 1) := by decide +kernel
theorem dL_picture_5 : decode cL_picture 5 = .ok (.iload_n 2, 1) := by decide +kernel
theorem dL_picture_6 : decode cL_picture 6 = .ok (.iload_n 3, 1) := by decide +kernel
theorem dL_picture_7 : decode cL_picture 7 = .ok (.iload 4, 2) := by decide +kernel
theorem dL_picture_9 : decode cL_picture 9 = .ok (.invokevirtual 50, 3) := by decide +kernel
theorem dL_picture_12 : decode cL_picture 12 = .ok (.dastore, 1) := by decide +kernel
theorem dL_picture_13 : decode cL_picture 13 = .ok (.goto 11, 3) := by decide +kernel
theorem dL_picture_16 : decode cL_picture 16 = .ok (.astore 6, 2) := by decide +kernel
theorem dL_picture_18 : decode cL_picture 18 = .ok (.iconst 1, 1) := by decide +kernel
theorem dL_picture_19 : decode cL_picture 19 = .ok (.ireturn, 1) := by decide +kernel
theorem dL_picture_20 : decode cL_picture 20 = .ok (.astore 6, 2) := by decide +kernel
theorem dL_picture_22 : decode cL_picture 22 = .ok (.iconst 2, 1) := by decide +kernel
theorem dL_picture_23 : decode cL_picture 23 = .ok (.ireturn, 1) := by decide +kernel
theorem dL_picture_24 : decode cL_picture 24 = .ok (.iconst 0, 1) := by decide +kernel
theorem dL_picture_25 : decode cL_picture 25 = .ok (.ireturn, 1) := by decide +kernel
theorem dL_word_0 : decode cL_word 0 = .ok (.aload_n 2, 1) := by decide +kernel
theorem dL_word_1 : decode cL_word 1 = .ok (.iconst 0, 1) := by decide +kernel
theorem dL_word_2 : decode cL_word 2 = .ok (.aload_n 0, 1) := by decide +kernel
theorem dL_word_3 : decode cL_word 3 = .ok (.iload_n 1, 1) := by decide +kernel
theorem dL_word_4 : decode cL_word 4 = .ok (.invokevirtual 54, 3) := by decide +kernel
theorem dL_word_7 : decode cL_word 7 = .ok (.i2l, 1) := by decide +kernel
theorem dL_word_8 : decode cL_word 8 = .ok (.lastore, 1) := by decide +kernel
theorem dL_word_9 : decode cL_word 9 = .ok (.goto 6, 3) := by decide +kernel
theorem dL_word_12 : decode cL_word 12 = .ok (.astore_n 3, 1) := by decide +kernel
theorem dL_word_13 : decode cL_word 13 = .ok (.iconst 1, 1) := by decide +kernel
theorem dL_word_14 : decode cL_word 14 = .ok (.ireturn, 1) := by decide +kernel
theorem dL_word_15 : decode cL_word 15 = .ok (.iconst 0, 1) := by decide +kernel
theorem dL_word_16 : decode cL_word 16 = .ok (.ireturn, 1) := by decide +kernel
theorem dL_ofFrame_0 : decode cL_ofFrame 0 = .ok (.aload_n 3, 1) := by decide +kernel
theorem dL_ofFrame_1 : decode cL_ofFrame 1 = .ok (.iconst 0, 1) := by decide +kernel
theorem dL_ofFrame_2 : decode cL_ofFrame 2 = .ok (.aload_n 0, 1) := by decide +kernel
theorem dL_ofFrame_3 : decode cL_ofFrame 3 = .ok (.iload_n 1, 1) := by decide +kernel
theorem dL_ofFrame_4 : decode cL_ofFrame 4 = .ok (.iload_n 2, 1) := by decide +kernel
theorem dL_ofFrame_5 : decode cL_ofFrame 5 = .ok (.invokevirtual 57, 3) := by decide +kernel
theorem dL_ofFrame_8 : decode cL_ofFrame 8 = .ok (.i2l, 1) := by decide +kernel
theorem dL_ofFrame_9 : decode cL_ofFrame 9 = .ok (.lastore, 1) := by decide +kernel
theorem dL_ofFrame_10 : decode cL_ofFrame 10 = .ok (.goto 11, 3) := by decide +kernel
theorem dL_ofFrame_13 : decode cL_ofFrame 13 = .ok (.astore 4, 2) := by decide +kernel
theorem dL_ofFrame_15 : decode cL_ofFrame 15 = .ok (.iconst 1, 1) := by decide +kernel
theorem dL_ofFrame_16 : decode cL_ofFrame 16 = .ok (.ireturn, 1) := by decide +kernel
theorem dL_ofFrame_17 : decode cL_ofFrame 17 = .ok (.astore 4, 2) := by decide +kernel
theorem dL_ofFrame_19 : decode cL_ofFrame 19 = .ok (.iconst 2, 1) := by decide +kernel
theorem dL_ofFrame_20 : decode cL_ofFrame 20 = .ok (.ireturn, 1) := by decide +kernel
theorem dL_ofFrame_21 : decode cL_ofFrame 21 = .ok (.iconst 0, 1) := by decide +kernel
theorem dL_ofFrame_22 : decode cL_ofFrame 22 = .ok (.ireturn, 1) := by decide +kernel
theorem dL_ofEdit_0 : decode cL_ofEdit 0 = .ok (.aload 4, 2) := by decide +kernel
theorem dL_ofEdit_2 : decode cL_ofEdit 2 = .ok (.iconst 0, 1) := by decide +kernel
theorem dL_ofEdit_3 : decode cL_ofEdit 3 = .ok (.aload_n 0, 1) := by decide +kernel
theorem dL_ofEdit_4 : decode cL_ofEdit 4 = .ok (.iload_n 1, 1) := by decide +kernel
theorem dL_ofEdit_5 : decode cL_ofEdit 5 = .ok (.iload_n 2, 1) := by decide +kernel
theorem dL_ofEdit_6 : decode cL_ofEdit 6 = .ok (.iload_n 3, 1) := by decide +kernel
theorem dL_ofEdit_7 : decode cL_ofEdit 7 = .ok (.invokevirtual 60, 3) := by decide +kernel
theorem dL_ofEdit_10 : decode cL_ofEdit 10 = .ok (.i2l, 1) := by decide +kernel
theorem dL_ofEdit_11 : decode cL_ofEdit 11 = .ok (.lastore, 1) := by decide +kernel
theorem dL_ofEdit_12 : decode cL_ofEdit 12 = .ok (.goto 11, 3) := by decide +kernel
theorem dL_ofEdit_15 : decode cL_ofEdit 15 = .ok (.astore 5, 2) := by decide +kernel
theorem dL_ofEdit_17 : decode cL_ofEdit 17 = .ok (.iconst 1, 1) := by decide +kernel
theorem dL_ofEdit_18 : decode cL_ofEdit 18 = .ok (.ireturn, 1) := by decide +kernel
theorem dL_ofEdit_19 : decode cL_ofEdit 19 = .ok (.astore 5, 2) := by decide +kernel
theorem dL_ofEdit_21 : decode cL_ofEdit 21 = .ok (.iconst 2, 1) := by decide +kernel
theorem dL_ofEdit_22 : decode cL_ofEdit 22 = .ok (.ireturn, 1) := by decide +kernel
theorem dL_ofEdit_23 : decode cL_ofEdit 23 = .ok (.iconst 0, 1) := by decide +kernel
theorem dL_ofEdit_24 : decode cL_ofEdit 24 = .ok (.ireturn, 1) := by decide +kernel
theorem dL_zone_0 : decode cL_zone 0 = .ok (.aload_n 3, 1) := by decide +kernel
theorem dL_zone_1 : decode cL_zone 1 = .ok (.iconst 0, 1) := by decide +kernel
theorem dL_zone_2 : decode cL_zone 2 = .ok (.aload_n 0, 1) := by decide +kernel
theorem dL_zone_3 : decode cL_zone 3 = .ok (.iload_n 1, 1) := by decide +kernel
theorem dL_zone_4 : decode cL_zone 4 = .ok (.iload_n 2, 1) := by decide +kernel
theorem dL_zone_5 : decode cL_zone 5 = .ok (.invokevirtual 63, 3) := by decide +kernel
theorem dL_zone_8 : decode cL_zone 8 = .ok (.dastore, 1) := by decide +kernel
theorem dL_zone_9 : decode cL_zone 9 = .ok (.goto 7, 3) := by decide +kernel
theorem dL_zone_12 : decode cL_zone 12 = .ok (.astore 4, 2) := by decide +kernel
theorem dL_zone_14 : decode cL_zone 14 = .ok (.iconst 1, 1) := by decide +kernel
theorem dL_zone_15 : decode cL_zone 15 = .ok (.ireturn, 1) := by decide +kernel
theorem dL_zone_16 : decode cL_zone 16 = .ok (.iconst 0, 1) := by decide +kernel
theorem dL_zone_17 : decode cL_zone 17 = .ok (.ireturn, 1) := by decide +kernel
theorem dL_meter_0 : decode cL_meter 0 = .ok (.aload_n 2, 1) := by decide +kernel
theorem dL_meter_1 : decode cL_meter 1 = .ok (.iconst 0, 1) := by decide +kernel
theorem dL_meter_2 : decode cL_meter 2 = .ok (.aload_n 0, 1) := by decide +kernel
theorem dL_meter_3 : decode cL_meter 3 = .ok (.iload_n 1, 1) := by decide +kernel
theorem dL_meter_4 : decode cL_meter 4 = .ok (.invokevirtual 67, 3) := by decide +kernel
theorem dL_meter_7 : decode cL_meter 7 = .ok (.dastore, 1) := by decide +kernel
theorem dL_meter_8 : decode cL_meter 8 = .ok (.goto 6, 3) := by decide +kernel
theorem dL_meter_11 : decode cL_meter 11 = .ok (.astore_n 3, 1) := by decide +kernel
theorem dL_meter_12 : decode cL_meter 12 = .ok (.iconst 1, 1) := by decide +kernel
theorem dL_meter_13 : decode cL_meter 13 = .ok (.ireturn, 1) := by decide +kernel
theorem dL_meter_14 : decode cL_meter 14 = .ok (.iconst 0, 1) := by decide +kernel
theorem dL_meter_15 : decode cL_meter 15 = .ok (.ireturn, 1) := by decide +kernel
theorem dL_ofFile_0 : decode cL_ofFile 0 = .ok (.aload_n 3, 1) := by decide +kernel
theorem dL_ofFile_1 : decode cL_ofFile 1 = .ok (.iconst 0, 1) := by decide +kernel
theorem dL_ofFile_2 : decode cL_ofFile 2 = .ok (.aload_n 0, 1) := by decide +kernel
theorem dL_ofFile_3 : decode cL_ofFile 3 = .ok (.iload_n 1, 1) := by decide +kernel
theorem dL_ofFile_4 : decode cL_ofFile 4 = .ok (.iload_n 2, 1) := by decide +kernel
theorem dL_ofFile_5 : decode cL_ofFile 5 = .ok (.invokevirtual 71, 3) := by decide +kernel
theorem dL_ofFile_8 : decode cL_ofFile 8 = .ok (.i2l, 1) := by decide +kernel
theorem dL_ofFile_9 : decode cL_ofFile 9 = .ok (.lastore, 1) := by decide +kernel
theorem dL_ofFile_10 : decode cL_ofFile 10 = .ok (.goto 11, 3) := by decide +kernel
theorem dL_ofFile_13 : decode cL_ofFile 13 = .ok (.astore 4, 2) := by decide +kernel
theorem dL_ofFile_15 : decode cL_ofFile 15 = .ok (.iconst 1, 1) := by decide +kernel
theorem dL_ofFile_16 : decode cL_ofFile 16 = .ok (.ireturn, 1) := by decide +kernel
theorem dL_ofFile_17 : decode cL_ofFile 17 = .ok (.astore 4, 2) := by decide +kernel
theorem dL_ofFile_19 : decode cL_ofFile 19 = .ok (.iconst 2, 1) := by decide +kernel
theorem dL_ofFile_20 : decode cL_ofFile 20 = .ok (.ireturn, 1) := by decide +kernel
theorem dL_ofFile_21 : decode cL_ofFile 21 = .ok (.iconst 0, 1) := by decide +kernel
theorem dL_ofFile_22 : decode cL_ofFile 22 = .ok (.ireturn, 1) := by decide +kernel
theorem dL_ofPlace_0 : decode cL_ofPlace 0 = .ok (.aload 4, 2) := by decide +kernel
theorem dL_ofPlace_2 : decode cL_ofPlace 2 = .ok (.iconst 0, 1) := by decide +kernel
theorem dL_ofPlace_3 : decode cL_ofPlace 3 = .ok (.aload_n 0, 1) := by decide +kernel
theorem dL_ofPlace_4 : decode cL_ofPlace 4 = .ok (.iload_n 1, 1) := by decide +kernel
theorem dL_ofPlace_5 : decode cL_ofPlace 5 = .ok (.iload_n 2, 1) := by decide +kernel
theorem dL_ofPlace_6 : decode cL_ofPlace 6 = .ok (.iload_n 3, 1) := by decide +kernel
theorem dL_ofPlace_7 : decode cL_ofPlace 7 = .ok (.invokevirtual 74, 3) := by decide +kernel
theorem dL_ofPlace_10 : decode cL_ofPlace 10 = .ok (.i2l, 1) := by decide +kernel
theorem dL_ofPlace_11 : decode cL_ofPlace 11 = .ok (.lastore, 1) := by decide +kernel
theorem dL_ofPlace_12 : decode cL_ofPlace 12 = .ok (.goto 11, 3) := by decide +kernel
theorem dL_ofPlace_15 : decode cL_ofPlace 15 = .ok (.astore 5, 2) := by decide +kernel
theorem dL_ofPlace_17 : decode cL_ofPlace 17 = .ok (.iconst 1, 1) := by decide +kernel
theorem dL_ofPlace_18 : decode cL_ofPlace 18 = .ok (.ireturn, 1) := by decide +kernel
theorem dL_ofPlace_19 : decode cL_ofPlace 19 = .ok (.astore 5, 2) := by decide +kernel
theorem dL_ofPlace_21 : decode cL_ofPlace 21 = .ok (.iconst 2, 1) := by decide +kernel
theorem dL_ofPlace_22 : decode cL_ofPlace 22 = .ok (.ireturn, 1) := by decide +kernel
theorem dL_ofPlace_23 : decode cL_ofPlace 23 = .ok (.iconst 0, 1) := by decide +kernel
theorem dL_ofPlace_24 : decode cL_ofPlace 24 = .ok (.ireturn, 1) := by decide +kernel
theorem dL_many_0 : decode cL_many 0 = .ok (.aload_n 2, 1) := by decide +kernel
theorem dL_many_1 : decode cL_many 1 = .ok (.iconst 0, 1) := by decide +kernel
theorem dL_many_2 : decode cL_many 2 = .ok (.aload_n 0, 1) := by decide +kernel
theorem dL_many_3 : decode cL_many 3 = .ok (.iload_n 1, 1) := by decide +kernel
theorem dL_many_4 : decode cL_many 4 = .ok (.invokevirtual 77, 3) := by decide +kernel
theorem dL_many_7 : decode cL_many 7 = .ok (.i2l, 1) := by decide +kernel
theorem dL_many_8 : decode cL_many 8 = .ok (.lastore, 1) := by decide +kernel
theorem dL_many_9 : decode cL_many 9 = .ok (.goto 6, 3) := by decide +kernel
theorem dL_many_12 : decode cL_many 12 = .ok (.astore_n 3, 1) := by decide +kernel
theorem dL_many_13 : decode cL_many 13 = .ok (.iconst 1, 1) := by decide +kernel
theorem dL_many_14 : decode cL_many 14 = .ok (.ireturn, 1) := by decide +kernel
theorem dL_many_15 : decode cL_many 15 = .ok (.iconst 0, 1) := by decide +kernel
theorem dL_many_16 : decode cL_many 16 = .ok (.ireturn, 1) := by decide +kernel
theorem dL_apart_0 : decode cL_apart 0 = .ok (.aload_n 3, 1) := by decide +kernel
theorem dL_apart_1 : decode cL_apart 1 = .ok (.iconst 0, 1) := by decide +kernel
theorem dL_apart_2 : decode cL_apart 2 = .ok (.aload_n 0, 1) := by decide +kernel
theorem dL_apart_3 : decode cL_apart 3 = .ok (.iload_n 1, 1) := by decide +kernel
theorem dL_apart_4 : decode cL_apart 4 = .ok (.iload_n 2, 1) := by decide +kernel
theorem dL_apart_5 : decode cL_apart 5 = .ok (.invokevirtual 80, 3) := by decide +kernel
theorem dL_apart_8 : decode cL_apart 8 = .ok (.dastore, 1) := by decide +kernel
theorem dL_apart_9 : decode cL_apart 9 = .ok (.goto 7, 3) := by decide +kernel
theorem dL_apart_12 : decode cL_apart 12 = .ok (.astore 4, 2) := by decide +kernel
theorem dL_apart_14 : decode cL_apart 14 = .ok (.iconst 1, 1) := by decide +kernel
theorem dL_apart_15 : decode cL_apart 15 = .ok (.ireturn, 1) := by decide +kernel
theorem dL_apart_16 : decode cL_apart 16 = .ok (.iconst 0, 1) := by decide +kernel
theorem dL_apart_17 : decode cL_apart 17 = .ok (.ireturn, 1) := by decide +kernel
theorem dL_wouldClip_0 : decode cL_wouldClip 0 = .ok (.aload_n 3, 1) := by decide +kernel
theorem dL_wouldClip_1 : decode cL_wouldClip 1 = .ok (.iconst 0, 1) := by decide +kernel
theorem dL_wouldClip_2 : decode cL_wouldClip 2 = .ok (.aload_n 0, 1) := by decide +kernel
theorem dL_wouldClip_3 : decode cL_wouldClip 3 = .ok (.iload_n 1, 1) := by decide +kernel
theorem dL_wouldClip_4 : decode cL_wouldClip 4 = .ok (.iload_n 2, 1) := by decide +kernel
theorem dL_wouldClip_5 : decode cL_wouldClip 5 = .ok (.invokevirtual 83, 3) := by decide +kernel
theorem dL_wouldClip_8 : decode cL_wouldClip 8 = .ok (.i2l, 1) := by decide +kernel
theorem dL_wouldClip_9 : decode cL_wouldClip 9 = .ok (.lastore, 1) := by decide +kernel
theorem dL_wouldClip_10 : decode cL_wouldClip 10 = .ok (.goto 7, 3) := by decide +kernel
theorem dL_wouldClip_13 : decode cL_wouldClip 13 = .ok (.astore 4, 2) := by decide +kernel
theorem dL_wouldClip_15 : decode cL_wouldClip 15 = .ok (.iconst 1, 1) := by decide +kernel
theorem dL_wouldClip_16 : decode cL_wouldClip 16 = .ok (.ireturn, 1) := by decide +kernel
theorem dL_wouldClip_17 : decode cL_wouldClip 17 = .ok (.iconst 0, 1) := by decide +kernel
theorem dL_wouldClip_18 : decode cL_wouldClip 18 = .ok (.ireturn, 1) := by decide +kernel
theorem dL_bestTake_0 : decode cL_bestTake 0 = .ok (.aload_n 2, 1) := by decide +kernel
theorem dL_bestTake_1 : decode cL_bestTake 1 = .ok (.iconst 0, 1) := by decide +kernel
theorem dL_bestTake_2 : decode cL_bestTake 2 = .ok (.aload_n 0, 1) := by decide +kernel
theorem dL_bestTake_3 : decode cL_bestTake 3 = .ok (.iload_n 1, 1) := by decide +kernel
theorem dL_bestTake_4 : decode cL_bestTake 4 = .ok (.invokevirtual 86, 3) := by decide +kernel
theorem dL_bestTake_7 : decode cL_bestTake 7 = .ok (.i2l, 1) := by decide +kernel
theorem dL_bestTake_8 : decode cL_bestTake 8 = .ok (.lastore, 1) := by decide +kernel
theorem dL_bestTake_9 : decode cL_bestTake 9 = .ok (.goto 6, 3) := by decide +kernel
theorem dL_bestTake_12 : decode cL_bestTake 12 = .ok (.astore_n 3, 1) := by decide +kernel
theorem dL_bestTake_13 : decode cL_bestTake 13 = .ok (.iconst 1, 1) := by decide +kernel
theorem dL_bestTake_14 : decode cL_bestTake 14 = .ok (.ireturn, 1) := by decide +kernel
theorem dL_bestTake_15 : decode cL_bestTake 15 = .ok (.iconst 0, 1) := by decide +kernel
theorem dL_bestTake_16 : decode cL_bestTake 16 = .ok (.ireturn, 1) := by decide +kernel
theorem dL_bestWhite_0 : decode cL_bestWhite 0 = .ok (.aload_n 3, 1) := by decide +kernel
theorem dL_bestWhite_1 : decode cL_bestWhite 1 = .ok (.iconst 0, 1) := by decide +kernel
theorem dL_bestWhite_2 : decode cL_bestWhite 2 = .ok (.aload_n 0, 1) := by decide +kernel
theorem dL_bestWhite_3 : decode cL_bestWhite 3 = .ok (.iload_n 1, 1) := by decide +kernel
theorem dL_bestWhite_4 : decode cL_bestWhite 4 = .ok (.iload_n 2, 1) := by decide +kernel
theorem dL_bestWhite_5 : decode cL_bestWhite 5 = .ok (.invokevirtual 89, 3) := by decide +kernel
theorem dL_bestWhite_8 : decode cL_bestWhite 8 = .ok (.i2l, 1) := by decide +kernel
theorem dL_bestWhite_9 : decode cL_bestWhite 9 = .ok (.lastore, 1) := by decide +kernel
theorem dL_bestWhite_10 : decode cL_bestWhite 10 = .ok (.goto 11, 3) := by decide +kernel
theorem dL_bestWhite_13 : decode cL_bestWhite 13 = .ok (.astore 4, 2) := by decide +kernel
theorem dL_bestWhite_15 : decode cL_bestWhite 15 = .ok (.iconst 1, 1) := by decide +kernel
theorem dL_bestWhite_16 : decode cL_bestWhite 16 = .ok (.ireturn, 1) := by decide +kernel
theorem dL_bestWhite_17 : decode cL_bestWhite 17 = .ok (.astore 4, 2) := by decide +kernel
theorem dL_bestWhite_19 : decode cL_bestWhite 19 = .ok (.iconst 2, 1) := by decide +kernel
theorem dL_bestWhite_20 : decode cL_bestWhite 20 = .ok (.ireturn, 1) := by decide +kernel
theorem dL_bestWhite_21 : decode cL_bestWhite 21 = .ok (.iconst 0, 1) := by decide +kernel
theorem dL_bestWhite_22 : decode cL_bestWhite 22 = .ok (.ireturn, 1) := by decide +kernel
