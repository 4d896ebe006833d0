theorem dX9_lamp_50 : decode cX9_lamp 50 = .ok (.getfield 13, 3) := by decide +kernel
theorem dX9_lamp_53 : decode cX9_lamp 53 = .ok (.iconst 0, 1) := by decide +kernel
theorem dX9_lamp_54 : decode cX9_lamp 54 = .ok (.iload_n 1, 1) := by decide +kernel
theorem dX9_lamp_55 : decode cX9_lamp 55 = .ok (.iastore, 1) := by decide +kernel
theorem dX9_lamp_56 : decode cX9_lamp 56 = .ok (.aload_n 0, 1) := by decide +kernel
theorem dX9_lamp_57 : decode cX9_lamp 57 = .ok (.getfield 13, 3) := by decide +kernel
theorem dX9_lamp_60 : decode cX9_lamp 60 = .ok (.iconst 1, 1) := by decide +kernel
theorem dX9_lamp_61 : decode cX9_lamp 61 = .ok (.iload_n 2, 1) := by decide +kernel
theorem dX9_lamp_62 : decode cX9_lamp 62 = .ok (.iastore, 1) := by decide +kernel
theorem dX9_lamp_63 : decode cX9_lamp 63 = .ok (.aload_n 0, 1) := by decide +kernel
theorem dX9_lamp_64 : decode cX9_lamp 64 = .ok (.getfield 13, 3) := by decide +kernel
theorem dX9_lamp_67 : decode cX9_lamp 67 = .ok (.iconst 2, 1) := by decide +kernel
theorem dX9_lamp_68 : decode cX9_lamp 68 = .ok (.iload_n 3, 1) := by decide +kernel
theorem dX9_lamp_69 : decode cX9_lamp 69 = .ok (.iastore, 1) := by decide +kernel
theorem dX9_lamp_70 : decode cX9_lamp 70 = .ok (.iload 4, 2) := by decide +kernel
theorem dX9_lamp_72 : decode cX9_lamp 72 = .ok (.ireturn, 1) := by decide +kernel
theorem dX9_spoil_0 : decode cX9_spoil 0 = .ok (.aload_n 0, 1) := by decide +kernel
theorem dX9_spoil_1 : decode cX9_spoil 1 = .ok (.iconst 0, 1) := by decide +kernel
theorem dX9_spoil_2 : decode cX9_spoil 2 = .ok (.putfield 33, 3) := by decide +kernel
theorem dX9_spoil_5 : decode cX9_spoil 5 = .ok (.iload_n 1, 1) := by decide +kernel
theorem dX9_spoil_6 : decode cX9_spoil 6 = .ok (.iload_n 2, 1) := by decide +kernel
theorem dX9_spoil_7 : decode cX9_spoil 7 = .ok (.invokestatic 47, 3) := by decide +kernel
theorem dX9_spoil_10 : decode cX9_spoil 10 = .ok (.ifCond .ne 9, 3) := by decide +kernel
theorem dX9_spoil_13 : decode cX9_spoil 13 = .ok (.aload_n 0, 1) := by decide +kernel
theorem dX9_spoil_14 : decode cX9_spoil 14 = .ok (.iconst 1, 1) := by decide +kernel
theorem dX9_spoil_15 : decode cX9_spoil 15 = .ok (.invokevirtual 51, 3) := by decide +kernel
theorem dX9_spoil_18 : decode cX9_spoil 18 = .ok (.ireturn, 1) := by decide +kernel
theorem dX9_spoil_19 : decode cX9_spoil 19 = .ok (.iload_n 3, 1) := by decide +kernel
theorem dX9_spoil_20 : decode cX9_spoil 20 = .ok (.iconst 0, 1) := by decide +kernel
theorem dX9_spoil_21 : decode cX9_spoil 21 = .ok (.iconst 2, 1) := by decide +kernel
theorem dX9_spoil_22 : decode cX9_spoil 22 = .ok (.invokestatic 37, 3) := by decide +kernel
theorem dX9_spoil_25 : decode cX9_spoil 25 = .ok (.ifCond .ne 9, 3) := by decide +kernel
theorem dX9_spoil_28 : decode cX9_spoil 28 = .ok (.aload_n 0, 1) := by decide +kernel
theorem dX9_spoil_29 : decode cX9_spoil 29 = .ok (.iconst 2, 1) := by decide +kernel
theorem dX9_spoil_30 : decode cX9_spoil 30 = .ok (.invokevirtual 51, 3) := by decide +kernel
theorem dX9_spoil_33 : decode cX9_spoil 33 = .ok (.ireturn, 1) := by decide +kernel
theorem dX9_spoil_34 : decode cX9_spoil 34 = .ok (.aload_n 0, 1) := by decide +kernel
theorem dX9_spoil_35 : decode cX9_spoil 35 = .ok (.getfield 16, 3) := by decide +kernel
theorem dX9_spoil_38 : decode cX9_spoil 38 = .ok (.iload_n 1, 1) := by decide +kernel
theorem dX9_spoil_39 : decode cX9_spoil 39 = .ok (.iload_n 2, 1) := by decide +kernel
theorem dX9_spoil_40 : decode cX9_spoil 40 = .ok (.invokestatic 56, 3) := by decide +kernel
theorem dX9_spoil_43 : decode cX9_spoil 43 = .ok (.iaload, 1) := by decide +kernel
theorem dX9_spoil_44 : decode cX9_spoil 44 = .ok (.istore 4, 2) := by decide +kernel
theorem dX9_spoil_46 : decode cX9_spoil 46 = .ok (.aload_n 0, 1) := by decide +kernel
theorem dX9_spoil_47 : decode cX9_spoil 47 = .ok (.getfield 16, 3) := by decide +kernel
theorem dX9_spoil_50 : decode cX9_spoil 50 = .ok (.iload_n 1, 1) := by decide +kernel
theorem dX9_spoil_51 : decode cX9_spoil 51 = .ok (.iload_n 2, 1) := by decide +kernel
theorem dX9_spoil_52 : decode cX9_spoil 52 = .ok (.invokestatic 56, 3) := by decide +kernel
theorem dX9_spoil_55 : decode cX9_spoil 55 = .ok (.iload_n 3, 1) := by decide +kernel
theorem dX9_spoil_56 : decode cX9_spoil 56 = .ok (.iastore, 1) := by decide +kernel
theorem dX9_spoil_57 : decode cX9_spoil 57 = .ok (.iload 4, 2) := by decide +kernel
theorem dX9_spoil_59 : decode cX9_spoil 59 = .ok (.ireturn, 1) := by decide +kernel
theorem dX9_mapped_0 : decode cX9_mapped 0 = .ok (.iconst 0, 1) := by decide +kernel
theorem dX9_mapped_1 : decode cX9_mapped 1 = .ok (.istore_n 1, 1) := by decide +kernel
theorem dX9_mapped_2 : decode cX9_mapped 2 = .ok (.aload_n 0, 1) := by decide +kernel
theorem dX9_mapped_3 : decode cX9_mapped 3 = .ok (.getfield 19, 3) := by decide +kernel
theorem dX9_mapped_6 : decode cX9_mapped 6 = .ok (.astore_n 2, 1) := by decide +kernel
theorem dX9_mapped_7 : decode cX9_mapped 7 = .ok (.aload_n 2, 1) := by decide +kernel
theorem dX9_mapped_8 : decode cX9_mapped 8 = .ok (.arraylength, 1) := by decide +kernel
theorem dX9_mapped_9 : decode cX9_mapped 9 = .ok (.istore_n 3, 1) := by decide +kernel
theorem dX9_mapped_10 : decode cX9_mapped 10 = .ok (.iconst 0, 1) := by decide +kernel
theorem dX9_mapped_11 : decode cX9_mapped 11 = .ok (.istore 4, 2) := by decide +kernel
theorem dX9_mapped_13 : decode cX9_mapped 13 = .ok (.iload 4, 2) := by decide +kernel
theorem dX9_mapped_15 : decode cX9_mapped 15 = .ok (.iload_n 3, 1) := by decide +kernel
theorem dX9_mapped_16 : decode cX9_mapped 16 = .ok (.if_icmp .ge 28, 3) := by decide +kernel
theorem dX9_mapped_19 : decode cX9_mapped 19 = .ok (.aload_n 2, 1) := by decide +kernel
theorem dX9_mapped_20 : decode cX9_mapped 20 = .ok (.iload 4, 2) := by decide +kernel
theorem dX9_mapped_22 : decode cX9_mapped 22 = .ok (.baload, 1) := by decide +kernel
theorem dX9_mapped_23 : decode cX9_mapped 23 = .ok (.istore 5, 2) := by decide +kernel
theorem dX9_mapped_25 : decode cX9_mapped 25 = .ok (.iload_n 1, 1) := by decide +kernel
theorem dX9_mapped_26 : decode cX9_mapped 26 = .ok (.iload 5, 2) := by decide +kernel
theorem dX9_mapped_28 : decode cX9_mapped 28 = .ok (.ifCond .eq 7, 3) := by decide +kernel
theorem dX9_mapped_31 : decode cX9_mapped 31 = .ok (.iconst 1, 1) := by decide +kernel
theorem dX9_mapped_32 : decode cX9_mapped 32 = .ok (.goto 4, 3) := by decide +kernel
theorem dX9_mapped_35 : decode cX9_mapped 35 = .ok (.iconst 0, 1) := by decide +kernel
theorem dX9_mapped_36 : decode cX9_mapped 36 = .ok (.iadd, 1) := by decide +kernel
theorem dX9_mapped_37 : decode cX9_mapped 37 = .ok (.istore_n 1, 1) := by decide +kernel
theorem dX9_mapped_38 : decode cX9_mapped 38 = .ok (.iinc 4 1, 3) := by decide +kernel
theorem dX9_mapped_41 : decode cX9_mapped 41 = .ok (.goto (-28), 3) := by decide +kernel
theorem dX9_mapped_44 : decode cX9_mapped 44 = .ok (.iload_n 1, 1) := by decide +kernel
theorem dX9_mapped_45 : decode cX9_mapped 45 = .ok (.ireturn, 1) := by decide +kernel
theorem dX9_map_0 : decode cX9_map 0 = .ok (.aload_n 0, 1) := by decide +kernel
theorem dX9_map_1 : decode cX9_map 1 = .ok (.iconst 0, 1) := by decide +kernel
theorem dX9_map_2 : decode cX9_map 2 = .ok (.putfield 33, 3) := by decide +kernel
theorem dX9_map_5 : decode cX9_map 5 = .ok (.iload_n 1, 1) := by decide +kernel
theorem dX9_map_6 : decode cX9_map 6 = .ok (.iload_n 2, 1) := by decide +kernel
theorem dX9_map_7 : decode cX9_map 7 = .ok (.invokestatic 47, 3) := by decide +kernel
theorem dX9_map_10 : decode cX9_map 10 = .ok (.ifCond .ne 9, 3) := by decide +kernel
theorem dX9_map_13 : decode cX9_map 13 = .ok (.aload_n 0, 1) := by decide +kernel
theorem dX9_map_14 : decode cX9_map 14 = .ok (.iconst 1, 1) := by decide +kernel
theorem dX9_map_15 : decode cX9_map 15 = .ok (.invokevirtual 51, 3) := by decide +kernel
theorem dX9_map_18 : decode cX9_map 18 = .ok (.ireturn, 1) := by decide +kernel
theorem dX9_map_19 : decode cX9_map 19 = .ok (.aload_n 0, 1) := by decide +kernel
theorem dX9_map_20 : decode cX9_map 20 = .ok (.getfield 19, 3) := by decide +kernel
theorem dX9_map_23 : decode cX9_map 23 = .ok (.iload_n 1, 1) := by decide +kernel
theorem dX9_map_24 : decode cX9_map 24 = .ok (.iload_n 2, 1) := by decide +kernel
theorem dX9_map_25 : decode cX9_map 25 = .ok (.invokestatic 56, 3) := by decide +kernel
theorem dX9_map_28 : decode cX9_map 28 = .ok (.iload_n 3, 1) := by decide +kernel
theorem dX9_map_29 : decode cX9_map 29 = .ok (.bastore, 1) := by decide +kernel
theorem dX9_map_30 : decode cX9_map 30 = .ok (.aload_n 0, 1) := by decide +kernel
theorem dX9_map_31 : decode cX9_map 31 = .ok (.invokevirtual 61, 3) := by decide +kernel
theorem dX9_map_34 : decode cX9_map 34 = .ok (.ireturn, 1) := by decide +kernel
theorem dX9_taken_0 : decode cX9_taken 0 = .ok (.bipush 64, 2) := by decide +kernel
theorem dX9_taken_2 : decode cX9_taken 2 = .ok (.newarray .int, 2) := by decide +kernel
theorem dX9_taken_4 : decode cX9_taken 4 = .ok (.astore 4, 2) := by decide +kernel
theorem dX9_taken_6 : decode cX9_taken 6 = .ok (.aload_n 0, 1) := by decide +kernel
theorem dX9_taken_7 : decode cX9_taken 7 = .ok (.getfield 64, 3) := by decide +kernel
theorem dX9_taken_10 : decode cX9_taken 10 = .ok (.istore 5, 2) := by decide +kernel
theorem dX9_taken_12 : decode cX9_taken 12 = .ok (.iconst 0, 1) := by decide +kernel
theorem dX9_taken_13 : decode cX9_taken 13 = .ok (.istore 6, 2) := by decide +kernel
theorem dX9_taken_15 : decode cX9_taken 15 = .ok (.iload 6, 2) := by decide +kernel
theorem dX9_taken_17 : decode cX9_taken 17 = .ok (.bipush 64, 2) := by decide +kernel
theorem dX9_taken_19 : decode cX9_taken 19 = .ok (.if_icmp .ge 132, 3) := by decide +kernel
theorem dX9_taken_22 : decode cX9_taken 22 = .ok (.iconst 2, 1) := by decide +kernel
theorem dX9_taken_23 : decode cX9_taken 23 = .ok (.iload 5, 2) := by decide +kernel
theorem dX9_taken_25 : decode cX9_taken 25 = .ok (.imul, 1) := by decide +kernel
theorem dX9_taken_26 : decode cX9_taken 26 = .ok (.iconst 5, 1) := by decide +kernel
theorem dX9_taken_27 : decode cX9_taken 27 = .ok (.iadd, 1) := by decide +kernel
theorem dX9_taken_28 : decode cX9_taken 28 = .ok (.bipush 61, 2) := by decide +kernel
theorem dX9_taken_30 : decode cX9_taken 30 = .ok (.irem, 1) := by decide +kernel
theorem dX9_taken_31 : decode cX9_taken 31 = .ok (.istore 5, 2) := by decide +kernel
theorem dX9_taken_33 : decode cX9_taken 33 = .ok (.aload_n 0, 1) := by decide +kernel
theorem dX9_taken_34 : decode cX9_taken 34 = .ok (.getfield 9, 3) := by decide +kernel
theorem dX9_taken_37 : decode cX9_taken 37 = .ok (.iconst 3, 1) := by decide +kernel
theorem dX9_taken_38 : decode cX9_taken 38 = .ok (.iload 6, 2) := by decide +kernel
theorem dX9_taken_40 : decode cX9_taken 40 = .ok (.imul, 1) := by decide +kernel
theorem dX9_taken_41 : decode cX9_taken 41 = .ok (.iload 6, 2) := by decide +kernel
theorem dX9_taken_43 : decode cX9_taken 43 = .ok (.invokestatic 67, 3) := by decide +kernel
theorem dX9_taken_46 : decode cX9_taken 46 = .ok (.iadd, 1) := by decide +kernel
theorem dX9_taken_47 : decode cX9_taken 47 = .ok (.iaload, 1) := by decide +kernel
theorem dX9_taken_48 : decode cX9_taken 48 = .ok (.i2f, 1) := by decide +kernel
theorem dX9_taken_49 : decode cX9_taken 49 = .ok (.aload_n 0, 1) := by decide +kernel
theorem dX9_taken_50 : decode cX9_taken 50 = .ok (.getfield 13, 3) := by decide +kernel
theorem dX9_taken_53 : decode cX9_taken 53 = .ok (.iload 6, 2) := by decide +kernel
theorem dX9_taken_55 : decode cX9_taken 55 = .ok (.invokestatic 67, 3) := by decide +kernel
theorem dX9_taken_58 : decode cX9_taken 58 = .ok (.iaload, 1) := by decide +kernel
theorem dX9_taken_59 : decode cX9_taken 59 = .ok (.i2f, 1) := by decide +kernel
theorem dX9_taken_60 : decode cX9_taken 60 = .ok (.ldc 70, 2) := by decide +kernel
theorem dX9_taken_62 : decode cX9_taken 62 = .ok (.fdiv, 1) := by decide +kernel
theorem dX9_taken_63 : decode cX9_taken 63 = .ok (.fmul, 1) := by decide +kernel
theorem dX9_taken_64 : decode cX9_taken 64 = .ok (.iload_n 1, 1) := by decide +kernel
theorem dX9_taken_65 : decode cX9_taken 65 = .ok (.i2f, 1) := by decide +kernel
theorem dX9_taken_66 : decode cX9_taken 66 = .ok (.fmul, 1) := by decide +kernel
theorem dX9_taken_67 : decode cX9_taken 67 = .ok (.ldc 71, 2) := by decide +kernel
theorem dX9_taken_69 : decode cX9_taken 69 = .ok (.fdiv, 1) := by decide +kernel
theorem dX9_taken_70 : decode cX9_taken 70 = .ok (.fstore 7, 2) := by decide +kernel
theorem dX9_taken_72 : decode cX9_taken 72 = .ok (.sipush 255, 3) := by decide +kernel
theorem dX9_taken_75 : decode cX9_taken 75 = .ok (.fload 7, 2) := by decide +kernel
theorem dX9_taken_77 : decode cX9_taken 77 = .ok (.f2i, 1) := by decide +kernel
theorem dX9_taken_78 : decode cX9_taken 78 = .ok (.invokestatic 72, 3) := by decide +kernel
theorem dX9_taken_81 : decode cX9_taken 81 = .ok (.istore 8, 2) := by decide +kernel
theorem dX9_taken_83 : decode cX9_taken 83 = .ok (.aload 4, 2) := by decide +kernel
theorem dX9_taken_85 : decode cX9_taken 85 = .ok (.iload 6, 2) := by decide +kernel
theorem dX9_taken_87 : decode cX9_taken 87 = .ok (.aload_n 0, 1) := by decide +kernel
theorem dX9_taken_88 : decode cX9_taken 88 = .ok (.getfield 16, 3) := by decide +kernel
theorem dX9_taken_91 : decode cX9_taken 91 = .ok (.iload 6, 2) := by decide +kernel
theorem dX9_taken_93 : decode cX9_taken 93 = .ok (.iaload, 1) := by decide +kernel
theorem dX9_taken_94 : decode cX9_taken 94 = .ok (.iconst 1, 1) := by decide +kernel
theorem dX9_taken_95 : decode cX9_taken 95 = .ok (.if_icmp .ne 7, 3) := by decide +kernel
theorem dX9_taken_98 : decode cX9_taken 98 = .ok (.iconst 0, 1) := by decide +kernel
theorem dX9_taken_99 : decode cX9_taken 99 = .ok (.goto 45, 3) := by decide +kernel
theorem dX9_taken_102 : decode cX9_taken 102 = .ok (.aload_n 0, 1) := by decide +kernel
theorem dX9_taken_103 : decode cX9_taken 103 = .ok (.getfield 16, 3) := by decide +kernel
theorem dX9_taken_106 : decode cX9_taken 106 = .ok (.iload 6, 2) := by decide +kernel
theorem dX9_taken_108 : decode cX9_taken 108 = .ok (.iaload, 1) := by decide +kernel
theorem dX9_taken_109 : decode cX9_taken 109 = .ok (.iconst 2, 1) := by decide +kernel
theorem dX9_taken_110 : decode cX9_taken 110 = .ok (.if_icmp .ne 9, 3) := by decide +kernel
theorem dX9_taken_113 : decode cX9_taken 113 = .ok (.sipush 255, 3) := by decide +kernel
theorem dX9_taken_116 : decode cX9_taken 116 = .ok (.goto 28, 3) := by decide +kernel
theorem dX9_taken_119 : decode cX9_taken 119 = .ok (.iconst 0, 1) := by decide +kernel
theorem dX9_taken_120 : decode cX9_taken 120 = .ok (.sipush 255, 3) := by decide +kernel
theorem dX9_taken_123 : decode cX9_taken 123 = .ok (.bipush 16, 2) := by decide +kernel
theorem dX9_taken_125 : decode cX9_taken 125 = .ok (.iload 8, 2) := by decide +kernel
theorem dX9_taken_127 : decode cX9_taken 127 = .ok (.iload_n 2, 1) := by decide +kernel
theorem dX9_taken_128 : decode cX9_taken 128 = .ok (.imul, 1) := by decide +kernel
theorem dX9_taken_129 : decode cX9_taken 129 = .ok (.iadd, 1) := by decide +kernel
theorem dX9_taken_130 : decode cX9_taken 130 = .ok (.iload 5, 2) := by decide +kernel
theorem dX9_taken_132 : decode cX9_taken 132 = .ok (.bipush 8, 2) := by decide +kernel
theorem dX9_taken_134 : decode cX9_taken 134 = .ok (.irem, 1) := by decide +kernel
theorem dX9_taken_135 : decode cX9_taken 135 = .ok (.iadd, 1) := by decide +kernel
theorem dX9_taken_136 : decode cX9_taken 136 = .ok (.iconst 4, 1) := by decide +kernel
theorem dX9_taken_137 : decode cX9_taken 137 = .ok (.isub, 1) := by decide +kernel
theorem dX9_taken_138 : decode cX9_taken 138 = .ok (.invokestatic 72, 3) := by decide +kernel
theorem dX9_taken_141 : decode cX9_taken 141 = .ok (.invokestatic 77, 3) := by decide +kernel
theorem dX9_taken_144 : decode cX9_taken 144 = .ok (.iastore, 1) := by decide +kernel
theorem dX9_taken_145 : decode cX9_taken 145 = .ok (.iinc 6 1, 3) := by decide +kernel
theorem dX9_taken_148 : decode cX9_taken 148 = .ok (.goto (-133), 3) := by decide +kernel
theorem dX9_taken_151 : decode cX9_taken 151 = .ok (.iload_n 3, 1) := by decide +kernel
theorem dX9_taken_152 : decode cX9_taken 152 = .ok (.ifCond .eq 9, 3) := by decide +kernel
theorem dX9_taken_155 : decode cX9_taken 155 = .ok (.aload_n 0, 1) := by decide +kernel
theorem dX9_taken_156 : decode cX9_taken 156 = .ok (.iload 5, 2) := by decide +kernel
theorem dX9_taken_158 : decode cX9_taken 158 = .ok (.putfield 64, 3) := by decide +kernel
theorem dX9_taken_161 : decode cX9_taken 161 = .ok (.new 80, 3) := by decide +kernel
theorem dX9_taken_164 : decode cX9_taken 164 = .ok (.dup, 1) := by decide +kernel
theorem dX9_taken_165 : decode cX9_taken 165 = .ok (.iload_n 1, 1) := by decide +kernel
theorem dX9_taken_166 : decode cX9_taken 166 = .ok (.iload_n 2, 1) := by decide +kernel
theorem dX9_taken_167 : decode cX9_taken 167 = .ok (.aload 4, 2) := by decide +kernel
theorem dX9_taken_169 : decode cX9_taken 169 = .ok (.invokespecial 82, 3) := by decide +kernel
theorem dX9_taken_172 : decode cX9_taken 172 = .ok (.areturn, 1) := by decide +kernel
theorem dX9_take_0 : decode cX9_take 0 = .ok (.aload_n 0, 1) := by decide +kernel
theorem dX9_take_1 : decode cX9_take 1 = .ok (.iconst 0, 1) := by decide +kernel
theorem dX9_take_2 : decode cX9_take 2 = .ok (.putfield 33, 3) := by decide +kernel
theorem dX9_take_5 : decode cX9_take 5 = .ok (.iload_n 1, 1) := by decide +kernel
theorem dX9_take_6 : decode cX9_take 6 = .ok (.iconst 1, 1) := by decide +kernel
theorem dX9_take_7 : decode cX9_take 7 = .ok (.bipush 64, 2) := by decide +kernel
theorem dX9_take_9 : decode cX9_take 9 = .ok (.invokestatic 37, 3) := by decide +kernel
theorem dX9_take_12 : decode cX9_take 12 = .ok (.ifCond .eq 13, 3) := by decide +kernel
theorem dX9_take_15 : decode cX9_take 15 = .ok (.iload_n 2, 1) := by decide +kernel
theorem dX9_take_16 : decode cX9_take 16 = .ok (.iconst 1, 1) := by decide +kernel
theorem dX9_take_17 : decode cX9_take 17 = .ok (.bipush 8, 2) := by decide +kernel
theorem dX9_take_19 : decode cX9_take 19 = .ok (.invokestatic 37, 3) := by decide +kernel
theorem dX9_take_22 : decode cX9_take 22 = .ok (.ifCond .ne 9, 3) := by decide +kernel
theorem dX9_take_25 : decode cX9_take 25 = .ok (.aload_n 0, 1) := by decide +kernel
theorem dX9_take_26 : decode cX9_take 26 = .ok (.iconst 1, 1) := by decide +kernel
theorem dX9_take_27 : decode cX9_take 27 = .ok (.invokevirtual 51, 3) := by decide +kernel
theorem dX9_take_30 : decode cX9_take 30 = .ok (.ireturn, 1) := by decide +kernel
theorem dX9_take_31 : decode cX9_take 31 = .ok (.aload_n 0, 1) := by decide +kernel
theorem dX9_take_32 : decode cX9_take 32 = .ok (.getfield 26, 3) := by decide +kernel
theorem dX9_take_35 : decode cX9_take 35 = .ok (.invokeinterface 41 1, 5) := by decide +kernel
theorem dX9_take_40 : decode cX9_take 40 = .ok (.bipush 6, 2) := by decide +kernel
theorem dX9_take_42 : decode cX9_take 42 = .ok (.if_icmp .ne 9, 3) := by decide +kernel
theorem dX9_take_45 : decode cX9_take 45 = .ok (.aload_n 0, 1) := by decide +kernel
theorem dX9_take_46 : decode cX9_take 46 = .ok (.iconst 2, 1) := by decide +kernel
theorem dX9_take_47 : decode cX9_take 47 = .ok (.invokevirtual 51, 3) := by decide +kernel
theorem dX9_take_50 : decode cX9_take 50 = .ok (.ireturn, 1) := by decide +kernel
theorem dX9_take_51 : decode cX9_take 51 = .ok (.aload_n 0, 1) := by decide +kernel
theorem dX9_take_52 : decode cX9_take 52 = .ok (.getfield 26, 3) := by decide +kernel
theorem dX9_take_55 : decode cX9_take 55 = .ok (.aload_n 0, 1) := by decide +kernel
theorem dX9_take_56 : decode cX9_take 56 = .ok (.iload_n 1, 1) := by decide +kernel
theorem dX9_take_57 : decode cX9_take 57 = .ok (.iload_n 2, 1) := by decide +kernel
theorem dX9_take_58 : decode cX9_take 58 = .ok (.iconst 1, 1) := by decide +kernel
theorem dX9_take_59 : decode cX9_take 59 = .ok (.invokevirtual 85, 3) := by decide +kernel
theorem dX9_take_62 : decode cX9_take 62 = .ok (.invokeinterface 89 2, 5) := by decide +kernel
theorem dX9_take_67 : decode cX9_take 67 = .ok (.pop, 1) := by decide +kernel
theorem dX9_take_68 : decode cX9_take 68 = .ok (.aload_n 0, 1) := by decide +kernel
theorem dX9_take_69 : decode cX9_take 69 = .ok (.getfield 26, 3) := by decide +kernel
theorem dX9_take_72 : decode cX9_take 72 = .ok (.invokeinterface 41 1, 5) := by decide +kernel
theorem dX9_take_77 : decode cX9_take 77 = .ok (.iconst 1, 1) := by decide +kernel
theorem dX9_take_78 : decode cX9_take 78 = .ok (.isub, 1) := by decide +kernel
theorem dX9_take_79 : decode cX9_take 79 = .ok (.ireturn, 1) := by decide +kernel
theorem dX9_merge_0 : decode cX9_merge 0 = .ok (.aload_n 0, 1) := by decide +kernel
theorem dX9_merge_1 : decode cX9_merge 1 = .ok (.iconst 0, 1) := by decide +kernel
theorem dX9_merge_2 : decode cX9_merge 2 = .ok (.putfield 33, 3) := by decide +kernel
theorem dX9_merge_5 : decode cX9_merge 5 = .ok (.iconst 0, 1) := by decide +kernel
theorem dX9_merge_6 : decode cX9_merge 6 = .ok (.istore_n 3, 1) := by decide +kernel
theorem dX9_merge_7 : decode cX9_merge 7 = .ok (.iconst (-1), 1) := by decide +kernel
theorem dX9_merge_8 : decode cX9_merge 8 = .ok (.istore 4, 2) := by decide +kernel
theorem dX9_merge_10 : decode cX9_merge 10 = .ok (.aload_n 0, 1) := by decide +kernel
theorem dX9_merge_11 : decode cX9_merge 11 = .ok (.getfield 26, 3) := by decide +kernel
theorem dX9_merge_14 : decode cX9_merge 14 = .ok (.invokeinterface 41 1, 5) := by decide +kernel
theorem dX9_merge_19 : decode cX9_merge 19 = .ok (.iconst 1, 1) := by decide +kernel
theorem dX9_merge_20 : decode cX9_merge 20 = .ok (.isub, 1) := by decide +kernel
theorem dX9_merge_21 : decode cX9_merge 21 = .ok (.istore 5, 2) := by decide +kernel
theorem dX9_merge_23 : decode cX9_merge 23 = .ok (.iload 5, 2) := by decide +kernel
theorem dX9_merge_25 : decode cX9_merge 25 = .ok (.ifCond .lt 28, 3) := by decide +kernel
theorem dX9_merge_28 : decode cX9_merge 28 = .ok (.iload_n 1, 1) := by decide +kernel
theorem dX9_merge_29 : decode cX9_merge 29 = .ok (.iload 5, 2) := by decide +kernel
theorem dX9_merge_31 : decode cX9_merge 31 = .ok (.ishr, 1) := by decide +kernel
theorem dX9_merge_32 : decode cX9_merge 32 = .ok (.iconst 1, 1) := by decide +kernel
theorem dX9_merge_33 : decode cX9_merge 33 = .ok (.iand, 1) := by decide +kernel
theorem dX9_merge_34 : decode cX9_merge 34 = .ok (.ifCond .ne 6, 3) := by decide +kernel
theorem dX9_merge_37 : decode cX9_merge 37 = .ok (.goto 10, 3) := by decide +kernel
theorem dX9_merge_40 : decode cX9_merge 40 = .ok (.iinc 3 1, 3) := by decide +kernel
theorem dX9_merge_43 : decode cX9_merge 43 = .ok (.iload 5, 2) := by decide +kernel
theorem dX9_merge_45 : decode cX9_merge 45 = .ok (.istore 4, 2) := by decide +kernel
theorem dX9_merge_47 : decode cX9_merge 47 = .ok (.iinc 5 (-1), 3) := by decide +kernel
theorem dX9_merge_50 : decode cX9_merge 50 = .ok (.goto (-27), 3) := by decide +kernel
theorem dX9_merge_53 : decode cX9_merge 53 = .ok (.iload_n 1, 1) := by decide +kernel
theorem dX9_merge_54 : decode cX9_merge 54 = .ok (.iconst 0, 1) := by decide +kernel
theorem dX9_merge_55 : decode cX9_merge 55 = .ok (.iconst 1, 1) := by decide +kernel
theorem dX9_merge_56 : decode cX9_merge 56 = .ok (.aload_n 0, 1) := by decide +kernel
theorem dX9_merge_57 : decode cX9_merge 57 = .ok (.getfield 26, 3) := by decide +kernel
theorem dX9_merge_60 : decode cX9_merge 60 = .ok (.invokeinterface 41 1, 5) := by decide +kernel
theorem dX9_merge_65 : decode cX9_merge 65 = .ok (.ishl, 1) := by decide +kernel
theorem dX9_merge_66 : decode cX9_merge 66 = .ok (.iconst 1, 1) := by decide +kernel
theorem dX9_merge_67 : decode cX9_merge 67 = .ok (.isub, 1) := by decide +kernel
theorem dX9_merge_68 : decode cX9_merge 68 = .ok (.invokestatic 37, 3) := by decide +kernel
theorem dX9_merge_71 : decode cX9_merge 71 = .ok (.ifCond .eq 19, 3) := by decide +kernel
theorem dX9_merge_74 : decode cX9_merge 74 = .ok (.iload_n 3, 1) := by decide +kernel
theorem dX9_merge_75 : decode cX9_merge 75 = .ok (.iconst 2, 1) := by decide +kernel
theorem dX9_merge_76 : decode cX9_merge 76 = .ok (.if_icmp .lt 14, 3) := by decide +kernel
theorem dX9_merge_79 : decode cX9_merge 79 = .ok (.iload_n 2, 1) := by decide +kernel
theorem dX9_merge_80 : decode cX9_merge 80 = .ok (.iconst 0, 1) := by decide +kernel
theorem dX9_merge_81 : decode cX9_merge 81 = .ok (.sipush 255, 3) := by decide +kernel
theorem dX9_merge_84 : decode cX9_merge 84 = .ok (.invokestatic 37, 3) := by decide +kernel
theorem dX9_merge_87 : decode cX9_merge 87 = .ok (.ifCond .ne 9, 3) := by decide +kernel
theorem dX9_merge_90 : decode cX9_merge 90 = .ok (.aload_n 0, 1) := by decide +kernel
theorem dX9_merge_91 : decode cX9_merge 91 = .ok (.iconst 1, 1) := by decide +kernel
theorem dX9_merge_92 : decode cX9_merge 92 = .ok (.invokevirtual 51, 3) := by decide +kernel
theorem dX9_merge_95 : decode cX9_merge 95 = .ok (.ireturn, 1) := by decide +kernel
theorem dX9_merge_96 : decode cX9_merge 96 = .ok (.aload_n 0, 1) := by decide +kernel
theorem dX9_merge_97 : decode cX9_merge 97 = .ok (.getfield 26, 3) := by decide +kernel
theorem dX9_merge_100 : decode cX9_merge 100 = .ok (.invokeinterface 41 1, 5) := by decide +kernel
theorem dX9_merge_105 : decode cX9_merge 105 = .ok (.bipush 6, 2) := by decide +kernel
theorem dX9_merge_107 : decode cX9_merge 107 = .ok (.if_icmp .ne 9, 3) := by decide +kernel
theorem dX9_merge_110 : decode cX9_merge 110 = .ok (.aload_n 0, 1) := by decide +kernel
theorem dX9_merge_111 : decode cX9_merge 111 = .ok (.iconst 2, 1) := by decide +kernel
theorem dX9_merge_112 : decode cX9_merge 112 = .ok (.invokevirtual 51, 3) := by decide +kernel
theorem dX9_merge_115 : decode cX9_merge 115 = .ok (.ireturn, 1) := by decide +kernel
theorem dX9_merge_116 : decode cX9_merge 116 = .ok (.aload_n 0, 1) := by decide +kernel
theorem dX9_merge_117 : decode cX9_merge 117 = .ok (.getfield 26, 3) := by decide +kernel
theorem dX9_merge_120 : decode cX9_merge 120 = .ok (.iload 4, 2) := by decide +kernel
theorem dX9_merge_122 : decode cX9_merge 122 = .ok (.invokeinterface 93 2, 5) := by decide +kernel
theorem dX9_merge_127 : decode cX9_merge 127 = .ok (.checkcast 80, 3) := by decide +kernel
theorem dX9_merge_130 : decode cX9_merge 130 = .ok (.astore 5, 2) := by decide +kernel
theorem dX9_merge_132 : decode cX9_merge 132 = .ok (.new 80, 3) := by decide +kernel
theorem dX9_merge_135 : decode cX9_merge 135 = .ok (.dup, 1) := by decide +kernel
theorem dX9_merge_136 : decode cX9_merge 136 = .ok (.aload 5, 2) := by decide +kernel
theorem dX9_merge_138 : decode cX9_merge 138 = .ok (.getfield 97, 3) := by decide +kernel
theorem dX9_merge_141 : decode cX9_merge 141 = .ok (.aload 5, 2) := by decide +kernel
theorem dX9_merge_143 : decode cX9_merge 143 = .ok (.getfield 100, 3) := by decide +kernel
theorem dX9_merge_146 : decode cX9_merge 146 = .ok (.bipush 64, 2) := by decide +kernel
theorem dX9_merge_148 : decode cX9_merge 148 = .ok (.newarray .int, 2) := by decide +kernel
theorem dX9_merge_150 : decode cX9_merge 150 = .ok (.invokespecial 82, 3) := by decide +kernel
theorem dX9_merge_153 : decode cX9_merge 153 = .ok (.astore 6, 2) := by decide +kernel
theorem dX9_merge_155 : decode cX9_merge 155 = .ok (.iconst 0, 1) := by decide +kernel
theorem dX9_merge_156 : decode cX9_merge 156 = .ok (.istore 7, 2) := by decide +kernel
theorem dX9_merge_158 : decode cX9_merge 158 = .ok (.iload 7, 2) := by decide +kernel
theorem dX9_merge_160 : decode cX9_merge 160 = .ok (.bipush 64, 2) := by decide +kernel
theorem dX9_merge_162 : decode cX9_merge 162 = .ok (.if_icmp .ge 156, 3) := by decide +kernel
theorem dX9_merge_165 : decode cX9_merge 165 = .ok (.iconst 0, 1) := by decide +kernel
theorem dX9_merge_166 : decode cX9_merge 166 = .ok (.istore 8, 2) := by decide +kernel
theorem dX9_merge_168 : decode cX9_merge 168 = .ok (.iconst 0, 1) := by decide +kernel
theorem dX9_merge_169 : decode cX9_merge 169 = .ok (.istore 9, 2) := by decide +kernel
theorem dX9_merge_171 : decode cX9_merge 171 = .ok (.iload 4, 2) := by decide +kernel
theorem dX9_merge_173 : decode cX9_merge 173 = .ok (.istore 10, 2) := by decide +kernel
theorem dX9_merge_175 : decode cX9_merge 175 = .ok (.iload 10, 2) := by decide +kernel
theorem dX9_merge_177 : decode cX9_merge 177 = .ok (.aload_n 0, 1) := by decide +kernel
theorem dX9_merge_178 : decode cX9_merge 178 = .ok (.getfield 26, 3) := by decide +kernel
theorem dX9_merge_181 : decode cX9_merge 181 = .ok (.invokeinterface 41 1, 5) := by decide +kernel
theorem dX9_merge_186 : decode cX9_merge 186 = .ok (.if_icmp .ge 99, 3) := by decide +kernel
theorem dX9_merge_189 : decode cX9_merge 189 = .ok (.aload_n 0, 1) := by decide +kernel
theorem dX9_merge_190 : decode cX9_merge 190 = .ok (.getfield 26, 3) := by decide +kernel
theorem dX9_merge_193 : decode cX9_merge 193 = .ok (.iload 10, 2) := by decide +kernel
theorem dX9_merge_195 : decode cX9_merge 195 = .ok (.invokeinterface 93 2, 5) := by decide +kernel
theorem dX9_merge_200 : decode cX9_merge 200 = .ok (.checkcast 80, 3) := by decide +kernel
theorem dX9_merge_203 : decode cX9_merge 203 = .ok (.getfield 103, 3) := by decide +kernel
theorem dX9_merge_206 : decode cX9_merge 206 = .ok (.iload 7, 2) := by decide +kernel
theorem dX9_merge_208 : decode cX9_merge 208 = .ok (.iaload, 1) := by decide +kernel
theorem dX9_merge_209 : decode cX9_merge 209 = .ok (.istore 11, 2) := by decide +kernel
theorem dX9_merge_211 : decode cX9_merge 211 = .ok (.iload 11, 2) := by decide +kernel
theorem dX9_merge_213 : decode cX9_merge 213 = .ok (.aload 5, 2) := by decide +kernel
theorem dX9_merge_215 : decode cX9_merge 215 = .ok (.getfield 103, 3) := by decide +kernel
theorem dX9_merge_218 : decode cX9_merge 218 = .ok (.iload 7, 2) := by decide +kernel
theorem dX9_merge_220 : decode cX9_merge 220 = .ok (.iaload, 1) := by decide +kernel
theorem dX9_merge_221 : decode cX9_merge 221 = .ok (.isub, 1) := by decide +kernel
theorem dX9_merge_222 : decode cX9_merge 222 = .ok (.invokestatic 106, 3) := by decide +kernel
theorem dX9_merge_225 : decode cX9_merge 225 = .ok (.iload_n 2, 1) := by decide +kernel
theorem dX9_merge_226 : decode cX9_merge 226 = .ok (.if_icmp .gt 7, 3) := by decide +kernel
theorem dX9_merge_229 : decode cX9_merge 229 = .ok (.iconst 1, 1) := by decide +kernel
theorem dX9_merge_230 : decode cX9_merge 230 = .ok (.goto 4, 3) := by decide +kernel
theorem dX9_merge_233 : decode cX9_merge 233 = .ok (.iconst 0, 1) := by decide +kernel
theorem dX9_merge_234 : decode cX9_merge 234 = .ok (.istore 12, 2) := by decide +kernel
theorem dX9_merge_236 : decode cX9_merge 236 = .ok (.iload_n 1, 1) := by decide +kernel
theorem dX9_merge_237 : decode cX9_merge 237 = .ok (.iload 10, 2) := by decide +kernel
theorem dX9_merge_239 : decode cX9_merge 239 = .ok (.ishr, 1) := by decide +kernel
theorem dX9_merge_240 : decode cX9_merge 240 = .ok (.iconst 1, 1) := by decide +kernel
theorem dX9_merge_241 : decode cX9_merge 241 = .ok (.iand, 1) := by decide +kernel
theorem dX9_merge_242 : decode cX9_merge 242 = .ok (.ifCond .ne 6, 3) := by decide +kernel
theorem dX9_merge_245 : decode cX9_merge 245 = .ok (.goto 34, 3) := by decide +kernel
theorem dX9_merge_248 : decode cX9_merge 248 = .ok (.iload 8, 2) := by decide +kernel
theorem dX9_merge_250 : decode cX9_merge 250 = .ok (.iload 12, 2) := by decide +kernel
theorem dX9_merge_252 : decode cX9_merge 252 = .ok (.ifCond .eq 8, 3) := by decide +kernel
theorem dX9_merge_255 : decode cX9_merge 255 = .ok (.iload 11, 2) := by decide +kernel
theorem dX9_merge_257 : decode cX9_merge 257 = .ok (.goto 4, 3) := by decide +kernel
theorem dX9_merge_260 : decode cX9_merge 260 = .ok (.iconst 0, 1) := by decide +kernel
theorem dX9_merge_261 : decode cX9_merge 261 = .ok (.iadd, 1) := by decide +kernel
theorem dX9_merge_262 : decode cX9_merge 262 = .ok (.istore 8, 2) := by decide +kernel
theorem dX9_merge_264 : decode cX9_merge 264 = .ok (.iload 9, 2) := by decide +kernel
theorem dX9_merge_266 : decode cX9_merge 266 = .ok (.iload 12, 2) := by decide +kernel
theorem dX9_merge_268 : decode cX9_merge 268 = .ok (.ifCond .eq 7, 3) := by decide +kernel
theorem dX9_merge_271 : decode cX9_merge 271 = .ok (.iconst 1, 1) := by decide +kernel
theorem dX9_merge_272 : decode cX9_merge 272 = .ok (.goto 4, 3) := by decide +kernel
theorem dX9_merge_275 : decode cX9_merge 275 = .ok (.iconst 0, 1) := by decide +kernel
theorem dX9_merge_276 : decode cX9_merge 276 = .ok (.iadd, 1) := by decide +kernel
theorem dX9_merge_277 : decode cX9_merge 277 = .ok (.istore 9, 2) := by decide +kernel
theorem dX9_merge_279 : decode cX9_merge 279 = .ok (.iinc 10 1, 3) := by decide +kernel
theorem dX9_merge_282 : decode cX9_merge 282 = .ok (.goto (-107), 3) := by decide +kernel
theorem dX9_merge_285 : decode cX9_merge 285 = .ok (.aload 6, 2) := by decide +kernel
theorem dX9_merge_287 : decode cX9_merge 287 = .ok (.getfield 103, 3) := by decide +kernel
theorem dX9_merge_290 : decode cX9_merge 290 = .ok (.iload 7, 2) := by decide +kernel
theorem dX9_merge_292 : decode cX9_merge 292 = .ok (.iload 8, 2) := by decide +kernel
theorem dX9_merge_294 : decode cX9_merge 294 = .ok (.iload 9, 2) := by decide +kernel
theorem dX9_merge_296 : decode cX9_merge 296 = .ok (.idiv, 1) := by decide +kernel
theorem dX9_merge_297 : decode cX9_merge 297 = .ok (.iastore, 1) := by decide +kernel
theorem dX9_merge_298 : decode cX9_merge 298 = .ok (.aload 6, 2) := by decide +kernel
theorem dX9_merge_300 : decode cX9_merge 300 = .ok (.dup, 1) := by decide +kernel
theorem dX9_merge_301 : decode cX9_merge 301 = .ok (.getfield 109, 3) := by decide +kernel
theorem dX9_merge_304 : decode cX9_merge 304 = .ok (.iload_n 3, 1) := by decide +kernel
theorem dX9_merge_305 : decode cX9_merge 305 = .ok (.iload 9, 2) := by decide +kernel
theorem dX9_merge_307 : decode cX9_merge 307 = .ok (.isub, 1) := by decide +kernel
theorem dX9_merge_308 : decode cX9_merge 308 = .ok (.iadd, 1) := by decide +kernel
theorem dX9_merge_309 : decode cX9_merge 309 = .ok (.putfield 109, 3) := by decide +kernel
theorem dX9_merge_312 : decode cX9_merge 312 = .ok (.iinc 7 1, 3) := by decide +kernel
theorem dX9_merge_315 : decode cX9_merge 315 = .ok (.goto (-157), 3) := by decide +kernel
theorem dX9_merge_318 : decode cX9_merge 318 = .ok (.aload_n 0, 1) := by decide +kernel
theorem dX9_merge_319 : decode cX9_merge 319 = .ok (.getfield 26, 3) := by decide +kernel
theorem dX9_merge_322 : decode cX9_merge 322 = .ok (.aload 6, 2) := by decide +kernel
theorem dX9_merge_324 : decode cX9_merge 324 = .ok (.invokeinterface 89 2, 5) := by decide +kernel
theorem dX9_merge_329 : decode cX9_merge 329 = .ok (.pop, 1) := by decide +kernel
theorem dX9_merge_330 : decode cX9_merge 330 = .ok (.aload_n 0, 1) := by decide +kernel
theorem dX9_merge_331 : decode cX9_merge 331 = .ok (.getfield 26, 3) := by decide +kernel
theorem dX9_merge_334 : decode cX9_merge 334 = .ok (.invokeinterface 41 1, 5) := by decide +kernel
theorem dX9_merge_339 : decode cX9_merge 339 = .ok (.iconst 1, 1) := by decide +kernel
theorem dX9_merge_340 : decode cX9_merge 340 = .ok (.isub, 1) := by decide +kernel
theorem dX9_merge_341 : decode cX9_merge 341 = .ok (.ireturn, 1) := by decide +kernel
theorem dX9_canBe_0 : decode cX9_canBe 0 = .ok (.iload_n 0, 1) := by decide +kernel
theorem dX9_canBe_1 : decode cX9_canBe 1 = .ok (.ifCond .ne 13, 3) := by decide +kernel
theorem dX9_canBe_4 : decode cX9_canBe 4 = .ok (.iload_n 1, 1) := by decide +kernel
theorem dX9_canBe_5 : decode cX9_canBe 5 = .ok (.iconst 0, 1) := by decide +kernel
theorem dX9_canBe_6 : decode cX9_canBe 6 = .ok (.bipush 64, 2) := by decide +kernel
theorem dX9_canBe_8 : decode cX9_canBe 8 = .ok (.invokestatic 37, 3) := by decide +kernel
theorem dX9_canBe_11 : decode cX9_canBe 11 = .ok (.goto 55, 3) := by decide +kernel
theorem dX9_canBe_14 : decode cX9_canBe 14 = .ok (.iload_n 0, 1) := by decide +kernel
theorem dX9_canBe_15 : decode cX9_canBe 15 = .ok (.iconst 1, 1) := by decide +kernel
theorem dX9_canBe_16 : decode cX9_canBe 16 = .ok (.if_icmp .eq 8, 3) := by decide +kernel
theorem dX9_canBe_19 : decode cX9_canBe 19 = .ok (.iload_n 0, 1) := by decide +kernel
theorem dX9_canBe_20 : decode cX9_canBe 20 = .ok (.iconst 2, 1) := by decide +kernel
theorem dX9_canBe_21 : decode cX9_canBe 21 = .ok (.if_icmp .ne 13, 3) := by decide +kernel
theorem dX9_canBe_24 : decode cX9_canBe 24 = .ok (.iload_n 1, 1) := by decide +kernel
theorem dX9_canBe_25 : decode cX9_canBe 25 = .ok (.iconst 1, 1) := by decide +kernel
theorem dX9_canBe_26 : decode cX9_canBe 26 = .ok (.bipush 16, 2) := by decide +kernel
theorem dX9_canBe_28 : decode cX9_canBe 28 = .ok (.invokestatic 37, 3) := by decide +kernel
theorem dX9_canBe_31 : decode cX9_canBe 31 = .ok (.goto 35, 3) := by decide +kernel
theorem dX9_canBe_34 : decode cX9_canBe 34 = .ok (.iload_n 0, 1) := by decide +kernel
theorem dX9_canBe_35 : decode cX9_canBe 35 = .ok (.iconst 3, 1) := by decide +kernel
theorem dX9_canBe_36 : decode cX9_canBe 36 = .ok (.if_icmp .ne 12, 3) := by decide +kernel
theorem dX9_canBe_39 : decode cX9_canBe 39 = .ok (.iload_n 1, 1) := by decide +kernel
theorem dX9_canBe_40 : decode cX9_canBe 40 = .ok (.iconst 0, 1) := by decide +kernel
theorem dX9_canBe_41 : decode cX9_canBe 41 = .ok (.iconst 2, 1) := by decide +kernel
theorem dX9_canBe_42 : decode cX9_canBe 42 = .ok (.invokestatic 37, 3) := by decide +kernel
theorem dX9_canBe_45 : decode cX9_canBe 45 = .ok (.goto 21, 3) := by decide +kernel
theorem dX9_canBe_48 : decode cX9_canBe 48 = .ok (.iload_n 0, 1) := by decide +kernel
theorem dX9_canBe_49 : decode cX9_canBe 49 = .ok (.iconst 4, 1) := by decide +kernel
theorem dX9_canBe_50 : decode cX9_canBe 50 = .ok (.iconst 5, 1) := by decide +kernel
theorem dX9_canBe_51 : decode cX9_canBe 51 = .ok (.invokestatic 37, 3) := by decide +kernel
theorem dX9_canBe_54 : decode cX9_canBe 54 = .ok (.ifCond .eq 11, 3) := by decide +kernel
theorem dX9_canBe_57 : decode cX9_canBe 57 = .ok (.iload_n 1, 1) := by decide +kernel
theorem dX9_canBe_58 : decode cX9_canBe 58 = .ok (.ifCond .ne 7, 3) := by decide +kernel
theorem dX9_canBe_61 : decode cX9_canBe 61 = .ok (.iconst 1, 1) := by decide +kernel
theorem dX9_canBe_62 : decode cX9_canBe 62 = .ok (.goto 4, 3) := by decide +kernel
theorem dX9_canBe_65 : decode cX9_canBe 65 = .ok (.iconst 0, 1) := by decide +kernel
theorem dX9_canBe_66 : decode cX9_canBe 66 = .ok (.ireturn, 1) := by decide +kernel
theorem dX9_edit_0 : decode cX9_edit 0 = .ok (.aload_n 0, 1) := by decide +kernel
theorem dX9_edit_1 : decode cX9_edit 1 = .ok (.iconst 0, 1) := by decide +kernel
theorem dX9_edit_2 : decode cX9_edit 2 = .ok (.putfield 33, 3) := by decide +kernel
theorem dX9_edit_5 : decode cX9_edit 5 = .ok (.aload_n 0, 1) := by decide +kernel
theorem dX9_edit_6 : decode cX9_edit 6 = .ok (.iload_n 1, 1) := by decide +kernel
theorem dX9_edit_7 : decode cX9_edit 7 = .ok (.invokevirtual 112, 3) := by decide +kernel
theorem dX9_edit_10 : decode cX9_edit 10 = .ok (.ifCond .ne 9, 3) := by decide +kernel
theorem dX9_edit_13 : decode cX9_edit 13 = .ok (.aload_n 0, 1) := by decide +kernel
theorem dX9_edit_14 : decode cX9_edit 14 = .ok (.iconst 1, 1) := by decide +kernel
theorem dX9_edit_15 : decode cX9_edit 15 = .ok (.invokevirtual 51, 3) := by decide +kernel
theorem dX9_edit_18 : decode cX9_edit 18 = .ok (.ireturn, 1) := by decide +kernel
theorem dX9_edit_19 : decode cX9_edit 19 = .ok (.iload_n 2, 1) := by decide +kernel
theorem dX9_edit_20 : decode cX9_edit 20 = .ok (.iload_n 3, 1) := by decide +kernel
theorem dX9_edit_21 : decode cX9_edit 21 = .ok (.invokestatic 116, 3) := by decide +kernel
theorem dX9_edit_24 : decode cX9_edit 24 = .ok (.ifCond .ne 9, 3) := by decide +kernel
theorem dX9_edit_27 : decode cX9_edit 27 = .ok (.aload_n 0, 1) := by decide +kernel
theorem dX9_edit_28 : decode cX9_edit 28 = .ok (.iconst 2, 1) := by decide +kernel
theorem dX9_edit_29 : decode cX9_edit 29 = .ok (.invokevirtual 51, 3) := by decide +kernel
theorem dX9_edit_32 : decode cX9_edit 32 = .ok (.ireturn, 1) := by decide +kernel
theorem dX9_edit_33 : decode cX9_edit 33 = .ok (.aload_n 0, 1) := by decide +kernel
theorem dX9_edit_34 : decode cX9_edit 34 = .ok (.getfield 26, 3) := by decide +kernel
theorem dX9_edit_37 : decode cX9_edit 37 = .ok (.iload_n 1, 1) := by decide +kernel
theorem dX9_edit_38 : decode cX9_edit 38 = .ok (.invokeinterface 93 2, 5) := by decide +kernel
theorem dX9_edit_43 : decode cX9_edit 43 = .ok (.checkcast 80, 3) := by decide +kernel
theorem dX9_edit_46 : decode cX9_edit 46 = .ok (.getfield 119, 3) := by decide +kernel
theorem dX9_edit_49 : decode cX9_edit 49 = .ok (.astore 4, 2) := by decide +kernel
theorem dX9_edit_51 : decode cX9_edit 51 = .ok (.aload 4, 2) := by decide +kernel
theorem dX9_edit_53 : decode cX9_edit 53 = .ok (.invokeinterface 41 1, 5) := by decide +kernel
theorem dX9_edit_58 : decode cX9_edit 58 = .ok (.bipush 6, 2) := by decide +kernel
theorem dX9_edit_60 : decode cX9_edit 60 = .ok (.if_icmp .ne 9, 3) := by decide +kernel
theorem dX9_edit_63 : decode cX9_edit 63 = .ok (.aload_n 0, 1) := by decide +kernel
theorem dX9_edit_64 : decode cX9_edit 64 = .ok (.iconst 3, 1) := by decide +kernel
theorem dX9_edit_65 : decode cX9_edit 65 = .ok (.invokevirtual 51, 3) := by decide +kernel
theorem dX9_edit_68 : decode cX9_edit 68 = .ok (.ireturn, 1) := by decide +kernel
theorem dX9_edit_69 : decode cX9_edit 69 = .ok (.iconst 2, 1) := by decide +kernel
theorem dX9_edit_70 : decode cX9_edit 70 = .ok (.newarray .int, 2) := by decide +kernel
theorem dX9_edit_72 : decode cX9_edit 72 = .ok (.dup, 1) := by decide +kernel
theorem dX9_edit_73 : decode cX9_edit 73 = .ok (.iconst 0, 1) := by decide +kernel
theorem dX9_edit_74 : decode cX9_edit 74 = .ok (.iload_n 2, 1) := by decide +kernel
theorem dX9_edit_75 : decode cX9_edit 75 = .ok (.iastore, 1) := by decide +kernel
theorem dX9_edit_76 : decode cX9_edit 76 = .ok (.dup, 1) := by decide +kernel
theorem dX9_edit_77 : decode cX9_edit 77 = .ok (.iconst 1, 1) := by decide +kernel
theorem dX9_edit_78 : decode cX9_edit 78 = .ok (.iload_n 3, 1) := by decide +kernel
theorem dX9_edit_79 : decode cX9_edit 79 = .ok (.iastore, 1) := by decide +kernel
theorem dX9_edit_80 : decode cX9_edit 80 = .ok (.astore 5, 2) := by decide +kernel
theorem dX9_edit_82 : decode cX9_edit 82 = .ok (.aload 4, 2) := by decide +kernel
theorem dX9_edit_84 : decode cX9_edit 84 = .ok (.aload 5, 2) := by decide +kernel
theorem dX9_edit_86 : decode cX9_edit 86 = .ok (.invokeinterface 89 2, 5) := by decide +kernel
theorem dX9_edit_91 : decode cX9_edit 91 = .ok (.pop, 1) := by decide +kernel
theorem dX9_edit_92 : decode cX9_edit 92 = .ok (.aload 4, 2) := by decide +kernel
theorem dX9_edit_94 : decode cX9_edit 94 = .ok (.invokeinterface 41 1, 5) := by decide +kernel
theorem dX9_edit_99 : decode cX9_edit 99 = .ok (.ireturn, 1) := by decide +kernel
theorem dX9_undo_0 : decode cX9_undo 0 = .ok (.aload_n 0, 1) := by decide +kernel
theorem dX9_undo_1 : decode cX9_undo 1 = .ok (.iconst 0, 1) := by decide +kernel
theorem dX9_undo_2 : decode cX9_undo 2 = .ok (.putfield 33, 3) := by decide +kernel
theorem dX9_undo_5 : decode cX9_undo 5 = .ok (.aload_n 0, 1) := by decide +kernel
theorem dX9_undo_6 : decode cX9_undo 6 = .ok (.iload_n 1, 1) := by decide +kernel
theorem dX9_undo_7 : decode cX9_undo 7 = .ok (.invokevirtual 112, 3) := by decide +kernel
theorem dX9_undo_10 : decode cX9_undo 10 = .ok (.ifCond .ne 9, 3) := by decide +kernel
theorem dX9_undo_13 : decode cX9_undo 13 = .ok (.aload_n 0, 1) := by decide +kernel
theorem dX9_undo_14 : decode cX9_undo 14 = .ok (.iconst 1, 1) := by decide +kernel
theorem dX9_undo_15 : decode cX9_undo 15 = .ok (.invokevirtual 51, 3) := by decide +kernel
theorem dX9_undo_18 : decode cX9_undo 18 = .ok (.ireturn, 1) := by decide +kernel
theorem dX9_undo_19 : decode cX9_undo 19 = .ok (.aload_n 0, 1) := by decide +kernel
theorem dX9_undo_20 : decode cX9_undo 20 = .ok (.getfield 26, 3) := by decide +kernel
theorem dX9_undo_23 : decode cX9_undo 23 = .ok (.iload_n 1, 1) := by decide +kernel
theorem dX9_undo_24 : decode cX9_undo 24 = .ok (.invokeinterface 93 2, 5) := by decide +kernel
theorem dX9_undo_29 : decode cX9_undo 29 = .ok (.checkcast 80, 3) := by decide +kernel
theorem dX9_undo_32 : decode cX9_undo 32 = .ok (.getfield 119, 3) := by decide +kernel
theorem dX9_undo_35 : decode cX9_undo 35 = .ok (.astore_n 2, 1) := by decide +kernel
theorem dX9_undo_36 : decode cX9_undo 36 = .ok (.aload_n 2, 1) := by decide +kernel
theorem dX9_undo_37 : decode cX9_undo 37 = .ok (.invokeinterface 41 1, 5) := by decide +kernel
theorem dX9_undo_42 : decode cX9_undo 42 = .ok (.ifCond .ne 7, 3) := by decide +kernel
theorem dX9_undo_45 : decode cX9_undo 45 = .ok (.iconst (-1), 1) := by decide +kernel
theorem dX9_undo_46 : decode cX9_undo 46 = .ok (.goto 22, 3) := by decide +kernel
theorem dX9_undo_49 : decode cX9_undo 49 = .ok (.aload_n 2, 1) := by decide +kernel
theorem dX9_undo_50 : decode cX9_undo 50 = .ok (.aload_n 2, 1) := by decide +kernel
theorem dX9_undo_51 : decode cX9_undo 51 = .ok (.invokeinterface 41 1, 5) := by decide +kernel
theorem dX9_undo_56 : decode cX9_undo 56 = .ok (.iconst 1, 1) := by decide +kernel
theorem dX9_undo_57 : decode cX9_undo 57 = .ok (.isub, 1) := by decide +kernel
theorem dX9_undo_58 : decode cX9_undo 58 = .ok (.invokeinterface 122 2, 5) := by decide +kernel
theorem dX9_undo_63 : decode cX9_undo 63 = .ok (.checkcast 125, 3) := by decide +kernel
theorem dX9_undo_66 : decode cX9_undo 66 = .ok (.iconst 0, 1) := by decide +kernel
theorem dX9_undo_67 : decode cX9_undo 67 = .ok (.iaload, 1) := by decide +kernel
theorem dX9_undo_68 : decode cX9_undo 68 = .ok (.ireturn, 1) := by decide +kernel
theorem dX9_filesOf_0 : decode cX9_filesOf 0 = .ok (.iconst 0, 1) := by decide +kernel
theorem dX9_filesOf_1 : decode cX9_filesOf 1 = .ok (.istore_n 2, 1) := by decide +kernel
theorem dX9_filesOf_2 : decode cX9_filesOf 2 = .ok (.iconst 0, 1) := by decide +kernel
theorem dX9_filesOf_3 : decode cX9_filesOf 3 = .ok (.istore_n 3, 1) := by decide +kernel
theorem dX9_filesOf_4 : decode cX9_filesOf 4 = .ok (.iload_n 3, 1) := by decide +kernel
theorem dX9_filesOf_5 : decode cX9_filesOf 5 = .ok (.aload_n 0, 1) := by decide +kernel
theorem dX9_filesOf_6 : decode cX9_filesOf 6 = .ok (.getfield 30, 3) := by decide +kernel
theorem dX9_filesOf_9 : decode cX9_filesOf 9 = .ok (.invokeinterface 41 1, 5) := by decide +kernel
theorem dX9_filesOf_14 : decode cX9_filesOf 14 = .ok (.if_icmp .ge 37, 3) := by decide +kernel
theorem dX9_filesOf_17 : decode cX9_filesOf 17 = .ok (.iload_n 2, 1) := by decide +kernel
theorem dX9_filesOf_18 : decode cX9_filesOf 18 = .ok (.aload_n 0, 1) := by decide +kernel
theorem dX9_filesOf_19 : decode cX9_filesOf 19 = .ok (.getfield 30, 3) := by decide +kernel
theorem dX9_filesOf_22 : decode cX9_filesOf 22 = .ok (.iload_n 3, 1) := by decide +kernel
theorem dX9_filesOf_23 : decode cX9_filesOf 23 = .ok (.invokeinterface 93 2, 5) := by decide +kernel
theorem dX9_filesOf_28 : decode cX9_filesOf 28 = .ok (.checkcast 126, 3) := by decide +kernel
theorem dX9_filesOf_31 : decode cX9_filesOf 31 = .ok (.getfield 128, 3) := by decide +kernel
theorem dX9_filesOf_34 : decode cX9_filesOf 34 = .ok (.iload_n 1, 1) := by decide +kernel
theorem dX9_filesOf_35 : decode cX9_filesOf 35 = .ok (.if_icmp .ne 7, 3) := by decide +kernel
theorem dX9_filesOf_38 : decode cX9_filesOf 38 = .ok (.iconst 1, 1) := by decide +kernel
theorem dX9_filesOf_39 : decode cX9_filesOf 39 = .ok (.goto 4, 3) := by decide +kernel
theorem dX9_filesOf_42 : decode cX9_filesOf 42 = .ok (.iconst 0, 1) := by decide +kernel
theorem dX9_filesOf_43 : decode cX9_filesOf 43 = .ok (.iadd, 1) := by decide +kernel
theorem dX9_filesOf_44 : decode cX9_filesOf 44 = .ok (.istore_n 2, 1) := by decide +kernel
theorem dX9_filesOf_45 : decode cX9_filesOf 45 = .ok (.iinc 3 1, 3) := by decide +kernel
theorem dX9_filesOf_48 : decode cX9_filesOf 48 = .ok (.goto (-44), 3) := by decide +kernel
theorem dX9_filesOf_51 : decode cX9_filesOf 51 = .ok (.iload_n 2, 1) := by decide +kernel
theorem dX9_filesOf_52 : decode cX9_filesOf 52 = .ok (.ireturn, 1) := by decide +kernel
theorem dX9_save_0 : decode cX9_save 0 = .ok (.aload_n 0, 1) := by decide +kernel
theorem dX9_save_1 : decode cX9_save 1 = .ok (.iconst 0, 1) := by decide +kernel
theorem dX9_save_2 : decode cX9_save 2 = .ok (.putfield 33, 3) := by decide +kernel
theorem dX9_save_5 : decode cX9_save 5 = .ok (.aload_n 0, 1) := by decide +kernel
theorem dX9_save_6 : decode cX9_save 6 = .ok (.iload_n 1, 1) := by decide +kernel
theorem dX9_save_7 : decode cX9_save 7 = .ok (.invokevirtual 112, 3) := by decide +kernel
theorem dX9_save_10 : decode cX9_save 10 = .ok (.ifCond .ne 9, 3) := by decide +kernel
theorem dX9_save_13 : decode cX9_save 13 = .ok (.aload_n 0, 1) := by decide +kernel
theorem dX9_save_14 : decode cX9_save 14 = .ok (.iconst 1, 1) := by decide +kernel
theorem dX9_save_15 : decode cX9_save 15 = .ok (.invokevirtual 51, 3) := by decide +kernel
theorem dX9_save_18 : decode cX9_save 18 = .ok (.ireturn, 1) := by decide +kernel
theorem dX9_save_19 : decode cX9_save 19 = .ok (.aload_n 0, 1) := by decide +kernel
theorem dX9_save_20 : decode cX9_save 20 = .ok (.getfield 30, 3) := by decide +kernel
theorem dX9_save_23 : decode cX9_save 23 = .ok (.invokeinterface 41 1, 5) := by decide +kernel
theorem dX9_save_28 : decode cX9_save 28 = .ok (.bipush 6, 2) := by decide +kernel
theorem dX9_save_30 : decode cX9_save 30 = .ok (.if_icmp .ne 9, 3) := by decide +kernel
theorem dX9_save_33 : decode cX9_save 33 = .ok (.aload_n 0, 1) := by decide +kernel
theorem dX9_save_34 : decode cX9_save 34 = .ok (.iconst 2, 1) := by decide +kernel
theorem dX9_save_35 : decode cX9_save 35 = .ok (.invokevirtual 51, 3) := by decide +kernel
theorem dX9_save_38 : decode cX9_save 38 = .ok (.ireturn, 1) := by decide +kernel
theorem dX9_save_39 : decode cX9_save 39 = .ok (.new 126, 3) := by decide +kernel
theorem dX9_save_42 : decode cX9_save 42 = .ok (.dup, 1) := by decide +kernel
theorem dX9_save_43 : decode cX9_save 43 = .ok (.iload_n 1, 1) := by decide +kernel
theorem dX9_save_44 : decode cX9_save 44 = .ok (.aload_n 0, 1) := by decide +kernel
theorem dX9_save_45 : decode cX9_save 45 = .ok (.iload_n 1, 1) := by decide +kernel
theorem dX9_save_46 : decode cX9_save 46 = .ok (.invokevirtual 131, 3) := by decide +kernel
theorem dX9_save_49 : decode cX9_save 49 = .ok (.iconst 1, 1) := by decide +kernel
theorem dX9_save_50 : decode cX9_save 50 = .ok (.iadd, 1) := by decide +kernel
theorem dX9_save_51 : decode cX9_save 51 = .ok (.invokespecial 134, 3) := by decide +kernel
theorem dX9_save_54 : decode cX9_save 54 = .ok (.astore_n 2, 1) := by decide +kernel
theorem dX9_save_55 : decode cX9_save 55 = .ok (.aload_n 0, 1) := by decide +kernel
theorem dX9_save_56 : decode cX9_save 56 = .ok (.getfield 26, 3) := by decide +kernel
theorem dX9_save_59 : decode cX9_save 59 = .ok (.iload_n 1, 1) := by decide +kernel
theorem dX9_save_60 : decode cX9_save 60 = .ok (.invokeinterface 93 2, 5) := by decide +kernel
theorem dX9_save_65 : decode cX9_save 65 = .ok (.checkcast 80, 3) := by decide +kernel
theorem dX9_save_68 : decode cX9_save 68 = .ok (.getfield 119, 3) := by decide +kernel
theorem dX9_save_71 : decode cX9_save 71 = .ok (.astore_n 3, 1) := by decide +kernel
theorem dX9_save_72 : decode cX9_save 72 = .ok (.iconst 0, 1) := by decide +kernel
theorem dX9_save_73 : decode cX9_save 73 = .ok (.istore 4, 2) := by decide +kernel
theorem dX9_save_75 : decode cX9_save 75 = .ok (.iload 4, 2) := by decide +kernel
theorem dX9_save_77 : decode cX9_save 77 = .ok (.aload_n 3, 1) := by decide +kernel
theorem dX9_save_78 : decode cX9_save 78 = .ok (.invokeinterface 41 1, 5) := by decide +kernel
theorem dX9_save_83 : decode cX9_save 83 = .ok (.if_icmp .ge 30, 3) := by decide +kernel
theorem dX9_save_86 : decode cX9_save 86 = .ok (.aload_n 2, 1) := by decide +kernel
theorem dX9_save_87 : decode cX9_save 87 = .ok (.getfield 137, 3) := by decide +kernel
theorem dX9_save_90 : decode cX9_save 90 = .ok (.aload_n 3, 1) := by decide +kernel
theorem dX9_save_91 : decode cX9_save 91 = .ok (.iload 4, 2) := by decide +kernel
theorem dX9_save_93 : decode cX9_save 93 = .ok (.invokeinterface 93 2, 5) := by decide +kernel
theorem dX9_save_98 : decode cX9_save 98 = .ok (.checkcast 125, 3) := by decide +kernel
theorem dX9_save_101 : decode cX9_save 101 = .ok (.invokeinterface 89 2, 5) := by decide +kernel
theorem dX9_save_106 : decode cX9_save 106 = .ok (.pop, 1) := by decide +kernel
theorem dX9_save_107 : decode cX9_save 107 = .ok (.iinc 4 1, 3) := by decide +kernel
theorem dX9_save_110 : decode cX9_save 110 = .ok (.goto (-35), 3) := by decide +kernel
theorem dX9_save_113 : decode cX9_save 113 = .ok (.aload_n 0, 1) := by decide +kernel
theorem dX9_save_114 : decode cX9_save 114 = .ok (.getfield 30, 3) := by decide +kernel
theorem dX9_save_117 : decode cX9_save 117 = .ok (.aload_n 2, 1) := by decide +kernel
theorem dX9_save_118 : decode cX9_save 118 = .ok (.invokeinterface 89 2, 5) := by decide +kernel
theorem dX9_save_123 : decode cX9_save 123 = .ok (.pop, 1) := by decide +kernel
theorem dX9_save_124 : decode cX9_save 124 = .ok (.aload_n 0, 1) := by decide +kernel
theorem dX9_save_125 : decode cX9_save 125 = .ok (.getfield 30, 3) := by decide +kernel
theorem dX9_save_128 : decode cX9_save 128 = .ok (.invokeinterface 41 1, 5) := by decide +kernel
theorem dX9_save_133 : decode cX9_save 133 = .ok (.iconst 1, 1) := by decide +kernel
theorem dX9_save_134 : decode cX9_save 134 = .ok (.isub, 1) := by decide +kernel
theorem dX9_save_135 : decode cX9_save 135 = .ok (.ireturn, 1) := by decide +kernel
theorem dX9_mended_0 : decode cX9_mended 0 = .ok (.bipush 64, 2) := by decide +kernel
theorem dX9_mended_2 : decode cX9_mended 2 = .ok (.newarray .int, 2) := by decide +kernel
theorem dX9_mended_4 : decode cX9_mended 4 = .ok (.astore_n 2, 1) := by decide +kernel
theorem dX9_mended_5 : decode cX9_mended 5 = .ok (.iconst 0, 1) := by decide +kernel
theorem dX9_mended_6 : decode cX9_mended 6 = .ok (.istore_n 3, 1) := by decide +kernel
theorem dX9_mended_7 : decode cX9_mended 7 = .ok (.iload_n 3, 1) := by decide +kernel
theorem dX9_mended_8 : decode cX9_mended 8 = .ok (.bipush 64, 2) := by decide +kernel
theorem dX9_mended_10 : decode cX9_mended 10 = .ok (.if_icmp .ge 163, 3) := by decide +kernel
theorem dX9_mended_13 : decode cX9_mended 13 = .ok (.aload_n 2, 1) := by decide +kernel
theorem dX9_mended_14 : decode cX9_mended 14 = .ok (.iload_n 3, 1) := by decide +kernel
theorem dX9_mended_15 : decode cX9_mended 15 = .ok (.aload_n 1, 1) := by decide +kernel
theorem dX9_mended_16 : decode cX9_mended 16 = .ok (.iload_n 3, 1) := by decide +kernel
theorem dX9_mended_17 : decode cX9_mended 17 = .ok (.iaload, 1) := by decide +kernel
theorem dX9_mended_18 : decode cX9_mended 18 = .ok (.iastore, 1) := by decide +kernel
theorem dX9_mended_19 : decode cX9_mended 19 = .ok (.aload_n 0, 1) := by decide +kernel
theorem dX9_mended_20 : decode cX9_mended 20 = .ok (.getfield 19, 3) := by decide +kernel
theorem dX9_mended_23 : decode cX9_mended 23 = .ok (.iload_n 3, 1) := by decide +kernel
theorem dX9_mended_24 : decode cX9_mended 24 = .ok (.baload, 1) := by decide +kernel
theorem dX9_mended_25 : decode cX9_mended 25 = .ok (.ifCond .ne 6, 3) := by decide +kernel
theorem dX9_mended_28 : decode cX9_mended 28 = .ok (.goto 139, 3) := by decide +kernel
theorem dX9_mended_31 : decode cX9_mended 31 = .ok (.iconst 0, 1) := by decide +kernel
theorem dX9_mended_32 : decode cX9_mended 32 = .ok (.istore 4, 2) := by decide +kernel
theorem dX9_mended_34 : decode cX9_mended 34 = .ok (.iconst 0, 1) := by decide +kernel
theorem dX9_mended_35 : decode cX9_mended 35 = .ok (.istore 5, 2) := by decide +kernel
theorem dX9_mended_37 : decode cX9_mended 37 = .ok (.iconst 0, 1) := by decide +kernel
theorem dX9_mended_38 : decode cX9_mended 38 = .ok (.istore 6, 2) := by decide +kernel
theorem dX9_mended_40 : decode cX9_mended 40 = .ok (.iload 6, 2) := by decide +kernel
theorem dX9_mended_42 : decode cX9_mended 42 = .ok (.iconst 4, 1) := by decide +kernel
theorem dX9_mended_43 : decode cX9_mended 43 = .ok (.if_icmp .ge 111, 3) := by decide +kernel
theorem dX9_mended_46 : decode cX9_mended 46 = .ok (.iload_n 3, 1) := by decide +kernel
theorem dX9_mended_47 : decode cX9_mended 47 = .ok (.bipush 8, 2) := by decide +kernel
theorem dX9_mended_49 : decode cX9_mended 49 = .ok (.irem, 1) := by decide +kernel
theorem dX9_mended_50 : decode cX9_mended 50 = .ok (.iload 6, 2) := by decide +kernel
theorem dX9_mended_52 : decode cX9_mended 52 = .ok (.ifCond .ne 8, 3) := by decide +kernel
theorem dX9_mended_55 : decode cX9_mended 55 = .ok (.bipush (-2), 2) := by decide +kernel
theorem dX9_mended_57 : decode cX9_mended 57 = .ok (.goto 14, 3) := by decide +kernel
theorem dX9_mended_60 : decode cX9_mended 60 = .ok (.iload 6, 2) := by decide +kernel
theorem dX9_mended_62 : decode cX9_mended 62 = .ok (.iconst 1, 1) := by decide +kernel
theorem dX9_mended_63 : decode cX9_mended 63 = .ok (.if_icmp .ne 7, 3) := by decide +kernel
theorem dX9_mended_66 : decode cX9_mended 66 = .ok (.iconst 2, 1) := by decide +kernel
theorem dX9_mended_67 : decode cX9_mended 67 = .ok (.goto 4, 3) := by decide +kernel
theorem dX9_mended_70 : decode cX9_mended 70 = .ok (.iconst 0, 1) := by decide +kernel
theorem dX9_mended_71 : decode cX9_mended 71 = .ok (.iadd, 1) := by decide +kernel
theorem dX9_mended_72 : decode cX9_mended 72 = .ok (.istore 7, 2) := by decide +kernel
theorem dX9_mended_74 : decode cX9_mended 74 = .ok (.iload_n 3, 1) := by decide +kernel
theorem dX9_mended_75 : decode cX9_mended 75 = .ok (.bipush 8, 2) := by decide +kernel
theorem dX9_mended_77 : decode cX9_mended 77 = .ok (.idiv, 1) := by decide +kernel
theorem dX9_mended_78 : decode cX9_mended 78 = .ok (.iload 6, 2) := by decide +kernel
theorem dX9_mended_80 : decode cX9_mended 80 = .ok (.iconst 2, 1) := by decide +kernel
theorem dX9_mended_81 : decode cX9_mended 81 = .ok (.if_icmp .ne 8, 3) := by decide +kernel
theorem dX9_mended_84 : decode cX9_mended 84 = .ok (.bipush (-2), 2) := by decide +kernel
theorem dX9_mended_86 : decode cX9_mended 86 = .ok (.goto 14, 3) := by decide +kernel
theorem dX9_mended_89 : decode cX9_mended 89 = .ok (.iload 6, 2) := by decide +kernel
theorem dX9_mended_91 : decode cX9_mended 91 = .ok (.iconst 3, 1) := by decide +kernel
theorem dX9_mended_92 : decode cX9_mended 92 = .ok (.if_icmp .ne 7, 3) := by decide +kernel
theorem dX9_mended_95 : decode cX9_mended 95 = .ok (.iconst 2, 1) := by decide +kernel
theorem dX9_mended_96 : decode cX9_mended 96 = .ok (.goto 4, 3) := by decide +kernel
theorem dX9_mended_99 : decode cX9_mended 99 = .ok (.iconst 0, 1) := by decide +kernel
theorem dX9_mended_100 : decode cX9_mended 100 = .ok (.iadd, 1) := by decide +kernel
theorem dX9_mended_101 : decode cX9_mended 101 = .ok (.istore 8, 2) := by decide +kernel
theorem dX9_mended_103 : decode cX9_mended 103 = .ok (.iload 7, 2) := by decide +kernel
theorem dX9_mended_105 : decode cX9_mended 105 = .ok (.iload 8, 2) := by decide +kernel
theorem dX9_mended_107 : decode cX9_mended 107 = .ok (.invokestatic 47, 3) := by decide +kernel
theorem dX9_mended_110 : decode cX9_mended 110 = .ok (.ifCond .eq 38, 3) := by decide +kernel
theorem dX9_mended_113 : decode cX9_mended 113 = .ok (.aload_n 0, 1) := by decide +kernel
theorem dX9_mended_114 : decode cX9_mended 114 = .ok (.getfield 19, 3) := by decide +kernel
theorem dX9_mended_117 : decode cX9_mended 117 = .ok (.iload 7, 2) := by decide +kernel
theorem dX9_mended_119 : decode cX9_mended 119 = .ok (.iload 8, 2) := by decide +kernel
theorem dX9_mended_121 : decode cX9_mended 121 = .ok (.invokestatic 56, 3) := by decide +kernel
theorem dX9_mended_124 : decode cX9_mended 124 = .ok (.baload, 1) := by decide +kernel
theorem dX9_mended_125 : decode cX9_mended 125 = .ok (.ifCond .eq 6, 3) := by decide +kernel
theorem dX9_mended_128 : decode cX9_mended 128 = .ok (.goto 20, 3) := by decide +kernel
theorem dX9_mended_131 : decode cX9_mended 131 = .ok (.iload 4, 2) := by decide +kernel
theorem dX9_mended_133 : decode cX9_mended 133 = .ok (.aload_n 1, 1) := by decide +kernel
theorem dX9_mended_134 : decode cX9_mended 134 = .ok (.iload 7, 2) := by decide +kernel
theorem dX9_mended_136 : decode cX9_mended 136 = .ok (.iload 8, 2) := by decide +kernel
theorem dX9_mended_138 : decode cX9_mended 138 = .ok (.invokestatic 56, 3) := by decide +kernel
theorem dX9_mended_141 : decode cX9_mended 141 = .ok (.iaload, 1) := by decide +kernel
theorem dX9_mended_142 : decode cX9_mended 142 = .ok (.iadd, 1) := by decide +kernel
theorem dX9_mended_143 : decode cX9_mended 143 = .ok (.istore 4, 2) := by decide +kernel
theorem dX9_mended_145 : decode cX9_mended 145 = .ok (.iinc 5 1, 3) := by decide +kernel
theorem dX9_mended_148 : decode cX9_mended 148 = .ok (.iinc 6 1, 3) := by decide +kernel
theorem dX9_mended_151 : decode cX9_mended 151 = .ok (.goto (-111), 3) := by decide +kernel
theorem dX9_mended_154 : decode cX9_mended 154 = .ok (.iload 5, 2) := by decide +kernel
theorem dX9_mended_156 : decode cX9_mended 156 = .ok (.ifCond .le 11, 3) := by decide +kernel
theorem dX9_mended_159 : decode cX9_mended 159 = .ok (.aload_n 2, 1) := by decide +kernel
theorem dX9_mended_160 : decode cX9_mended 160 = .ok (.iload_n 3, 1) := by decide +kernel
theorem dX9_mended_161 : decode cX9_mended 161 = .ok (.iload 4, 2) := by decide +kernel
theorem dX9_mended_163 : decode cX9_mended 163 = .ok (.iload 5, 2) := by decide +kernel
theorem dX9_mended_165 : decode cX9_mended 165 = .ok (.idiv, 1) := by decide +kernel
theorem dX9_mended_166 : decode cX9_mended 166 = .ok (.iastore, 1) := by decide +kernel
theorem dX9_mended_167 : decode cX9_mended 167 = .ok (.iinc 3 1, 3) := by decide +kernel
theorem dX9_mended_170 : decode cX9_mended 170 = .ok (.goto (-163), 3) := by decide +kernel
theorem dX9_mended_173 : decode cX9_mended 173 = .ok (.aload_n 2, 1) := by decide +kernel
theorem dX9_mended_174 : decode cX9_mended 174 = .ok (.areturn, 1) := by decide +kernel
theorem dX9_has_0 : decode cX9_has 0 = .ok (.iconst 0, 1) := by decide +kernel
theorem dX9_has_1 : decode cX9_has 1 = .ok (.istore_n 2, 1) := by decide +kernel
theorem dX9_has_2 : decode cX9_has 2 = .ok (.iload_n 2, 1) := by decide +kernel
theorem dX9_has_3 : decode cX9_has 3 = .ok (.aload_n 0, 1) := by decide +kernel
theorem dX9_has_4 : decode cX9_has 4 = .ok (.invokeinterface 41 1, 5) := by decide +kernel
theorem dX9_has_9 : decode cX9_has 9 = .ok (.if_icmp .ge 27, 3) := by decide +kernel
theorem dX9_has_12 : decode cX9_has 12 = .ok (.aload_n 0, 1) := by decide +kernel
theorem dX9_has_13 : decode cX9_has 13 = .ok (.iload_n 2, 1) := by decide +kernel
theorem dX9_has_14 : decode cX9_has 14 = .ok (.invokeinterface 93 2, 5) := by decide +kernel
theorem dX9_has_19 : decode cX9_has 19 = .ok (.checkcast 125, 3) := by decide +kernel
theorem dX9_has_22 : decode cX9_has 22 = .ok (.iconst 0, 1) := by decide +kernel
theorem dX9_has_23 : decode cX9_has 23 = .ok (.iaload, 1) := by decide +kernel
theorem dX9_has_24 : decode cX9_has 24 = .ok (.iload_n 1, 1) := by decide +kernel
theorem dX9_has_25 : decode cX9_has 25 = .ok (.if_icmp .ne 5, 3) := by decide +kernel
theorem dX9_has_28 : decode cX9_has 28 = .ok (.iconst 1, 1) := by decide +kernel
theorem dX9_has_29 : decode cX9_has 29 = .ok (.ireturn, 1) := by decide +kernel
theorem dX9_has_30 : decode cX9_has 30 = .ok (.iinc 2 1, 3) := by decide +kernel
theorem dX9_has_33 : decode cX9_has 33 = .ok (.goto (-31), 3) := by decide +kernel
theorem dX9_has_36 : decode cX9_has 36 = .ok (.iconst 0, 1) := by decide +kernel
theorem dX9_has_37 : decode cX9_has 37 = .ok (.ireturn, 1) := by decide +kernel
theorem dX9_whole_0 : decode cX9_whole 0 = .ok (.sipush 192, 3) := by decide +kernel
theorem dX9_whole_3 : decode cX9_whole 3 = .ok (.newarray .float, 2) := by decide +kernel
theorem dX9_whole_5 : decode cX9_whole 5 = .ok (.astore_n 2, 1) := by decide +kernel
theorem dX9_whole_6 : decode cX9_whole 6 = .ok (.iconst 0, 1) := by decide +kernel
theorem dX9_whole_7 : decode cX9_whole 7 = .ok (.istore_n 3, 1) := by decide +kernel
theorem dX9_whole_8 : decode cX9_whole 8 = .ok (.iload_n 3, 1) := by decide +kernel
theorem dX9_whole_9 : decode cX9_whole 9 = .ok (.bipush 64, 2) := by decide +kernel
theorem dX9_whole_11 : decode cX9_whole 11 = .ok (.if_icmp .ge 156, 3) := by decide +kernel
theorem dX9_whole_14 : decode cX9_whole 14 = .ok (.iconst 0, 1) := by decide +kernel
theorem dX9_whole_15 : decode cX9_whole 15 = .ok (.istore 4, 2) := by decide +kernel
theorem dX9_whole_17 : decode cX9_whole 17 = .ok (.iload 4, 2) := by decide +kernel
theorem dX9_whole_19 : decode cX9_whole 19 = .ok (.iconst 3, 1) := by decide +kernel
theorem dX9_whole_20 : decode cX9_whole 20 = .ok (.if_icmp .ge 141, 3) := by decide +kernel
theorem dX9_whole_23 : decode cX9_whole 23 = .ok (.iload_n 3, 1) := by decide +kernel
theorem dX9_whole_24 : decode cX9_whole 24 = .ok (.invokestatic 67, 3) := by decide +kernel
theorem dX9_whole_27 : decode cX9_whole 27 = .ok (.iload 4, 2) := by decide +kernel
theorem dX9_whole_29 : decode cX9_whole 29 = .ok (.if_icmp .ne 18, 3) := by decide +kernel
theorem dX9_whole_32 : decode cX9_whole 32 = .ok (.aload_n 2, 1) := by decide +kernel
theorem dX9_whole_33 : decode cX9_whole 33 = .ok (.iconst 3, 1) := by decide +kernel
theorem dX9_whole_34 : decode cX9_whole 34 = .ok (.iload_n 3, 1) := by decide +kernel
theorem dX9_whole_35 : decode cX9_whole 35 = .ok (.imul, 1) := by decide +kernel
theorem dX9_whole_36 : decode cX9_whole 36 = .ok (.iload 4, 2) := by decide +kernel
theorem dX9_whole_38 : decode cX9_whole 38 = .ok (.iadd, 1) := by decide +kernel
theorem dX9_whole_39 : decode cX9_whole 39 = .ok (.aload_n 1, 1) := by decide +kernel
theorem dX9_whole_40 : decode cX9_whole 40 = .ok (.iload_n 3, 1) := by decide +kernel
theorem dX9_whole_41 : decode cX9_whole 41 = .ok (.iaload, 1) := by decide +kernel
theorem dX9_whole_42 : decode cX9_whole 42 = .ok (.i2f, 1) := by decide +kernel
theorem dX9_whole_43 : decode cX9_whole 43 = .ok (.fastore, 1) := by decide +kernel
theorem dX9_whole_44 : decode cX9_whole 44 = .ok (.goto 111, 3) := by decide +kernel
theorem dX9_whole_47 : decode cX9_whole 47 = .ok (.iconst 0, 1) := by decide +kernel
theorem dX9_whole_48 : decode cX9_whole 48 = .ok (.istore 5, 2) := by decide +kernel
theorem dX9_whole_50 : decode cX9_whole 50 = .ok (.iconst 0, 1) := by decide +kernel
theorem dX9_whole_51 : decode cX9_whole 51 = .ok (.istore 6, 2) := by decide +kernel
theorem dX9_whole_53 : decode cX9_whole 53 = .ok (.iconst 0, 1) := by decide +kernel
theorem dX9_whole_54 : decode cX9_whole 54 = .ok (.istore 7, 2) := by decide +kernel
theorem dX9_whole_56 : decode cX9_whole 56 = .ok (.iload 7, 2) := by decide +kernel
theorem dX9_whole_58 : decode cX9_whole 58 = .ok (.bipush 9, 2) := by decide +kernel
theorem dX9_whole_60 : decode cX9_whole 60 = .ok (.if_icmp .ge 80, 3) := by decide +kernel
theorem dX9_whole_63 : decode cX9_whole 63 = .ok (.iload_n 3, 1) := by decide +kernel
theorem dX9_whole_64 : decode cX9_whole 64 = .ok (.bipush 8, 2) := by decide +kernel
theorem dX9_whole_66 : decode cX9_whole 66 = .ok (.irem, 1) := by decide +kernel
theorem dX9_whole_67 : decode cX9_whole 67 = .ok (.iload 7, 2) := by decide +kernel
theorem dX9_whole_69 : decode cX9_whole 69 = .ok (.iconst 3, 1) := by decide +kernel
theorem dX9_whole_70 : decode cX9_whole 70 = .ok (.irem, 1) := by decide +kernel
theorem dX9_whole_71 : decode cX9_whole 71 = .ok (.iadd, 1) := by decide +kernel
theorem dX9_whole_72 : decode cX9_whole 72 = .ok (.iconst 1, 1) := by decide +kernel
theorem dX9_whole_73 : decode cX9_whole 73 = .ok (.isub, 1) := by decide +kernel
theorem dX9_whole_74 : decode cX9_whole 74 = .ok (.istore 8, 2) := by decide +kernel
theorem dX9_whole_76 : decode cX9_whole 76 = .ok (.iload_n 3, 1) := by decide +kernel
theorem dX9_whole_77 : decode cX9_whole 77 = .ok (.bipush 8, 2) := by decide +kernel
theorem dX9_whole_79 : decode cX9_whole 79 = .ok (.idiv, 1) := by decide +kernel
theorem dX9_whole_80 : decode cX9_whole 80 = .ok (.iload 7, 2) := by decide +kernel
theorem dX9_whole_82 : decode cX9_whole 82 = .ok (.iconst 3, 1) := by decide +kernel
theorem dX9_whole_83 : decode cX9_whole 83 = .ok (.idiv, 1) := by decide +kernel
theorem dX9_whole_84 : decode cX9_whole 84 = .ok (.iadd, 1) := by decide +kernel
theorem dX9_whole_85 : decode cX9_whole 85 = .ok (.iconst 1, 1) := by decide +kernel
theorem dX9_whole_86 : decode cX9_whole 86 = .ok (.isub, 1) := by decide +kernel
theorem dX9_whole_87 : decode cX9_whole 87 = .ok (.istore 9, 2) := by decide +kernel
theorem dX9_whole_89 : decode cX9_whole 89 = .ok (.iload 8, 2) := by decide +kernel
theorem dX9_whole_91 : decode cX9_whole 91 = .ok (.iload 9, 2) := by decide +kernel
theorem dX9_whole_93 : decode cX9_whole 93 = .ok (.invokestatic 47, 3) := by decide +kernel
theorem dX9_whole_96 : decode cX9_whole 96 = .ok (.ifCond .eq 38, 3) := by decide +kernel
theorem dX9_whole_99 : decode cX9_whole 99 = .ok (.iload 8, 2) := by decide +kernel
theorem dX9_whole_101 : decode cX9_whole 101 = .ok (.iload 9, 2) := by decide +kernel
theorem dX9_whole_103 : decode cX9_whole 103 = .ok (.invokestatic 56, 3) := by decide +kernel
theorem dX9_whole_106 : decode cX9_whole 106 = .ok (.invokestatic 67, 3) := by decide +kernel
theorem dX9_whole_109 : decode cX9_whole 109 = .ok (.iload 4, 2) := by decide +kernel
theorem dX9_whole_111 : decode cX9_whole 111 = .ok (.if_icmp .eq 6, 3) := by decide +kernel
theorem dX9_whole_114 : decode cX9_whole 114 = .ok (.goto 20, 3) := by decide +kernel
theorem dX9_whole_117 : decode cX9_whole 117 = .ok (.iload 5, 2) := by decide +kernel
theorem dX9_whole_119 : decode cX9_whole 119 = .ok (.aload_n 1, 1) := by decide +kernel
theorem dX9_whole_120 : decode cX9_whole 120 = .ok (.iload 8, 2) := by decide +kernel
theorem dX9_whole_122 : decode cX9_whole 122 = .ok (.iload 9, 2) := by decide +kernel
theorem dX9_whole_124 : decode cX9_whole 124 = .ok (.invokestatic 56, 3) := by decide +kernel
theorem dX9_whole_127 : decode cX9_whole 127 = .ok (.iaload, 1) := by decide +kernel
theorem dX9_whole_128 : decode cX9_whole 128 = .ok (.iadd, 1) := by decide +kernel
theorem dX9_whole_129 : decode cX9_whole 129 = .ok (.istore 5, 2) := by decide +kernel
theorem dX9_whole_131 : decode cX9_whole 131 = .ok (.iinc 6 1, 3) := by decide +kernel
theorem dX9_whole_134 : decode cX9_whole 134 = .ok (.iinc 7 1, 3) := by decide +kernel
theorem dX9_whole_137 : decode cX9_whole 137 = .ok (.goto (-81), 3) := by decide +kernel
theorem dX9_whole_140 : decode cX9_whole 140 = .ok (.aload_n 2, 1) := by decide +kernel
theorem dX9_whole_141 : decode cX9_whole 141 = .ok (.iconst 3, 1) := by decide +kernel
theorem dX9_whole_142 : decode cX9_whole 142 = .ok (.iload_n 3, 1) := by decide +kernel
theorem dX9_whole_143 : decode cX9_whole 143 = .ok (.imul, 1) := by decide +kernel
theorem dX9_whole_144 : decode cX9_whole 144 = .ok (.iload 4, 2) := by decide +kernel
theorem dX9_whole_146 : decode cX9_whole 146 = .ok (.iadd, 1) := by decide +kernel
theorem dX9_whole_147 : decode cX9_whole 147 = .ok (.iload 5, 2) := by decide +kernel
theorem dX9_whole_149 : decode cX9_whole 149 = .ok (.i2f, 1) := by decide +kernel
theorem dX9_whole_150 : decode cX9_whole 150 = .ok (.iload 6, 2) := by decide +kernel
theorem dX9_whole_152 : decode cX9_whole 152 = .ok (.i2f, 1) := by decide +kernel
theorem dX9_whole_153 : decode cX9_whole 153 = .ok (.fdiv, 1) := by decide +kernel
theorem dX9_whole_154 : decode cX9_whole 154 = .ok (.fastore, 1) := by decide +kernel
theorem dX9_whole_155 : decode cX9_whole 155 = .ok (.iinc 4 1, 3) := by decide +kernel
theorem dX9_whole_158 : decode cX9_whole 158 = .ok (.goto (-141), 3) := by decide +kernel
theorem dX9_whole_161 : decode cX9_whole 161 = .ok (.iinc 3 1, 3) := by decide +kernel
theorem dX9_whole_164 : decode cX9_whole 164 = .ok (.goto (-156), 3) := by decide +kernel
theorem dX9_whole_167 : decode cX9_whole 167 = .ok (.aload_n 2, 1) := by decide +kernel
theorem dX9_whole_168 : decode cX9_whole 168 = .ok (.areturn, 1) := by decide +kernel
theorem dX9_edited_0 : decode cX9_edited 0 = .ok (.iload_n 2, 1) := by decide +kernel
theorem dX9_edited_1 : decode cX9_edited 1 = .ok (.tableswitch 100 0 3 #[31, 40, 56, 73], 31) := by decide +kernel
theorem dX9_edited_32 : decode cX9_edited 32 = .ok (.fconst 0, 1) := by decide +kernel
theorem dX9_edited_33 : decode cX9_edited 33 = .ok (.fload_n 0, 1) := by decide +kernel
theorem dX9_edited_34 : decode cX9_edited 34 = .ok (.iload_n 3, 1) := by decide +kernel
theorem dX9_edited_35 : decode cX9_edited 35 = .ok (.i2f, 1) := by decide +kernel
theorem dX9_edited_36 : decode cX9_edited 36 = .ok (.fsub, 1) := by decide +kernel
theorem dX9_edited_37 : decode cX9_edited 37 = .ok (.invokestatic 138, 3) := by decide +kernel
theorem dX9_edited_40 : decode cX9_edited 40 = .ok (.freturn, 1) := by decide +kernel
theorem dX9_edited_41 : decode cX9_edited 41 = .ok (.iload_n 1, 1) := by decide +kernel
theorem dX9_edited_42 : decode cX9_edited 42 = .ok (.ifCond .ne 13, 3) := by decide +kernel
theorem dX9_edited_45 : decode cX9_edited 45 = .ok (.fload_n 0, 1) := by decide +kernel
theorem dX9_edited_46 : decode cX9_edited 46 = .ok (.iload_n 3, 1) := by decide +kernel
theorem dX9_edited_47 : decode cX9_edited 47 = .ok (.i2f, 1) := by decide +kernel
theorem dX9_edited_48 : decode cX9_edited 48 = .ok (.ldc 70, 2) := by decide +kernel
theorem dX9_edited_50 : decode cX9_edited 50 = .ok (.fdiv, 1) := by decide +kernel
theorem dX9_edited_51 : decode cX9_edited 51 = .ok (.fmul, 1) := by decide +kernel
theorem dX9_edited_52 : decode cX9_edited 52 = .ok (.goto 4, 3) := by decide +kernel
theorem dX9_edited_55 : decode cX9_edited 55 = .ok (.fload_n 0, 1) := by decide +kernel
theorem dX9_edited_56 : decode cX9_edited 56 = .ok (.freturn, 1) := by decide +kernel
theorem dX9_edited_57 : decode cX9_edited 57 = .ok (.iload_n 1, 1) := by decide +kernel
theorem dX9_edited_58 : decode cX9_edited 58 = .ok (.iconst 2, 1) := by decide +kernel
theorem dX9_edited_59 : decode cX9_edited 59 = .ok (.if_icmp .ne 13, 3) := by decide +kernel
theorem dX9_edited_62 : decode cX9_edited 62 = .ok (.fload_n 0, 1) := by decide +kernel
theorem dX9_edited_63 : decode cX9_edited 63 = .ok (.iload_n 3, 1) := by decide +kernel
theorem dX9_edited_64 : decode cX9_edited 64 = .ok (.i2f, 1) := by decide +kernel
theorem dX9_edited_65 : decode cX9_edited 65 = .ok (.ldc 70, 2) := by decide +kernel
theorem dX9_edited_67 : decode cX9_edited 67 = .ok (.fdiv, 1) := by decide +kernel
theorem dX9_edited_68 : decode cX9_edited 68 = .ok (.fmul, 1) := by decide +kernel
theorem dX9_edited_69 : decode cX9_edited 69 = .ok (.goto 4, 3) := by decide +kernel
theorem dX9_edited_72 : decode cX9_edited 72 = .ok (.fload_n 0, 1) := by decide +kernel
theorem dX9_edited_73 : decode cX9_edited 73 = .ok (.freturn, 1) := by decide +kernel
theorem dX9_edited_74 : decode cX9_edited 74 = .ok (.iload_n 3, 1) := by decide +kernel
theorem dX9_edited_75 : decode cX9_edited 75 = .ok (.ifCond .ne 10, 3) := by decide +kernel
theorem dX9_edited_78 : decode cX9_edited 78 = .ok (.fload_n 0, 1) := by decide +kernel
theorem dX9_edited_79 : decode cX9_edited 79 = .ok (.ldc 141, 2) := by decide +kernel
theorem dX9_edited_81 : decode cX9_edited 81 = .ok (.fmul, 1) := by decide +kernel
theorem dX9_edited_82 : decode cX9_edited 82 = .ok (.goto 18, 3) := by decide +kernel
theorem dX9_edited_85 : decode cX9_edited 85 = .ok (.iload_n 3, 1) := by decide +kernel
theorem dX9_edited_86 : decode cX9_edited 86 = .ok (.iconst 1, 1) := by decide +kernel
theorem dX9_edited_87 : decode cX9_edited 87 = .ok (.if_icmp .ne 9, 3) := by decide +kernel
theorem dX9_edited_90 : decode cX9_edited 90 = .ok (.fload_n 0, 1) := by decide +kernel
theorem dX9_edited_91 : decode cX9_edited 91 = .ok (.fconst 2, 1) := by decide +kernel
theorem dX9_edited_92 : decode cX9_edited 92 = .ok (.fmul, 1) := by decide +kernel
theorem dX9_edited_93 : decode cX9_edited 93 = .ok (.goto 7, 3) := by decide +kernel
theorem dX9_edited_96 : decode cX9_edited 96 = .ok (.ldc 142, 2) := by decide +kernel
theorem dX9_edited_98 : decode cX9_edited 98 = .ok (.fload_n 0, 1) := by decide +kernel
theorem dX9_edited_99 : decode cX9_edited 99 = .ok (.fsub, 1) := by decide +kernel
theorem dX9_edited_100 : decode cX9_edited 100 = .ok (.freturn, 1) := by decide +kernel
theorem dX9_edited_101 : decode cX9_edited 101 = .ok (.fload_n 0, 1) := by decide +kernel
theorem dX9_edited_102 : decode cX9_edited 102 = .ok (.freturn, 1) := by decide +kernel
theorem dX9_picture_0 : decode cX9_picture 0 = .ok (.aload_n 0, 1) := by decide +kernel
theorem dX9_picture_1 : decode cX9_picture 1 = .ok (.aload_n 2, 1) := by decide +kernel
theorem dX9_picture_2 : decode cX9_picture 2 = .ok (.iconst 5, 1) := by decide +kernel
theorem dX9_picture_3 : decode cX9_picture 3 = .ok (.invokestatic 143, 3) := by decide +kernel
theorem dX9_picture_6 : decode cX9_picture 6 = .ok (.ifCond .eq 14, 3) := by decide +kernel
theorem dX9_picture_9 : decode cX9_picture 9 = .ok (.aload_n 0, 1) := by decide +kernel
theorem dX9_picture_10 : decode cX9_picture 10 = .ok (.aload_n 1, 1) := by decide +kernel
theorem dX9_picture_11 : decode cX9_picture 11 = .ok (.getfield 103, 3) := by decide +kernel
theorem dX9_picture_14 : decode cX9_picture 14 = .ok (.invokevirtual 147, 3) := by decide +kernel
theorem dX9_picture_17 : decode cX9_picture 17 = .ok (.goto 7, 3) := by decide +kernel
theorem dX9_picture_20 : decode cX9_picture 20 = .ok (.aload_n 1, 1) := by decide +kernel
theorem dX9_picture_21 : decode cX9_picture 21 = .ok (.getfield 103, 3) := by decide +kernel
theorem dX9_picture_24 : decode cX9_picture 24 = .ok (.invokevirtual 151, 3) := by decide +kernel
theorem dX9_picture_27 : decode cX9_picture 27 = .ok (.astore_n 3, 1) := by decide +kernel
theorem dX9_picture_28 : decode cX9_picture 28 = .ok (.iconst 0, 1) := by decide +kernel
theorem dX9_picture_29 : decode cX9_picture 29 = .ok (.istore 4, 2) := by decide +kernel
theorem dX9_picture_31 : decode cX9_picture 31 = .ok (.iload 4, 2) := by decide +kernel
theorem dX9_picture_33 : decode cX9_picture 33 = .ok (.aload_n 2, 1) := by decide +kernel
theorem dX9_picture_34 : decode cX9_picture 34 = .ok (.invokeinterface 41 1, 5) := by decide +kernel
theorem dX9_picture_39 : decode cX9_picture 39 = .ok (.if_icmp .ge 124, 3) := by decide +kernel
theorem dX9_picture_42 : decode cX9_picture 42 = .ok (.aload_n 2, 1) := by decide +kernel
theorem dX9_picture_43 : decode cX9_picture 43 = .ok (.iload 4, 2) := by decide +kernel
theorem dX9_picture_45 : decode cX9_picture 45 = .ok (.invokeinterface 93 2, 5) := by decide +kernel
theorem dX9_picture_50 : decode cX9_picture 50 = .ok (.checkcast 125, 3) := by decide +kernel
theorem dX9_picture_53 : decode cX9_picture 53 = .ok (.iconst 0, 1) := by decide +kernel
theorem dX9_picture_54 : decode cX9_picture 54 = .ok (.iaload, 1) := by decide +kernel
theorem dX9_picture_55 : decode cX9_picture 55 = .ok (.istore 5, 2) := by decide +kernel
theorem dX9_picture_57 : decode cX9_picture 57 = .ok (.sipush 192, 3) := by decide +kernel
theorem dX9_picture_60 : decode cX9_picture 60 = .ok (.newarray .float, 2) := by decide +kernel
theorem dX9_picture_62 : decode cX9_picture 62 = .ok (.astore 6, 2) := by decide +kernel
theorem dX9_picture_64 : decode cX9_picture 64 = .ok (.iconst 0, 1) := by decide +kernel
theorem dX9_picture_65 : decode cX9_picture 65 = .ok (.istore 7, 2) := by decide +kernel
theorem dX9_picture_67 : decode cX9_picture 67 = .ok (.iload 7, 2) := by decide +kernel
theorem dX9_picture_69 : decode cX9_picture 69 = .ok (.aload 6, 2) := by decide +kernel
theorem dX9_picture_71 : decode cX9_picture 71 = .ok (.arraylength, 1) := by decide +kernel
theorem dX9_picture_72 : decode cX9_picture 72 = .ok (.if_icmp .ge 82, 3) := by decide +kernel
theorem dX9_picture_75 : decode cX9_picture 75 = .ok (.iload 7, 2) := by decide +kernel
theorem dX9_picture_77 : decode cX9_picture 77 = .ok (.iconst 3, 1) := by decide +kernel
theorem dX9_picture_78 : decode cX9_picture 78 = .ok (.idiv, 1) := by decide +kernel
theorem dX9_picture_79 : decode cX9_picture 79 = .ok (.istore 8, 2) := by decide +kernel
theorem dX9_picture_81 : decode cX9_picture 81 = .ok (.iload 5, 2) := by decide +kernel
theorem dX9_picture_83 : decode cX9_picture 83 = .ok (.iconst 4, 1) := by decide +kernel
theorem dX9_picture_84 : decode cX9_picture 84 = .ok (.if_icmp .ne 22, 3) := by decide +kernel
theorem dX9_picture_87 : decode cX9_picture 87 = .ok (.bipush 7, 2) := by decide +kernel
theorem dX9_picture_89 : decode cX9_picture 89 = .ok (.iload 8, 2) := by decide +kernel
theorem dX9_picture_91 : decode cX9_picture 91 = .ok (.bipush 8, 2) := by decide +kernel
theorem dX9_picture_93 : decode cX9_picture 93 = .ok (.irem, 1) := by decide +kernel
theorem dX9_picture_94 : decode cX9_picture 94 = .ok (.isub, 1) := by decide +kernel
theorem dX9_picture_95 : decode cX9_picture 95 = .ok (.iload 8, 2) := by decide +kernel
theorem dX9_picture_97 : decode cX9_picture 97 = .ok (.bipush 8, 2) := by decide +kernel
theorem dX9_picture_99 : decode cX9_picture 99 = .ok (.idiv, 1) := by decide +kernel
theorem dX9_picture_100 : decode cX9_picture 100 = .ok (.invokestatic 56, 3) := by decide +kernel
theorem dX9_picture_103 : decode cX9_picture 103 = .ok (.goto 5, 3) := by decide +kernel
theorem dX9_picture_106 : decode cX9_picture 106 = .ok (.iload 8, 2) := by decide +kernel
theorem dX9_picture_108 : decode cX9_picture 108 = .ok (.istore 9, 2) := by decide +kernel
theorem dX9_picture_110 : decode cX9_picture 110 = .ok (.aload 6, 2) := by decide +kernel
theorem dX9_picture_112 : decode cX9_picture 112 = .ok (.iload 7, 2) := by decide +kernel
theorem dX9_picture_114 : decode cX9_picture 114 = .ok (.aload_n 3, 1) := by decide +kernel
theorem dX9_picture_115 : decode cX9_picture 115 = .ok (.iconst 3, 1) := by decide +kernel
theorem dX9_picture_116 : decode cX9_picture 116 = .ok (.iload 9, 2) := by decide +kernel
theorem dX9_picture_118 : decode cX9_picture 118 = .ok (.imul, 1) := by decide +kernel
theorem dX9_picture_119 : decode cX9_picture 119 = .ok (.iload 7, 2) := by decide +kernel
theorem dX9_picture_121 : decode cX9_picture 121 = .ok (.iconst 3, 1) := by decide +kernel
theorem dX9_picture_122 : decode cX9_picture 122 = .ok (.irem, 1) := by decide +kernel
theorem dX9_picture_123 : decode cX9_picture 123 = .ok (.iadd, 1) := by decide +kernel
theorem dX9_picture_124 : decode cX9_picture 124 = .ok (.faload, 1) := by decide +kernel
theorem dX9_picture_125 : decode cX9_picture 125 = .ok (.iload 7, 2) := by decide +kernel
theorem dX9_picture_127 : decode cX9_picture 127 = .ok (.iconst 3, 1) := by decide +kernel
theorem dX9_picture_128 : decode cX9_picture 128 = .ok (.irem, 1) := by decide +kernel
theorem dX9_picture_129 : decode cX9_picture 129 = .ok (.iload 5, 2) := by decide +kernel
theorem dX9_picture_131 : decode cX9_picture 131 = .ok (.aload_n 2, 1) := by decide +kernel
theorem dX9_picture_132 : decode cX9_picture 132 = .ok (.iload 4, 2) := by decide +kernel
theorem dX9_picture_134 : decode cX9_picture 134 = .ok (.invokeinterface 93 2, 5) := by decide +kernel
theorem dX9_picture_139 : decode cX9_picture 139 = .ok (.checkcast 125, 3) := by decide +kernel
theorem dX9_picture_142 : decode cX9_picture 142 = .ok (.iconst 1, 1) := by decide +kernel
theorem dX9_picture_143 : decode cX9_picture 143 = .ok (.iaload, 1) := by decide +kernel
theorem dX9_picture_144 : decode cX9_picture 144 = .ok (.invokestatic 155, 3) := by decide +kernel
theorem dX9_picture_147 : decode cX9_picture 147 = .ok (.fastore, 1) := by decide +kernel
theorem dX9_picture_148 : decode cX9_picture 148 = .ok (.iinc 7 1, 3) := by decide +kernel
theorem dX9_picture_151 : decode cX9_picture 151 = .ok (.goto (-84), 3) := by decide +kernel
theorem dX9_picture_154 : decode cX9_picture 154 = .ok (.aload 6, 2) := by decide +kernel
theorem dX9_picture_156 : decode cX9_picture 156 = .ok (.astore_n 3, 1) := by decide +kernel
theorem dX9_picture_157 : decode cX9_picture 157 = .ok (.iinc 4 1, 3) := by decide +kernel
theorem dX9_picture_160 : decode cX9_picture 160 = .ok (.goto (-129), 3) := by decide +kernel
theorem dX9_picture_163 : decode cX9_picture 163 = .ok (.iconst 0, 1) := by decide +kernel
theorem dX9_picture_164 : decode cX9_picture 164 = .ok (.istore 4, 2) := by decide +kernel
theorem dX9_picture_166 : decode cX9_picture 166 = .ok (.iload 4, 2) := by decide +kernel
theorem dX9_picture_168 : decode cX9_picture 168 = .ok (.aload_n 3, 1) := by decide +kernel
theorem dX9_picture_169 : decode cX9_picture 169 = .ok (.arraylength, 1) := by decide +kernel
theorem dX9_picture_170 : decode cX9_picture 170 = .ok (.if_icmp .ge 26, 3) := by decide +kernel
theorem dX9_picture_173 : decode cX9_picture 173 = .ok (.aload_n 3, 1) := by decide +kernel
theorem dX9_picture_174 : decode cX9_picture 174 = .ok (.iload 4, 2) := by decide +kernel
theorem dX9_picture_176 : decode cX9_picture 176 = .ok (.fconst 0, 1) := by decide +kernel
theorem dX9_picture_177 : decode cX9_picture 177 = .ok (.ldc 142, 2) := by decide +kernel
theorem dX9_picture_179 : decode cX9_picture 179 = .ok (.aload_n 3, 1) := by decide +kernel
theorem dX9_picture_180 : decode cX9_picture 180 = .ok (.iload 4, 2) := by decide +kernel
theorem dX9_picture_182 : decode cX9_picture 182 = .ok (.faload, 1) := by decide +kernel
theorem dX9_picture_183 : decode cX9_picture 183 = .ok (.invokestatic 159, 3) := by decide +kernel
theorem dX9_picture_186 : decode cX9_picture 186 = .ok (.invokestatic 138, 3) := by decide +kernel
theorem dX9_picture_189 : decode cX9_picture 189 = .ok (.fastore, 1) := by decide +kernel
theorem dX9_picture_190 : decode cX9_picture 190 = .ok (.iinc 4 1, 3) := by decide +kernel
theorem dX9_picture_193 : decode cX9_picture 193 = .ok (.goto (-27), 3) := by decide +kernel
theorem dX9_picture_196 : decode cX9_picture 196 = .ok (.aload_n 3, 1) := by decide +kernel
theorem dX9_picture_197 : decode cX9_picture 197 = .ok (.areturn, 1) := by decide +kernel
theorem dX9_picture__0 : decode cX9_picture_ 0 = .ok (.aload_n 0, 1) := by decide +kernel
theorem dX9_picture__1 : decode cX9_picture_ 1 = .ok (.aload_n 0, 1) := by decide +kernel
theorem dX9_picture__2 : decode cX9_picture_ 2 = .ok (.getfield 26, 3) := by decide +kernel
theorem dX9_picture__5 : decode cX9_picture_ 5 = .ok (.iload_n 1, 1) := by decide +kernel
theorem dX9_picture__6 : decode cX9_picture_ 6 = .ok (.invokeinterface 93 2, 5) := by decide +kernel
theorem dX9_picture__11 : decode cX9_picture_ 11 = .ok (.checkcast 80, 3) := by decide +kernel
theorem dX9_picture__14 : decode cX9_picture_ 14 = .ok (.aload_n 0, 1) := by decide +kernel
theorem dX9_picture__15 : decode cX9_picture_ 15 = .ok (.getfield 26, 3) := by decide +kernel
theorem dX9_picture__18 : decode cX9_picture_ 18 = .ok (.iload_n 1, 1) := by decide +kernel
theorem dX9_picture__19 : decode cX9_picture_ 19 = .ok (.invokeinterface 93 2, 5) := by decide +kernel
theorem dX9_picture__24 : decode cX9_picture_ 24 = .ok (.checkcast 80, 3) := by decide +kernel
theorem dX9_picture__27 : decode cX9_picture_ 27 = .ok (.getfield 119, 3) := by decide +kernel
theorem dX9_picture__30 : decode cX9_picture_ 30 = .ok (.invokevirtual 161, 3) := by decide +kernel
theorem dX9_picture__33 : decode cX9_picture_ 33 = .ok (.areturn, 1) := by decide +kernel
theorem dX9_word_0 : decode cX9_word 0 = .ok (.bipush 7, 2) := by decide +kernel
theorem dX9_word_2 : decode cX9_word 2 = .ok (.istore_n 1, 1) := by decide +kernel
theorem dX9_word_3 : decode cX9_word 3 = .ok (.aload_n 0, 1) := by decide +kernel
theorem dX9_word_4 : decode cX9_word 4 = .ok (.astore_n 2, 1) := by decide +kernel
theorem dX9_word_5 : decode cX9_word 5 = .ok (.aload_n 2, 1) := by decide +kernel
theorem dX9_word_6 : decode cX9_word 6 = .ok (.arraylength, 1) := by decide +kernel
theorem dX9_word_7 : decode cX9_word 7 = .ok (.istore_n 3, 1) := by decide +kernel
theorem dX9_word_8 : decode cX9_word 8 = .ok (.iconst 0, 1) := by decide +kernel
theorem dX9_word_9 : decode cX9_word 9 = .ok (.istore 4, 2) := by decide +kernel
theorem dX9_word_11 : decode cX9_word 11 = .ok (.iload 4, 2) := by decide +kernel
theorem dX9_word_13 : decode cX9_word 13 = .ok (.iload_n 3, 1) := by decide +kernel
theorem dX9_word_14 : decode cX9_word 14 = .ok (.if_icmp .ge 24, 3) := by decide +kernel
theorem dX9_word_17 : decode cX9_word 17 = .ok (.aload_n 2, 1) := by decide +kernel
theorem dX9_word_18 : decode cX9_word 18 = .ok (.iload 4, 2) := by decide +kernel
theorem dX9_word_20 : decode cX9_word 20 = .ok (.faload, 1) := by decide +kernel
theorem dX9_word_21 : decode cX9_word 21 = .ok (.fstore 5, 2) := by decide +kernel
theorem dX9_word_23 : decode cX9_word 23 = .ok (.iload_n 1, 1) := by decide +kernel
theorem dX9_word_24 : decode cX9_word 24 = .ok (.bipush 31, 2) := by decide +kernel
theorem dX9_word_26 : decode cX9_word 26 = .ok (.imul, 1) := by decide +kernel
theorem dX9_word_27 : decode cX9_word 27 = .ok (.fload 5, 2) := by decide +kernel
theorem dX9_word_29 : decode cX9_word 29 = .ok (.f2i, 1) := by decide +kernel
theorem dX9_word_30 : decode cX9_word 30 = .ok (.iadd, 1) := by decide +kernel
theorem dX9_word_31 : decode cX9_word 31 = .ok (.istore_n 1, 1) := by decide +kernel
theorem dX9_word_32 : decode cX9_word 32 = .ok (.iinc 4 1, 3) := by decide +kernel
theorem dX9_word_35 : decode cX9_word 35 = .ok (.goto (-24), 3) := by decide +kernel
theorem dX9_word_38 : decode cX9_word 38 = .ok (.iload_n 1, 1) := by decide +kernel
theorem dX9_word_39 : decode cX9_word 39 = .ok (.ireturn, 1) := by decide +kernel
theorem dX9_raw_0 : decode cX9_raw 0 = .ok (.aload_n 0, 1) := by decide +kernel
theorem dX9_raw_1 : decode cX9_raw 1 = .ok (.iconst 0, 1) := by decide +kernel
theorem dX9_raw_2 : decode cX9_raw 2 = .ok (.putfield 33, 3) := by decide +kernel
theorem dX9_raw_5 : decode cX9_raw 5 = .ok (.aload_n 0, 1) := by decide +kernel
theorem dX9_raw_6 : decode cX9_raw 6 = .ok (.iload_n 1, 1) := by decide +kernel
theorem dX9_raw_7 : decode cX9_raw 7 = .ok (.invokevirtual 112, 3) := by decide +kernel
theorem dX9_raw_10 : decode cX9_raw 10 = .ok (.ifCond .eq 11, 3) := by decide +kernel
theorem dX9_raw_13 : decode cX9_raw 13 = .ok (.iload_n 2, 1) := by decide +kernel
theorem dX9_raw_14 : decode cX9_raw 14 = .ok (.iload_n 3, 1) := by decide +kernel
theorem dX9_raw_15 : decode cX9_raw 15 = .ok (.invokestatic 47, 3) := by decide +kernel
theorem dX9_raw_18 : decode cX9_raw 18 = .ok (.ifCond .ne 9, 3) := by decide +kernel
theorem dX9_raw_21 : decode cX9_raw 21 = .ok (.aload_n 0, 1) := by decide +kernel
theorem dX9_raw_22 : decode cX9_raw 22 = .ok (.iconst 1, 1) := by decide +kernel
theorem dX9_raw_23 : decode cX9_raw 23 = .ok (.invokevirtual 51, 3) := by decide +kernel
theorem dX9_raw_26 : decode cX9_raw 26 = .ok (.ireturn, 1) := by decide +kernel
theorem dX9_raw_27 : decode cX9_raw 27 = .ok (.aload_n 0, 1) := by decide +kernel
theorem dX9_raw_28 : decode cX9_raw 28 = .ok (.getfield 26, 3) := by decide +kernel
theorem dX9_raw_31 : decode cX9_raw 31 = .ok (.iload_n 1, 1) := by decide +kernel
theorem dX9_raw_32 : decode cX9_raw 32 = .ok (.invokeinterface 93 2, 5) := by decide +kernel
theorem dX9_raw_37 : decode cX9_raw 37 = .ok (.checkcast 80, 3) := by decide +kernel
theorem dX9_raw_40 : decode cX9_raw 40 = .ok (.getfield 103, 3) := by decide +kernel
theorem dX9_raw_43 : decode cX9_raw 43 = .ok (.iload_n 2, 1) := by decide +kernel
theorem dX9_raw_44 : decode cX9_raw 44 = .ok (.iload_n 3, 1) := by decide +kernel
theorem dX9_raw_45 : decode cX9_raw 45 = .ok (.invokestatic 56, 3) := by decide +kernel
theorem dX9_raw_48 : decode cX9_raw 48 = .ok (.iaload, 1) := by decide +kernel
theorem dX9_raw_49 : decode cX9_raw 49 = .ok (.ireturn, 1) := by decide +kernel
theorem dX9_picture___0 : decode cX9_picture__ 0 = .ok (.aload_n 0, 1) := by decide +kernel
theorem dX9_picture___1 : decode cX9_picture__ 1 = .ok (.iconst 0, 1) := by decide +kernel
theorem dX9_picture___2 : decode cX9_picture__ 2 = .ok (.putfield 33, 3) := by decide +kernel
theorem dX9_picture___5 : decode cX9_picture__ 5 = .ok (.aload_n 0, 1) := by decide +kernel
theorem dX9_picture___6 : decode cX9_picture__ 6 = .ok (.iload_n 1, 1) := by decide +kernel
theorem dX9_picture___7 : decode cX9_picture__ 7 = .ok (.invokevirtual 112, 3) := by decide +kernel
theorem dX9_picture___10 : decode cX9_picture__ 10 = .ok (.ifCond .eq 11, 3) := by decide +kernel
theorem dX9_picture___13 : decode cX9_picture__ 13 = .ok (.iload_n 2, 1) := by decide +kernel
theorem dX9_picture___14 : decode cX9_picture__ 14 = .ok (.iload_n 3, 1) := by decide +kernel
theorem dX9_picture___15 : decode cX9_picture__ 15 = .ok (.invokestatic 47, 3) := by decide +kernel
theorem dX9_picture___18 : decode cX9_picture__ 18 = .ok (.ifCond .ne 10, 3) := by decide +kernel
theorem dX9_picture___21 : decode cX9_picture__ 21 = .ok (.aload_n 0, 1) := by decide +kernel
theorem dX9_picture___22 : decode cX9_picture__ 22 = .ok (.iconst 1, 1) := by decide +kernel
theorem dX9_picture___23 : decode cX9_picture__ 23 = .ok (.invokevirtual 51, 3) := by decide +kernel
theorem dX9_picture___26 : decode cX9_picture__ 26 = .ok (.i2d, 1) := by decide +kernel
theorem dX9_picture___27 : decode cX9_picture__ 27 = .ok (.dreturn, 1) := by decide +kernel
theorem dX9_picture___28 : decode cX9_picture__ 28 = .ok (.iload 4, 2) := by decide +kernel
theorem dX9_picture___30 : decode cX9_picture__ 30 = .ok (.iconst 0, 1) := by decide +kernel
theorem dX9_picture___31 : decode cX9_picture__ 31 = .ok (.iconst 2, 1) := by decide +kernel
theorem dX9_picture___32 : decode cX9_picture__ 32 = .ok (.invokestatic 37, 3) := by decide +kernel
theorem dX9_picture___35 : decode cX9_picture__ 35 = .ok (.ifCond .ne 10, 3) := by decide +kernel
theorem dX9_picture___38 : decode cX9_picture__ 38 = .ok (.aload_n 0, 1) := by decide +kernel
theorem dX9_picture___39 : decode cX9_picture__ 39 = .ok (.iconst 2, 1) := by decide +kernel
theorem dX9_picture___40 : decode cX9_picture__ 40 = .ok (.invokevirtual 51, 3) := by decide +kernel
theorem dX9_picture___43 : decode cX9_picture__ 43 = .ok (.i2d, 1) := by decide +kernel
theorem dX9_picture___44 : decode cX9_picture__ 44 = .ok (.dreturn, 1) := by decide +kernel
theorem dX9_picture___45 : decode cX9_picture__ 45 = .ok (.aload_n 0, 1) := by decide +kernel
theorem dX9_picture___46 : decode cX9_picture__ 46 = .ok (.iload_n 1, 1) := by decide +kernel
theorem dX9_picture___47 : decode cX9_picture__ 47 = .ok (.invokevirtual 165, 3) := by decide +kernel
theorem dX9_picture___50 : decode cX9_picture__ 50 = .ok (.iconst 3, 1) := by decide +kernel
theorem dX9_picture___51 : decode cX9_picture__ 51 = .ok (.iload_n 2, 1) := by decide +kernel
theorem dX9_picture___52 : decode cX9_picture__ 52 = .ok (.iload_n 3, 1) := by decide +kernel
theorem dX9_picture___53 : decode cX9_picture__ 53 = .ok (.invokestatic 56, 3) := by decide +kernel
theorem dX9_picture___56 : decode cX9_picture__ 56 = .ok (.imul, 1) := by decide +kernel
theorem dX9_picture___57 : decode cX9_picture__ 57 = .ok (.iload 4, 2) := by decide +kernel
theorem dX9_picture___59 : decode cX9_picture__ 59 = .ok (.iadd, 1) := by decide +kernel
theorem dX9_picture___60 : decode cX9_picture__ 60 = .ok (.faload, 1) := by decide +kernel
theorem dX9_picture___61 : decode cX9_picture__ 61 = .ok (.f2d, 1) := by decide +kernel
theorem dX9_picture___62 : decode cX9_picture__ 62 = .ok (.dreturn, 1) := by decide +kernel
theorem dX9_word__0 : decode cX9_word_ 0 = .ok (.aload_n 0, 1) := by decide +kernel
theorem dX9_word__1 : decode cX9_word_ 1 = .ok (.iconst 0, 1) := by decide +kernel
theorem dX9_word__2 : decode cX9_word_ 2 = .ok (.putfield 33, 3) := by decide +kernel
theorem dX9_word__5 : decode cX9_word_ 5 = .ok (.aload_n 0, 1) := by decide +kernel
theorem dX9_word__6 : decode cX9_word_ 6 = .ok (.iload_n 1, 1) := by decide +kernel
theorem dX9_word__7 : decode cX9_word_ 7 = .ok (.invokevirtual 112, 3) := by decide +kernel
theorem dX9_word__10 : decode cX9_word_ 10 = .ok (.ifCond .ne 9, 3) := by decide +kernel
theorem dX9_word__13 : decode cX9_word_ 13 = .ok (.aload_n 0, 1) := by decide +kernel
theorem dX9_word__14 : decode cX9_word_ 14 = .ok (.iconst 1, 1) := by decide +kernel
theorem dX9_word__15 : decode cX9_word_ 15 = .ok (.invokevirtual 51, 3) := by decide +kernel
theorem dX9_word__18 : decode cX9_word_ 18 = .ok (.ireturn, 1) := by decide +kernel
theorem dX9_word__19 : decode cX9_word_ 19 = .ok (.aload_n 0, 1) := by decide +kernel
theorem dX9_word__20 : decode cX9_word_ 20 = .ok (.iload_n 1, 1) := by decide +kernel
theorem dX9_word__21 : decode cX9_word_ 21 = .ok (.invokevirtual 165, 3) := by decide +kernel
theorem dX9_word__24 : decode cX9_word_ 24 = .ok (.invokestatic 168, 3) := by decide +kernel
theorem dX9_word__27 : decode cX9_word_ 27 = .ok (.ireturn, 1) := by decide +kernel
theorem dX9_frameNow_0 : decode cX9_frameNow 0 = .ok (.aload_n 0, 1) := by decide +kernel
theorem dX9_frameNow_1 : decode cX9_frameNow 1 = .ok (.getfield 26, 3) := by decide +kernel
theorem dX9_frameNow_4 : decode cX9_frameNow 4 = .ok (.iload_n 1, 1) := by decide +kernel
theorem dX9_frameNow_5 : decode cX9_frameNow 5 = .ok (.invokeinterface 93 2, 5) := by decide +kernel
theorem dX9_frameNow_10 : decode cX9_frameNow 10 = .ok (.checkcast 80, 3) := by decide +kernel
theorem dX9_frameNow_13 : decode cX9_frameNow 13 = .ok (.astore_n 3, 1) := by decide +kernel
theorem dX9_frameNow_14 : decode cX9_frameNow 14 = .ok (.bipush 9, 2) := by decide +kernel
theorem dX9_frameNow_16 : decode cX9_frameNow 16 = .ok (.newarray .int, 2) := by decide +kernel
theorem dX9_frameNow_18 : decode cX9_frameNow 18 = .ok (.dup, 1) := by decide +kernel
theorem dX9_frameNow_19 : decode cX9_frameNow 19 = .ok (.iconst 0, 1) := by decide +kernel
theorem dX9_frameNow_20 : decode cX9_frameNow 20 = .ok (.aload_n 3, 1) := by decide +kernel
theorem dX9_frameNow_21 : decode cX9_frameNow 21 = .ok (.getfield 97, 3) := by decide +kernel
theorem dX9_frameNow_24 : decode cX9_frameNow 24 = .ok (.iastore, 1) := by decide +kernel
theorem dX9_frameNow_25 : decode cX9_frameNow 25 = .ok (.dup, 1) := by decide +kernel
theorem dX9_frameNow_26 : decode cX9_frameNow 26 = .ok (.iconst 1, 1) := by decide +kernel
theorem dX9_frameNow_27 : decode cX9_frameNow 27 = .ok (.aload_n 3, 1) := by decide +kernel
theorem dX9_frameNow_28 : decode cX9_frameNow 28 = .ok (.getfield 100, 3) := by decide +kernel
theorem dX9_frameNow_31 : decode cX9_frameNow 31 = .ok (.iastore, 1) := by decide +kernel
theorem dX9_frameNow_32 : decode cX9_frameNow 32 = .ok (.dup, 1) := by decide +kernel
theorem dX9_frameNow_33 : decode cX9_frameNow 33 = .ok (.iconst 2, 1) := by decide +kernel
theorem dX9_frameNow_34 : decode cX9_frameNow 34 = .ok (.aload_n 3, 1) := by decide +kernel
theorem dX9_frameNow_35 : decode cX9_frameNow 35 = .ok (.getfield 119, 3) := by decide +kernel
theorem dX9_frameNow_38 : decode cX9_frameNow 38 = .ok (.invokeinterface 41 1, 5) := by decide +kernel
theorem dX9_frameNow_43 : decode cX9_frameNow 43 = .ok (.iastore, 1) := by decide +kernel
theorem dX9_frameNow_44 : decode cX9_frameNow 44 = .ok (.dup, 1) := by decide +kernel
theorem dX9_frameNow_45 : decode cX9_frameNow 45 = .ok (.iconst 3, 1) := by decide +kernel
theorem dX9_frameNow_46 : decode cX9_frameNow 46 = .ok (.aload_n 3, 1) := by decide +kernel
theorem dX9_frameNow_47 : decode cX9_frameNow 47 = .ok (.invokevirtual 172, 3) := by decide +kernel
theorem dX9_frameNow_50 : decode cX9_frameNow 50 = .ok (.iastore, 1) := by decide +kernel
theorem dX9_frameNow_51 : decode cX9_frameNow 51 = .ok (.dup, 1) := by decide +kernel
theorem dX9_frameNow_52 : decode cX9_frameNow 52 = .ok (.iconst 4, 1) := by decide +kernel
theorem dX9_frameNow_53 : decode cX9_frameNow 53 = .ok (.aload_n 3, 1) := by decide +kernel
theorem dX9_frameNow_54 : decode cX9_frameNow 54 = .ok (.getfield 109, 3) := by decide +kernel
theorem dX9_frameNow_57 : decode cX9_frameNow 57 = .ok (.iastore, 1) := by decide +kernel
theorem dX9_frameNow_58 : decode cX9_frameNow 58 = .ok (.dup, 1) := by decide +kernel
theorem dX9_frameNow_59 : decode cX9_frameNow 59 = .ok (.iconst 5, 1) := by decide +kernel
theorem dX9_frameNow_60 : decode cX9_frameNow 60 = .ok (.aload_n 3, 1) := by decide +kernel
theorem dX9_frameNow_61 : decode cX9_frameNow 61 = .ok (.invokevirtual 175, 3) := by decide +kernel
theorem dX9_frameNow_64 : decode cX9_frameNow 64 = .ok (.iastore, 1) := by decide +kernel
theorem dX9_frameNow_65 : decode cX9_frameNow 65 = .ok (.dup, 1) := by decide +kernel
theorem dX9_frameNow_66 : decode cX9_frameNow 66 = .ok (.bipush 6, 2) := by decide +kernel
theorem dX9_frameNow_68 : decode cX9_frameNow 68 = .ok (.aload_n 3, 1) := by decide +kernel
theorem dX9_frameNow_69 : decode cX9_frameNow 69 = .ok (.iconst 0, 1) := by decide +kernel
theorem dX9_frameNow_70 : decode cX9_frameNow 70 = .ok (.invokevirtual 178, 3) := by decide +kernel
theorem dX9_frameNow_73 : decode cX9_frameNow 73 = .ok (.iastore, 1) := by decide +kernel
theorem dX9_frameNow_74 : decode cX9_frameNow 74 = .ok (.dup, 1) := by decide +kernel
theorem dX9_frameNow_75 : decode cX9_frameNow 75 = .ok (.bipush 7, 2) := by decide +kernel
theorem dX9_frameNow_77 : decode cX9_frameNow 77 = .ok (.aload_n 3, 1) := by decide +kernel
theorem dX9_frameNow_78 : decode cX9_frameNow 78 = .ok (.iconst 2, 1) := by decide +kernel
theorem dX9_frameNow_79 : decode cX9_frameNow 79 = .ok (.invokevirtual 178, 3) := by decide +kernel
theorem dX9_frameNow_82 : decode cX9_frameNow 82 = .ok (.iastore, 1) := by decide +kernel
theorem dX9_frameNow_83 : decode cX9_frameNow 83 = .ok (.dup, 1) := by decide +kernel
theorem dX9_frameNow_84 : decode cX9_frameNow 84 = .ok (.bipush 8, 2) := by decide +kernel
theorem dX9_frameNow_86 : decode cX9_frameNow 86 = .ok (.aload_n 0, 1) := by decide +kernel
theorem dX9_frameNow_87 : decode cX9_frameNow 87 = .ok (.iload_n 1, 1) := by decide +kernel
theorem dX9_frameNow_88 : decode cX9_frameNow 88 = .ok (.invokevirtual 131, 3) := by decide +kernel
theorem dX9_frameNow_91 : decode cX9_frameNow 91 = .ok (.iastore, 1) := by decide +kernel
theorem dX9_frameNow_92 : decode cX9_frameNow 92 = .ok (.astore 4, 2) := by decide +kernel
theorem dX9_frameNow_94 : decode cX9_frameNow 94 = .ok (.aload 4, 2) := by decide +kernel
theorem dX9_frameNow_96 : decode cX9_frameNow 96 = .ok (.iload_n 2, 1) := by decide +kernel
theorem dX9_frameNow_97 : decode cX9_frameNow 97 = .ok (.iaload, 1) := by decide +kernel
theorem dX9_frameNow_98 : decode cX9_frameNow 98 = .ok (.ireturn, 1) := by decide +kernel
theorem dX9_ofFrame_0 : decode cX9_ofFrame 0 = .ok (.aload_n 0, 1) := by decide +kernel
theorem dX9_ofFrame_1 : decode cX9_ofFrame 1 = .ok (.iconst 0, 1) := by decide +kernel
theorem dX9_ofFrame_2 : decode cX9_ofFrame 2 = .ok (.putfield 33, 3) := by decide +kernel
theorem dX9_ofFrame_5 : decode cX9_ofFrame 5 = .ok (.aload_n 0, 1) := by decide +kernel
theorem dX9_ofFrame_6 : decode cX9_ofFrame 6 = .ok (.iload_n 1, 1) := by decide +kernel
theorem dX9_ofFrame_7 : decode cX9_ofFrame 7 = .ok (.invokevirtual 112, 3) := by decide +kernel
theorem dX9_ofFrame_10 : decode cX9_ofFrame 10 = .ok (.ifCond .ne 9, 3) := by decide +kernel
theorem dX9_ofFrame_13 : decode cX9_ofFrame 13 = .ok (.aload_n 0, 1) := by decide +kernel
theorem dX9_ofFrame_14 : decode cX9_ofFrame 14 = .ok (.iconst 1, 1) := by decide +kernel
theorem dX9_ofFrame_15 : decode cX9_ofFrame 15 = .ok (.invokevirtual 51, 3) := by decide +kernel
theorem dX9_ofFrame_18 : decode cX9_ofFrame 18 = .ok (.ireturn, 1) := by decide +kernel
theorem dX9_ofFrame_19 : decode cX9_ofFrame 19 = .ok (.iload_n 2, 1) := by decide +kernel
theorem dX9_ofFrame_20 : decode cX9_ofFrame 20 = .ok (.iconst 0, 1) := by decide +kernel
theorem dX9_ofFrame_21 : decode cX9_ofFrame 21 = .ok (.bipush 8, 2) := by decide +kernel
theorem dX9_ofFrame_23 : decode cX9_ofFrame 23 = .ok (.invokestatic 37, 3) := by decide +kernel
theorem dX9_ofFrame_26 : decode cX9_ofFrame 26 = .ok (.ifCond .ne 9, 3) := by decide +kernel
theorem dX9_ofFrame_29 : decode cX9_ofFrame 29 = .ok (.aload_n 0, 1) := by decide +kernel
theorem dX9_ofFrame_30 : decode cX9_ofFrame 30 = .ok (.iconst 2, 1) := by decide +kernel
theorem dX9_ofFrame_31 : decode cX9_ofFrame 31 = .ok (.invokevirtual 51, 3) := by decide +kernel
theorem dX9_ofFrame_34 : decode cX9_ofFrame 34 = .ok (.ireturn, 1) := by decide +kernel
theorem dX9_ofFrame_35 : decode cX9_ofFrame 35 = .ok (.aload_n 0, 1) := by decide +kernel
theorem dX9_ofFrame_36 : decode cX9_ofFrame 36 = .ok (.iload_n 1, 1) := by decide +kernel
theorem dX9_ofFrame_37 : decode cX9_ofFrame 37 = .ok (.iload_n 2, 1) := by decide +kernel
theorem dX9_ofFrame_38 : decode cX9_ofFrame 38 = .ok (.invokevirtual 181, 3) := by decide +kernel
theorem dX9_ofFrame_41 : decode cX9_ofFrame 41 = .ok (.ireturn, 1) := by decide +kernel
theorem dX9_ofEdit_0 : decode cX9_ofEdit 0 = .ok (.aload_n 0, 1) := by decide +kernel
theorem dX9_ofEdit_1 : decode cX9_ofEdit 1 = .ok (.iconst 0, 1) := by decide +kernel
theorem dX9_ofEdit_2 : decode cX9_ofEdit 2 = .ok (.putfield 33, 3) := by decide +kernel
theorem dX9_ofEdit_5 : decode cX9_ofEdit 5 = .ok (.aload_n 0, 1) := by decide +kernel
theorem dX9_ofEdit_6 : decode cX9_ofEdit 6 = .ok (.iload_n 1, 1) := by decide +kernel
theorem dX9_ofEdit_7 : decode cX9_ofEdit 7 = .ok (.invokevirtual 112, 3) := by decide +kernel
theorem dX9_ofEdit_10 : decode cX9_ofEdit 10 = .ok (.ifCond .eq 34, 3) := by decide +kernel
theorem dX9_ofEdit_13 : decode cX9_ofEdit 13 = .ok (.iload_n 2, 1) := by decide +kernel
theorem dX9_ofEdit_14 : decode cX9_ofEdit 14 = .ok (.iconst 0, 1) := by decide +kernel
theorem dX9_ofEdit_15 : decode cX9_ofEdit 15 = .ok (.aload_n 0, 1) := by decide +kernel
theorem dX9_ofEdit_16 : decode cX9_ofEdit 16 = .ok (.getfield 26, 3) := by decide +kernel
theorem dX9_ofEdit_19 : decode cX9_ofEdit 19 = .ok (.iload_n 1, 1) := by decide +kernel
theorem dX9_ofEdit_20 : decode cX9_ofEdit 20 = .ok (.invokeinterface 93 2, 5) := by decide +kernel
theorem dX9_ofEdit_25 : decode cX9_ofEdit 25 = .ok (.checkcast 80, 3) := by decide +kernel
theorem dX9_ofEdit_28 : decode cX9_ofEdit 28 = .ok (.getfield 119, 3) := by decide +kernel
theorem dX9_ofEdit_31 : decode cX9_ofEdit 31 = .ok (.invokeinterface 41 1, 5) := by decide +kernel
theorem dX9_ofEdit_36 : decode cX9_ofEdit 36 = .ok (.iconst 1, 1) := by decide +kernel
theorem dX9_ofEdit_37 : decode cX9_ofEdit 37 = .ok (.isub, 1) := by decide +kernel
theorem dX9_ofEdit_38 : decode cX9_ofEdit 38 = .ok (.invokestatic 37, 3) := by decide +kernel
theorem dX9_ofEdit_41 : decode cX9_ofEdit 41 = .ok (.ifCond .ne 9, 3) := by decide +kernel
theorem dX9_ofEdit_44 : decode cX9_ofEdit 44 = .ok (.aload_n 0, 1) := by decide +kernel
theorem dX9_ofEdit_45 : decode cX9_ofEdit 45 = .ok (.iconst 1, 1) := by decide +kernel
theorem dX9_ofEdit_46 : decode cX9_ofEdit 46 = .ok (.invokevirtual 51, 3) := by decide +kernel
theorem dX9_ofEdit_49 : decode cX9_ofEdit 49 = .ok (.ireturn, 1) := by decide +kernel
theorem dX9_ofEdit_50 : decode cX9_ofEdit 50 = .ok (.iload_n 3, 1) := by decide +kernel
theorem dX9_ofEdit_51 : decode cX9_ofEdit 51 = .ok (.iconst 0, 1) := by decide +kernel
theorem dX9_ofEdit_52 : decode cX9_ofEdit 52 = .ok (.iconst 1, 1) := by decide +kernel
theorem dX9_ofEdit_53 : decode cX9_ofEdit 53 = .ok (.invokestatic 37, 3) := by decide +kernel
theorem dX9_ofEdit_56 : decode cX9_ofEdit 56 = .ok (.ifCond .ne 9, 3) := by decide +kernel
theorem dX9_ofEdit_59 : decode cX9_ofEdit 59 = .ok (.aload_n 0, 1) := by decide +kernel
theorem dX9_ofEdit_60 : decode cX9_ofEdit 60 = .ok (.iconst 2, 1) := by decide +kernel
theorem dX9_ofEdit_61 : decode cX9_ofEdit 61 = .ok (.invokevirtual 51, 3) := by decide +kernel
theorem dX9_ofEdit_64 : decode cX9_ofEdit 64 = .ok (.ireturn, 1) := by decide +kernel
theorem dX9_ofEdit_65 : decode cX9_ofEdit 65 = .ok (.aload_n 0, 1) := by decide +kernel
theorem dX9_ofEdit_66 : decode cX9_ofEdit 66 = .ok (.getfield 26, 3) := by decide +kernel
theorem dX9_ofEdit_69 : decode cX9_ofEdit 69 = .ok (.iload_n 1, 1) := by decide +kernel
theorem dX9_ofEdit_70 : decode cX9_ofEdit 70 = .ok (.invokeinterface 93 2, 5) := by decide +kernel
theorem dX9_ofEdit_75 : decode cX9_ofEdit 75 = .ok (.checkcast 80, 3) := by decide +kernel
theorem dX9_ofEdit_78 : decode cX9_ofEdit 78 = .ok (.getfield 119, 3) := by decide +kernel
theorem dX9_ofEdit_81 : decode cX9_ofEdit 81 = .ok (.iload_n 2, 1) := by decide +kernel
theorem dX9_ofEdit_82 : decode cX9_ofEdit 82 = .ok (.invokeinterface 93 2, 5) := by decide +kernel
theorem dX9_ofEdit_87 : decode cX9_ofEdit 87 = .ok (.checkcast 125, 3) := by decide +kernel
theorem dX9_ofEdit_90 : decode cX9_ofEdit 90 = .ok (.iload_n 3, 1) := by decide +kernel
theorem dX9_ofEdit_91 : decode cX9_ofEdit 91 = .ok (.iaload, 1) := by decide +kernel
theorem dX9_ofEdit_92 : decode cX9_ofEdit 92 = .ok (.ireturn, 1) := by decide +kernel
theorem dX9_zone_0 : decode cX9_zone 0 = .ok (.aload_n 0, 1) := by decide +kernel
theorem dX9_zone_1 : decode cX9_zone 1 = .ok (.iconst 0, 1) := by decide +kernel
theorem dX9_zone_2 : decode cX9_zone 2 = .ok (.putfield 33, 3) := by decide +kernel
theorem dX9_zone_5 : decode cX9_zone 5 = .ok (.aload_n 0, 1) := by decide +kernel
theorem dX9_zone_6 : decode cX9_zone 6 = .ok (.iload_n 1, 1) := by decide +kernel
theorem dX9_zone_7 : decode cX9_zone 7 = .ok (.invokevirtual 112, 3) := by decide +kernel
theorem dX9_zone_10 : decode cX9_zone 10 = .ok (.ifCond .eq 12, 3) := by decide +kernel
theorem dX9_zone_13 : decode cX9_zone 13 = .ok (.iload_n 2, 1) := by decide +kernel
theorem dX9_zone_14 : decode cX9_zone 14 = .ok (.iconst 0, 1) := by decide +kernel
theorem dX9_zone_15 : decode cX9_zone 15 = .ok (.iconst 3, 1) := by decide +kernel
theorem dX9_zone_16 : decode cX9_zone 16 = .ok (.invokestatic 37, 3) := by decide +kernel
theorem dX9_zone_19 : decode cX9_zone 19 = .ok (.ifCond .ne 10, 3) := by decide +kernel
theorem dX9_zone_22 : decode cX9_zone 22 = .ok (.aload_n 0, 1) := by decide +kernel
theorem dX9_zone_23 : decode cX9_zone 23 = .ok (.iconst 1, 1) := by decide +kernel
theorem dX9_zone_24 : decode cX9_zone 24 = .ok (.invokevirtual 51, 3) := by decide +kernel
theorem dX9_zone_27 : decode cX9_zone 27 = .ok (.i2d, 1) := by decide +kernel
theorem dX9_zone_28 : decode cX9_zone 28 = .ok (.dreturn, 1) := by decide +kernel
theorem dX9_zone_29 : decode cX9_zone 29 = .ok (.aload_n 0, 1) := by decide +kernel
theorem dX9_zone_30 : decode cX9_zone 30 = .ok (.getfield 26, 3) := by decide +kernel
theorem dX9_zone_33 : decode cX9_zone 33 = .ok (.iload_n 1, 1) := by decide +kernel
theorem dX9_zone_34 : decode cX9_zone 34 = .ok (.invokeinterface 93 2, 5) := by decide +kernel
theorem dX9_zone_39 : decode cX9_zone 39 = .ok (.checkcast 80, 3) := by decide +kernel
theorem dX9_zone_42 : decode cX9_zone 42 = .ok (.iload_n 2, 1) := by decide +kernel
theorem dX9_zone_43 : decode cX9_zone 43 = .ok (.invokevirtual 184, 3) := by decide +kernel
theorem dX9_zone_46 : decode cX9_zone 46 = .ok (.dreturn, 1) := by decide +kernel
theorem dX9_meter_0 : decode cX9_meter 0 = .ok (.aload_n 0, 1) := by decide +kernel
theorem dX9_meter_1 : decode cX9_meter 1 = .ok (.iconst 0, 1) := by decide +kernel
theorem dX9_meter_2 : decode cX9_meter 2 = .ok (.putfield 33, 3) := by decide +kernel
theorem dX9_meter_5 : decode cX9_meter 5 = .ok (.aload_n 0, 1) := by decide +kernel
theorem dX9_meter_6 : decode cX9_meter 6 = .ok (.iload_n 1, 1) := by decide +kernel
theorem dX9_meter_7 : decode cX9_meter 7 = .ok (.invokevirtual 112, 3) := by decide +kernel
theorem dX9_meter_10 : decode cX9_meter 10 = .ok (.ifCond .ne 10, 3) := by decide +kernel
theorem dX9_meter_13 : decode cX9_meter 13 = .ok (.aload_n 0, 1) := by decide +kernel
theorem dX9_meter_14 : decode cX9_meter 14 = .ok (.iconst 1, 1) := by decide +kernel
theorem dX9_meter_15 : decode cX9_meter 15 = .ok (.invokevirtual 51, 3) := by decide +kernel
theorem dX9_meter_18 : decode cX9_meter 18 = .ok (.i2d, 1) := by decide +kernel
theorem dX9_meter_19 : decode cX9_meter 19 = .ok (.dreturn, 1) := by decide +kernel
theorem dX9_meter_20 : decode cX9_meter 20 = .ok (.aload_n 0, 1) := by decide +kernel
theorem dX9_meter_21 : decode cX9_meter 21 = .ok (.getfield 26, 3) := by decide +kernel
theorem dX9_meter_24 : decode cX9_meter 24 = .ok (.iload_n 1, 1) := by decide +kernel
theorem dX9_meter_25 : decode cX9_meter 25 = .ok (.invokeinterface 93 2, 5) := by decide +kernel
theorem dX9_meter_30 : decode cX9_meter 30 = .ok (.checkcast 80, 3) := by decide +kernel
theorem dX9_meter_33 : decode cX9_meter 33 = .ok (.invokevirtual 188, 3) := by decide +kernel
theorem dX9_meter_36 : decode cX9_meter 36 = .ok (.dreturn, 1) := by decide +kernel
theorem dX9_fileNow_0 : decode cX9_fileNow 0 = .ok (.aload_n 0, 1) := by decide +kernel
theorem dX9_fileNow_1 : decode cX9_fileNow 1 = .ok (.getfield 30, 3) := by decide +kernel
theorem dX9_fileNow_4 : decode cX9_fileNow 4 = .ok (.iload_n 1, 1) := by decide +kernel
theorem dX9_fileNow_5 : decode cX9_fileNow 5 = .ok (.invokeinterface 93 2, 5) := by decide +kernel
theorem dX9_fileNow_10 : decode cX9_fileNow 10 = .ok (.checkcast 126, 3) := by decide +kernel
theorem dX9_fileNow_13 : decode cX9_fileNow 13 = .ok (.astore_n 3, 1) := by decide +kernel
theorem dX9_fileNow_14 : decode cX9_fileNow 14 = .ok (.iload_n 2, 1) := by decide +kernel
theorem dX9_fileNow_15 : decode cX9_fileNow 15 = .ok (.ifCond .ne 10, 3) := by decide +kernel
theorem dX9_fileNow_18 : decode cX9_fileNow 18 = .ok (.aload_n 3, 1) := by decide +kernel
theorem dX9_fileNow_19 : decode cX9_fileNow 19 = .ok (.getfield 128, 3) := by decide +kernel
theorem dX9_fileNow_22 : decode cX9_fileNow 22 = .ok (.goto 59, 3) := by decide +kernel
theorem dX9_fileNow_25 : decode cX9_fileNow 25 = .ok (.iload_n 2, 1) := by decide +kernel
theorem dX9_fileNow_26 : decode cX9_fileNow 26 = .ok (.iconst 1, 1) := by decide +kernel
theorem dX9_fileNow_27 : decode cX9_fileNow 27 = .ok (.if_icmp .ne 10, 3) := by decide +kernel
theorem dX9_fileNow_30 : decode cX9_fileNow 30 = .ok (.aload_n 3, 1) := by decide +kernel
theorem dX9_fileNow_31 : decode cX9_fileNow 31 = .ok (.getfield 192, 3) := by decide +kernel
theorem dX9_fileNow_34 : decode cX9_fileNow 34 = .ok (.goto 47, 3) := by decide +kernel
theorem dX9_fileNow_37 : decode cX9_fileNow 37 = .ok (.iload_n 2, 1) := by decide +kernel
theorem dX9_fileNow_38 : decode cX9_fileNow 38 = .ok (.iconst 2, 1) := by decide +kernel
theorem dX9_fileNow_39 : decode cX9_fileNow 39 = .ok (.if_icmp .ne 15, 3) := by decide +kernel
theorem dX9_fileNow_42 : decode cX9_fileNow 42 = .ok (.aload_n 3, 1) := by decide +kernel
theorem dX9_fileNow_43 : decode cX9_fileNow 43 = .ok (.getfield 137, 3) := by decide +kernel
theorem dX9_fileNow_46 : decode cX9_fileNow 46 = .ok (.invokeinterface 41 1, 5) := by decide +kernel
theorem dX9_fileNow_51 : decode cX9_fileNow 51 = .ok (.goto 30, 3) := by decide +kernel
theorem dX9_fileNow_54 : decode cX9_fileNow 54 = .ok (.aload_n 0, 1) := by decide +kernel
theorem dX9_fileNow_55 : decode cX9_fileNow 55 = .ok (.aload_n 0, 1) := by decide +kernel
theorem dX9_fileNow_56 : decode cX9_fileNow 56 = .ok (.getfield 26, 3) := by decide +kernel
theorem dX9_fileNow_59 : decode cX9_fileNow 59 = .ok (.aload_n 3, 1) := by decide +kernel
theorem dX9_fileNow_60 : decode cX9_fileNow 60 = .ok (.getfield 128, 3) := by decide +kernel
theorem dX9_fileNow_63 : decode cX9_fileNow 63 = .ok (.invokeinterface 93 2, 5) := by decide +kernel
theorem dX9_fileNow_68 : decode cX9_fileNow 68 = .ok (.checkcast 80, 3) := by decide +kernel
theorem dX9_fileNow_71 : decode cX9_fileNow 71 = .ok (.aload_n 3, 1) := by decide +kernel
theorem dX9_fileNow_72 : decode cX9_fileNow 72 = .ok (.getfield 137, 3) := by decide +kernel
theorem dX9_fileNow_75 : decode cX9_fileNow 75 = .ok (.invokevirtual 161, 3) := by decide +kernel
theorem dX9_fileNow_78 : decode cX9_fileNow 78 = .ok (.invokestatic 168, 3) := by decide +kernel
theorem dX9_fileNow_81 : decode cX9_fileNow 81 = .ok (.ireturn, 1) := by decide +kernel
theorem dX9_ofFile_0 : decode cX9_ofFile 0 = .ok (.aload_n 0, 1) := by decide +kernel
theorem dX9_ofFile_1 : decode cX9_ofFile 1 = .ok (.iconst 0, 1) := by decide +kernel
theorem dX9_ofFile_2 : decode cX9_ofFile 2 = .ok (.putfield 33, 3) := by decide +kernel
theorem dX9_ofFile_5 : decode cX9_ofFile 5 = .ok (.iload_n 1, 1) := by decide +kernel
theorem dX9_ofFile_6 : decode cX9_ofFile 6 = .ok (.iconst 0, 1) := by decide +kernel
theorem dX9_ofFile_7 : decode cX9_ofFile 7 = .ok (.aload_n 0, 1) := by decide +kernel
theorem dX9_ofFile_8 : decode cX9_ofFile 8 = .ok (.getfield 30, 3) := by decide +kernel
theorem dX9_ofFile_11 : decode cX9_ofFile 11 = .ok (.invokeinterface 41 1, 5) := by decide +kernel
theorem dX9_ofFile_16 : decode cX9_ofFile 16 = .ok (.iconst 1, 1) := by decide +kernel
theorem dX9_ofFile_17 : decode cX9_ofFile 17 = .ok (.isub, 1) := by decide +kernel
theorem dX9_ofFile_18 : decode cX9_ofFile 18 = .ok (.invokestatic 37, 3) := by decide +kernel
theorem dX9_ofFile_21 : decode cX9_ofFile 21 = .ok (.ifCond .ne 9, 3) := by decide +kernel
theorem dX9_ofFile_24 : decode cX9_ofFile 24 = .ok (.aload_n 0, 1) := by decide +kernel
theorem dX9_ofFile_25 : decode cX9_ofFile 25 = .ok (.iconst 1, 1) := by decide +kernel
theorem dX9_ofFile_26 : decode cX9_ofFile 26 = .ok (.invokevirtual 51, 3) := by decide +kernel
theorem dX9_ofFile_29 : decode cX9_ofFile 29 = .ok (.ireturn, 1) := by decide +kernel
theorem dX9_ofFile_30 : decode cX9_ofFile 30 = .ok (.iload_n 2, 1) := by decide +kernel
theorem dX9_ofFile_31 : decode cX9_ofFile 31 = .ok (.iconst 0, 1) := by decide +kernel
theorem dX9_ofFile_32 : decode cX9_ofFile 32 = .ok (.iconst 3, 1) := by decide +kernel
theorem dX9_ofFile_33 : decode cX9_ofFile 33 = .ok (.invokestatic 37, 3) := by decide +kernel
theorem dX9_ofFile_36 : decode cX9_ofFile 36 = .ok (.ifCond .ne 9, 3) := by decide +kernel
theorem dX9_ofFile_39 : decode cX9_ofFile 39 = .ok (.aload_n 0, 1) := by decide +kernel
theorem dX9_ofFile_40 : decode cX9_ofFile 40 = .ok (.iconst 2, 1) := by decide +kernel
theorem dX9_ofFile_41 : decode cX9_ofFile 41 = .ok (.invokevirtual 51, 3) := by decide +kernel
theorem dX9_ofFile_44 : decode cX9_ofFile 44 = .ok (.ireturn, 1) := by decide +kernel
theorem dX9_ofFile_45 : decode cX9_ofFile 45 = .ok (.aload_n 0, 1) := by decide +kernel
theorem dX9_ofFile_46 : decode cX9_ofFile 46 = .ok (.iload_n 1, 1) := by decide +kernel
theorem dX9_ofFile_47 : decode cX9_ofFile 47 = .ok (.iload_n 2, 1) := by decide +kernel
theorem dX9_ofFile_48 : decode cX9_ofFile 48 = .ok (.invokevirtual 195, 3) := by decide +kernel
theorem dX9_ofFile_51 : decode cX9_ofFile 51 = .ok (.ireturn, 1) := by decide +kernel
theorem dX9_ofPlace_0 : decode cX9_ofPlace 0 = .ok (.aload_n 0, 1) := by decide +kernel
theorem dX9_ofPlace_1 : decode cX9_ofPlace 1 = .ok (.iconst 0, 1) := by decide +kernel
theorem dX9_ofPlace_2 : decode cX9_ofPlace 2 = .ok (.putfield 33, 3) := by decide +kernel
theorem dX9_ofPlace_5 : decode cX9_ofPlace 5 = .ok (.iload_n 1, 1) := by decide +kernel
theorem dX9_ofPlace_6 : decode cX9_ofPlace 6 = .ok (.iload_n 2, 1) := by decide +kernel
theorem dX9_ofPlace_7 : decode cX9_ofPlace 7 = .ok (.invokestatic 47, 3) := by decide +kernel
theorem dX9_ofPlace_10 : decode cX9_ofPlace 10 = .ok (.ifCond .ne 9, 3) := by decide +kernel
theorem dX9_ofPlace_13 : decode cX9_ofPlace 13 = .ok (.aload_n 0, 1) := by decide +kernel
theorem dX9_ofPlace_14 : decode cX9_ofPlace 14 = .ok (.iconst 1, 1) := by decide +kernel
theorem dX9_ofPlace_15 : decode cX9_ofPlace 15 = .ok (.invokevirtual 51, 3) := by decide +kernel
theorem dX9_ofPlace_18 : decode cX9_ofPlace 18 = .ok (.ireturn, 1) := by decide +kernel
theorem dX9_ofPlace_19 : decode cX9_ofPlace 19 = .ok (.iload_n 3, 1) := by decide +kernel
theorem dX9_ofPlace_20 : decode cX9_ofPlace 20 = .ok (.iconst 0, 1) := by decide +kernel
theorem dX9_ofPlace_21 : decode cX9_ofPlace 21 = .ok (.iconst 5, 1) := by decide +kernel
theorem dX9_ofPlace_22 : decode cX9_ofPlace 22 = .ok (.invokestatic 37, 3) := by decide +kernel
theorem dX9_ofPlace_25 : decode cX9_ofPlace 25 = .ok (.ifCond .ne 9, 3) := by decide +kernel
theorem dX9_ofPlace_28 : decode cX9_ofPlace 28 = .ok (.aload_n 0, 1) := by decide +kernel
theorem dX9_ofPlace_29 : decode cX9_ofPlace 29 = .ok (.iconst 2, 1) := by decide +kernel
theorem dX9_ofPlace_30 : decode cX9_ofPlace 30 = .ok (.invokevirtual 51, 3) := by decide +kernel
theorem dX9_ofPlace_33 : decode cX9_ofPlace 33 = .ok (.ireturn, 1) := by decide +kernel
theorem dX9_ofPlace_34 : decode cX9_ofPlace 34 = .ok (.iload_n 1, 1) := by decide +kernel
theorem dX9_ofPlace_35 : decode cX9_ofPlace 35 = .ok (.iload_n 2, 1) := by decide +kernel
theorem dX9_ofPlace_36 : decode cX9_ofPlace 36 = .ok (.invokestatic 56, 3) := by decide +kernel
theorem dX9_ofPlace_39 : decode cX9_ofPlace 39 = .ok (.istore 4, 2) := by decide +kernel
theorem dX9_ofPlace_41 : decode cX9_ofPlace 41 = .ok (.bipush 6, 2) := by decide +kernel
theorem dX9_ofPlace_43 : decode cX9_ofPlace 43 = .ok (.newarray .int, 2) := by decide +kernel
theorem dX9_ofPlace_45 : decode cX9_ofPlace 45 = .ok (.dup, 1) := by decide +kernel
theorem dX9_ofPlace_46 : decode cX9_ofPlace 46 = .ok (.iconst 0, 1) := by decide +kernel
theorem dX9_ofPlace_47 : decode cX9_ofPlace 47 = .ok (.aload_n 0, 1) := by decide +kernel
theorem dX9_ofPlace_48 : decode cX9_ofPlace 48 = .ok (.getfield 9, 3) := by decide +kernel
theorem dX9_ofPlace_51 : decode cX9_ofPlace 51 = .ok (.iconst 3, 1) := by decide +kernel
theorem dX9_ofPlace_52 : decode cX9_ofPlace 52 = .ok (.iload 4, 2) := by decide +kernel
theorem dX9_ofPlace_54 : decode cX9_ofPlace 54 = .ok (.imul, 1) := by decide +kernel
theorem dX9_ofPlace_55 : decode cX9_ofPlace 55 = .ok (.iaload, 1) := by decide +kernel
theorem dX9_ofPlace_56 : decode cX9_ofPlace 56 = .ok (.iastore, 1) := by decide +kernel
theorem dX9_ofPlace_57 : decode cX9_ofPlace 57 = .ok (.dup, 1) := by decide +kernel
theorem dX9_ofPlace_58 : decode cX9_ofPlace 58 = .ok (.iconst 1, 1) := by decide +kernel
theorem dX9_ofPlace_59 : decode cX9_ofPlace 59 = .ok (.aload_n 0, 1) := by decide +kernel
theorem dX9_ofPlace_60 : decode cX9_ofPlace 60 = .ok (.getfield 9, 3) := by decide +kernel
theorem dX9_ofPlace_63 : decode cX9_ofPlace 63 = .ok (.iconst 3, 1) := by decide +kernel
theorem dX9_ofPlace_64 : decode cX9_ofPlace 64 = .ok (.iload 4, 2) := by decide +kernel
theorem dX9_ofPlace_66 : decode cX9_ofPlace 66 = .ok (.imul, 1) := by decide +kernel
theorem dX9_ofPlace_67 : decode cX9_ofPlace 67 = .ok (.iconst 1, 1) := by decide +kernel
theorem dX9_ofPlace_68 : decode cX9_ofPlace 68 = .ok (.iadd, 1) := by decide +kernel
theorem dX9_ofPlace_69 : decode cX9_ofPlace 69 = .ok (.iaload, 1) := by decide +kernel
theorem dX9_ofPlace_70 : decode cX9_ofPlace 70 = .ok (.iastore, 1) := by decide +kernel
theorem dX9_ofPlace_71 : decode cX9_ofPlace 71 = .ok (.dup, 1) := by decide +kernel
theorem dX9_ofPlace_72 : decode cX9_ofPlace 72 = .ok (.iconst 2, 1) := by decide +kernel
theorem dX9_ofPlace_73 : decode cX9_ofPlace 73 = .ok (.aload_n 0, 1) := by decide +kernel
