theorem dX0_init_0 : decode cX0_init 0 = .ok (.aload_n 0, 1) := by decide +kernel
theorem dX0_init_1 : decode cX0_init 1 = .ok (.invokespecial 3, 3) := by decide +kernel
theorem dX0_init_4 : decode cX0_init 4 = .ok (.aload_n 0, 1) := by decide +kernel
theorem dX0_init_5 : decode cX0_init 5 = .ok (.bipush 6, 2) := by decide +kernel
theorem dX0_init_7 : decode cX0_init 7 = .ok (.newarray .int, 2) := by decide +kernel
theorem dX0_init_9 : decode cX0_init 9 = .ok (.putfield 9, 3) := by decide +kernel
theorem dX0_init_12 : decode cX0_init 12 = .ok (.aload_n 0, 1) := by decide +kernel
theorem dX0_init_13 : decode cX0_init 13 = .ok (.bipush 6, 2) := by decide +kernel
theorem dX0_init_15 : decode cX0_init 15 = .ok (.newarray .int, 2) := by decide +kernel
theorem dX0_init_17 : decode cX0_init 17 = .ok (.putfield 15, 3) := by decide +kernel
theorem dX0_init_20 : decode cX0_init 20 = .ok (.aload_n 0, 1) := by decide +kernel
theorem dX0_init_21 : decode cX0_init 21 = .ok (.iconst 0, 1) := by decide +kernel
theorem dX0_init_22 : decode cX0_init 22 = .ok (.putfield 18, 3) := by decide +kernel
theorem dX0_init_25 : decode cX0_init 25 = .ok (.return_, 1) := by decide +kernel
theorem dX0_count_0 : decode cX0_count 0 = .ok (.aload_n 0, 1) := by decide +kernel
theorem dX0_count_1 : decode cX0_count 1 = .ok (.getfield 18, 3) := by decide +kernel
theorem dX0_count_4 : decode cX0_count 4 = .ok (.ireturn, 1) := by decide +kernel
theorem dX0_append_0 : decode cX0_append 0 = .ok (.aload_n 0, 1) := by decide +kernel
theorem dX0_append_1 : decode cX0_append 1 = .ok (.getfield 18, 3) := by decide +kernel
theorem dX0_append_4 : decode cX0_append 4 = .ok (.bipush 6, 2) := by decide +kernel
theorem dX0_append_6 : decode cX0_append 6 = .ok (.if_icmp .ge 33, 3) := by decide +kernel
theorem dX0_append_9 : decode cX0_append 9 = .ok (.aload_n 0, 1) := by decide +kernel
theorem dX0_append_10 : decode cX0_append 10 = .ok (.getfield 9, 3) := by decide +kernel
theorem dX0_append_13 : decode cX0_append 13 = .ok (.aload_n 0, 1) := by decide +kernel
theorem dX0_append_14 : decode cX0_append 14 = .ok (.getfield 18, 3) := by decide +kernel
theorem dX0_append_17 : decode cX0_append 17 = .ok (.iload_n 1, 1) := by decide +kernel
theorem dX0_append_18 : decode cX0_append 18 = .ok (.iastore, 1) := by decide +kernel
theorem dX0_append_19 : decode cX0_append 19 = .ok (.aload_n 0, 1) := by decide +kernel
theorem dX0_append_20 : decode cX0_append 20 = .ok (.getfield 15, 3) := by decide +kernel
theorem dX0_append_23 : decode cX0_append 23 = .ok (.aload_n 0, 1) := by decide +kernel
theorem dX0_append_24 : decode cX0_append 24 = .ok (.getfield 18, 3) := by decide +kernel
theorem dX0_append_27 : decode cX0_append 27 = .ok (.iload_n 2, 1) := by decide +kernel
theorem dX0_append_28 : decode cX0_append 28 = .ok (.iastore, 1) := by decide +kernel
theorem dX0_append_29 : decode cX0_append 29 = .ok (.aload_n 0, 1) := by decide +kernel
theorem dX0_append_30 : decode cX0_append 30 = .ok (.dup, 1) := by decide +kernel
theorem dX0_append_31 : decode cX0_append 31 = .ok (.getfield 18, 3) := by decide +kernel
theorem dX0_append_34 : decode cX0_append 34 = .ok (.iconst 1, 1) := by decide +kernel
theorem dX0_append_35 : decode cX0_append 35 = .ok (.iadd, 1) := by decide +kernel
theorem dX0_append_36 : decode cX0_append 36 = .ok (.putfield 18, 3) := by decide +kernel
theorem dX0_append_39 : decode cX0_append 39 = .ok (.return_, 1) := by decide +kernel
theorem dX0_takeBack_0 : decode cX0_takeBack 0 = .ok (.aload_n 0, 1) := by decide +kernel
theorem dX0_takeBack_1 : decode cX0_takeBack 1 = .ok (.getfield 18, 3) := by decide +kernel
theorem dX0_takeBack_4 : decode cX0_takeBack 4 = .ok (.ifCond .ne 5, 3) := by decide +kernel
theorem dX0_takeBack_7 : decode cX0_takeBack 7 = .ok (.iconst (-1), 1) := by decide +kernel
theorem dX0_takeBack_8 : decode cX0_takeBack 8 = .ok (.ireturn, 1) := by decide +kernel
theorem dX0_takeBack_9 : decode cX0_takeBack 9 = .ok (.aload_n 0, 1) := by decide +kernel
theorem dX0_takeBack_10 : decode cX0_takeBack 10 = .ok (.dup, 1) := by decide +kernel
theorem dX0_takeBack_11 : decode cX0_takeBack 11 = .ok (.getfield 18, 3) := by decide +kernel
theorem dX0_takeBack_14 : decode cX0_takeBack 14 = .ok (.iconst 1, 1) := by decide +kernel
theorem dX0_takeBack_15 : decode cX0_takeBack 15 = .ok (.isub, 1) := by decide +kernel
theorem dX0_takeBack_16 : decode cX0_takeBack 16 = .ok (.putfield 18, 3) := by decide +kernel
theorem dX0_takeBack_19 : decode cX0_takeBack 19 = .ok (.aload_n 0, 1) := by decide +kernel
theorem dX0_takeBack_20 : decode cX0_takeBack 20 = .ok (.getfield 9, 3) := by decide +kernel
theorem dX0_takeBack_23 : decode cX0_takeBack 23 = .ok (.aload_n 0, 1) := by decide +kernel
theorem dX0_takeBack_24 : decode cX0_takeBack 24 = .ok (.getfield 18, 3) := by decide +kernel
theorem dX0_takeBack_27 : decode cX0_takeBack 27 = .ok (.iaload, 1) := by decide +kernel
theorem dX0_takeBack_28 : decode cX0_takeBack 28 = .ok (.ireturn, 1) := by decide +kernel
theorem dX0_copyFrom_0 : decode cX0_copyFrom 0 = .ok (.iconst 0, 1) := by decide +kernel
theorem dX0_copyFrom_1 : decode cX0_copyFrom 1 = .ok (.istore_n 2, 1) := by decide +kernel
theorem dX0_copyFrom_2 : decode cX0_copyFrom 2 = .ok (.iload_n 2, 1) := by decide +kernel
theorem dX0_copyFrom_3 : decode cX0_copyFrom 3 = .ok (.bipush 6, 2) := by decide +kernel
theorem dX0_copyFrom_5 : decode cX0_copyFrom 5 = .ok (.if_icmp .ge 33, 3) := by decide +kernel
theorem dX0_copyFrom_8 : decode cX0_copyFrom 8 = .ok (.aload_n 0, 1) := by decide +kernel
theorem dX0_copyFrom_9 : decode cX0_copyFrom 9 = .ok (.getfield 9, 3) := by decide +kernel
theorem dX0_copyFrom_12 : decode cX0_copyFrom 12 = .ok (.iload_n 2, 1) := by decide +kernel
theorem dX0_copyFrom_13 : decode cX0_copyFrom 13 = .ok (.aload_n 1, 1) := by decide +kernel
theorem dX0_copyFrom_14 : decode cX0_copyFrom 14 = .ok (.getfield 9, 3) := by decide +kernel
theorem dX0_copyFrom_17 : decode cX0_copyFrom 17 = .ok (.iload_n 2, 1) := by decide +kernel
theorem dX0_copyFrom_18 : decode cX0_copyFrom 18 = .ok (.iaload, 1) := by decide +kernel
theorem dX0_copyFrom_19 : decode cX0_copyFrom 19 = .ok (.iastore, 1) := by decide +kernel
theorem dX0_copyFrom_20 : decode cX0_copyFrom 20 = .ok (.aload_n 0, 1) := by decide +kernel
theorem dX0_copyFrom_21 : decode cX0_copyFrom 21 = .ok (.getfield 15, 3) := by decide +kernel
theorem dX0_copyFrom_24 : decode cX0_copyFrom 24 = .ok (.iload_n 2, 1) := by decide +kernel
theorem dX0_copyFrom_25 : decode cX0_copyFrom 25 = .ok (.aload_n 1, 1) := by decide +kernel
theorem dX0_copyFrom_26 : decode cX0_copyFrom 26 = .ok (.getfield 15, 3) := by decide +kernel
theorem dX0_copyFrom_29 : decode cX0_copyFrom 29 = .ok (.iload_n 2, 1) := by decide +kernel
theorem dX0_copyFrom_30 : decode cX0_copyFrom 30 = .ok (.iaload, 1) := by decide +kernel
theorem dX0_copyFrom_31 : decode cX0_copyFrom 31 = .ok (.iastore, 1) := by decide +kernel
theorem dX0_copyFrom_32 : decode cX0_copyFrom 32 = .ok (.iinc 2 1, 3) := by decide +kernel
theorem dX0_copyFrom_35 : decode cX0_copyFrom 35 = .ok (.goto (-33), 3) := by decide +kernel
theorem dX0_copyFrom_38 : decode cX0_copyFrom 38 = .ok (.aload_n 0, 1) := by decide +kernel
theorem dX0_copyFrom_39 : decode cX0_copyFrom 39 = .ok (.aload_n 1, 1) := by decide +kernel
theorem dX0_copyFrom_40 : decode cX0_copyFrom 40 = .ok (.getfield 18, 3) := by decide +kernel
theorem dX0_copyFrom_43 : decode cX0_copyFrom 43 = .ok (.putfield 18, 3) := by decide +kernel
theorem dX0_copyFrom_46 : decode cX0_copyFrom 46 = .ok (.return_, 1) := by decide +kernel
theorem dX0_hasMend_0 : decode cX0_hasMend 0 = .ok (.iconst 0, 1) := by decide +kernel
theorem dX0_hasMend_1 : decode cX0_hasMend 1 = .ok (.istore_n 1, 1) := by decide +kernel
theorem dX0_hasMend_2 : decode cX0_hasMend 2 = .ok (.iload_n 1, 1) := by decide +kernel
theorem dX0_hasMend_3 : decode cX0_hasMend 3 = .ok (.aload_n 0, 1) := by decide +kernel
theorem dX0_hasMend_4 : decode cX0_hasMend 4 = .ok (.getfield 18, 3) := by decide +kernel
theorem dX0_hasMend_7 : decode cX0_hasMend 7 = .ok (.if_icmp .ge 21, 3) := by decide +kernel
theorem dX0_hasMend_10 : decode cX0_hasMend 10 = .ok (.aload_n 0, 1) := by decide +kernel
theorem dX0_hasMend_11 : decode cX0_hasMend 11 = .ok (.getfield 9, 3) := by decide +kernel
theorem dX0_hasMend_14 : decode cX0_hasMend 14 = .ok (.iload_n 1, 1) := by decide +kernel
theorem dX0_hasMend_15 : decode cX0_hasMend 15 = .ok (.iaload, 1) := by decide +kernel
theorem dX0_hasMend_16 : decode cX0_hasMend 16 = .ok (.iconst 5, 1) := by decide +kernel
theorem dX0_hasMend_17 : decode cX0_hasMend 17 = .ok (.if_icmp .ne 5, 3) := by decide +kernel
theorem dX0_hasMend_20 : decode cX0_hasMend 20 = .ok (.iconst 1, 1) := by decide +kernel
theorem dX0_hasMend_21 : decode cX0_hasMend 21 = .ok (.ireturn, 1) := by decide +kernel
theorem dX0_hasMend_22 : decode cX0_hasMend 22 = .ok (.iinc 1 1, 3) := by decide +kernel
theorem dX0_hasMend_25 : decode cX0_hasMend 25 = .ok (.goto (-23), 3) := by decide +kernel
theorem dX0_hasMend_28 : decode cX0_hasMend 28 = .ok (.iconst 0, 1) := by decide +kernel
theorem dX0_hasMend_29 : decode cX0_hasMend 29 = .ok (.ireturn, 1) := by decide +kernel
theorem dX1_init_0 : decode cX1_init 0 = .ok (.aload_n 0, 1) := by decide +kernel
theorem dX1_init_1 : decode cX1_init 1 = .ok (.invokespecial 3, 3) := by decide +kernel
theorem dX1_init_4 : decode cX1_init 4 = .ok (.aload_n 0, 1) := by decide +kernel
theorem dX1_init_5 : decode cX1_init 5 = .ok (.bipush 64, 2) := by decide +kernel
theorem dX1_init_7 : decode cX1_init 7 = .ok (.newarray .int, 2) := by decide +kernel
theorem dX1_init_9 : decode cX1_init 9 = .ok (.putfield 9, 3) := by decide +kernel
theorem dX1_init_12 : decode cX1_init 12 = .ok (.aload_n 0, 1) := by decide +kernel
theorem dX1_init_13 : decode cX1_init 13 = .ok (.new 15, 3) := by decide +kernel
theorem dX1_init_16 : decode cX1_init 16 = .ok (.dup, 1) := by decide +kernel
theorem dX1_init_17 : decode cX1_init 17 = .ok (.invokespecial 17, 3) := by decide +kernel
theorem dX1_init_20 : decode cX1_init 20 = .ok (.putfield 18, 3) := by decide +kernel
theorem dX1_init_23 : decode cX1_init 23 = .ok (.aload_n 0, 1) := by decide +kernel
theorem dX1_init_24 : decode cX1_init 24 = .ok (.iconst 0, 1) := by decide +kernel
theorem dX1_init_25 : decode cX1_init 25 = .ok (.putfield 22, 3) := by decide +kernel
theorem dX1_init_28 : decode cX1_init 28 = .ok (.aload_n 0, 1) := by decide +kernel
theorem dX1_init_29 : decode cX1_init 29 = .ok (.iconst 0, 1) := by decide +kernel
theorem dX1_init_30 : decode cX1_init 30 = .ok (.putfield 26, 3) := by decide +kernel
theorem dX1_init_33 : decode cX1_init 33 = .ok (.aload_n 0, 1) := by decide +kernel
theorem dX1_init_34 : decode cX1_init 34 = .ok (.iconst 0, 1) := by decide +kernel
theorem dX1_init_35 : decode cX1_init 35 = .ok (.putfield 29, 3) := by decide +kernel
theorem dX1_init_38 : decode cX1_init 38 = .ok (.return_, 1) := by decide +kernel
theorem dX1_countClipped_0 : decode cX1_countClipped 0 = .ok (.iconst 0, 1) := by decide +kernel
theorem dX1_countClipped_1 : decode cX1_countClipped 1 = .ok (.istore_n 1, 1) := by decide +kernel
theorem dX1_countClipped_2 : decode cX1_countClipped 2 = .ok (.iconst 0, 1) := by decide +kernel
theorem dX1_countClipped_3 : decode cX1_countClipped 3 = .ok (.istore_n 2, 1) := by decide +kernel
theorem dX1_countClipped_4 : decode cX1_countClipped 4 = .ok (.iload_n 2, 1) := by decide +kernel
theorem dX1_countClipped_5 : decode cX1_countClipped 5 = .ok (.bipush 64, 2) := by decide +kernel
theorem dX1_countClipped_7 : decode cX1_countClipped 7 = .ok (.if_icmp .ge 24, 3) := by decide +kernel
theorem dX1_countClipped_10 : decode cX1_countClipped 10 = .ok (.aload_n 0, 1) := by decide +kernel
theorem dX1_countClipped_11 : decode cX1_countClipped 11 = .ok (.getfield 9, 3) := by decide +kernel
theorem dX1_countClipped_14 : decode cX1_countClipped 14 = .ok (.iload_n 2, 1) := by decide +kernel
theorem dX1_countClipped_15 : decode cX1_countClipped 15 = .ok (.iaload, 1) := by decide +kernel
theorem dX1_countClipped_16 : decode cX1_countClipped 16 = .ok (.sipush 255, 3) := by decide +kernel
theorem dX1_countClipped_19 : decode cX1_countClipped 19 = .ok (.if_icmp .ne 6, 3) := by decide +kernel
theorem dX1_countClipped_22 : decode cX1_countClipped 22 = .ok (.iinc 1 1, 3) := by decide +kernel
theorem dX1_countClipped_25 : decode cX1_countClipped 25 = .ok (.iinc 2 1, 3) := by decide +kernel
theorem dX1_countClipped_28 : decode cX1_countClipped 28 = .ok (.goto (-24), 3) := by decide +kernel
theorem dX1_countClipped_31 : decode cX1_countClipped 31 = .ok (.iload_n 1, 1) := by decide +kernel
theorem dX1_countClipped_32 : decode cX1_countClipped 32 = .ok (.ireturn, 1) := by decide +kernel
theorem dX1_sharpness_0 : decode cX1_sharpness 0 = .ok (.iconst 0, 1) := by decide +kernel
theorem dX1_sharpness_1 : decode cX1_sharpness 1 = .ok (.istore_n 1, 1) := by decide +kernel
theorem dX1_sharpness_2 : decode cX1_sharpness 2 = .ok (.iconst 0, 1) := by decide +kernel
theorem dX1_sharpness_3 : decode cX1_sharpness 3 = .ok (.istore_n 2, 1) := by decide +kernel
theorem dX1_sharpness_4 : decode cX1_sharpness 4 = .ok (.iload_n 2, 1) := by decide +kernel
theorem dX1_sharpness_5 : decode cX1_sharpness 5 = .ok (.bipush 7, 2) := by decide +kernel
theorem dX1_sharpness_7 : decode cX1_sharpness 7 = .ok (.if_icmp .ge 63, 3) := by decide +kernel
theorem dX1_sharpness_10 : decode cX1_sharpness 10 = .ok (.iconst 0, 1) := by decide +kernel
theorem dX1_sharpness_11 : decode cX1_sharpness 11 = .ok (.istore_n 3, 1) := by decide +kernel
theorem dX1_sharpness_12 : decode cX1_sharpness 12 = .ok (.iload_n 3, 1) := by decide +kernel
theorem dX1_sharpness_13 : decode cX1_sharpness 13 = .ok (.bipush 7, 2) := by decide +kernel
theorem dX1_sharpness_15 : decode cX1_sharpness 15 = .ok (.if_icmp .ge 49, 3) := by decide +kernel
theorem dX1_sharpness_18 : decode cX1_sharpness 18 = .ok (.iload_n 3, 1) := by decide +kernel
theorem dX1_sharpness_19 : decode cX1_sharpness 19 = .ok (.iload_n 2, 1) := by decide +kernel
theorem dX1_sharpness_20 : decode cX1_sharpness 20 = .ok (.invokestatic 32, 3) := by decide +kernel
theorem dX1_sharpness_23 : decode cX1_sharpness 23 = .ok (.iconst 1, 1) := by decide +kernel
theorem dX1_sharpness_24 : decode cX1_sharpness 24 = .ok (.if_icmp .ne 34, 3) := by decide +kernel
theorem dX1_sharpness_27 : decode cX1_sharpness 27 = .ok (.iload_n 1, 1) := by decide +kernel
theorem dX1_sharpness_28 : decode cX1_sharpness 28 = .ok (.aload_n 0, 1) := by decide +kernel
theorem dX1_sharpness_29 : decode cX1_sharpness 29 = .ok (.getfield 9, 3) := by decide +kernel
theorem dX1_sharpness_32 : decode cX1_sharpness 32 = .ok (.iload_n 3, 1) := by decide +kernel
theorem dX1_sharpness_33 : decode cX1_sharpness 33 = .ok (.iload_n 2, 1) := by decide +kernel
theorem dX1_sharpness_34 : decode cX1_sharpness 34 = .ok (.invokestatic 36, 3) := by decide +kernel
theorem dX1_sharpness_37 : decode cX1_sharpness 37 = .ok (.iaload, 1) := by decide +kernel
theorem dX1_sharpness_38 : decode cX1_sharpness 38 = .ok (.aload_n 0, 1) := by decide +kernel
theorem dX1_sharpness_39 : decode cX1_sharpness 39 = .ok (.getfield 9, 3) := by decide +kernel
theorem dX1_sharpness_42 : decode cX1_sharpness 42 = .ok (.iload_n 3, 1) := by decide +kernel
theorem dX1_sharpness_43 : decode cX1_sharpness 43 = .ok (.iconst 1, 1) := by decide +kernel
theorem dX1_sharpness_44 : decode cX1_sharpness 44 = .ok (.iadd, 1) := by decide +kernel
theorem dX1_sharpness_45 : decode cX1_sharpness 45 = .ok (.iload_n 2, 1) := by decide +kernel
theorem dX1_sharpness_46 : decode cX1_sharpness 46 = .ok (.iconst 1, 1) := by decide +kernel
theorem dX1_sharpness_47 : decode cX1_sharpness 47 = .ok (.iadd, 1) := by decide +kernel
theorem dX1_sharpness_48 : decode cX1_sharpness 48 = .ok (.invokestatic 36, 3) := by decide +kernel
theorem dX1_sharpness_51 : decode cX1_sharpness 51 = .ok (.iaload, 1) := by decide +kernel
theorem dX1_sharpness_52 : decode cX1_sharpness 52 = .ok (.isub, 1) := by decide +kernel
theorem dX1_sharpness_53 : decode cX1_sharpness 53 = .ok (.invokestatic 39, 3) := by decide +kernel
theorem dX1_sharpness_56 : decode cX1_sharpness 56 = .ok (.iadd, 1) := by decide +kernel
theorem dX1_sharpness_57 : decode cX1_sharpness 57 = .ok (.istore_n 1, 1) := by decide +kernel
theorem dX1_sharpness_58 : decode cX1_sharpness 58 = .ok (.iinc 3 1, 3) := by decide +kernel
theorem dX1_sharpness_61 : decode cX1_sharpness 61 = .ok (.goto (-49), 3) := by decide +kernel
theorem dX1_sharpness_64 : decode cX1_sharpness 64 = .ok (.iinc 2 1, 3) := by decide +kernel
theorem dX1_sharpness_67 : decode cX1_sharpness 67 = .ok (.goto (-63), 3) := by decide +kernel
theorem dX1_sharpness_70 : decode cX1_sharpness 70 = .ok (.iload_n 1, 1) := by decide +kernel
theorem dX1_sharpness_71 : decode cX1_sharpness 71 = .ok (.ireturn, 1) := by decide +kernel
theorem dX1_whiteOf_0 : decode cX1_whiteOf 0 = .ok (.aload_n 0, 1) := by decide +kernel
theorem dX1_whiteOf_1 : decode cX1_whiteOf 1 = .ok (.iload_n 1, 1) := by decide +kernel
theorem dX1_whiteOf_2 : decode cX1_whiteOf 2 = .ok (.invokevirtual 45, 3) := by decide +kernel
theorem dX1_whiteOf_5 : decode cX1_whiteOf 5 = .ok (.istore_n 2, 1) := by decide +kernel
theorem dX1_whiteOf_6 : decode cX1_whiteOf 6 = .ok (.iload_n 2, 1) := by decide +kernel
theorem dX1_whiteOf_7 : decode cX1_whiteOf 7 = .ok (.ifCond .ne 6, 3) := by decide +kernel
theorem dX1_whiteOf_10 : decode cX1_whiteOf 10 = .ok (.bipush 16, 2) := by decide +kernel
theorem dX1_whiteOf_12 : decode cX1_whiteOf 12 = .ok (.ireturn, 1) := by decide +kernel
theorem dX1_whiteOf_13 : decode cX1_whiteOf 13 = .ok (.iconst 1, 1) := by decide +kernel
theorem dX1_whiteOf_14 : decode cX1_whiteOf 14 = .ok (.bipush 16, 2) := by decide +kernel
theorem dX1_whiteOf_16 : decode cX1_whiteOf 16 = .ok (.iconst 4, 1) := by decide +kernel
theorem dX1_whiteOf_17 : decode cX1_whiteOf 17 = .ok (.aload_n 0, 1) := by decide +kernel
theorem dX1_whiteOf_18 : decode cX1_whiteOf 18 = .ok (.iconst 1, 1) := by decide +kernel
theorem dX1_whiteOf_19 : decode cX1_whiteOf 19 = .ok (.invokevirtual 45, 3) := by decide +kernel
theorem dX1_whiteOf_22 : decode cX1_whiteOf 22 = .ok (.imul, 1) := by decide +kernel
theorem dX1_whiteOf_23 : decode cX1_whiteOf 23 = .ok (.iconst 2, 1) := by decide +kernel
theorem dX1_whiteOf_24 : decode cX1_whiteOf 24 = .ok (.iload_n 2, 1) := by decide +kernel
theorem dX1_whiteOf_25 : decode cX1_whiteOf 25 = .ok (.imul, 1) := by decide +kernel
theorem dX1_whiteOf_26 : decode cX1_whiteOf 26 = .ok (.idiv, 1) := by decide +kernel
theorem dX1_whiteOf_27 : decode cX1_whiteOf 27 = .ok (.invokestatic 48, 3) := by decide +kernel
theorem dX1_whiteOf_30 : decode cX1_whiteOf 30 = .ok (.invokestatic 51, 3) := by decide +kernel
theorem dX1_whiteOf_33 : decode cX1_whiteOf 33 = .ok (.ireturn, 1) := by decide +kernel
theorem dX1_sumSeen_0 : decode cX1_sumSeen 0 = .ok (.iconst 0, 1) := by decide +kernel
theorem dX1_sumSeen_1 : decode cX1_sumSeen 1 = .ok (.istore_n 2, 1) := by decide +kernel
theorem dX1_sumSeen_2 : decode cX1_sumSeen 2 = .ok (.iconst 0, 1) := by decide +kernel
theorem dX1_sumSeen_3 : decode cX1_sumSeen 3 = .ok (.istore_n 3, 1) := by decide +kernel
theorem dX1_sumSeen_4 : decode cX1_sumSeen 4 = .ok (.iload_n 3, 1) := by decide +kernel
theorem dX1_sumSeen_5 : decode cX1_sumSeen 5 = .ok (.bipush 8, 2) := by decide +kernel
theorem dX1_sumSeen_7 : decode cX1_sumSeen 7 = .ok (.if_icmp .ge 49, 3) := by decide +kernel
theorem dX1_sumSeen_10 : decode cX1_sumSeen 10 = .ok (.iconst 0, 1) := by decide +kernel
theorem dX1_sumSeen_11 : decode cX1_sumSeen 11 = .ok (.istore 4, 2) := by decide +kernel
theorem dX1_sumSeen_13 : decode cX1_sumSeen 13 = .ok (.iload 4, 2) := by decide +kernel
theorem dX1_sumSeen_15 : decode cX1_sumSeen 15 = .ok (.bipush 8, 2) := by decide +kernel
theorem dX1_sumSeen_17 : decode cX1_sumSeen 17 = .ok (.if_icmp .ge 33, 3) := by decide +kernel
theorem dX1_sumSeen_20 : decode cX1_sumSeen 20 = .ok (.iload 4, 2) := by decide +kernel
theorem dX1_sumSeen_22 : decode cX1_sumSeen 22 = .ok (.iload_n 3, 1) := by decide +kernel
theorem dX1_sumSeen_23 : decode cX1_sumSeen 23 = .ok (.invokestatic 32, 3) := by decide +kernel
theorem dX1_sumSeen_26 : decode cX1_sumSeen 26 = .ok (.iload_n 1, 1) := by decide +kernel
theorem dX1_sumSeen_27 : decode cX1_sumSeen 27 = .ok (.if_icmp .ne 17, 3) := by decide +kernel
theorem dX1_sumSeen_30 : decode cX1_sumSeen 30 = .ok (.iload_n 2, 1) := by decide +kernel
theorem dX1_sumSeen_31 : decode cX1_sumSeen 31 = .ok (.aload_n 0, 1) := by decide +kernel
theorem dX1_sumSeen_32 : decode cX1_sumSeen 32 = .ok (.getfield 9, 3) := by decide +kernel
theorem dX1_sumSeen_35 : decode cX1_sumSeen 35 = .ok (.iload 4, 2) := by decide +kernel
theorem dX1_sumSeen_37 : decode cX1_sumSeen 37 = .ok (.iload_n 3, 1) := by decide +kernel
theorem dX1_sumSeen_38 : decode cX1_sumSeen 38 = .ok (.invokestatic 36, 3) := by decide +kernel
theorem dX1_sumSeen_41 : decode cX1_sumSeen 41 = .ok (.iaload, 1) := by decide +kernel
theorem dX1_sumSeen_42 : decode cX1_sumSeen 42 = .ok (.iadd, 1) := by decide +kernel
theorem dX1_sumSeen_43 : decode cX1_sumSeen 43 = .ok (.istore_n 2, 1) := by decide +kernel
theorem dX1_sumSeen_44 : decode cX1_sumSeen 44 = .ok (.iinc 4 1, 3) := by decide +kernel
theorem dX1_sumSeen_47 : decode cX1_sumSeen 47 = .ok (.goto (-34), 3) := by decide +kernel
theorem dX1_sumSeen_50 : decode cX1_sumSeen 50 = .ok (.iinc 3 1, 3) := by decide +kernel
theorem dX1_sumSeen_53 : decode cX1_sumSeen 53 = .ok (.goto (-49), 3) := by decide +kernel
theorem dX1_sumSeen_56 : decode cX1_sumSeen 56 = .ok (.iload_n 2, 1) := by decide +kernel
theorem dX1_sumSeen_57 : decode cX1_sumSeen 57 = .ok (.ireturn, 1) := by decide +kernel
theorem dX1_meanOfZone_0 : decode cX1_meanOfZone 0 = .ok (.iload_n 1, 1) := by decide +kernel
theorem dX1_meanOfZone_1 : decode cX1_meanOfZone 1 = .ok (.iconst 2, 1) := by decide +kernel
theorem dX1_meanOfZone_2 : decode cX1_meanOfZone 2 = .ok (.irem, 1) := by decide +kernel
theorem dX1_meanOfZone_3 : decode cX1_meanOfZone 3 = .ok (.iconst 4, 1) := by decide +kernel
theorem dX1_meanOfZone_4 : decode cX1_meanOfZone 4 = .ok (.imul, 1) := by decide +kernel
theorem dX1_meanOfZone_5 : decode cX1_meanOfZone 5 = .ok (.istore_n 2, 1) := by decide +kernel
theorem dX1_meanOfZone_6 : decode cX1_meanOfZone 6 = .ok (.iload_n 1, 1) := by decide +kernel
theorem dX1_meanOfZone_7 : decode cX1_meanOfZone 7 = .ok (.iconst 2, 1) := by decide +kernel
theorem dX1_meanOfZone_8 : decode cX1_meanOfZone 8 = .ok (.idiv, 1) := by decide +kernel
theorem dX1_meanOfZone_9 : decode cX1_meanOfZone 9 = .ok (.iconst 4, 1) := by decide +kernel
theorem dX1_meanOfZone_10 : decode cX1_meanOfZone 10 = .ok (.imul, 1) := by decide +kernel
theorem dX1_meanOfZone_11 : decode cX1_meanOfZone 11 = .ok (.istore_n 3, 1) := by decide +kernel
theorem dX1_meanOfZone_12 : decode cX1_meanOfZone 12 = .ok (.iconst 0, 1) := by decide +kernel
theorem dX1_meanOfZone_13 : decode cX1_meanOfZone 13 = .ok (.istore 4, 2) := by decide +kernel
theorem dX1_meanOfZone_15 : decode cX1_meanOfZone 15 = .ok (.iload_n 3, 1) := by decide +kernel
theorem dX1_meanOfZone_16 : decode cX1_meanOfZone 16 = .ok (.istore 5, 2) := by decide +kernel
theorem dX1_meanOfZone_18 : decode cX1_meanOfZone 18 = .ok (.iload 5, 2) := by decide +kernel
theorem dX1_meanOfZone_20 : decode cX1_meanOfZone 20 = .ok (.iload_n 3, 1) := by decide +kernel
theorem dX1_meanOfZone_21 : decode cX1_meanOfZone 21 = .ok (.iconst 4, 1) := by decide +kernel
theorem dX1_meanOfZone_22 : decode cX1_meanOfZone 22 = .ok (.iadd, 1) := by decide +kernel
theorem dX1_meanOfZone_23 : decode cX1_meanOfZone 23 = .ok (.if_icmp .ge 54, 3) := by decide +kernel
theorem dX1_meanOfZone_26 : decode cX1_meanOfZone 26 = .ok (.iload_n 2, 1) := by decide +kernel
theorem dX1_meanOfZone_27 : decode cX1_meanOfZone 27 = .ok (.istore 6, 2) := by decide +kernel
theorem dX1_meanOfZone_29 : decode cX1_meanOfZone 29 = .ok (.iload 6, 2) := by decide +kernel
theorem dX1_meanOfZone_31 : decode cX1_meanOfZone 31 = .ok (.iload_n 2, 1) := by decide +kernel
theorem dX1_meanOfZone_32 : decode cX1_meanOfZone 32 = .ok (.iconst 4, 1) := by decide +kernel
theorem dX1_meanOfZone_33 : decode cX1_meanOfZone 33 = .ok (.iadd, 1) := by decide +kernel
theorem dX1_meanOfZone_34 : decode cX1_meanOfZone 34 = .ok (.if_icmp .ge 37, 3) := by decide +kernel
theorem dX1_meanOfZone_37 : decode cX1_meanOfZone 37 = .ok (.iload 6, 2) := by decide +kernel
theorem dX1_meanOfZone_39 : decode cX1_meanOfZone 39 = .ok (.iload 5, 2) := by decide +kernel
theorem dX1_meanOfZone_41 : decode cX1_meanOfZone 41 = .ok (.invokestatic 32, 3) := by decide +kernel
theorem dX1_meanOfZone_44 : decode cX1_meanOfZone 44 = .ok (.iconst 1, 1) := by decide +kernel
theorem dX1_meanOfZone_45 : decode cX1_meanOfZone 45 = .ok (.if_icmp .ne 20, 3) := by decide +kernel
theorem dX1_meanOfZone_48 : decode cX1_meanOfZone 48 = .ok (.iload 4, 2) := by decide +kernel
theorem dX1_meanOfZone_50 : decode cX1_meanOfZone 50 = .ok (.aload_n 0, 1) := by decide +kernel
theorem dX1_meanOfZone_51 : decode cX1_meanOfZone 51 = .ok (.getfield 9, 3) := by decide +kernel
theorem dX1_meanOfZone_54 : decode cX1_meanOfZone 54 = .ok (.iload 6, 2) := by decide +kernel
theorem dX1_meanOfZone_56 : decode cX1_meanOfZone 56 = .ok (.iload 5, 2) := by decide +kernel
theorem dX1_meanOfZone_58 : decode cX1_meanOfZone 58 = .ok (.invokestatic 36, 3) := by decide +kernel
theorem dX1_meanOfZone_61 : decode cX1_meanOfZone 61 = .ok (.iaload, 1) := by decide +kernel
theorem dX1_meanOfZone_62 : decode cX1_meanOfZone 62 = .ok (.iadd, 1) := by decide +kernel
theorem dX1_meanOfZone_63 : decode cX1_meanOfZone 63 = .ok (.istore 4, 2) := by decide +kernel
theorem dX1_meanOfZone_65 : decode cX1_meanOfZone 65 = .ok (.iinc 6 1, 3) := by decide +kernel
theorem dX1_meanOfZone_68 : decode cX1_meanOfZone 68 = .ok (.goto (-39), 3) := by decide +kernel
theorem dX1_meanOfZone_71 : decode cX1_meanOfZone 71 = .ok (.iinc 5 1, 3) := by decide +kernel
theorem dX1_meanOfZone_74 : decode cX1_meanOfZone 74 = .ok (.goto (-56), 3) := by decide +kernel
theorem dX1_meanOfZone_77 : decode cX1_meanOfZone 77 = .ok (.iload 4, 2) := by decide +kernel
theorem dX1_meanOfZone_79 : decode cX1_meanOfZone 79 = .ok (.i2d, 1) := by decide +kernel
theorem dX1_meanOfZone_80 : decode cX1_meanOfZone 80 = .ok (.ldc2_w 54, 3) := by decide +kernel
theorem dX1_meanOfZone_83 : decode cX1_meanOfZone 83 = .ok (.ddiv, 1) := by decide +kernel
theorem dX1_meanOfZone_84 : decode cX1_meanOfZone 84 = .ok (.dreturn, 1) := by decide +kernel
theorem dX1_meanOfZones_0 : decode cX1_meanOfZones 0 = .ok (.dconst 0, 1) := by decide +kernel
theorem dX1_meanOfZones_1 : decode cX1_meanOfZones 1 = .ok (.dstore_n 1, 1) := by decide +kernel
theorem dX1_meanOfZones_2 : decode cX1_meanOfZones 2 = .ok (.iconst 0, 1) := by decide +kernel
theorem dX1_meanOfZones_3 : decode cX1_meanOfZones 3 = .ok (.istore_n 3, 1) := by decide +kernel
theorem dX1_meanOfZones_4 : decode cX1_meanOfZones 4 = .ok (.iload_n 3, 1) := by decide +kernel
theorem dX1_meanOfZones_5 : decode cX1_meanOfZones 5 = .ok (.iconst 4, 1) := by decide +kernel
theorem dX1_meanOfZones_6 : decode cX1_meanOfZones 6 = .ok (.if_icmp .ge 17, 3) := by decide +kernel
theorem dX1_meanOfZones_9 : decode cX1_meanOfZones 9 = .ok (.dload_n 1, 1) := by decide +kernel
theorem dX1_meanOfZones_10 : decode cX1_meanOfZones 10 = .ok (.aload_n 0, 1) := by decide +kernel
theorem dX1_meanOfZones_11 : decode cX1_meanOfZones 11 = .ok (.iload_n 3, 1) := by decide +kernel
theorem dX1_meanOfZones_12 : decode cX1_meanOfZones 12 = .ok (.invokevirtual 56, 3) := by decide +kernel
theorem dX1_meanOfZones_15 : decode cX1_meanOfZones 15 = .ok (.dadd, 1) := by decide +kernel
theorem dX1_meanOfZones_16 : decode cX1_meanOfZones 16 = .ok (.dstore_n 1, 1) := by decide +kernel
theorem dX1_meanOfZones_17 : decode cX1_meanOfZones 17 = .ok (.iinc 3 1, 3) := by decide +kernel
theorem dX1_meanOfZones_20 : decode cX1_meanOfZones 20 = .ok (.goto (-16), 3) := by decide +kernel
theorem dX1_meanOfZones_23 : decode cX1_meanOfZones 23 = .ok (.dload_n 1, 1) := by decide +kernel
theorem dX1_meanOfZones_24 : decode cX1_meanOfZones 24 = .ok (.ldc2_w 60, 3) := by decide +kernel
theorem dX1_meanOfZones_27 : decode cX1_meanOfZones 27 = .ok (.ddiv, 1) := by decide +kernel
theorem dX1_meanOfZones_28 : decode cX1_meanOfZones 28 = .ok (.dreturn, 1) := by decide +kernel
theorem dX2_init_0 : decode cX2_init 0 = .ok (.aload_n 0, 1) := by decide +kernel
theorem dX2_init_1 : decode cX2_init 1 = .ok (.invokespecial 3, 3) := by decide +kernel
theorem dX2_init_4 : decode cX2_init 4 = .ok (.aload_n 0, 1) := by decide +kernel
theorem dX2_init_5 : decode cX2_init 5 = .ok (.sipush 192, 3) := by decide +kernel
theorem dX2_init_8 : decode cX2_init 8 = .ok (.newarray .float, 2) := by decide +kernel
theorem dX2_init_10 : decode cX2_init 10 = .ok (.putfield 9, 3) := by decide +kernel
theorem dX2_init_13 : decode cX2_init 13 = .ok (.aload_n 0, 1) := by decide +kernel
theorem dX2_init_14 : decode cX2_init 14 = .ok (.bipush 64, 2) := by decide +kernel
theorem dX2_init_16 : decode cX2_init 16 = .ok (.newarray .int, 2) := by decide +kernel
theorem dX2_init_18 : decode cX2_init 18 = .ok (.putfield 15, 3) := by decide +kernel
theorem dX2_init_21 : decode cX2_init 21 = .ok (.return_, 1) := by decide +kernel
theorem dX2_indexOf_0 : decode cX2_indexOf 0 = .ok (.iconst 3, 1) := by decide +kernel
theorem dX2_indexOf_1 : decode cX2_indexOf 1 = .ok (.iload_n 0, 1) := by decide +kernel
theorem dX2_indexOf_2 : decode cX2_indexOf 2 = .ok (.imul, 1) := by decide +kernel
theorem dX2_indexOf_3 : decode cX2_indexOf 3 = .ok (.iload_n 1, 1) := by decide +kernel
theorem dX2_indexOf_4 : decode cX2_indexOf 4 = .ok (.iadd, 1) := by decide +kernel
theorem dX2_indexOf_5 : decode cX2_indexOf 5 = .ok (.ireturn, 1) := by decide +kernel
theorem dX2_compose_0 : decode cX2_compose 0 = .ok (.aload_n 0, 1) := by decide +kernel
theorem dX2_compose_1 : decode cX2_compose 1 = .ok (.aload_n 1, 1) := by decide +kernel
theorem dX2_compose_2 : decode cX2_compose 2 = .ok (.aload_n 3, 1) := by decide +kernel
theorem dX2_compose_3 : decode cX2_compose 3 = .ok (.aload_n 2, 1) := by decide +kernel
theorem dX2_compose_4 : decode cX2_compose 4 = .ok (.invokevirtual 19, 3) := by decide +kernel
theorem dX2_compose_7 : decode cX2_compose 7 = .ok (.invokevirtual 25, 3) := by decide +kernel
theorem dX2_compose_10 : decode cX2_compose 10 = .ok (.aload_n 0, 1) := by decide +kernel
theorem dX2_compose_11 : decode cX2_compose 11 = .ok (.invokevirtual 29, 3) := by decide +kernel
theorem dX2_compose_14 : decode cX2_compose 14 = .ok (.iconst 0, 1) := by decide +kernel
theorem dX2_compose_15 : decode cX2_compose 15 = .ok (.istore 4, 2) := by decide +kernel
theorem dX2_compose_17 : decode cX2_compose 17 = .ok (.iload 4, 2) := by decide +kernel
theorem dX2_compose_19 : decode cX2_compose 19 = .ok (.aload_n 2, 1) := by decide +kernel
theorem dX2_compose_20 : decode cX2_compose 20 = .ok (.invokevirtual 32, 3) := by decide +kernel
theorem dX2_compose_23 : decode cX2_compose 23 = .ok (.if_icmp .ge 27, 3) := by decide +kernel
theorem dX2_compose_26 : decode cX2_compose 26 = .ok (.aload_n 0, 1) := by decide +kernel
theorem dX2_compose_27 : decode cX2_compose 27 = .ok (.aload_n 2, 1) := by decide +kernel
theorem dX2_compose_28 : decode cX2_compose 28 = .ok (.getfield 36, 3) := by decide +kernel
theorem dX2_compose_31 : decode cX2_compose 31 = .ok (.iload 4, 2) := by decide +kernel
theorem dX2_compose_33 : decode cX2_compose 33 = .ok (.iaload, 1) := by decide +kernel
theorem dX2_compose_34 : decode cX2_compose 34 = .ok (.aload_n 2, 1) := by decide +kernel
theorem dX2_compose_35 : decode cX2_compose 35 = .ok (.getfield 39, 3) := by decide +kernel
theorem dX2_compose_38 : decode cX2_compose 38 = .ok (.iload 4, 2) := by decide +kernel
theorem dX2_compose_40 : decode cX2_compose 40 = .ok (.iaload, 1) := by decide +kernel
theorem dX2_compose_41 : decode cX2_compose 41 = .ok (.invokevirtual 41, 3) := by decide +kernel
theorem dX2_compose_44 : decode cX2_compose 44 = .ok (.iinc 4 1, 3) := by decide +kernel
theorem dX2_compose_47 : decode cX2_compose 47 = .ok (.goto (-30), 3) := by decide +kernel
theorem dX2_compose_50 : decode cX2_compose 50 = .ok (.return_, 1) := by decide +kernel
theorem dX2_bound_0 : decode cX2_bound 0 = .ok (.iconst 0, 1) := by decide +kernel
theorem dX2_bound_1 : decode cX2_bound 1 = .ok (.istore_n 1, 1) := by decide +kernel
theorem dX2_bound_2 : decode cX2_bound 2 = .ok (.iload_n 1, 1) := by decide +kernel
theorem dX2_bound_3 : decode cX2_bound 3 = .ok (.aload_n 0, 1) := by decide +kernel
theorem dX2_bound_4 : decode cX2_bound 4 = .ok (.getfield 9, 3) := by decide +kernel
theorem dX2_bound_7 : decode cX2_bound 7 = .ok (.arraylength, 1) := by decide +kernel
theorem dX2_bound_8 : decode cX2_bound 8 = .ok (.if_icmp .ge 24, 3) := by decide +kernel
theorem dX2_bound_11 : decode cX2_bound 11 = .ok (.aload_n 0, 1) := by decide +kernel
theorem dX2_bound_12 : decode cX2_bound 12 = .ok (.getfield 9, 3) := by decide +kernel
theorem dX2_bound_15 : decode cX2_bound 15 = .ok (.iload_n 1, 1) := by decide +kernel
theorem dX2_bound_16 : decode cX2_bound 16 = .ok (.aload_n 0, 1) := by decide +kernel
theorem dX2_bound_17 : decode cX2_bound 17 = .ok (.getfield 9, 3) := by decide +kernel
theorem dX2_bound_20 : decode cX2_bound 20 = .ok (.iload_n 1, 1) := by decide +kernel
theorem dX2_bound_21 : decode cX2_bound 21 = .ok (.faload, 1) := by decide +kernel
theorem dX2_bound_22 : decode cX2_bound 22 = .ok (.invokestatic 45, 3) := by decide +kernel
theorem dX2_bound_25 : decode cX2_bound 25 = .ok (.fastore, 1) := by decide +kernel
theorem dX2_bound_26 : decode cX2_bound 26 = .ok (.iinc 1 1, 3) := by decide +kernel
theorem dX2_bound_29 : decode cX2_bound 29 = .ok (.goto (-27), 3) := by decide +kernel
theorem dX2_bound_32 : decode cX2_bound 32 = .ok (.return_, 1) := by decide +kernel
theorem dX2_sumUp_0 : decode cX2_sumUp 0 = .ok (.bipush 7, 2) := by decide +kernel
theorem dX2_sumUp_2 : decode cX2_sumUp 2 = .ok (.istore_n 1, 1) := by decide +kernel
theorem dX2_sumUp_3 : decode cX2_sumUp 3 = .ok (.iconst 0, 1) := by decide +kernel
theorem dX2_sumUp_4 : decode cX2_sumUp 4 = .ok (.istore_n 2, 1) := by decide +kernel
theorem dX2_sumUp_5 : decode cX2_sumUp 5 = .ok (.iload_n 2, 1) := by decide +kernel
theorem dX2_sumUp_6 : decode cX2_sumUp 6 = .ok (.aload_n 0, 1) := by decide +kernel
theorem dX2_sumUp_7 : decode cX2_sumUp 7 = .ok (.getfield 9, 3) := by decide +kernel
theorem dX2_sumUp_10 : decode cX2_sumUp 10 = .ok (.arraylength, 1) := by decide +kernel
theorem dX2_sumUp_11 : decode cX2_sumUp 11 = .ok (.if_icmp .ge 22, 3) := by decide +kernel
theorem dX2_sumUp_14 : decode cX2_sumUp 14 = .ok (.iload_n 1, 1) := by decide +kernel
theorem dX2_sumUp_15 : decode cX2_sumUp 15 = .ok (.bipush 31, 2) := by decide +kernel
theorem dX2_sumUp_17 : decode cX2_sumUp 17 = .ok (.imul, 1) := by decide +kernel
theorem dX2_sumUp_18 : decode cX2_sumUp 18 = .ok (.aload_n 0, 1) := by decide +kernel
theorem dX2_sumUp_19 : decode cX2_sumUp 19 = .ok (.getfield 9, 3) := by decide +kernel
theorem dX2_sumUp_22 : decode cX2_sumUp 22 = .ok (.iload_n 2, 1) := by decide +kernel
theorem dX2_sumUp_23 : decode cX2_sumUp 23 = .ok (.faload, 1) := by decide +kernel
theorem dX2_sumUp_24 : decode cX2_sumUp 24 = .ok (.f2i, 1) := by decide +kernel
theorem dX2_sumUp_25 : decode cX2_sumUp 25 = .ok (.iadd, 1) := by decide +kernel
theorem dX2_sumUp_26 : decode cX2_sumUp 26 = .ok (.istore_n 1, 1) := by decide +kernel
theorem dX2_sumUp_27 : decode cX2_sumUp 27 = .ok (.iinc 2 1, 3) := by decide +kernel
theorem dX2_sumUp_30 : decode cX2_sumUp 30 = .ok (.goto (-25), 3) := by decide +kernel
theorem dX2_sumUp_33 : decode cX2_sumUp 33 = .ok (.iload_n 1, 1) := by decide +kernel
theorem dX2_sumUp_34 : decode cX2_sumUp 34 = .ok (.ireturn, 1) := by decide +kernel
theorem dX2_sumTones_0 : decode cX2_sumTones 0 = .ok (.iconst 0, 1) := by decide +kernel
theorem dX2_sumTones_1 : decode cX2_sumTones 1 = .ok (.istore_n 3, 1) := by decide +kernel
theorem dX2_sumTones_2 : decode cX2_sumTones 2 = .ok (.iconst 0, 1) := by decide +kernel
theorem dX2_sumTones_3 : decode cX2_sumTones 3 = .ok (.istore 4, 2) := by decide +kernel
theorem dX2_sumTones_5 : decode cX2_sumTones 5 = .ok (.iload 4, 2) := by decide +kernel
theorem dX2_sumTones_7 : decode cX2_sumTones 7 = .ok (.bipush 64, 2) := by decide +kernel
theorem dX2_sumTones_9 : decode cX2_sumTones 9 = .ok (.if_icmp .ge 29, 3) := by decide +kernel
theorem dX2_sumTones_12 : decode cX2_sumTones 12 = .ok (.iload_n 3, 1) := by decide +kernel
theorem dX2_sumTones_13 : decode cX2_sumTones 13 = .ok (.aload_n 0, 1) := by decide +kernel
theorem dX2_sumTones_14 : decode cX2_sumTones 14 = .ok (.getfield 9, 3) := by decide +kernel
theorem dX2_sumTones_17 : decode cX2_sumTones 17 = .ok (.iload 4, 2) := by decide +kernel
theorem dX2_sumTones_19 : decode cX2_sumTones 19 = .ok (.iload_n 1, 1) := by decide +kernel
theorem dX2_sumTones_20 : decode cX2_sumTones 20 = .ok (.invokestatic 49, 3) := by decide +kernel
theorem dX2_sumTones_23 : decode cX2_sumTones 23 = .ok (.faload, 1) := by decide +kernel
theorem dX2_sumTones_24 : decode cX2_sumTones 24 = .ok (.fload_n 2, 1) := by decide +kernel
theorem dX2_sumTones_25 : decode cX2_sumTones 25 = .ok (.fmul, 1) := by decide +kernel
theorem dX2_sumTones_26 : decode cX2_sumTones 26 = .ok (.invokestatic 45, 3) := by decide +kernel
theorem dX2_sumTones_29 : decode cX2_sumTones 29 = .ok (.f2i, 1) := by decide +kernel
theorem dX2_sumTones_30 : decode cX2_sumTones 30 = .ok (.iadd, 1) := by decide +kernel
theorem dX2_sumTones_31 : decode cX2_sumTones 31 = .ok (.istore_n 3, 1) := by decide +kernel
theorem dX2_sumTones_32 : decode cX2_sumTones 32 = .ok (.iinc 4 1, 3) := by decide +kernel
theorem dX2_sumTones_35 : decode cX2_sumTones 35 = .ok (.goto (-30), 3) := by decide +kernel
theorem dX2_sumTones_38 : decode cX2_sumTones 38 = .ok (.iload_n 3, 1) := by decide +kernel
theorem dX2_sumTones_39 : decode cX2_sumTones 39 = .ok (.ireturn, 1) := by decide +kernel
theorem dX2_bounded_0 : decode cX2_bounded 0 = .ok (.fload_n 0, 1) := by decide +kernel
theorem dX2_bounded_1 : decode cX2_bounded 1 = .ok (.ldc 53, 2) := by decide +kernel
theorem dX2_bounded_3 : decode cX2_bounded 3 = .ok (.fcmp .l, 1) := by decide +kernel
theorem dX2_bounded_4 : decode cX2_bounded 4 = .ok (.ifCond .le 6, 3) := by decide +kernel
theorem dX2_bounded_7 : decode cX2_bounded 7 = .ok (.ldc 53, 2) := by decide +kernel
theorem dX2_bounded_9 : decode cX2_bounded 9 = .ok (.freturn, 1) := by decide +kernel
theorem dX2_bounded_10 : decode cX2_bounded 10 = .ok (.fload_n 0, 1) := by decide +kernel
theorem dX2_bounded_11 : decode cX2_bounded 11 = .ok (.fconst 0, 1) := by decide +kernel
theorem dX2_bounded_12 : decode cX2_bounded 12 = .ok (.fcmp .l, 1) := by decide +kernel
theorem dX2_bounded_13 : decode cX2_bounded 13 = .ok (.ifCond .le 7, 3) := by decide +kernel
theorem dX2_bounded_16 : decode cX2_bounded 16 = .ok (.fload_n 0, 1) := by decide +kernel
theorem dX2_bounded_17 : decode cX2_bounded 17 = .ok (.goto 4, 3) := by decide +kernel
theorem dX2_bounded_20 : decode cX2_bounded 20 = .ok (.fconst 0, 1) := by decide +kernel
theorem dX2_bounded_21 : decode cX2_bounded 21 = .ok (.freturn, 1) := by decide +kernel
theorem dX2_mendAll_0 : decode cX2_mendAll 0 = .ok (.iconst 0, 1) := by decide +kernel
theorem dX2_mendAll_1 : decode cX2_mendAll 1 = .ok (.istore 4, 2) := by decide +kernel
theorem dX2_mendAll_3 : decode cX2_mendAll 3 = .ok (.iload 4, 2) := by decide +kernel
theorem dX2_mendAll_5 : decode cX2_mendAll 5 = .ok (.bipush 8, 2) := by decide +kernel
theorem dX2_mendAll_7 : decode cX2_mendAll 7 = .ok (.if_icmp .ge 80, 3) := by decide +kernel
theorem dX2_mendAll_10 : decode cX2_mendAll 10 = .ok (.iconst 0, 1) := by decide +kernel
theorem dX2_mendAll_11 : decode cX2_mendAll 11 = .ok (.istore 5, 2) := by decide +kernel
theorem dX2_mendAll_13 : decode cX2_mendAll 13 = .ok (.iload 5, 2) := by decide +kernel
theorem dX2_mendAll_15 : decode cX2_mendAll 15 = .ok (.bipush 8, 2) := by decide +kernel
theorem dX2_mendAll_17 : decode cX2_mendAll 17 = .ok (.if_icmp .ge 64, 3) := by decide +kernel
theorem dX2_mendAll_20 : decode cX2_mendAll 20 = .ok (.iload 5, 2) := by decide +kernel
theorem dX2_mendAll_22 : decode cX2_mendAll 22 = .ok (.iload 4, 2) := by decide +kernel
theorem dX2_mendAll_24 : decode cX2_mendAll 24 = .ok (.invokestatic 54, 3) := by decide +kernel
theorem dX2_mendAll_27 : decode cX2_mendAll 27 = .ok (.istore 6, 2) := by decide +kernel
theorem dX2_mendAll_29 : decode cX2_mendAll 29 = .ok (.iload_n 3, 1) := by decide +kernel
theorem dX2_mendAll_30 : decode cX2_mendAll 30 = .ok (.ifCond .eq 14, 3) := by decide +kernel
theorem dX2_mendAll_33 : decode cX2_mendAll 33 = .ok (.aload_n 2, 1) := by decide +kernel
theorem dX2_mendAll_34 : decode cX2_mendAll 34 = .ok (.iload 6, 2) := by decide +kernel
theorem dX2_mendAll_36 : decode cX2_mendAll 36 = .ok (.baload, 1) := by decide +kernel
theorem dX2_mendAll_37 : decode cX2_mendAll 37 = .ok (.ifCond .eq 7, 3) := by decide +kernel
theorem dX2_mendAll_40 : decode cX2_mendAll 40 = .ok (.iconst 1, 1) := by decide +kernel
theorem dX2_mendAll_41 : decode cX2_mendAll 41 = .ok (.goto 4, 3) := by decide +kernel
theorem dX2_mendAll_44 : decode cX2_mendAll 44 = .ok (.iconst 0, 1) := by decide +kernel
theorem dX2_mendAll_45 : decode cX2_mendAll 45 = .ok (.istore 7, 2) := by decide +kernel
theorem dX2_mendAll_47 : decode cX2_mendAll 47 = .ok (.aload_n 0, 1) := by decide +kernel
theorem dX2_mendAll_48 : decode cX2_mendAll 48 = .ok (.getfield 15, 3) := by decide +kernel
theorem dX2_mendAll_51 : decode cX2_mendAll 51 = .ok (.iload 6, 2) := by decide +kernel
theorem dX2_mendAll_53 : decode cX2_mendAll 53 = .ok (.iload 7, 2) := by decide +kernel
theorem dX2_mendAll_55 : decode cX2_mendAll 55 = .ok (.ifCond .eq 15, 3) := by decide +kernel
theorem dX2_mendAll_58 : decode cX2_mendAll 58 = .ok (.aload_n 1, 1) := by decide +kernel
theorem dX2_mendAll_59 : decode cX2_mendAll 59 = .ok (.aload_n 2, 1) := by decide +kernel
theorem dX2_mendAll_60 : decode cX2_mendAll 60 = .ok (.iload 5, 2) := by decide +kernel
theorem dX2_mendAll_62 : decode cX2_mendAll 62 = .ok (.iload 4, 2) := by decide +kernel
theorem dX2_mendAll_64 : decode cX2_mendAll 64 = .ok (.invokestatic 57, 3) := by decide +kernel
theorem dX2_mendAll_67 : decode cX2_mendAll 67 = .ok (.goto 7, 3) := by decide +kernel
theorem dX2_mendAll_70 : decode cX2_mendAll 70 = .ok (.aload_n 1, 1) := by decide +kernel
theorem dX2_mendAll_71 : decode cX2_mendAll 71 = .ok (.iload 6, 2) := by decide +kernel
theorem dX2_mendAll_73 : decode cX2_mendAll 73 = .ok (.iaload, 1) := by decide +kernel
theorem dX2_mendAll_74 : decode cX2_mendAll 74 = .ok (.iastore, 1) := by decide +kernel
theorem dX2_mendAll_75 : decode cX2_mendAll 75 = .ok (.iinc 5 1, 3) := by decide +kernel
theorem dX2_mendAll_78 : decode cX2_mendAll 78 = .ok (.goto (-65), 3) := by decide +kernel
theorem dX2_mendAll_81 : decode cX2_mendAll 81 = .ok (.iinc 4 1, 3) := by decide +kernel
theorem dX2_mendAll_84 : decode cX2_mendAll 84 = .ok (.goto (-81), 3) := by decide +kernel
theorem dX2_mendAll_87 : decode cX2_mendAll 87 = .ok (.return_, 1) := by decide +kernel
theorem dX2_mendedAt_0 : decode cX2_mendedAt 0 = .ok (.iconst 0, 1) := by decide +kernel
theorem dX2_mendedAt_1 : decode cX2_mendedAt 1 = .ok (.istore 4, 2) := by decide +kernel
theorem dX2_mendedAt_3 : decode cX2_mendedAt 3 = .ok (.iconst 0, 1) := by decide +kernel
theorem dX2_mendedAt_4 : decode cX2_mendedAt 4 = .ok (.istore 5, 2) := by decide +kernel
theorem dX2_mendedAt_6 : decode cX2_mendedAt 6 = .ok (.iconst 0, 1) := by decide +kernel
theorem dX2_mendedAt_7 : decode cX2_mendedAt 7 = .ok (.istore 6, 2) := by decide +kernel
theorem dX2_mendedAt_9 : decode cX2_mendedAt 9 = .ok (.iload 6, 2) := by decide +kernel
theorem dX2_mendedAt_11 : decode cX2_mendedAt 11 = .ok (.iconst 4, 1) := by decide +kernel
theorem dX2_mendedAt_12 : decode cX2_mendedAt 12 = .ok (.if_icmp .ge 95, 3) := by decide +kernel
theorem dX2_mendedAt_15 : decode cX2_mendedAt 15 = .ok (.iload 6, 2) := by decide +kernel
theorem dX2_mendedAt_17 : decode cX2_mendedAt 17 = .ok (.iconst 2, 1) := by decide +kernel
theorem dX2_mendedAt_18 : decode cX2_mendedAt 18 = .ok (.irem, 1) := by decide +kernel
theorem dX2_mendedAt_19 : decode cX2_mendedAt 19 = .ok (.ifCond .ne 8, 3) := by decide +kernel
theorem dX2_mendedAt_22 : decode cX2_mendedAt 22 = .ok (.bipush (-2), 2) := by decide +kernel
theorem dX2_mendedAt_24 : decode cX2_mendedAt 24 = .ok (.goto 4, 3) := by decide +kernel
theorem dX2_mendedAt_27 : decode cX2_mendedAt 27 = .ok (.iconst 2, 1) := by decide +kernel
theorem dX2_mendedAt_28 : decode cX2_mendedAt 28 = .ok (.istore 7, 2) := by decide +kernel
theorem dX2_mendedAt_30 : decode cX2_mendedAt 30 = .ok (.iload 6, 2) := by decide +kernel
theorem dX2_mendedAt_32 : decode cX2_mendedAt 32 = .ok (.iconst 2, 1) := by decide +kernel
theorem dX2_mendedAt_33 : decode cX2_mendedAt 33 = .ok (.if_icmp .ge 10, 3) := by decide +kernel
theorem dX2_mendedAt_36 : decode cX2_mendedAt 36 = .ok (.iload_n 2, 1) := by decide +kernel
theorem dX2_mendedAt_37 : decode cX2_mendedAt 37 = .ok (.iload 7, 2) := by decide +kernel
theorem dX2_mendedAt_39 : decode cX2_mendedAt 39 = .ok (.iadd, 1) := by decide +kernel
theorem dX2_mendedAt_40 : decode cX2_mendedAt 40 = .ok (.goto 4, 3) := by decide +kernel
theorem dX2_mendedAt_43 : decode cX2_mendedAt 43 = .ok (.iload_n 2, 1) := by decide +kernel
theorem dX2_mendedAt_44 : decode cX2_mendedAt 44 = .ok (.istore 8, 2) := by decide +kernel
theorem dX2_mendedAt_46 : decode cX2_mendedAt 46 = .ok (.iload 6, 2) := by decide +kernel
theorem dX2_mendedAt_48 : decode cX2_mendedAt 48 = .ok (.iconst 2, 1) := by decide +kernel
theorem dX2_mendedAt_49 : decode cX2_mendedAt 49 = .ok (.if_icmp .ge 7, 3) := by decide +kernel
theorem dX2_mendedAt_52 : decode cX2_mendedAt 52 = .ok (.iload_n 3, 1) := by decide +kernel
theorem dX2_mendedAt_53 : decode cX2_mendedAt 53 = .ok (.goto 7, 3) := by decide +kernel
theorem dX2_mendedAt_56 : decode cX2_mendedAt 56 = .ok (.iload_n 3, 1) := by decide +kernel
theorem dX2_mendedAt_57 : decode cX2_mendedAt 57 = .ok (.iload 7, 2) := by decide +kernel
theorem dX2_mendedAt_59 : decode cX2_mendedAt 59 = .ok (.iadd, 1) := by decide +kernel
theorem dX2_mendedAt_60 : decode cX2_mendedAt 60 = .ok (.istore 9, 2) := by decide +kernel
theorem dX2_mendedAt_62 : decode cX2_mendedAt 62 = .ok (.iload 8, 2) := by decide +kernel
theorem dX2_mendedAt_64 : decode cX2_mendedAt 64 = .ok (.iload 9, 2) := by decide +kernel
theorem dX2_mendedAt_66 : decode cX2_mendedAt 66 = .ok (.invokestatic 61, 3) := by decide +kernel
theorem dX2_mendedAt_69 : decode cX2_mendedAt 69 = .ok (.ifCond .eq 32, 3) := by decide +kernel
theorem dX2_mendedAt_72 : decode cX2_mendedAt 72 = .ok (.aload_n 1, 1) := by decide +kernel
theorem dX2_mendedAt_73 : decode cX2_mendedAt 73 = .ok (.iload 8, 2) := by decide +kernel
theorem dX2_mendedAt_75 : decode cX2_mendedAt 75 = .ok (.iload 9, 2) := by decide +kernel
theorem dX2_mendedAt_77 : decode cX2_mendedAt 77 = .ok (.invokestatic 54, 3) := by decide +kernel
theorem dX2_mendedAt_80 : decode cX2_mendedAt 80 = .ok (.baload, 1) := by decide +kernel
theorem dX2_mendedAt_81 : decode cX2_mendedAt 81 = .ok (.ifCond .ne 20, 3) := by decide +kernel
theorem dX2_mendedAt_84 : decode cX2_mendedAt 84 = .ok (.iload 4, 2) := by decide +kernel
theorem dX2_mendedAt_86 : decode cX2_mendedAt 86 = .ok (.aload_n 0, 1) := by decide +kernel
theorem dX2_mendedAt_87 : decode cX2_mendedAt 87 = .ok (.iload 8, 2) := by decide +kernel
theorem dX2_mendedAt_89 : decode cX2_mendedAt 89 = .ok (.iload 9, 2) := by decide +kernel
theorem dX2_mendedAt_91 : decode cX2_mendedAt 91 = .ok (.invokestatic 54, 3) := by decide +kernel
theorem dX2_mendedAt_94 : decode cX2_mendedAt 94 = .ok (.iaload, 1) := by decide +kernel
theorem dX2_mendedAt_95 : decode cX2_mendedAt 95 = .ok (.iadd, 1) := by decide +kernel
theorem dX2_mendedAt_96 : decode cX2_mendedAt 96 = .ok (.istore 4, 2) := by decide +kernel
theorem dX2_mendedAt_98 : decode cX2_mendedAt 98 = .ok (.iinc 5 1, 3) := by decide +kernel
theorem dX2_mendedAt_101 : decode cX2_mendedAt 101 = .ok (.iinc 6 1, 3) := by decide +kernel
theorem dX2_mendedAt_104 : decode cX2_mendedAt 104 = .ok (.goto (-95), 3) := by decide +kernel
theorem dX2_mendedAt_107 : decode cX2_mendedAt 107 = .ok (.iload 5, 2) := by decide +kernel
theorem dX2_mendedAt_109 : decode cX2_mendedAt 109 = .ok (.ifCond .ne 13, 3) := by decide +kernel
theorem dX2_mendedAt_112 : decode cX2_mendedAt 112 = .ok (.aload_n 0, 1) := by decide +kernel
theorem dX2_mendedAt_113 : decode cX2_mendedAt 113 = .ok (.iload_n 2, 1) := by decide +kernel
theorem dX2_mendedAt_114 : decode cX2_mendedAt 114 = .ok (.iload_n 3, 1) := by decide +kernel
theorem dX2_mendedAt_115 : decode cX2_mendedAt 115 = .ok (.invokestatic 54, 3) := by decide +kernel
theorem dX2_mendedAt_118 : decode cX2_mendedAt 118 = .ok (.iaload, 1) := by decide +kernel
theorem dX2_mendedAt_119 : decode cX2_mendedAt 119 = .ok (.goto 8, 3) := by decide +kernel
theorem dX2_mendedAt_122 : decode cX2_mendedAt 122 = .ok (.iload 4, 2) := by decide +kernel
theorem dX2_mendedAt_124 : decode cX2_mendedAt 124 = .ok (.iload 5, 2) := by decide +kernel
theorem dX2_mendedAt_126 : decode cX2_mendedAt 126 = .ok (.idiv, 1) := by decide +kernel
theorem dX2_mendedAt_127 : decode cX2_mendedAt 127 = .ok (.ireturn, 1) := by decide +kernel
theorem dX2_makeWhole_0 : decode cX2_makeWhole 0 = .ok (.iconst 0, 1) := by decide +kernel
theorem dX2_makeWhole_1 : decode cX2_makeWhole 1 = .ok (.istore_n 1, 1) := by decide +kernel
theorem dX2_makeWhole_2 : decode cX2_makeWhole 2 = .ok (.iload_n 1, 1) := by decide +kernel
theorem dX2_makeWhole_3 : decode cX2_makeWhole 3 = .ok (.bipush 8, 2) := by decide +kernel
theorem dX2_makeWhole_5 : decode cX2_makeWhole 5 = .ok (.if_icmp .ge 91, 3) := by decide +kernel
theorem dX2_makeWhole_8 : decode cX2_makeWhole 8 = .ok (.iconst 0, 1) := by decide +kernel
theorem dX2_makeWhole_9 : decode cX2_makeWhole 9 = .ok (.istore_n 2, 1) := by decide +kernel
theorem dX2_makeWhole_10 : decode cX2_makeWhole 10 = .ok (.iload_n 2, 1) := by decide +kernel
theorem dX2_makeWhole_11 : decode cX2_makeWhole 11 = .ok (.bipush 8, 2) := by decide +kernel
theorem dX2_makeWhole_13 : decode cX2_makeWhole 13 = .ok (.if_icmp .ge 77, 3) := by decide +kernel
theorem dX2_makeWhole_16 : decode cX2_makeWhole 16 = .ok (.iload_n 2, 1) := by decide +kernel
theorem dX2_makeWhole_17 : decode cX2_makeWhole 17 = .ok (.iload_n 1, 1) := by decide +kernel
theorem dX2_makeWhole_18 : decode cX2_makeWhole 18 = .ok (.invokestatic 54, 3) := by decide +kernel
theorem dX2_makeWhole_21 : decode cX2_makeWhole 21 = .ok (.istore_n 3, 1) := by decide +kernel
theorem dX2_makeWhole_22 : decode cX2_makeWhole 22 = .ok (.iload_n 2, 1) := by decide +kernel
theorem dX2_makeWhole_23 : decode cX2_makeWhole 23 = .ok (.iload_n 1, 1) := by decide +kernel
theorem dX2_makeWhole_24 : decode cX2_makeWhole 24 = .ok (.invokestatic 65, 3) := by decide +kernel
theorem dX2_makeWhole_27 : decode cX2_makeWhole 27 = .ok (.istore 4, 2) := by decide +kernel
theorem dX2_makeWhole_29 : decode cX2_makeWhole 29 = .ok (.iconst 0, 1) := by decide +kernel
theorem dX2_makeWhole_30 : decode cX2_makeWhole 30 = .ok (.istore 5, 2) := by decide +kernel
theorem dX2_makeWhole_32 : decode cX2_makeWhole 32 = .ok (.iload 5, 2) := by decide +kernel
theorem dX2_makeWhole_34 : decode cX2_makeWhole 34 = .ok (.iconst 3, 1) := by decide +kernel
theorem dX2_makeWhole_35 : decode cX2_makeWhole 35 = .ok (.if_icmp .ge 49, 3) := by decide +kernel
theorem dX2_makeWhole_38 : decode cX2_makeWhole 38 = .ok (.iload 5, 2) := by decide +kernel
theorem dX2_makeWhole_40 : decode cX2_makeWhole 40 = .ok (.iload 4, 2) := by decide +kernel
theorem dX2_makeWhole_42 : decode cX2_makeWhole 42 = .ok (.if_icmp .ne 13, 3) := by decide +kernel
theorem dX2_makeWhole_45 : decode cX2_makeWhole 45 = .ok (.aload_n 0, 1) := by decide +kernel
theorem dX2_makeWhole_46 : decode cX2_makeWhole 46 = .ok (.getfield 15, 3) := by decide +kernel
theorem dX2_makeWhole_49 : decode cX2_makeWhole 49 = .ok (.iload_n 3, 1) := by decide +kernel
theorem dX2_makeWhole_50 : decode cX2_makeWhole 50 = .ok (.iaload, 1) := by decide +kernel
theorem dX2_makeWhole_51 : decode cX2_makeWhole 51 = .ok (.i2f, 1) := by decide +kernel
theorem dX2_makeWhole_52 : decode cX2_makeWhole 52 = .ok (.goto 11, 3) := by decide +kernel
theorem dX2_makeWhole_55 : decode cX2_makeWhole 55 = .ok (.aload_n 0, 1) := by decide +kernel
theorem dX2_makeWhole_56 : decode cX2_makeWhole 56 = .ok (.iload_n 2, 1) := by decide +kernel
theorem dX2_makeWhole_57 : decode cX2_makeWhole 57 = .ok (.iload_n 1, 1) := by decide +kernel
theorem dX2_makeWhole_58 : decode cX2_makeWhole 58 = .ok (.iload 5, 2) := by decide +kernel
theorem dX2_makeWhole_60 : decode cX2_makeWhole 60 = .ok (.invokevirtual 68, 3) := by decide +kernel
theorem dX2_makeWhole_63 : decode cX2_makeWhole 63 = .ok (.fstore 6, 2) := by decide +kernel
theorem dX2_makeWhole_65 : decode cX2_makeWhole 65 = .ok (.aload_n 0, 1) := by decide +kernel
theorem dX2_makeWhole_66 : decode cX2_makeWhole 66 = .ok (.getfield 9, 3) := by decide +kernel
theorem dX2_makeWhole_69 : decode cX2_makeWhole 69 = .ok (.iload_n 3, 1) := by decide +kernel
theorem dX2_makeWhole_70 : decode cX2_makeWhole 70 = .ok (.iload 5, 2) := by decide +kernel
theorem dX2_makeWhole_72 : decode cX2_makeWhole 72 = .ok (.invokestatic 49, 3) := by decide +kernel
theorem dX2_makeWhole_75 : decode cX2_makeWhole 75 = .ok (.fload 6, 2) := by decide +kernel
theorem dX2_makeWhole_77 : decode cX2_makeWhole 77 = .ok (.fastore, 1) := by decide +kernel
theorem dX2_makeWhole_78 : decode cX2_makeWhole 78 = .ok (.iinc 5 1, 3) := by decide +kernel
theorem dX2_makeWhole_81 : decode cX2_makeWhole 81 = .ok (.goto (-49), 3) := by decide +kernel
theorem dX2_makeWhole_84 : decode cX2_makeWhole 84 = .ok (.iinc 2 1, 3) := by decide +kernel
theorem dX2_makeWhole_87 : decode cX2_makeWhole 87 = .ok (.goto (-77), 3) := by decide +kernel
theorem dX2_makeWhole_90 : decode cX2_makeWhole 90 = .ok (.iinc 1 1, 3) := by decide +kernel
theorem dX2_makeWhole_93 : decode cX2_makeWhole 93 = .ok (.goto (-91), 3) := by decide +kernel
theorem dX2_makeWhole_96 : decode cX2_makeWhole 96 = .ok (.return_, 1) := by decide +kernel
theorem dX2_meanAround_0 : decode cX2_meanAround 0 = .ok (.iconst 0, 1) := by decide +kernel
theorem dX2_meanAround_1 : decode cX2_meanAround 1 = .ok (.istore 4, 2) := by decide +kernel
theorem dX2_meanAround_3 : decode cX2_meanAround 3 = .ok (.iconst 0, 1) := by decide +kernel
theorem dX2_meanAround_4 : decode cX2_meanAround 4 = .ok (.istore 5, 2) := by decide +kernel
theorem dX2_meanAround_6 : decode cX2_meanAround 6 = .ok (.iload_n 2, 1) := by decide +kernel
theorem dX2_meanAround_7 : decode cX2_meanAround 7 = .ok (.iconst 1, 1) := by decide +kernel
theorem dX2_meanAround_8 : decode cX2_meanAround 8 = .ok (.isub, 1) := by decide +kernel
theorem dX2_meanAround_9 : decode cX2_meanAround 9 = .ok (.istore 6, 2) := by decide +kernel
theorem dX2_meanAround_11 : decode cX2_meanAround 11 = .ok (.iload 6, 2) := by decide +kernel
theorem dX2_meanAround_13 : decode cX2_meanAround 13 = .ok (.iload_n 2, 1) := by decide +kernel
theorem dX2_meanAround_14 : decode cX2_meanAround 14 = .ok (.iconst 1, 1) := by decide +kernel
theorem dX2_meanAround_15 : decode cX2_meanAround 15 = .ok (.iadd, 1) := by decide +kernel
theorem dX2_meanAround_16 : decode cX2_meanAround 16 = .ok (.if_icmp .gt 69, 3) := by decide +kernel
theorem dX2_meanAround_19 : decode cX2_meanAround 19 = .ok (.iload_n 1, 1) := by decide +kernel
theorem dX2_meanAround_20 : decode cX2_meanAround 20 = .ok (.iconst 1, 1) := by decide +kernel
theorem dX2_meanAround_21 : decode cX2_meanAround 21 = .ok (.isub, 1) := by decide +kernel
theorem dX2_meanAround_22 : decode cX2_meanAround 22 = .ok (.istore 7, 2) := by decide +kernel
theorem dX2_meanAround_24 : decode cX2_meanAround 24 = .ok (.iload 7, 2) := by decide +kernel
theorem dX2_meanAround_26 : decode cX2_meanAround 26 = .ok (.iload_n 1, 1) := by decide +kernel
theorem dX2_meanAround_27 : decode cX2_meanAround 27 = .ok (.iconst 1, 1) := by decide +kernel
theorem dX2_meanAround_28 : decode cX2_meanAround 28 = .ok (.iadd, 1) := by decide +kernel
theorem dX2_meanAround_29 : decode cX2_meanAround 29 = .ok (.if_icmp .gt 50, 3) := by decide +kernel
theorem dX2_meanAround_32 : decode cX2_meanAround 32 = .ok (.iload 7, 2) := by decide +kernel
theorem dX2_meanAround_34 : decode cX2_meanAround 34 = .ok (.iload 6, 2) := by decide +kernel
theorem dX2_meanAround_36 : decode cX2_meanAround 36 = .ok (.invokestatic 61, 3) := by decide +kernel
theorem dX2_meanAround_39 : decode cX2_meanAround 39 = .ok (.ifCond .eq 34, 3) := by decide +kernel
theorem dX2_meanAround_42 : decode cX2_meanAround 42 = .ok (.iload 7, 2) := by decide +kernel
theorem dX2_meanAround_44 : decode cX2_meanAround 44 = .ok (.iload 6, 2) := by decide +kernel
theorem dX2_meanAround_46 : decode cX2_meanAround 46 = .ok (.invokestatic 65, 3) := by decide +kernel
theorem dX2_meanAround_49 : decode cX2_meanAround 49 = .ok (.iload_n 3, 1) := by decide +kernel
theorem dX2_meanAround_50 : decode cX2_meanAround 50 = .ok (.if_icmp .ne 23, 3) := by decide +kernel
theorem dX2_meanAround_53 : decode cX2_meanAround 53 = .ok (.iload 4, 2) := by decide +kernel
theorem dX2_meanAround_55 : decode cX2_meanAround 55 = .ok (.aload_n 0, 1) := by decide +kernel
theorem dX2_meanAround_56 : decode cX2_meanAround 56 = .ok (.getfield 15, 3) := by decide +kernel
theorem dX2_meanAround_59 : decode cX2_meanAround 59 = .ok (.iload 7, 2) := by decide +kernel
theorem dX2_meanAround_61 : decode cX2_meanAround 61 = .ok (.iload 6, 2) := by decide +kernel
theorem dX2_meanAround_63 : decode cX2_meanAround 63 = .ok (.invokestatic 54, 3) := by decide +kernel
theorem dX2_meanAround_66 : decode cX2_meanAround 66 = .ok (.iaload, 1) := by decide +kernel
theorem dX2_meanAround_67 : decode cX2_meanAround 67 = .ok (.iadd, 1) := by decide +kernel
theorem dX2_meanAround_68 : decode cX2_meanAround 68 = .ok (.istore 4, 2) := by decide +kernel
theorem dX2_meanAround_70 : decode cX2_meanAround 70 = .ok (.iinc 5 1, 3) := by decide +kernel
theorem dX2_meanAround_73 : decode cX2_meanAround 73 = .ok (.iinc 7 1, 3) := by decide +kernel
theorem dX2_meanAround_76 : decode cX2_meanAround 76 = .ok (.goto (-52), 3) := by decide +kernel
theorem dX2_meanAround_79 : decode cX2_meanAround 79 = .ok (.iinc 6 1, 3) := by decide +kernel
theorem dX2_meanAround_82 : decode cX2_meanAround 82 = .ok (.goto (-71), 3) := by decide +kernel
theorem dX2_meanAround_85 : decode cX2_meanAround 85 = .ok (.iload 5, 2) := by decide +kernel
theorem dX2_meanAround_87 : decode cX2_meanAround 87 = .ok (.ifCond .ne 7, 3) := by decide +kernel
theorem dX2_meanAround_90 : decode cX2_meanAround 90 = .ok (.fconst 0, 1) := by decide +kernel
theorem dX2_meanAround_91 : decode cX2_meanAround 91 = .ok (.goto 10, 3) := by decide +kernel
theorem dX2_meanAround_94 : decode cX2_meanAround 94 = .ok (.iload 4, 2) := by decide +kernel
theorem dX2_meanAround_96 : decode cX2_meanAround 96 = .ok (.i2f, 1) := by decide +kernel
theorem dX2_meanAround_97 : decode cX2_meanAround 97 = .ok (.iload 5, 2) := by decide +kernel
theorem dX2_meanAround_99 : decode cX2_meanAround 99 = .ok (.i2f, 1) := by decide +kernel
theorem dX2_meanAround_100 : decode cX2_meanAround 100 = .ok (.fdiv, 1) := by decide +kernel
theorem dX2_meanAround_101 : decode cX2_meanAround 101 = .ok (.freturn, 1) := by decide +kernel
theorem dX2_applyEdit_0 : decode cX2_applyEdit 0 = .ok (.iload_n 1, 1) := by decide +kernel
theorem dX2_applyEdit_1 : decode cX2_applyEdit 1 = .ok (.tableswitch 84 0 4 #[35, 43, 56, 69, 77], 35) := by decide +kernel
theorem dX2_applyEdit_36 : decode cX2_applyEdit 36 = .ok (.aload_n 0, 1) := by decide +kernel
theorem dX2_applyEdit_37 : decode cX2_applyEdit 37 = .ok (.iload_n 2, 1) := by decide +kernel
theorem dX2_applyEdit_38 : decode cX2_applyEdit 38 = .ok (.invokevirtual 72, 3) := by decide +kernel
theorem dX2_applyEdit_41 : decode cX2_applyEdit 41 = .ok (.goto 44, 3) := by decide +kernel
theorem dX2_applyEdit_44 : decode cX2_applyEdit 44 = .ok (.aload_n 0, 1) := by decide +kernel
theorem dX2_applyEdit_45 : decode cX2_applyEdit 45 = .ok (.iconst 0, 1) := by decide +kernel
theorem dX2_applyEdit_46 : decode cX2_applyEdit 46 = .ok (.iload_n 2, 1) := by decide +kernel
theorem dX2_applyEdit_47 : decode cX2_applyEdit 47 = .ok (.i2f, 1) := by decide +kernel
theorem dX2_applyEdit_48 : decode cX2_applyEdit 48 = .ok (.ldc 76, 2) := by decide +kernel
theorem dX2_applyEdit_50 : decode cX2_applyEdit 50 = .ok (.fdiv, 1) := by decide +kernel
theorem dX2_applyEdit_51 : decode cX2_applyEdit 51 = .ok (.invokevirtual 77, 3) := by decide +kernel
theorem dX2_applyEdit_54 : decode cX2_applyEdit 54 = .ok (.goto 31, 3) := by decide +kernel
theorem dX2_applyEdit_57 : decode cX2_applyEdit 57 = .ok (.aload_n 0, 1) := by decide +kernel
theorem dX2_applyEdit_58 : decode cX2_applyEdit 58 = .ok (.iconst 2, 1) := by decide +kernel
theorem dX2_applyEdit_59 : decode cX2_applyEdit 59 = .ok (.iload_n 2, 1) := by decide +kernel
theorem dX2_applyEdit_60 : decode cX2_applyEdit 60 = .ok (.i2f, 1) := by decide +kernel
theorem dX2_applyEdit_61 : decode cX2_applyEdit 61 = .ok (.ldc 76, 2) := by decide +kernel
theorem dX2_applyEdit_63 : decode cX2_applyEdit 63 = .ok (.fdiv, 1) := by decide +kernel
theorem dX2_applyEdit_64 : decode cX2_applyEdit 64 = .ok (.invokevirtual 77, 3) := by decide +kernel
theorem dX2_applyEdit_67 : decode cX2_applyEdit 67 = .ok (.goto 18, 3) := by decide +kernel
theorem dX2_applyEdit_70 : decode cX2_applyEdit 70 = .ok (.aload_n 0, 1) := by decide +kernel
theorem dX2_applyEdit_71 : decode cX2_applyEdit 71 = .ok (.iload_n 2, 1) := by decide +kernel
theorem dX2_applyEdit_72 : decode cX2_applyEdit 72 = .ok (.invokevirtual 81, 3) := by decide +kernel
theorem dX2_applyEdit_75 : decode cX2_applyEdit 75 = .ok (.goto 10, 3) := by decide +kernel
theorem dX2_applyEdit_78 : decode cX2_applyEdit 78 = .ok (.aload_n 0, 1) := by decide +kernel
theorem dX2_applyEdit_79 : decode cX2_applyEdit 79 = .ok (.invokevirtual 84, 3) := by decide +kernel
theorem dX2_applyEdit_82 : decode cX2_applyEdit 82 = .ok (.goto 3, 3) := by decide +kernel
theorem dX2_applyEdit_85 : decode cX2_applyEdit 85 = .ok (.return_, 1) := by decide +kernel
theorem dX2_darken_0 : decode cX2_darken 0 = .ok (.iconst 0, 1) := by decide +kernel
theorem dX2_darken_1 : decode cX2_darken 1 = .ok (.istore_n 2, 1) := by decide +kernel
theorem dX2_darken_2 : decode cX2_darken 2 = .ok (.iload_n 2, 1) := by decide +kernel
theorem dX2_darken_3 : decode cX2_darken 3 = .ok (.aload_n 0, 1) := by decide +kernel
theorem dX2_darken_4 : decode cX2_darken 4 = .ok (.getfield 9, 3) := by decide +kernel
theorem dX2_darken_7 : decode cX2_darken 7 = .ok (.arraylength, 1) := by decide +kernel
theorem dX2_darken_8 : decode cX2_darken 8 = .ok (.if_icmp .ge 36, 3) := by decide +kernel
theorem dX2_darken_11 : decode cX2_darken 11 = .ok (.aload_n 0, 1) := by decide +kernel
theorem dX2_darken_12 : decode cX2_darken 12 = .ok (.getfield 9, 3) := by decide +kernel
theorem dX2_darken_15 : decode cX2_darken 15 = .ok (.iload_n 2, 1) := by decide +kernel
theorem dX2_darken_16 : decode cX2_darken 16 = .ok (.faload, 1) := by decide +kernel
theorem dX2_darken_17 : decode cX2_darken 17 = .ok (.iload_n 1, 1) := by decide +kernel
theorem dX2_darken_18 : decode cX2_darken 18 = .ok (.i2f, 1) := by decide +kernel
theorem dX2_darken_19 : decode cX2_darken 19 = .ok (.fsub, 1) := by decide +kernel
theorem dX2_darken_20 : decode cX2_darken 20 = .ok (.fstore_n 3, 1) := by decide +kernel
theorem dX2_darken_21 : decode cX2_darken 21 = .ok (.aload_n 0, 1) := by decide +kernel
theorem dX2_darken_22 : decode cX2_darken 22 = .ok (.getfield 9, 3) := by decide +kernel
theorem dX2_darken_25 : decode cX2_darken 25 = .ok (.iload_n 2, 1) := by decide +kernel
theorem dX2_darken_26 : decode cX2_darken 26 = .ok (.fload_n 3, 1) := by decide +kernel
theorem dX2_darken_27 : decode cX2_darken 27 = .ok (.fconst 0, 1) := by decide +kernel
theorem dX2_darken_28 : decode cX2_darken 28 = .ok (.fcmp .l, 1) := by decide +kernel
theorem dX2_darken_29 : decode cX2_darken 29 = .ok (.ifCond .le 7, 3) := by decide +kernel
theorem dX2_darken_32 : decode cX2_darken 32 = .ok (.fload_n 3, 1) := by decide +kernel
theorem dX2_darken_33 : decode cX2_darken 33 = .ok (.goto 4, 3) := by decide +kernel
theorem dX2_darken_36 : decode cX2_darken 36 = .ok (.fconst 0, 1) := by decide +kernel
theorem dX2_darken_37 : decode cX2_darken 37 = .ok (.fastore, 1) := by decide +kernel
theorem dX2_darken_38 : decode cX2_darken 38 = .ok (.iinc 2 1, 3) := by decide +kernel
theorem dX2_darken_41 : decode cX2_darken 41 = .ok (.goto (-39), 3) := by decide +kernel
theorem dX2_darken_44 : decode cX2_darken 44 = .ok (.return_, 1) := by decide +kernel
theorem dX2_scaleColour_0 : decode cX2_scaleColour 0 = .ok (.iconst 0, 1) := by decide +kernel
theorem dX2_scaleColour_1 : decode cX2_scaleColour 1 = .ok (.istore_n 3, 1) := by decide +kernel
theorem dX2_scaleColour_2 : decode cX2_scaleColour 2 = .ok (.iload_n 3, 1) := by decide +kernel
theorem dX2_scaleColour_3 : decode cX2_scaleColour 3 = .ok (.bipush 64, 2) := by decide +kernel
theorem dX2_scaleColour_5 : decode cX2_scaleColour 5 = .ok (.if_icmp .ge 31, 3) := by decide +kernel
theorem dX2_scaleColour_8 : decode cX2_scaleColour 8 = .ok (.aload_n 0, 1) := by decide +kernel
theorem dX2_scaleColour_9 : decode cX2_scaleColour 9 = .ok (.getfield 9, 3) := by decide +kernel
theorem dX2_scaleColour_12 : decode cX2_scaleColour 12 = .ok (.iload_n 3, 1) := by decide +kernel
theorem dX2_scaleColour_13 : decode cX2_scaleColour 13 = .ok (.iload_n 1, 1) := by decide +kernel
theorem dX2_scaleColour_14 : decode cX2_scaleColour 14 = .ok (.invokestatic 49, 3) := by decide +kernel
theorem dX2_scaleColour_17 : decode cX2_scaleColour 17 = .ok (.aload_n 0, 1) := by decide +kernel
theorem dX2_scaleColour_18 : decode cX2_scaleColour 18 = .ok (.getfield 9, 3) := by decide +kernel
theorem dX2_scaleColour_21 : decode cX2_scaleColour 21 = .ok (.iload_n 3, 1) := by decide +kernel
theorem dX2_scaleColour_22 : decode cX2_scaleColour 22 = .ok (.iload_n 1, 1) := by decide +kernel
theorem dX2_scaleColour_23 : decode cX2_scaleColour 23 = .ok (.invokestatic 49, 3) := by decide +kernel
theorem dX2_scaleColour_26 : decode cX2_scaleColour 26 = .ok (.faload, 1) := by decide +kernel
theorem dX2_scaleColour_27 : decode cX2_scaleColour 27 = .ok (.fload_n 2, 1) := by decide +kernel
theorem dX2_scaleColour_28 : decode cX2_scaleColour 28 = .ok (.fmul, 1) := by decide +kernel
theorem dX2_scaleColour_29 : decode cX2_scaleColour 29 = .ok (.fastore, 1) := by decide +kernel
theorem dX2_scaleColour_30 : decode cX2_scaleColour 30 = .ok (.iinc 3 1, 3) := by decide +kernel
theorem dX2_scaleColour_33 : decode cX2_scaleColour 33 = .ok (.goto (-31), 3) := by decide +kernel
theorem dX2_scaleColour_36 : decode cX2_scaleColour 36 = .ok (.return_, 1) := by decide +kernel
theorem dX2_changeTone_0 : decode cX2_changeTone 0 = .ok (.iconst 0, 1) := by decide +kernel
theorem dX2_changeTone_1 : decode cX2_changeTone 1 = .ok (.istore_n 2, 1) := by decide +kernel
theorem dX2_changeTone_2 : decode cX2_changeTone 2 = .ok (.iload_n 2, 1) := by decide +kernel
theorem dX2_changeTone_3 : decode cX2_changeTone 3 = .ok (.aload_n 0, 1) := by decide +kernel
theorem dX2_changeTone_4 : decode cX2_changeTone 4 = .ok (.getfield 9, 3) := by decide +kernel
theorem dX2_changeTone_7 : decode cX2_changeTone 7 = .ok (.arraylength, 1) := by decide +kernel
theorem dX2_changeTone_8 : decode cX2_changeTone 8 = .ok (.if_icmp .ge 68, 3) := by decide +kernel
theorem dX2_changeTone_11 : decode cX2_changeTone 11 = .ok (.iload_n 1, 1) := by decide +kernel
theorem dX2_changeTone_12 : decode cX2_changeTone 12 = .ok (.ifCond .ne 21, 3) := by decide +kernel
theorem dX2_changeTone_15 : decode cX2_changeTone 15 = .ok (.aload_n 0, 1) := by decide +kernel
theorem dX2_changeTone_16 : decode cX2_changeTone 16 = .ok (.getfield 9, 3) := by decide +kernel
theorem dX2_changeTone_19 : decode cX2_changeTone 19 = .ok (.iload_n 2, 1) := by decide +kernel
theorem dX2_changeTone_20 : decode cX2_changeTone 20 = .ok (.aload_n 0, 1) := by decide +kernel
theorem dX2_changeTone_21 : decode cX2_changeTone 21 = .ok (.getfield 9, 3) := by decide +kernel
theorem dX2_changeTone_24 : decode cX2_changeTone 24 = .ok (.iload_n 2, 1) := by decide +kernel
theorem dX2_changeTone_25 : decode cX2_changeTone 25 = .ok (.faload, 1) := by decide +kernel
theorem dX2_changeTone_26 : decode cX2_changeTone 26 = .ok (.ldc 87, 2) := by decide +kernel
theorem dX2_changeTone_28 : decode cX2_changeTone 28 = .ok (.fmul, 1) := by decide +kernel
theorem dX2_changeTone_29 : decode cX2_changeTone 29 = .ok (.fastore, 1) := by decide +kernel
theorem dX2_changeTone_30 : decode cX2_changeTone 30 = .ok (.goto 40, 3) := by decide +kernel
theorem dX2_changeTone_33 : decode cX2_changeTone 33 = .ok (.iload_n 1, 1) := by decide +kernel
theorem dX2_changeTone_34 : decode cX2_changeTone 34 = .ok (.iconst 1, 1) := by decide +kernel
theorem dX2_changeTone_35 : decode cX2_changeTone 35 = .ok (.if_icmp .ne 20, 3) := by decide +kernel
theorem dX2_changeTone_38 : decode cX2_changeTone 38 = .ok (.aload_n 0, 1) := by decide +kernel
theorem dX2_changeTone_39 : decode cX2_changeTone 39 = .ok (.getfield 9, 3) := by decide +kernel
theorem dX2_changeTone_42 : decode cX2_changeTone 42 = .ok (.iload_n 2, 1) := by decide +kernel
theorem dX2_changeTone_43 : decode cX2_changeTone 43 = .ok (.aload_n 0, 1) := by decide +kernel
theorem dX2_changeTone_44 : decode cX2_changeTone 44 = .ok (.getfield 9, 3) := by decide +kernel
theorem dX2_changeTone_47 : decode cX2_changeTone 47 = .ok (.iload_n 2, 1) := by decide +kernel
theorem dX2_changeTone_48 : decode cX2_changeTone 48 = .ok (.faload, 1) := by decide +kernel
theorem dX2_changeTone_49 : decode cX2_changeTone 49 = .ok (.fconst 2, 1) := by decide +kernel
theorem dX2_changeTone_50 : decode cX2_changeTone 50 = .ok (.fmul, 1) := by decide +kernel
theorem dX2_changeTone_51 : decode cX2_changeTone 51 = .ok (.fastore, 1) := by decide +kernel
theorem dX2_changeTone_52 : decode cX2_changeTone 52 = .ok (.goto 18, 3) := by decide +kernel
theorem dX2_changeTone_55 : decode cX2_changeTone 55 = .ok (.aload_n 0, 1) := by decide +kernel
theorem dX2_changeTone_56 : decode cX2_changeTone 56 = .ok (.getfield 9, 3) := by decide +kernel
theorem dX2_changeTone_59 : decode cX2_changeTone 59 = .ok (.iload_n 2, 1) := by decide +kernel
theorem dX2_changeTone_60 : decode cX2_changeTone 60 = .ok (.ldc 53, 2) := by decide +kernel
theorem dX2_changeTone_62 : decode cX2_changeTone 62 = .ok (.aload_n 0, 1) := by decide +kernel
theorem dX2_changeTone_63 : decode cX2_changeTone 63 = .ok (.getfield 9, 3) := by decide +kernel
theorem dX2_changeTone_66 : decode cX2_changeTone 66 = .ok (.iload_n 2, 1) := by decide +kernel
theorem dX2_changeTone_67 : decode cX2_changeTone 67 = .ok (.faload, 1) := by decide +kernel
theorem dX2_changeTone_68 : decode cX2_changeTone 68 = .ok (.fsub, 1) := by decide +kernel
theorem dX2_changeTone_69 : decode cX2_changeTone 69 = .ok (.fastore, 1) := by decide +kernel
theorem dX2_changeTone_70 : decode cX2_changeTone 70 = .ok (.iinc 2 1, 3) := by decide +kernel
theorem dX2_changeTone_73 : decode cX2_changeTone 73 = .ok (.goto (-71), 3) := by decide +kernel
theorem dX2_changeTone_76 : decode cX2_changeTone 76 = .ok (.return_, 1) := by decide +kernel
theorem dX2_turnOver_0 : decode cX2_turnOver 0 = .ok (.iconst 0, 1) := by decide +kernel
theorem dX2_turnOver_1 : decode cX2_turnOver 1 = .ok (.istore_n 1, 1) := by decide +kernel
theorem dX2_turnOver_2 : decode cX2_turnOver 2 = .ok (.iload_n 1, 1) := by decide +kernel
theorem dX2_turnOver_3 : decode cX2_turnOver 3 = .ok (.bipush 8, 2) := by decide +kernel
theorem dX2_turnOver_5 : decode cX2_turnOver 5 = .ok (.if_icmp .ge 92, 3) := by decide +kernel
theorem dX2_turnOver_8 : decode cX2_turnOver 8 = .ok (.iconst 0, 1) := by decide +kernel
theorem dX2_turnOver_9 : decode cX2_turnOver 9 = .ok (.istore_n 2, 1) := by decide +kernel
theorem dX2_turnOver_10 : decode cX2_turnOver 10 = .ok (.iload_n 2, 1) := by decide +kernel
theorem dX2_turnOver_11 : decode cX2_turnOver 11 = .ok (.iconst 4, 1) := by decide +kernel
theorem dX2_turnOver_12 : decode cX2_turnOver 12 = .ok (.if_icmp .ge 79, 3) := by decide +kernel
theorem dX2_turnOver_15 : decode cX2_turnOver 15 = .ok (.iconst 0, 1) := by decide +kernel
theorem dX2_turnOver_16 : decode cX2_turnOver 16 = .ok (.istore_n 3, 1) := by decide +kernel
theorem dX2_turnOver_17 : decode cX2_turnOver 17 = .ok (.iload_n 3, 1) := by decide +kernel
theorem dX2_turnOver_18 : decode cX2_turnOver 18 = .ok (.iconst 3, 1) := by decide +kernel
theorem dX2_turnOver_19 : decode cX2_turnOver 19 = .ok (.if_icmp .ge 66, 3) := by decide +kernel
theorem dX2_turnOver_22 : decode cX2_turnOver 22 = .ok (.iload_n 2, 1) := by decide +kernel
theorem dX2_turnOver_23 : decode cX2_turnOver 23 = .ok (.iload_n 1, 1) := by decide +kernel
theorem dX2_turnOver_24 : decode cX2_turnOver 24 = .ok (.invokestatic 54, 3) := by decide +kernel
theorem dX2_turnOver_27 : decode cX2_turnOver 27 = .ok (.iload_n 3, 1) := by decide +kernel
theorem dX2_turnOver_28 : decode cX2_turnOver 28 = .ok (.invokestatic 49, 3) := by decide +kernel
theorem dX2_turnOver_31 : decode cX2_turnOver 31 = .ok (.istore 4, 2) := by decide +kernel
theorem dX2_turnOver_33 : decode cX2_turnOver 33 = .ok (.bipush 7, 2) := by decide +kernel
theorem dX2_turnOver_35 : decode cX2_turnOver 35 = .ok (.iload_n 2, 1) := by decide +kernel
theorem dX2_turnOver_36 : decode cX2_turnOver 36 = .ok (.isub, 1) := by decide +kernel
theorem dX2_turnOver_37 : decode cX2_turnOver 37 = .ok (.iload_n 1, 1) := by decide +kernel
theorem dX2_turnOver_38 : decode cX2_turnOver 38 = .ok (.invokestatic 54, 3) := by decide +kernel
theorem dX2_turnOver_41 : decode cX2_turnOver 41 = .ok (.iload_n 3, 1) := by decide +kernel
theorem dX2_turnOver_42 : decode cX2_turnOver 42 = .ok (.invokestatic 49, 3) := by decide +kernel
theorem dX2_turnOver_45 : decode cX2_turnOver 45 = .ok (.istore 5, 2) := by decide +kernel
theorem dX2_turnOver_47 : decode cX2_turnOver 47 = .ok (.aload_n 0, 1) := by decide +kernel
theorem dX2_turnOver_48 : decode cX2_turnOver 48 = .ok (.getfield 9, 3) := by decide +kernel
theorem dX2_turnOver_51 : decode cX2_turnOver 51 = .ok (.iload 4, 2) := by decide +kernel
theorem dX2_turnOver_53 : decode cX2_turnOver 53 = .ok (.faload, 1) := by decide +kernel
theorem dX2_turnOver_54 : decode cX2_turnOver 54 = .ok (.fstore 6, 2) := by decide +kernel
theorem dX2_turnOver_56 : decode cX2_turnOver 56 = .ok (.aload_n 0, 1) := by decide +kernel
theorem dX2_turnOver_57 : decode cX2_turnOver 57 = .ok (.getfield 9, 3) := by decide +kernel
theorem dX2_turnOver_60 : decode cX2_turnOver 60 = .ok (.iload 4, 2) := by decide +kernel
theorem dX2_turnOver_62 : decode cX2_turnOver 62 = .ok (.aload_n 0, 1) := by decide +kernel
theorem dX2_turnOver_63 : decode cX2_turnOver 63 = .ok (.getfield 9, 3) := by decide +kernel
theorem dX2_turnOver_66 : decode cX2_turnOver 66 = .ok (.iload 5, 2) := by decide +kernel
theorem dX2_turnOver_68 : decode cX2_turnOver 68 = .ok (.faload, 1) := by decide +kernel
theorem dX2_turnOver_69 : decode cX2_turnOver 69 = .ok (.fastore, 1) := by decide +kernel
theorem dX2_turnOver_70 : decode cX2_turnOver 70 = .ok (.aload_n 0, 1) := by decide +kernel
theorem dX2_turnOver_71 : decode cX2_turnOver 71 = .ok (.getfield 9, 3) := by decide +kernel
theorem dX2_turnOver_74 : decode cX2_turnOver 74 = .ok (.iload 5, 2) := by decide +kernel
theorem dX2_turnOver_76 : decode cX2_turnOver 76 = .ok (.fload 6, 2) := by decide +kernel
theorem dX2_turnOver_78 : decode cX2_turnOver 78 = .ok (.fastore, 1) := by decide +kernel
theorem dX2_turnOver_79 : decode cX2_turnOver 79 = .ok (.iinc 3 1, 3) := by decide +kernel
theorem dX2_turnOver_82 : decode cX2_turnOver 82 = .ok (.goto (-65), 3) := by decide +kernel
theorem dX2_turnOver_85 : decode cX2_turnOver 85 = .ok (.iinc 2 1, 3) := by decide +kernel
theorem dX2_turnOver_88 : decode cX2_turnOver 88 = .ok (.goto (-78), 3) := by decide +kernel
theorem dX2_turnOver_91 : decode cX2_turnOver 91 = .ok (.iinc 1 1, 3) := by decide +kernel
theorem dX2_turnOver_94 : decode cX2_turnOver 94 = .ok (.goto (-92), 3) := by decide +kernel
theorem dX2_turnOver_97 : decode cX2_turnOver 97 = .ok (.return_, 1) := by decide +kernel
theorem dX3_init_0 : decode cX3_init 0 = .ok (.aload_n 0, 1) := by decide +kernel
theorem dX3_init_1 : decode cX3_init 1 = .ok (.invokespecial 3, 3) := by decide +kernel
theorem dX3_init_4 : decode cX3_init 4 = .ok (.aload_n 0, 1) := by decide +kernel
theorem dX3_init_5 : decode cX3_init 5 = .ok (.sipush 192, 3) := by decide +kernel
theorem dX3_init_8 : decode cX3_init 8 = .ok (.newarray .int, 2) := by decide +kernel
theorem dX3_init_10 : decode cX3_init 10 = .ok (.putfield 9, 3) := by decide +kernel
theorem dX3_init_13 : decode cX3_init 13 = .ok (.aload_n 0, 1) := by decide +kernel
theorem dX3_init_14 : decode cX3_init 14 = .ok (.iconst 3, 1) := by decide +kernel
theorem dX3_init_15 : decode cX3_init 15 = .ok (.newarray .float, 2) := by decide +kernel
theorem dX3_init_17 : decode cX3_init 17 = .ok (.putfield 15, 3) := by decide +kernel
theorem dX3_init_20 : decode cX3_init 20 = .ok (.aload_n 0, 1) := by decide +kernel
theorem dX3_init_21 : decode cX3_init 21 = .ok (.iconst 4, 1) := by decide +kernel
theorem dX3_init_22 : decode cX3_init 22 = .ok (.putfield 19, 3) := by decide +kernel
theorem dX3_init_25 : decode cX3_init 25 = .ok (.iconst 0, 1) := by decide +kernel
theorem dX3_init_26 : decode cX3_init 26 = .ok (.istore_n 1, 1) := by decide +kernel
theorem dX3_init_27 : decode cX3_init 27 = .ok (.iload_n 1, 1) := by decide +kernel
theorem dX3_init_28 : decode cX3_init 28 = .ok (.iconst 3, 1) := by decide +kernel
theorem dX3_init_29 : decode cX3_init 29 = .ok (.if_icmp .ge 16, 3) := by decide +kernel
theorem dX3_init_32 : decode cX3_init 32 = .ok (.aload_n 0, 1) := by decide +kernel
theorem dX3_init_33 : decode cX3_init 33 = .ok (.getfield 15, 3) := by decide +kernel
theorem dX3_init_36 : decode cX3_init 36 = .ok (.iload_n 1, 1) := by decide +kernel
theorem dX3_init_37 : decode cX3_init 37 = .ok (.fconst 1, 1) := by decide +kernel
theorem dX3_init_38 : decode cX3_init 38 = .ok (.fastore, 1) := by decide +kernel
theorem dX3_init_39 : decode cX3_init 39 = .ok (.iinc 1 1, 3) := by decide +kernel
theorem dX3_init_42 : decode cX3_init 42 = .ok (.goto (-15), 3) := by decide +kernel
theorem dX3_init_45 : decode cX3_init 45 = .ok (.return_, 1) := by decide +kernel
theorem dX3_colourPlace_0 : decode cX3_colourPlace 0 = .ok (.iload_n 2, 1) := by decide +kernel
theorem dX3_colourPlace_1 : decode cX3_colourPlace 1 = .ok (.istore_n 3, 1) := by decide +kernel
theorem dX3_colourPlace_2 : decode cX3_colourPlace 2 = .ok (.iconst 0, 1) := by decide +kernel
theorem dX3_colourPlace_3 : decode cX3_colourPlace 3 = .ok (.istore 4, 2) := by decide +kernel
theorem dX3_colourPlace_5 : decode cX3_colourPlace 5 = .ok (.iload 4, 2) := by decide +kernel
theorem dX3_colourPlace_7 : decode cX3_colourPlace 7 = .ok (.iconst 3, 1) := by decide +kernel
theorem dX3_colourPlace_8 : decode cX3_colourPlace 8 = .ok (.if_icmp .ge 31, 3) := by decide +kernel
theorem dX3_colourPlace_11 : decode cX3_colourPlace 11 = .ok (.aload_n 0, 1) := by decide +kernel
theorem dX3_colourPlace_12 : decode cX3_colourPlace 12 = .ok (.getfield 9, 3) := by decide +kernel
theorem dX3_colourPlace_15 : decode cX3_colourPlace 15 = .ok (.iconst 3, 1) := by decide +kernel
theorem dX3_colourPlace_16 : decode cX3_colourPlace 16 = .ok (.iload_n 1, 1) := by decide +kernel
theorem dX3_colourPlace_17 : decode cX3_colourPlace 17 = .ok (.imul, 1) := by decide +kernel
theorem dX3_colourPlace_18 : decode cX3_colourPlace 18 = .ok (.iload 4, 2) := by decide +kernel
theorem dX3_colourPlace_20 : decode cX3_colourPlace 20 = .ok (.iadd, 1) := by decide +kernel
theorem dX3_colourPlace_21 : decode cX3_colourPlace 21 = .ok (.iload_n 3, 1) := by decide +kernel
theorem dX3_colourPlace_22 : decode cX3_colourPlace 22 = .ok (.sipush 256, 3) := by decide +kernel
theorem dX3_colourPlace_25 : decode cX3_colourPlace 25 = .ok (.irem, 1) := by decide +kernel
theorem dX3_colourPlace_26 : decode cX3_colourPlace 26 = .ok (.iastore, 1) := by decide +kernel
theorem dX3_colourPlace_27 : decode cX3_colourPlace 27 = .ok (.iload_n 3, 1) := by decide +kernel
theorem dX3_colourPlace_28 : decode cX3_colourPlace 28 = .ok (.sipush 256, 3) := by decide +kernel
theorem dX3_colourPlace_31 : decode cX3_colourPlace 31 = .ok (.idiv, 1) := by decide +kernel
theorem dX3_colourPlace_32 : decode cX3_colourPlace 32 = .ok (.istore_n 3, 1) := by decide +kernel
theorem dX3_colourPlace_33 : decode cX3_colourPlace 33 = .ok (.iinc 4 1, 3) := by decide +kernel
theorem dX3_colourPlace_36 : decode cX3_colourPlace 36 = .ok (.goto (-31), 3) := by decide +kernel
theorem dX3_colourPlace_39 : decode cX3_colourPlace 39 = .ok (.return_, 1) := by decide +kernel
theorem dX3_shade_0 : decode cX3_shade 0 = .ok (.aload_n 0, 1) := by decide +kernel
theorem dX3_shade_1 : decode cX3_shade 1 = .ok (.getfield 9, 3) := by decide +kernel
theorem dX3_shade_4 : decode cX3_shade 4 = .ok (.iconst 3, 1) := by decide +kernel
theorem dX3_shade_5 : decode cX3_shade 5 = .ok (.iload_n 1, 1) := by decide +kernel
theorem dX3_shade_6 : decode cX3_shade 6 = .ok (.imul, 1) := by decide +kernel
theorem dX3_shade_7 : decode cX3_shade 7 = .ok (.iload_n 2, 1) := by decide +kernel
theorem dX3_shade_8 : decode cX3_shade 8 = .ok (.iadd, 1) := by decide +kernel
theorem dX3_shade_9 : decode cX3_shade 9 = .ok (.iaload, 1) := by decide +kernel
theorem dX3_shade_10 : decode cX3_shade 10 = .ok (.ireturn, 1) := by decide +kernel
theorem dX3_light_0 : decode cX3_light 0 = .ok (.aload_n 0, 1) := by decide +kernel
theorem dX3_light_1 : decode cX3_light 1 = .ok (.getfield 15, 3) := by decide +kernel
theorem dX3_light_4 : decode cX3_light 4 = .ok (.iconst 0, 1) := by decide +kernel
theorem dX3_light_5 : decode cX3_light 5 = .ok (.iload_n 1, 1) := by decide +kernel
theorem dX3_light_6 : decode cX3_light 6 = .ok (.i2f, 1) := by decide +kernel
theorem dX3_light_7 : decode cX3_light 7 = .ok (.ldc 23, 2) := by decide +kernel
theorem dX3_light_9 : decode cX3_light 9 = .ok (.fdiv, 1) := by decide +kernel
theorem dX3_light_10 : decode cX3_light 10 = .ok (.fastore, 1) := by decide +kernel
theorem dX3_light_11 : decode cX3_light 11 = .ok (.aload_n 0, 1) := by decide +kernel
theorem dX3_light_12 : decode cX3_light 12 = .ok (.getfield 15, 3) := by decide +kernel
theorem dX3_light_15 : decode cX3_light 15 = .ok (.iconst 1, 1) := by decide +kernel
theorem dX3_light_16 : decode cX3_light 16 = .ok (.iload_n 2, 1) := by decide +kernel
theorem dX3_light_17 : decode cX3_light 17 = .ok (.i2f, 1) := by decide +kernel
theorem dX3_light_18 : decode cX3_light 18 = .ok (.ldc 23, 2) := by decide +kernel
theorem dX3_light_20 : decode cX3_light 20 = .ok (.fdiv, 1) := by decide +kernel
theorem dX3_light_21 : decode cX3_light 21 = .ok (.fastore, 1) := by decide +kernel
theorem dX3_light_22 : decode cX3_light 22 = .ok (.aload_n 0, 1) := by decide +kernel
theorem dX3_light_23 : decode cX3_light 23 = .ok (.getfield 15, 3) := by decide +kernel
theorem dX3_light_26 : decode cX3_light 26 = .ok (.iconst 2, 1) := by decide +kernel
theorem dX3_light_27 : decode cX3_light 27 = .ok (.iload_n 3, 1) := by decide +kernel
theorem dX3_light_28 : decode cX3_light 28 = .ok (.i2f, 1) := by decide +kernel
theorem dX3_light_29 : decode cX3_light 29 = .ok (.ldc 23, 2) := by decide +kernel
theorem dX3_light_31 : decode cX3_light 31 = .ok (.fdiv, 1) := by decide +kernel
theorem dX3_light_32 : decode cX3_light 32 = .ok (.fastore, 1) := by decide +kernel
theorem dX3_light_33 : decode cX3_light 33 = .ok (.aload_n 0, 1) := by decide +kernel
theorem dX3_light_34 : decode cX3_light 34 = .ok (.iload_n 2, 1) := by decide +kernel
theorem dX3_light_35 : decode cX3_light 35 = .ok (.putfield 19, 3) := by decide +kernel
theorem dX3_light_38 : decode cX3_light 38 = .ok (.return_, 1) := by decide +kernel
theorem dX3_greenQuarters_0 : decode cX3_greenQuarters 0 = .ok (.aload_n 0, 1) := by decide +kernel
theorem dX3_greenQuarters_1 : decode cX3_greenQuarters 1 = .ok (.getfield 19, 3) := by decide +kernel
theorem dX3_greenQuarters_4 : decode cX3_greenQuarters 4 = .ok (.ireturn, 1) := by decide +kernel
theorem dX3_lightAt_0 : decode cX3_lightAt 0 = .ok (.aload_n 0, 1) := by decide +kernel
theorem dX3_lightAt_1 : decode cX3_lightAt 1 = .ok (.iload_n 1, 1) := by decide +kernel
theorem dX3_lightAt_2 : decode cX3_lightAt 2 = .ok (.iload_n 2, 1) := by decide +kernel
theorem dX3_lightAt_3 : decode cX3_lightAt 3 = .ok (.invokevirtual 24, 3) := by decide +kernel
theorem dX3_lightAt_6 : decode cX3_lightAt 6 = .ok (.i2f, 1) := by decide +kernel
theorem dX3_lightAt_7 : decode cX3_lightAt 7 = .ok (.aload_n 0, 1) := by decide +kernel
theorem dX3_lightAt_8 : decode cX3_lightAt 8 = .ok (.getfield 15, 3) := by decide +kernel
theorem dX3_lightAt_11 : decode cX3_lightAt 11 = .ok (.iload_n 2, 1) := by decide +kernel
theorem dX3_lightAt_12 : decode cX3_lightAt 12 = .ok (.faload, 1) := by decide +kernel
theorem dX3_lightAt_13 : decode cX3_lightAt 13 = .ok (.fmul, 1) := by decide +kernel
theorem dX3_lightAt_14 : decode cX3_lightAt 14 = .ok (.iload_n 3, 1) := by decide +kernel
theorem dX3_lightAt_15 : decode cX3_lightAt 15 = .ok (.i2f, 1) := by decide +kernel
theorem dX3_lightAt_16 : decode cX3_lightAt 16 = .ok (.fmul, 1) := by decide +kernel
theorem dX3_lightAt_17 : decode cX3_lightAt 17 = .ok (.ldc 28, 2) := by decide +kernel
theorem dX3_lightAt_19 : decode cX3_lightAt 19 = .ok (.fdiv, 1) := by decide +kernel
theorem dX3_lightAt_20 : decode cX3_lightAt 20 = .ok (.freturn, 1) := by decide +kernel
theorem dX4_init_0 : decode cX4_init 0 = .ok (.aload_n 0, 1) := by decide +kernel
theorem dX4_init_1 : decode cX4_init 1 = .ok (.invokespecial 3, 3) := by decide +kernel
theorem dX4_init_4 : decode cX4_init 4 = .ok (.aload_n 0, 1) := by decide +kernel
theorem dX4_init_5 : decode cX4_init 5 = .ok (.bipush 64, 2) := by decide +kernel
theorem dX4_init_7 : decode cX4_init 7 = .ok (.newarray .int, 2) := by decide +kernel
theorem dX4_init_9 : decode cX4_init 9 = .ok (.putfield 9, 3) := by decide +kernel
theorem dX4_init_12 : decode cX4_init 12 = .ok (.aload_n 0, 1) := by decide +kernel
theorem dX4_init_13 : decode cX4_init 13 = .ok (.bipush 64, 2) := by decide +kernel
theorem dX4_init_15 : decode cX4_init 15 = .ok (.newarray .boolean, 2) := by decide +kernel
theorem dX4_init_17 : decode cX4_init 17 = .ok (.putfield 15, 3) := by decide +kernel
theorem dX4_init_20 : decode cX4_init 20 = .ok (.aload_n 0, 1) := by decide +kernel
theorem dX4_init_21 : decode cX4_init 21 = .ok (.iconst 0, 1) := by decide +kernel
theorem dX4_init_22 : decode cX4_init 22 = .ok (.putfield 19, 3) := by decide +kernel
theorem dX4_init_25 : decode cX4_init 25 = .ok (.return_, 1) := by decide +kernel
theorem dX4_howIs_0 : decode cX4_howIs 0 = .ok (.aload_n 0, 1) := by decide +kernel
theorem dX4_howIs_1 : decode cX4_howIs 1 = .ok (.getfield 9, 3) := by decide +kernel
theorem dX4_howIs_4 : decode cX4_howIs 4 = .ok (.iload_n 1, 1) := by decide +kernel
theorem dX4_howIs_5 : decode cX4_howIs 5 = .ok (.iaload, 1) := by decide +kernel
theorem dX4_howIs_6 : decode cX4_howIs 6 = .ok (.ireturn, 1) := by decide +kernel
theorem dX4_setHow_0 : decode cX4_setHow 0 = .ok (.aload_n 0, 1) := by decide +kernel
theorem dX4_setHow_1 : decode cX4_setHow 1 = .ok (.getfield 9, 3) := by decide +kernel
theorem dX4_setHow_4 : decode cX4_setHow 4 = .ok (.iload_n 1, 1) := by decide +kernel
theorem dX4_setHow_5 : decode cX4_setHow 5 = .ok (.iload_n 2, 1) := by decide +kernel
theorem dX4_setHow_6 : decode cX4_setHow 6 = .ok (.iastore, 1) := by decide +kernel
theorem dX4_setHow_7 : decode cX4_setHow 7 = .ok (.return_, 1) := by decide +kernel
theorem dX4_isMapped_0 : decode cX4_isMapped 0 = .ok (.aload_n 0, 1) := by decide +kernel
theorem dX4_isMapped_1 : decode cX4_isMapped 1 = .ok (.getfield 15, 3) := by decide +kernel
theorem dX4_isMapped_4 : decode cX4_isMapped 4 = .ok (.iload_n 1, 1) := by decide +kernel
theorem dX4_isMapped_5 : decode cX4_isMapped 5 = .ok (.baload, 1) := by decide +kernel
theorem dX4_isMapped_6 : decode cX4_isMapped 6 = .ok (.ireturn, 1) := by decide +kernel
theorem dX4_setMapped_0 : decode cX4_setMapped 0 = .ok (.aload_n 0, 1) := by decide +kernel
theorem dX4_setMapped_1 : decode cX4_setMapped 1 = .ok (.getfield 15, 3) := by decide +kernel
theorem dX4_setMapped_4 : decode cX4_setMapped 4 = .ok (.iload_n 1, 1) := by decide +kernel
theorem dX4_setMapped_5 : decode cX4_setMapped 5 = .ok (.iload_n 2, 1) := by decide +kernel
theorem dX4_setMapped_6 : decode cX4_setMapped 6 = .ok (.bastore, 1) := by decide +kernel
theorem dX4_setMapped_7 : decode cX4_setMapped 7 = .ok (.return_, 1) := by decide +kernel
theorem dX4_countMapped_0 : decode cX4_countMapped 0 = .ok (.iconst 0, 1) := by decide +kernel
theorem dX4_countMapped_1 : decode cX4_countMapped 1 = .ok (.istore_n 1, 1) := by decide +kernel
theorem dX4_countMapped_2 : decode cX4_countMapped 2 = .ok (.iconst 0, 1) := by decide +kernel
theorem dX4_countMapped_3 : decode cX4_countMapped 3 = .ok (.istore_n 2, 1) := by decide +kernel
theorem dX4_countMapped_4 : decode cX4_countMapped 4 = .ok (.iload_n 2, 1) := by decide +kernel
theorem dX4_countMapped_5 : decode cX4_countMapped 5 = .ok (.bipush 64, 2) := by decide +kernel
theorem dX4_countMapped_7 : decode cX4_countMapped 7 = .ok (.if_icmp .ge 21, 3) := by decide +kernel
theorem dX4_countMapped_10 : decode cX4_countMapped 10 = .ok (.aload_n 0, 1) := by decide +kernel
theorem dX4_countMapped_11 : decode cX4_countMapped 11 = .ok (.getfield 15, 3) := by decide +kernel
theorem dX4_countMapped_14 : decode cX4_countMapped 14 = .ok (.iload_n 2, 1) := by decide +kernel
theorem dX4_countMapped_15 : decode cX4_countMapped 15 = .ok (.baload, 1) := by decide +kernel
theorem dX4_countMapped_16 : decode cX4_countMapped 16 = .ok (.ifCond .eq 6, 3) := by decide +kernel
theorem dX4_countMapped_19 : decode cX4_countMapped 19 = .ok (.iinc 1 1, 3) := by decide +kernel
theorem dX4_countMapped_22 : decode cX4_countMapped 22 = .ok (.iinc 2 1, 3) := by decide +kernel
theorem dX4_countMapped_25 : decode cX4_countMapped 25 = .ok (.goto (-21), 3) := by decide +kernel
theorem dX4_countMapped_28 : decode cX4_countMapped 28 = .ok (.iload_n 1, 1) := by decide +kernel
theorem dX4_countMapped_29 : decode cX4_countMapped 29 = .ok (.ireturn, 1) := by decide +kernel
theorem dX4_countSpoilt_0 : decode cX4_countSpoilt 0 = .ok (.iconst 0, 1) := by decide +kernel
theorem dX4_countSpoilt_1 : decode cX4_countSpoilt 1 = .ok (.istore_n 2, 1) := by decide +kernel
theorem dX4_countSpoilt_2 : decode cX4_countSpoilt 2 = .ok (.iconst 0, 1) := by decide +kernel
theorem dX4_countSpoilt_3 : decode cX4_countSpoilt 3 = .ok (.istore_n 3, 1) := by decide +kernel
theorem dX4_countSpoilt_4 : decode cX4_countSpoilt 4 = .ok (.iload_n 3, 1) := by decide +kernel
theorem dX4_countSpoilt_5 : decode cX4_countSpoilt 5 = .ok (.bipush 64, 2) := by decide +kernel
theorem dX4_countSpoilt_7 : decode cX4_countSpoilt 7 = .ok (.if_icmp .ge 34, 3) := by decide +kernel
theorem dX4_countSpoilt_10 : decode cX4_countSpoilt 10 = .ok (.aload_n 0, 1) := by decide +kernel
theorem dX4_countSpoilt_11 : decode cX4_countSpoilt 11 = .ok (.getfield 9, 3) := by decide +kernel
theorem dX4_countSpoilt_14 : decode cX4_countSpoilt 14 = .ok (.iload_n 3, 1) := by decide +kernel
theorem dX4_countSpoilt_15 : decode cX4_countSpoilt 15 = .ok (.iaload, 1) := by decide +kernel
theorem dX4_countSpoilt_16 : decode cX4_countSpoilt 16 = .ok (.ifCond .eq 19, 3) := by decide +kernel
theorem dX4_countSpoilt_19 : decode cX4_countSpoilt 19 = .ok (.iload_n 1, 1) := by decide +kernel
theorem dX4_countSpoilt_20 : decode cX4_countSpoilt 20 = .ok (.ifCond .ne 12, 3) := by decide +kernel
theorem dX4_countSpoilt_23 : decode cX4_countSpoilt 23 = .ok (.aload_n 0, 1) := by decide +kernel
theorem dX4_countSpoilt_24 : decode cX4_countSpoilt 24 = .ok (.getfield 15, 3) := by decide +kernel
theorem dX4_countSpoilt_27 : decode cX4_countSpoilt 27 = .ok (.iload_n 3, 1) := by decide +kernel
theorem dX4_countSpoilt_28 : decode cX4_countSpoilt 28 = .ok (.baload, 1) := by decide +kernel
theorem dX4_countSpoilt_29 : decode cX4_countSpoilt 29 = .ok (.ifCond .ne 6, 3) := by decide +kernel
theorem dX4_countSpoilt_32 : decode cX4_countSpoilt 32 = .ok (.iinc 2 1, 3) := by decide +kernel
theorem dX4_countSpoilt_35 : decode cX4_countSpoilt 35 = .ok (.iinc 3 1, 3) := by decide +kernel
theorem dX4_countSpoilt_38 : decode cX4_countSpoilt 38 = .ok (.goto (-34), 3) := by decide +kernel
theorem dX4_countSpoilt_41 : decode cX4_countSpoilt 41 = .ok (.iload_n 2, 1) := by decide +kernel
theorem dX4_countSpoilt_42 : decode cX4_countSpoilt 42 = .ok (.ireturn, 1) := by decide +kernel
theorem dX4_advance_0 : decode cX4_advance 0 = .ok (.aload_n 0, 1) := by decide +kernel
theorem dX4_advance_1 : decode cX4_advance 1 = .ok (.iload_n 1, 1) := by decide +kernel
theorem dX4_advance_2 : decode cX4_advance 2 = .ok (.putfield 19, 3) := by decide +kernel
theorem dX4_advance_5 : decode cX4_advance 5 = .ok (.return_, 1) := by decide +kernel
theorem dX4_expose_0 : decode cX4_expose 0 = .ok (.aload_n 0, 1) := by decide +kernel
theorem dX4_expose_1 : decode cX4_expose 1 = .ok (.getfield 19, 3) := by decide +kernel
theorem dX4_expose_4 : decode cX4_expose 4 = .ok (.istore 5, 2) := by decide +kernel
theorem dX4_expose_6 : decode cX4_expose 6 = .ok (.iconst 0, 1) := by decide +kernel
theorem dX4_expose_7 : decode cX4_expose 7 = .ok (.istore 6, 2) := by decide +kernel
theorem dX4_expose_9 : decode cX4_expose 9 = .ok (.iload 6, 2) := by decide +kernel
theorem dX4_expose_11 : decode cX4_expose 11 = .ok (.bipush 8, 2) := by decide +kernel
theorem dX4_expose_13 : decode cX4_expose 13 = .ok (.if_icmp .ge 84, 3) := by decide +kernel
theorem dX4_expose_16 : decode cX4_expose 16 = .ok (.iconst 0, 1) := by decide +kernel
theorem dX4_expose_17 : decode cX4_expose 17 = .ok (.istore 7, 2) := by decide +kernel
theorem dX4_expose_19 : decode cX4_expose 19 = .ok (.iload 7, 2) := by decide +kernel
theorem dX4_expose_21 : decode cX4_expose 21 = .ok (.bipush 8, 2) := by decide +kernel
theorem dX4_expose_23 : decode cX4_expose 23 = .ok (.if_icmp .ge 68, 3) := by decide +kernel
theorem dX4_expose_26 : decode cX4_expose 26 = .ok (.iload 7, 2) := by decide +kernel
theorem dX4_expose_28 : decode cX4_expose 28 = .ok (.iload 6, 2) := by decide +kernel
theorem dX4_expose_30 : decode cX4_expose 30 = .ok (.invokestatic 23, 3) := by decide +kernel
theorem dX4_expose_33 : decode cX4_expose 33 = .ok (.istore 8, 2) := by decide +kernel
theorem dX4_expose_35 : decode cX4_expose 35 = .ok (.iconst 2, 1) := by decide +kernel
theorem dX4_expose_36 : decode cX4_expose 36 = .ok (.iload 5, 2) := by decide +kernel
theorem dX4_expose_38 : decode cX4_expose 38 = .ok (.imul, 1) := by decide +kernel
theorem dX4_expose_39 : decode cX4_expose 39 = .ok (.iconst 5, 1) := by decide +kernel
theorem dX4_expose_40 : decode cX4_expose 40 = .ok (.iadd, 1) := by decide +kernel
theorem dX4_expose_41 : decode cX4_expose 41 = .ok (.bipush 61, 2) := by decide +kernel
theorem dX4_expose_43 : decode cX4_expose 43 = .ok (.irem, 1) := by decide +kernel
theorem dX4_expose_44 : decode cX4_expose 44 = .ok (.istore 5, 2) := by decide +kernel
theorem dX4_expose_46 : decode cX4_expose 46 = .ok (.aload_n 1, 1) := by decide +kernel
theorem dX4_expose_47 : decode cX4_expose 47 = .ok (.iload 8, 2) := by decide +kernel
theorem dX4_expose_49 : decode cX4_expose 49 = .ok (.iload 7, 2) := by decide +kernel
theorem dX4_expose_51 : decode cX4_expose 51 = .ok (.iload 6, 2) := by decide +kernel
theorem dX4_expose_53 : decode cX4_expose 53 = .ok (.invokestatic 27, 3) := by decide +kernel
theorem dX4_expose_56 : decode cX4_expose 56 = .ok (.iload_n 2, 1) := by decide +kernel
theorem dX4_expose_57 : decode cX4_expose 57 = .ok (.invokevirtual 30, 3) := by decide +kernel
theorem dX4_expose_60 : decode cX4_expose 60 = .ok (.fstore 9, 2) := by decide +kernel
theorem dX4_expose_62 : decode cX4_expose 62 = .ok (.aload 4, 2) := by decide +kernel
theorem dX4_expose_64 : decode cX4_expose 64 = .ok (.getfield 36, 3) := by decide +kernel
theorem dX4_expose_67 : decode cX4_expose 67 = .ok (.iload 8, 2) := by decide +kernel
theorem dX4_expose_69 : decode cX4_expose 69 = .ok (.aload_n 0, 1) := by decide +kernel
theorem dX4_expose_70 : decode cX4_expose 70 = .ok (.getfield 9, 3) := by decide +kernel
theorem dX4_expose_73 : decode cX4_expose 73 = .ok (.iload 8, 2) := by decide +kernel
theorem dX4_expose_75 : decode cX4_expose 75 = .ok (.iaload, 1) := by decide +kernel
theorem dX4_expose_76 : decode cX4_expose 76 = .ok (.fload 9, 2) := by decide +kernel
theorem dX4_expose_78 : decode cX4_expose 78 = .ok (.iload_n 3, 1) := by decide +kernel
theorem dX4_expose_79 : decode cX4_expose 79 = .ok (.iload 5, 2) := by decide +kernel
theorem dX4_expose_81 : decode cX4_expose 81 = .ok (.invokestatic 41, 3) := by decide +kernel
theorem dX4_expose_84 : decode cX4_expose 84 = .ok (.iastore, 1) := by decide +kernel
theorem dX4_expose_85 : decode cX4_expose 85 = .ok (.iinc 7 1, 3) := by decide +kernel
theorem dX4_expose_88 : decode cX4_expose 88 = .ok (.goto (-69), 3) := by decide +kernel
theorem dX4_expose_91 : decode cX4_expose 91 = .ok (.iinc 6 1, 3) := by decide +kernel
theorem dX4_expose_94 : decode cX4_expose 94 = .ok (.goto (-85), 3) := by decide +kernel
theorem dX4_expose_97 : decode cX4_expose 97 = .ok (.aload 4, 2) := by decide +kernel
theorem dX4_expose_99 : decode cX4_expose 99 = .ok (.iload_n 2, 1) := by decide +kernel
theorem dX4_expose_100 : decode cX4_expose 100 = .ok (.putfield 45, 3) := by decide +kernel
theorem dX4_expose_103 : decode cX4_expose 103 = .ok (.aload 4, 2) := by decide +kernel
theorem dX4_expose_105 : decode cX4_expose 105 = .ok (.iload_n 3, 1) := by decide +kernel
theorem dX4_expose_106 : decode cX4_expose 106 = .ok (.putfield 48, 3) := by decide +kernel
theorem dX4_expose_109 : decode cX4_expose 109 = .ok (.iload 5, 2) := by decide +kernel
theorem dX4_expose_111 : decode cX4_expose 111 = .ok (.ireturn, 1) := by decide +kernel
theorem dX4_rawOf_0 : decode cX4_rawOf 0 = .ok (.iload_n 0, 1) := by decide +kernel
theorem dX4_rawOf_1 : decode cX4_rawOf 1 = .ok (.iconst 1, 1) := by decide +kernel
theorem dX4_rawOf_2 : decode cX4_rawOf 2 = .ok (.if_icmp .ne 5, 3) := by decide +kernel
theorem dX4_rawOf_5 : decode cX4_rawOf 5 = .ok (.iconst 0, 1) := by decide +kernel
theorem dX4_rawOf_6 : decode cX4_rawOf 6 = .ok (.ireturn, 1) := by decide +kernel
theorem dX4_rawOf_7 : decode cX4_rawOf 7 = .ok (.iload_n 0, 1) := by decide +kernel
theorem dX4_rawOf_8 : decode cX4_rawOf 8 = .ok (.iconst 2, 1) := by decide +kernel
theorem dX4_rawOf_9 : decode cX4_rawOf 9 = .ok (.if_icmp .ne 7, 3) := by decide +kernel
theorem dX4_rawOf_12 : decode cX4_rawOf 12 = .ok (.sipush 255, 3) := by decide +kernel
theorem dX4_rawOf_15 : decode cX4_rawOf 15 = .ok (.ireturn, 1) := by decide +kernel
theorem dX4_rawOf_16 : decode cX4_rawOf 16 = .ok (.fload_n 1, 1) := by decide +kernel
theorem dX4_rawOf_17 : decode cX4_rawOf 17 = .ok (.f2i, 1) := by decide +kernel
theorem dX4_rawOf_18 : decode cX4_rawOf 18 = .ok (.sipush 255, 3) := by decide +kernel
theorem dX4_rawOf_21 : decode cX4_rawOf 21 = .ok (.invokestatic 51, 3) := by decide +kernel
theorem dX4_rawOf_24 : decode cX4_rawOf 24 = .ok (.istore 4, 2) := by decide +kernel
theorem dX4_rawOf_26 : decode cX4_rawOf 26 = .ok (.iconst 0, 1) := by decide +kernel
theorem dX4_rawOf_27 : decode cX4_rawOf 27 = .ok (.sipush 255, 3) := by decide +kernel
theorem dX4_rawOf_30 : decode cX4_rawOf 30 = .ok (.bipush 16, 2) := by decide +kernel
theorem dX4_rawOf_32 : decode cX4_rawOf 32 = .ok (.iload 4, 2) := by decide +kernel
theorem dX4_rawOf_34 : decode cX4_rawOf 34 = .ok (.iload_n 2, 1) := by decide +kernel
theorem dX4_rawOf_35 : decode cX4_rawOf 35 = .ok (.imul, 1) := by decide +kernel
theorem dX4_rawOf_36 : decode cX4_rawOf 36 = .ok (.iadd, 1) := by decide +kernel
theorem dX4_rawOf_37 : decode cX4_rawOf 37 = .ok (.iload_n 3, 1) := by decide +kernel
theorem dX4_rawOf_38 : decode cX4_rawOf 38 = .ok (.bipush 8, 2) := by decide +kernel
theorem dX4_rawOf_40 : decode cX4_rawOf 40 = .ok (.irem, 1) := by decide +kernel
theorem dX4_rawOf_41 : decode cX4_rawOf 41 = .ok (.iadd, 1) := by decide +kernel
theorem dX4_rawOf_42 : decode cX4_rawOf 42 = .ok (.iconst 4, 1) := by decide +kernel
theorem dX4_rawOf_43 : decode cX4_rawOf 43 = .ok (.isub, 1) := by decide +kernel
theorem dX4_rawOf_44 : decode cX4_rawOf 44 = .ok (.invokestatic 51, 3) := by decide +kernel
theorem dX4_rawOf_47 : decode cX4_rawOf 47 = .ok (.invokestatic 56, 3) := by decide +kernel
theorem dX4_rawOf_50 : decode cX4_rawOf 50 = .ok (.ireturn, 1) := by decide +kernel
theorem dX5_init_0 : decode cX5_init 0 = .ok (.aload_n 0, 1) := by decide +kernel
theorem dX5_init_1 : decode cX5_init 1 = .ok (.invokespecial 1, 3) := by decide +kernel
theorem dX5_init_4 : decode cX5_init 4 = .ok (.aload_n 0, 1) := by decide +kernel
theorem dX5_init_5 : decode cX5_init 5 = .ok (.new 7, 3) := by decide +kernel
theorem dX5_init_8 : decode cX5_init 8 = .ok (.dup, 1) := by decide +kernel
theorem dX5_init_9 : decode cX5_init 9 = .ok (.invokespecial 9, 3) := by decide +kernel
theorem dX5_init_12 : decode cX5_init 12 = .ok (.putfield 10, 3) := by decide +kernel
theorem dX5_init_15 : decode cX5_init 15 = .ok (.aload_n 0, 1) := by decide +kernel
theorem dX5_init_16 : decode cX5_init 16 = .ok (.iconst 0, 1) := by decide +kernel
theorem dX5_init_17 : decode cX5_init 17 = .ok (.putfield 16, 3) := by decide +kernel
theorem dX5_init_20 : decode cX5_init 20 = .ok (.aload_n 0, 1) := by decide +kernel
theorem dX5_init_21 : decode cX5_init 21 = .ok (.iconst 0, 1) := by decide +kernel
theorem dX5_init_22 : decode cX5_init 22 = .ok (.putfield 20, 3) := by decide +kernel
theorem dX5_init_25 : decode cX5_init 25 = .ok (.return_, 1) := by decide +kernel
theorem dX5_keep_0 : decode cX5_keep 0 = .ok (.aload_n 0, 1) := by decide +kernel
theorem dX5_keep_1 : decode cX5_keep 1 = .ok (.iload_n 1, 1) := by decide +kernel
theorem dX5_keep_2 : decode cX5_keep 2 = .ok (.putfield 16, 3) := by decide +kernel
theorem dX5_keep_5 : decode cX5_keep 5 = .ok (.aload_n 0, 1) := by decide +kernel
theorem dX5_keep_6 : decode cX5_keep 6 = .ok (.iload_n 2, 1) := by decide +kernel
theorem dX5_keep_7 : decode cX5_keep 7 = .ok (.putfield 20, 3) := by decide +kernel
theorem dX5_keep_10 : decode cX5_keep 10 = .ok (.aload_n 0, 1) := by decide +kernel
theorem dX5_keep_11 : decode cX5_keep 11 = .ok (.getfield 10, 3) := by decide +kernel
theorem dX5_keep_14 : decode cX5_keep 14 = .ok (.aload_n 3, 1) := by decide +kernel
theorem dX5_keep_15 : decode cX5_keep 15 = .ok (.invokevirtual 23, 3) := by decide +kernel
theorem dX5_keep_18 : decode cX5_keep 18 = .ok (.return_, 1) := by decide +kernel
theorem dX6_init_0 : decode cX6_init 0 = .ok (.aload_n 0, 1) := by decide +kernel
theorem dX6_init_1 : decode cX6_init 1 = .ok (.invokespecial 3, 3) := by decide +kernel
theorem dX6_init_4 : decode cX6_init 4 = .ok (.aload_n 0, 1) := by decide +kernel
theorem dX6_init_5 : decode cX6_init 5 = .ok (.new 9, 3) := by decide +kernel
theorem dX6_init_8 : decode cX6_init 8 = .ok (.dup, 1) := by decide +kernel
theorem dX6_init_9 : decode cX6_init 9 = .ok (.invokespecial 11, 3) := by decide +kernel
theorem dX6_init_12 : decode cX6_init 12 = .ok (.putfield 12, 3) := by decide +kernel
theorem dX6_init_15 : decode cX6_init 15 = .ok (.aload_n 0, 1) := by decide +kernel
theorem dX6_init_16 : decode cX6_init 16 = .ok (.new 16, 3) := by decide +kernel
theorem dX6_init_19 : decode cX6_init 19 = .ok (.dup, 1) := by decide +kernel
theorem dX6_init_20 : decode cX6_init 20 = .ok (.invokespecial 18, 3) := by decide +kernel
theorem dX6_init_23 : decode cX6_init 23 = .ok (.putfield 19, 3) := by decide +kernel
theorem dX6_init_26 : decode cX6_init 26 = .ok (.aload_n 0, 1) := by decide +kernel
theorem dX6_init_27 : decode cX6_init 27 = .ok (.bipush 6, 2) := by decide +kernel
theorem dX6_init_29 : decode cX6_init 29 = .ok (.anewarray 23, 3) := by decide +kernel
theorem dX6_init_32 : decode cX6_init 32 = .ok (.putfield 25, 3) := by decide +kernel
theorem dX6_init_35 : decode cX6_init 35 = .ok (.aload_n 0, 1) := by decide +kernel
theorem dX6_init_36 : decode cX6_init 36 = .ok (.bipush 6, 2) := by decide +kernel
theorem dX6_init_38 : decode cX6_init 38 = .ok (.anewarray 29, 3) := by decide +kernel
theorem dX6_init_41 : decode cX6_init 41 = .ok (.putfield 31, 3) := by decide +kernel
theorem dX6_init_44 : decode cX6_init 44 = .ok (.aload_n 0, 1) := by decide +kernel
theorem dX6_init_45 : decode cX6_init 45 = .ok (.iconst 0, 1) := by decide +kernel
theorem dX6_init_46 : decode cX6_init 46 = .ok (.putfield 35, 3) := by decide +kernel
theorem dX6_init_49 : decode cX6_init 49 = .ok (.aload_n 0, 1) := by decide +kernel
theorem dX6_init_50 : decode cX6_init 50 = .ok (.iconst 0, 1) := by decide +kernel
theorem dX6_init_51 : decode cX6_init 51 = .ok (.putfield 39, 3) := by decide +kernel
theorem dX6_init_54 : decode cX6_init 54 = .ok (.aload_n 0, 1) := by decide +kernel
theorem dX6_init_55 : decode cX6_init 55 = .ok (.new 23, 3) := by decide +kernel
theorem dX6_init_58 : decode cX6_init 58 = .ok (.dup, 1) := by decide +kernel
theorem dX6_init_59 : decode cX6_init 59 = .ok (.invokespecial 42, 3) := by decide +kernel
theorem dX6_init_62 : decode cX6_init 62 = .ok (.putfield 43, 3) := by decide +kernel
theorem dX6_init_65 : decode cX6_init 65 = .ok (.aload_n 0, 1) := by decide +kernel
theorem dX6_init_66 : decode cX6_init 66 = .ok (.new 47, 3) := by decide +kernel
theorem dX6_init_69 : decode cX6_init 69 = .ok (.dup, 1) := by decide +kernel
theorem dX6_init_70 : decode cX6_init 70 = .ok (.invokespecial 49, 3) := by decide +kernel
theorem dX6_init_73 : decode cX6_init 73 = .ok (.putfield 50, 3) := by decide +kernel
theorem dX6_init_76 : decode cX6_init 76 = .ok (.aload_n 0, 1) := by decide +kernel
theorem dX6_init_77 : decode cX6_init 77 = .ok (.new 47, 3) := by decide +kernel
theorem dX6_init_80 : decode cX6_init 80 = .ok (.dup, 1) := by decide +kernel
theorem dX6_init_81 : decode cX6_init 81 = .ok (.invokespecial 49, 3) := by decide +kernel
theorem dX6_init_84 : decode cX6_init 84 = .ok (.putfield 54, 3) := by decide +kernel
theorem dX6_init_87 : decode cX6_init 87 = .ok (.iconst 0, 1) := by decide +kernel
theorem dX6_init_88 : decode cX6_init 88 = .ok (.istore_n 1, 1) := by decide +kernel
theorem dX6_init_89 : decode cX6_init 89 = .ok (.iload_n 1, 1) := by decide +kernel
theorem dX6_init_90 : decode cX6_init 90 = .ok (.bipush 6, 2) := by decide +kernel
theorem dX6_init_92 : decode cX6_init 92 = .ok (.if_icmp .ge 22, 3) := by decide +kernel
theorem dX6_init_95 : decode cX6_init 95 = .ok (.aload_n 0, 1) := by decide +kernel
theorem dX6_init_96 : decode cX6_init 96 = .ok (.getfield 25, 3) := by decide +kernel
theorem dX6_init_99 : decode cX6_init 99 = .ok (.iload_n 1, 1) := by decide +kernel
theorem dX6_init_100 : decode cX6_init 100 = .ok (.new 23, 3) := by decide +kernel
theorem dX6_init_103 : decode cX6_init 103 = .ok (.dup, 1) := by decide +kernel
theorem dX6_init_104 : decode cX6_init 104 = .ok (.invokespecial 42, 3) := by decide +kernel
theorem dX6_init_107 : decode cX6_init 107 = .ok (.aastore, 1) := by decide +kernel
theorem dX6_init_108 : decode cX6_init 108 = .ok (.iinc 1 1, 3) := by decide +kernel
theorem dX6_init_111 : decode cX6_init 111 = .ok (.goto (-22), 3) := by decide +kernel
theorem dX6_init_114 : decode cX6_init 114 = .ok (.iconst 0, 1) := by decide +kernel
theorem dX6_init_115 : decode cX6_init 115 = .ok (.istore_n 1, 1) := by decide +kernel
theorem dX6_init_116 : decode cX6_init 116 = .ok (.iload_n 1, 1) := by decide +kernel
theorem dX6_init_117 : decode cX6_init 117 = .ok (.bipush 6, 2) := by decide +kernel
theorem dX6_init_119 : decode cX6_init 119 = .ok (.if_icmp .ge 22, 3) := by decide +kernel
theorem dX6_init_122 : decode cX6_init 122 = .ok (.aload_n 0, 1) := by decide +kernel
theorem dX6_init_123 : decode cX6_init 123 = .ok (.getfield 31, 3) := by decide +kernel
theorem dX6_init_126 : decode cX6_init 126 = .ok (.iload_n 1, 1) := by decide +kernel
theorem dX6_init_127 : decode cX6_init 127 = .ok (.new 29, 3) := by decide +kernel
theorem dX6_init_130 : decode cX6_init 130 = .ok (.dup, 1) := by decide +kernel
theorem dX6_init_131 : decode cX6_init 131 = .ok (.invokespecial 57, 3) := by decide +kernel
theorem dX6_init_134 : decode cX6_init 134 = .ok (.aastore, 1) := by decide +kernel
theorem dX6_init_135 : decode cX6_init 135 = .ok (.iinc 1 1, 3) := by decide +kernel
theorem dX6_init_138 : decode cX6_init 138 = .ok (.goto (-22), 3) := by decide +kernel
theorem dX6_init_141 : decode cX6_init 141 = .ok (.return_, 1) := by decide +kernel
theorem dX6_paint_0 : decode cX6_paint 0 = .ok (.iload_n 1, 1) := by decide +kernel
theorem dX6_paint_1 : decode cX6_paint 1 = .ok (.iload_n 2, 1) := by decide +kernel
theorem dX6_paint_2 : decode cX6_paint 2 = .ok (.invokestatic 58, 3) := by decide +kernel
theorem dX6_paint_5 : decode cX6_paint 5 = .ok (.iload_n 3, 1) := by decide +kernel
theorem dX6_paint_6 : decode cX6_paint 6 = .ok (.iload 4, 2) := by decide +kernel
theorem dX6_paint_8 : decode cX6_paint 8 = .ok (.invokestatic 58, 3) := by decide +kernel
theorem dX6_paint_11 : decode cX6_paint 11 = .ok (.iload_n 3, 1) := by decide +kernel
theorem dX6_paint_12 : decode cX6_paint 12 = .ok (.iload_n 1, 1) := by decide +kernel
theorem dX6_paint_13 : decode cX6_paint 13 = .ok (.if_icmp .lt 9, 3) := by decide +kernel
theorem dX6_paint_16 : decode cX6_paint 16 = .ok (.iload 4, 2) := by decide +kernel
theorem dX6_paint_18 : decode cX6_paint 18 = .ok (.iload_n 2, 1) := by decide +kernel
theorem dX6_paint_19 : decode cX6_paint 19 = .ok (.if_icmp .ge 13, 3) := by decide +kernel
theorem dX6_paint_22 : decode cX6_paint 22 = .ok (.new 62, 3) := by decide +kernel
theorem dX6_paint_25 : decode cX6_paint 25 = .ok (.dup, 1) := by decide +kernel
theorem dX6_paint_26 : decode cX6_paint 26 = .ok (.ldc 64, 2) := by decide +kernel
theorem dX6_paint_28 : decode cX6_paint 28 = .ok (.invokespecial 66, 3) := by decide +kernel
theorem dX6_paint_31 : decode cX6_paint 31 = .ok (.athrow, 1) := by decide +kernel
theorem dX6_paint_32 : decode cX6_paint 32 = .ok (.iload 5, 2) := by decide +kernel
theorem dX6_paint_34 : decode cX6_paint 34 = .ok (.iconst 0, 1) := by decide +kernel
theorem dX6_paint_35 : decode cX6_paint 35 = .ok (.ldc 69, 2) := by decide +kernel
theorem dX6_paint_37 : decode cX6_paint 37 = .ok (.invokestatic 70, 3) := by decide +kernel
theorem dX6_paint_40 : decode cX6_paint 40 = .ok (.iload_n 2, 1) := by decide +kernel
theorem dX6_paint_41 : decode cX6_paint 41 = .ok (.istore 6, 2) := by decide +kernel
theorem dX6_paint_43 : decode cX6_paint 43 = .ok (.iload 6, 2) := by decide +kernel
theorem dX6_paint_45 : decode cX6_paint 45 = .ok (.iload 4, 2) := by decide +kernel
theorem dX6_paint_47 : decode cX6_paint 47 = .ok (.if_icmp .gt 40, 3) := by decide +kernel
theorem dX6_paint_50 : decode cX6_paint 50 = .ok (.iload_n 1, 1) := by decide +kernel
theorem dX6_paint_51 : decode cX6_paint 51 = .ok (.istore 7, 2) := by decide +kernel
theorem dX6_paint_53 : decode cX6_paint 53 = .ok (.iload 7, 2) := by decide +kernel
theorem dX6_paint_55 : decode cX6_paint 55 = .ok (.iload_n 3, 1) := by decide +kernel
theorem dX6_paint_56 : decode cX6_paint 56 = .ok (.if_icmp .gt 25, 3) := by decide +kernel
theorem dX6_paint_59 : decode cX6_paint 59 = .ok (.aload_n 0, 1) := by decide +kernel
theorem dX6_paint_60 : decode cX6_paint 60 = .ok (.getfield 12, 3) := by decide +kernel
theorem dX6_paint_63 : decode cX6_paint 63 = .ok (.iload 7, 2) := by decide +kernel
theorem dX6_paint_65 : decode cX6_paint 65 = .ok (.iload 6, 2) := by decide +kernel
theorem dX6_paint_67 : decode cX6_paint 67 = .ok (.invokestatic 74, 3) := by decide +kernel
theorem dX6_paint_70 : decode cX6_paint 70 = .ok (.iload 5, 2) := by decide +kernel
theorem dX6_paint_72 : decode cX6_paint 72 = .ok (.invokevirtual 78, 3) := by decide +kernel
theorem dX6_paint_75 : decode cX6_paint 75 = .ok (.iinc 7 1, 3) := by decide +kernel
theorem dX6_paint_78 : decode cX6_paint 78 = .ok (.goto (-25), 3) := by decide +kernel
theorem dX6_paint_81 : decode cX6_paint 81 = .ok (.iinc 6 1, 3) := by decide +kernel
theorem dX6_paint_84 : decode cX6_paint 84 = .ok (.goto (-41), 3) := by decide +kernel
theorem dX6_paint_87 : decode cX6_paint 87 = .ok (.iload_n 3, 1) := by decide +kernel
theorem dX6_paint_88 : decode cX6_paint 88 = .ok (.iload_n 1, 1) := by decide +kernel
theorem dX6_paint_89 : decode cX6_paint 89 = .ok (.isub, 1) := by decide +kernel
theorem dX6_paint_90 : decode cX6_paint 90 = .ok (.iconst 1, 1) := by decide +kernel
theorem dX6_paint_91 : decode cX6_paint 91 = .ok (.iadd, 1) := by decide +kernel
theorem dX6_paint_92 : decode cX6_paint 92 = .ok (.iload 4, 2) := by decide +kernel
theorem dX6_paint_94 : decode cX6_paint 94 = .ok (.iload_n 2, 1) := by decide +kernel
theorem dX6_paint_95 : decode cX6_paint 95 = .ok (.isub, 1) := by decide +kernel
theorem dX6_paint_96 : decode cX6_paint 96 = .ok (.iconst 1, 1) := by decide +kernel
theorem dX6_paint_97 : decode cX6_paint 97 = .ok (.iadd, 1) := by decide +kernel
theorem dX6_paint_98 : decode cX6_paint 98 = .ok (.imul, 1) := by decide +kernel
theorem dX6_paint_99 : decode cX6_paint 99 = .ok (.ireturn, 1) := by decide +kernel
theorem dX6_lamp_0 : decode cX6_lamp 0 = .ok (.iload_n 1, 1) := by decide +kernel
theorem dX6_lamp_1 : decode cX6_lamp 1 = .ok (.iconst 1, 1) := by decide +kernel
theorem dX6_lamp_2 : decode cX6_lamp 2 = .ok (.bipush 16, 2) := by decide +kernel
theorem dX6_lamp_4 : decode cX6_lamp 4 = .ok (.invokestatic 70, 3) := by decide +kernel
theorem dX6_lamp_7 : decode cX6_lamp 7 = .ok (.iload_n 2, 1) := by decide +kernel
theorem dX6_lamp_8 : decode cX6_lamp 8 = .ok (.iconst 1, 1) := by decide +kernel
theorem dX6_lamp_9 : decode cX6_lamp 9 = .ok (.bipush 16, 2) := by decide +kernel
theorem dX6_lamp_11 : decode cX6_lamp 11 = .ok (.invokestatic 70, 3) := by decide +kernel
theorem dX6_lamp_14 : decode cX6_lamp 14 = .ok (.iload_n 3, 1) := by decide +kernel
theorem dX6_lamp_15 : decode cX6_lamp 15 = .ok (.iconst 1, 1) := by decide +kernel
theorem dX6_lamp_16 : decode cX6_lamp 16 = .ok (.bipush 16, 2) := by decide +kernel
theorem dX6_lamp_18 : decode cX6_lamp 18 = .ok (.invokestatic 70, 3) := by decide +kernel
theorem dX6_lamp_21 : decode cX6_lamp 21 = .ok (.aload_n 0, 1) := by decide +kernel
theorem dX6_lamp_22 : decode cX6_lamp 22 = .ok (.getfield 12, 3) := by decide +kernel
theorem dX6_lamp_25 : decode cX6_lamp 25 = .ok (.invokevirtual 81, 3) := by decide +kernel
theorem dX6_lamp_28 : decode cX6_lamp 28 = .ok (.istore 4, 2) := by decide +kernel
theorem dX6_lamp_30 : decode cX6_lamp 30 = .ok (.aload_n 0, 1) := by decide +kernel
theorem dX6_lamp_31 : decode cX6_lamp 31 = .ok (.getfield 12, 3) := by decide +kernel
theorem dX6_lamp_34 : decode cX6_lamp 34 = .ok (.iload_n 1, 1) := by decide +kernel
theorem dX6_lamp_35 : decode cX6_lamp 35 = .ok (.iload_n 2, 1) := by decide +kernel
theorem dX6_lamp_36 : decode cX6_lamp 36 = .ok (.iload_n 3, 1) := by decide +kernel
theorem dX6_lamp_37 : decode cX6_lamp 37 = .ok (.invokevirtual 85, 3) := by decide +kernel
theorem dX6_lamp_40 : decode cX6_lamp 40 = .ok (.iload 4, 2) := by decide +kernel
theorem dX6_lamp_42 : decode cX6_lamp 42 = .ok (.ireturn, 1) := by decide +kernel
theorem dX6_spoil_0 : decode cX6_spoil 0 = .ok (.iload_n 1, 1) := by decide +kernel
theorem dX6_spoil_1 : decode cX6_spoil 1 = .ok (.iload_n 2, 1) := by decide +kernel
theorem dX6_spoil_2 : decode cX6_spoil 2 = .ok (.invokestatic 58, 3) := by decide +kernel
theorem dX6_spoil_5 : decode cX6_spoil 5 = .ok (.iload_n 3, 1) := by decide +kernel
theorem dX6_spoil_6 : decode cX6_spoil 6 = .ok (.iconst 0, 1) := by decide +kernel
theorem dX6_spoil_7 : decode cX6_spoil 7 = .ok (.iconst 2, 1) := by decide +kernel
theorem dX6_spoil_8 : decode cX6_spoil 8 = .ok (.invokestatic 70, 3) := by decide +kernel
theorem dX6_spoil_11 : decode cX6_spoil 11 = .ok (.iload_n 1, 1) := by decide +kernel
theorem dX6_spoil_12 : decode cX6_spoil 12 = .ok (.iload_n 2, 1) := by decide +kernel
theorem dX6_spoil_13 : decode cX6_spoil 13 = .ok (.invokestatic 74, 3) := by decide +kernel
theorem dX6_spoil_16 : decode cX6_spoil 16 = .ok (.istore 4, 2) := by decide +kernel
theorem dX6_spoil_18 : decode cX6_spoil 18 = .ok (.aload_n 0, 1) := by decide +kernel
theorem dX6_spoil_19 : decode cX6_spoil 19 = .ok (.getfield 19, 3) := by decide +kernel
theorem dX6_spoil_22 : decode cX6_spoil 22 = .ok (.iload 4, 2) := by decide +kernel
theorem dX6_spoil_24 : decode cX6_spoil 24 = .ok (.invokevirtual 88, 3) := by decide +kernel
theorem dX6_spoil_27 : decode cX6_spoil 27 = .ok (.istore 5, 2) := by decide +kernel
theorem dX6_spoil_29 : decode cX6_spoil 29 = .ok (.aload_n 0, 1) := by decide +kernel
theorem dX6_spoil_30 : decode cX6_spoil 30 = .ok (.getfield 19, 3) := by decide +kernel
theorem dX6_spoil_33 : decode cX6_spoil 33 = .ok (.iload 4, 2) := by decide +kernel
theorem dX6_spoil_35 : decode cX6_spoil 35 = .ok (.iload_n 3, 1) := by decide +kernel
theorem dX6_spoil_36 : decode cX6_spoil 36 = .ok (.invokevirtual 92, 3) := by decide +kernel
theorem dX6_spoil_39 : decode cX6_spoil 39 = .ok (.iload 5, 2) := by decide +kernel
theorem dX6_spoil_41 : decode cX6_spoil 41 = .ok (.ireturn, 1) := by decide +kernel
theorem dX6_map_0 : decode cX6_map 0 = .ok (.iload_n 1, 1) := by decide +kernel
theorem dX6_map_1 : decode cX6_map 1 = .ok (.iload_n 2, 1) := by decide +kernel
theorem dX6_map_2 : decode cX6_map 2 = .ok (.invokestatic 58, 3) := by decide +kernel
theorem dX6_map_5 : decode cX6_map 5 = .ok (.aload_n 0, 1) := by decide +kernel
theorem dX6_map_6 : decode cX6_map 6 = .ok (.getfield 19, 3) := by decide +kernel
theorem dX6_map_9 : decode cX6_map 9 = .ok (.iload_n 1, 1) := by decide +kernel
theorem dX6_map_10 : decode cX6_map 10 = .ok (.iload_n 2, 1) := by decide +kernel
theorem dX6_map_11 : decode cX6_map 11 = .ok (.invokestatic 74, 3) := by decide +kernel
theorem dX6_map_14 : decode cX6_map 14 = .ok (.iload_n 3, 1) := by decide +kernel
theorem dX6_map_15 : decode cX6_map 15 = .ok (.invokevirtual 95, 3) := by decide +kernel
theorem dX6_map_18 : decode cX6_map 18 = .ok (.aload_n 0, 1) := by decide +kernel
theorem dX6_map_19 : decode cX6_map 19 = .ok (.getfield 19, 3) := by decide +kernel
theorem dX6_map_22 : decode cX6_map 22 = .ok (.invokevirtual 99, 3) := by decide +kernel
theorem dX6_map_25 : decode cX6_map 25 = .ok (.ireturn, 1) := by decide +kernel
theorem dX6_take_0 : decode cX6_take 0 = .ok (.iload_n 1, 1) := by decide +kernel
theorem dX6_take_1 : decode cX6_take 1 = .ok (.iload_n 2, 1) := by decide +kernel
theorem dX6_take_2 : decode cX6_take 2 = .ok (.invokestatic 102, 3) := by decide +kernel
theorem dX6_take_5 : decode cX6_take 5 = .ok (.aload_n 0, 1) := by decide +kernel
theorem dX6_take_6 : decode cX6_take 6 = .ok (.getfield 35, 3) := by decide +kernel
theorem dX6_take_9 : decode cX6_take 9 = .ok (.bipush 6, 2) := by decide +kernel
theorem dX6_take_11 : decode cX6_take 11 = .ok (.invokestatic 105, 3) := by decide +kernel
theorem dX6_take_14 : decode cX6_take 14 = .ok (.aload_n 0, 1) := by decide +kernel
theorem dX6_take_15 : decode cX6_take 15 = .ok (.getfield 35, 3) := by decide +kernel
theorem dX6_take_18 : decode cX6_take 18 = .ok (.istore_n 3, 1) := by decide +kernel
theorem dX6_take_19 : decode cX6_take 19 = .ok (.aload_n 0, 1) := by decide +kernel
theorem dX6_take_20 : decode cX6_take 20 = .ok (.getfield 19, 3) := by decide +kernel
theorem dX6_take_23 : decode cX6_take 23 = .ok (.aload_n 0, 1) := by decide +kernel
theorem dX6_take_24 : decode cX6_take 24 = .ok (.getfield 19, 3) := by decide +kernel
theorem dX6_take_27 : decode cX6_take 27 = .ok (.aload_n 0, 1) := by decide +kernel
theorem dX6_take_28 : decode cX6_take 28 = .ok (.getfield 12, 3) := by decide +kernel
theorem dX6_take_31 : decode cX6_take 31 = .ok (.iload_n 1, 1) := by decide +kernel
theorem dX6_take_32 : decode cX6_take 32 = .ok (.iload_n 2, 1) := by decide +kernel
theorem dX6_take_33 : decode cX6_take 33 = .ok (.aload_n 0, 1) := by decide +kernel
theorem dX6_take_34 : decode cX6_take 34 = .ok (.getfield 25, 3) := by decide +kernel
theorem dX6_take_37 : decode cX6_take 37 = .ok (.iload_n 3, 1) := by decide +kernel
theorem dX6_take_38 : decode cX6_take 38 = .ok (.aaload, 1) := by decide +kernel
theorem dX6_take_39 : decode cX6_take 39 = .ok (.invokevirtual 108, 3) := by decide +kernel
theorem dX6_take_42 : decode cX6_take 42 = .ok (.invokevirtual 112, 3) := by decide +kernel
theorem dX6_take_45 : decode cX6_take 45 = .ok (.aload_n 0, 1) := by decide +kernel
theorem dX6_take_46 : decode cX6_take 46 = .ok (.iload_n 3, 1) := by decide +kernel
theorem dX6_take_47 : decode cX6_take 47 = .ok (.iconst 1, 1) := by decide +kernel
theorem dX6_take_48 : decode cX6_take 48 = .ok (.iadd, 1) := by decide +kernel
theorem dX6_take_49 : decode cX6_take 49 = .ok (.putfield 35, 3) := by decide +kernel
theorem dX6_take_52 : decode cX6_take 52 = .ok (.iload_n 3, 1) := by decide +kernel
theorem dX6_take_53 : decode cX6_take 53 = .ok (.ireturn, 1) := by decide +kernel
theorem dX6_edit_0 : decode cX6_edit 0 = .ok (.aload_n 0, 1) := by decide +kernel
theorem dX6_edit_1 : decode cX6_edit 1 = .ok (.iload_n 1, 1) := by decide +kernel
theorem dX6_edit_2 : decode cX6_edit 2 = .ok (.invokevirtual 127, 3) := by decide +kernel
theorem dX6_edit_5 : decode cX6_edit 5 = .ok (.iload_n 2, 1) := by decide +kernel
theorem dX6_edit_6 : decode cX6_edit 6 = .ok (.iconst 0, 1) := by decide +kernel
theorem dX6_edit_7 : decode cX6_edit 7 = .ok (.iconst 5, 1) := by decide +kernel
theorem dX6_edit_8 : decode cX6_edit 8 = .ok (.invokestatic 70, 3) := by decide +kernel
theorem dX6_edit_11 : decode cX6_edit 11 = .ok (.iload_n 3, 1) := by decide +kernel
theorem dX6_edit_12 : decode cX6_edit 12 = .ok (.iload_n 2, 1) := by decide +kernel
theorem dX6_edit_13 : decode cX6_edit 13 = .ok (.invokestatic 130, 3) := by decide +kernel
theorem dX6_edit_16 : decode cX6_edit 16 = .ok (.iload_n 2, 1) := by decide +kernel
theorem dX6_edit_17 : decode cX6_edit 17 = .ok (.invokestatic 133, 3) := by decide +kernel
theorem dX6_edit_20 : decode cX6_edit 20 = .ok (.invokestatic 70, 3) := by decide +kernel
theorem dX6_edit_23 : decode cX6_edit 23 = .ok (.aload_n 0, 1) := by decide +kernel
theorem dX6_edit_24 : decode cX6_edit 24 = .ok (.getfield 25, 3) := by decide +kernel
theorem dX6_edit_27 : decode cX6_edit 27 = .ok (.iload_n 1, 1) := by decide +kernel
theorem dX6_edit_28 : decode cX6_edit 28 = .ok (.aaload, 1) := by decide +kernel
theorem dX6_edit_29 : decode cX6_edit 29 = .ok (.getfield 136, 3) := by decide +kernel
theorem dX6_edit_32 : decode cX6_edit 32 = .ok (.astore 4, 2) := by decide +kernel
theorem dX6_edit_34 : decode cX6_edit 34 = .ok (.aload 4, 2) := by decide +kernel
theorem dX6_edit_36 : decode cX6_edit 36 = .ok (.invokevirtual 140, 3) := by decide +kernel
theorem dX6_edit_39 : decode cX6_edit 39 = .ok (.bipush 6, 2) := by decide +kernel
theorem dX6_edit_41 : decode cX6_edit 41 = .ok (.invokestatic 105, 3) := by decide +kernel
theorem dX6_edit_44 : decode cX6_edit 44 = .ok (.aload 4, 2) := by decide +kernel
theorem dX6_edit_46 : decode cX6_edit 46 = .ok (.iload_n 2, 1) := by decide +kernel
theorem dX6_edit_47 : decode cX6_edit 47 = .ok (.iload_n 3, 1) := by decide +kernel
theorem dX6_edit_48 : decode cX6_edit 48 = .ok (.invokevirtual 145, 3) := by decide +kernel
theorem dX6_edit_51 : decode cX6_edit 51 = .ok (.aload 4, 2) := by decide +kernel
theorem dX6_edit_53 : decode cX6_edit 53 = .ok (.invokevirtual 140, 3) := by decide +kernel
theorem dX6_edit_56 : decode cX6_edit 56 = .ok (.ireturn, 1) := by decide +kernel
theorem dX6_undo_0 : decode cX6_undo 0 = .ok (.aload_n 0, 1) := by decide +kernel
theorem dX6_undo_1 : decode cX6_undo 1 = .ok (.iload_n 1, 1) := by decide +kernel
theorem dX6_undo_2 : decode cX6_undo 2 = .ok (.invokevirtual 127, 3) := by decide +kernel
theorem dX6_undo_5 : decode cX6_undo 5 = .ok (.aload_n 0, 1) := by decide +kernel
theorem dX6_undo_6 : decode cX6_undo 6 = .ok (.getfield 25, 3) := by decide +kernel
theorem dX6_undo_9 : decode cX6_undo 9 = .ok (.iload_n 1, 1) := by decide +kernel
theorem dX6_undo_10 : decode cX6_undo 10 = .ok (.aaload, 1) := by decide +kernel
theorem dX6_undo_11 : decode cX6_undo 11 = .ok (.getfield 136, 3) := by decide +kernel
theorem dX6_undo_14 : decode cX6_undo 14 = .ok (.invokevirtual 148, 3) := by decide +kernel
theorem dX6_undo_17 : decode cX6_undo 17 = .ok (.ireturn, 1) := by decide +kernel
theorem dX6_save_0 : decode cX6_save 0 = .ok (.aload_n 0, 1) := by decide +kernel
theorem dX6_save_1 : decode cX6_save 1 = .ok (.iload_n 1, 1) := by decide +kernel
theorem dX6_save_2 : decode cX6_save 2 = .ok (.invokevirtual 127, 3) := by decide +kernel
theorem dX6_save_5 : decode cX6_save 5 = .ok (.aload_n 0, 1) := by decide +kernel
theorem dX6_save_6 : decode cX6_save 6 = .ok (.getfield 39, 3) := by decide +kernel
theorem dX6_save_9 : decode cX6_save 9 = .ok (.bipush 6, 2) := by decide +kernel
theorem dX6_save_11 : decode cX6_save 11 = .ok (.invokestatic 105, 3) := by decide +kernel
theorem dX6_save_14 : decode cX6_save 14 = .ok (.aload_n 0, 1) := by decide +kernel
