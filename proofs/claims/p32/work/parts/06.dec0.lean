theorem dX0_init_0 : decode cX0_init 0 = .ok (.aload_n 0, 1) := by decide +kernel
theorem dX0_init_1 : decode cX0_init 1 = .ok (.invokespecial 3, 3) := by decide +kernel
theorem dX0_init_4 : decode cX0_init 4 = .ok (.aload_n 0, 1) := by decide +kernel
theorem dX0_init_5 : decode cX0_init 5 = .ok (.new 9, 3) := by decide +kernel
theorem dX0_init_8 : decode cX0_init 8 = .ok (.dup, 1) := by decide +kernel
theorem dX0_init_9 : decode cX0_init 9 = .ok (.bipush 100, 2) := by decide +kernel
theorem dX0_init_11 : decode cX0_init 11 = .ok (.invokespecial 11, 3) := by decide +kernel
theorem dX0_init_14 : decode cX0_init 14 = .ok (.putfield 14, 3) := by decide +kernel
theorem dX0_init_17 : decode cX0_init 17 = .ok (.aload_n 0, 1) := by decide +kernel
theorem dX0_init_18 : decode cX0_init 18 = .ok (.new 9, 3) := by decide +kernel
theorem dX0_init_21 : decode cX0_init 21 = .ok (.dup, 1) := by decide +kernel
theorem dX0_init_22 : decode cX0_init 22 = .ok (.bipush 50, 2) := by decide +kernel
theorem dX0_init_24 : decode cX0_init 24 = .ok (.invokespecial 11, 3) := by decide +kernel
theorem dX0_init_27 : decode cX0_init 27 = .ok (.putfield 20, 3) := by decide +kernel
theorem dX0_init_30 : decode cX0_init 30 = .ok (.aload_n 0, 1) := by decide +kernel
theorem dX0_init_31 : decode cX0_init 31 = .ok (.new 9, 3) := by decide +kernel
theorem dX0_init_34 : decode cX0_init 34 = .ok (.dup, 1) := by decide +kernel
theorem dX0_init_35 : decode cX0_init 35 = .ok (.bipush 50, 2) := by decide +kernel
theorem dX0_init_37 : decode cX0_init 37 = .ok (.invokespecial 11, 3) := by decide +kernel
theorem dX0_init_40 : decode cX0_init 40 = .ok (.putfield 23, 3) := by decide +kernel
theorem dX0_init_43 : decode cX0_init 43 = .ok (.aload_n 0, 1) := by decide +kernel
theorem dX0_init_44 : decode cX0_init 44 = .ok (.new 9, 3) := by decide +kernel
theorem dX0_init_47 : decode cX0_init 47 = .ok (.dup, 1) := by decide +kernel
theorem dX0_init_48 : decode cX0_init 48 = .ok (.bipush 50, 2) := by decide +kernel
theorem dX0_init_50 : decode cX0_init 50 = .ok (.invokespecial 11, 3) := by decide +kernel
theorem dX0_init_53 : decode cX0_init 53 = .ok (.putfield 26, 3) := by decide +kernel
theorem dX0_init_56 : decode cX0_init 56 = .ok (.aload_n 0, 1) := by decide +kernel
theorem dX0_init_57 : decode cX0_init 57 = .ok (.new 9, 3) := by decide +kernel
theorem dX0_init_60 : decode cX0_init 60 = .ok (.dup, 1) := by decide +kernel
theorem dX0_init_61 : decode cX0_init 61 = .ok (.bipush 50, 2) := by decide +kernel
theorem dX0_init_63 : decode cX0_init 63 = .ok (.invokespecial 11, 3) := by decide +kernel
theorem dX0_init_66 : decode cX0_init 66 = .ok (.putfield 29, 3) := by decide +kernel
theorem dX0_init_69 : decode cX0_init 69 = .ok (.return_, 1) := by decide +kernel
theorem dX1_init_0 : decode cX1_init 0 = .ok (.aload_n 0, 1) := by decide +kernel
theorem dX1_init_1 : decode cX1_init 1 = .ok (.invokespecial 1, 3) := by decide +kernel
theorem dX1_init_4 : decode cX1_init 4 = .ok (.aload_n 0, 1) := by decide +kernel
theorem dX1_init_5 : decode cX1_init 5 = .ok (.iload_n 1, 1) := by decide +kernel
theorem dX1_init_6 : decode cX1_init 6 = .ok (.ifCond .le 7, 3) := by decide +kernel
theorem dX1_init_9 : decode cX1_init 9 = .ok (.iload_n 1, 1) := by decide +kernel
theorem dX1_init_10 : decode cX1_init 10 = .ok (.goto 4, 3) := by decide +kernel
theorem dX1_init_13 : decode cX1_init 13 = .ok (.iconst 0, 1) := by decide +kernel
theorem dX1_init_14 : decode cX1_init 14 = .ok (.newarray .int, 2) := by decide +kernel
theorem dX1_init_16 : decode cX1_init 16 = .ok (.putfield 7, 3) := by decide +kernel
theorem dX1_init_19 : decode cX1_init 19 = .ok (.return_, 1) := by decide +kernel
theorem dX1_get_0 : decode cX1_get 0 = .ok (.iload_n 1, 1) := by decide +kernel
theorem dX1_get_1 : decode cX1_get 1 = .ok (.ifCond .lt 21, 3) := by decide +kernel
theorem dX1_get_4 : decode cX1_get 4 = .ok (.iload_n 1, 1) := by decide +kernel
theorem dX1_get_5 : decode cX1_get 5 = .ok (.aload_n 0, 1) := by decide +kernel
theorem dX1_get_6 : decode cX1_get 6 = .ok (.getfield 7, 3) := by decide +kernel
theorem dX1_get_9 : decode cX1_get 9 = .ok (.arraylength, 1) := by decide +kernel
theorem dX1_get_10 : decode cX1_get 10 = .ok (.if_icmp .ge 12, 3) := by decide +kernel
theorem dX1_get_13 : decode cX1_get 13 = .ok (.aload_n 0, 1) := by decide +kernel
theorem dX1_get_14 : decode cX1_get 14 = .ok (.getfield 7, 3) := by decide +kernel
theorem dX1_get_17 : decode cX1_get 17 = .ok (.iload_n 1, 1) := by decide +kernel
theorem dX1_get_18 : decode cX1_get 18 = .ok (.iaload, 1) := by decide +kernel
theorem dX1_get_19 : decode cX1_get 19 = .ok (.goto 4, 3) := by decide +kernel
theorem dX1_get_22 : decode cX1_get 22 = .ok (.iconst 0, 1) := by decide +kernel
theorem dX1_get_23 : decode cX1_get 23 = .ok (.ireturn, 1) := by decide +kernel
theorem dX1_set_0 : decode cX1_set 0 = .ok (.iload_n 1, 1) := by decide +kernel
theorem dX1_set_1 : decode cX1_set 1 = .ok (.ifCond .lt 19, 3) := by decide +kernel
theorem dX1_set_4 : decode cX1_set 4 = .ok (.iload_n 1, 1) := by decide +kernel
theorem dX1_set_5 : decode cX1_set 5 = .ok (.aload_n 0, 1) := by decide +kernel
theorem dX1_set_6 : decode cX1_set 6 = .ok (.getfield 7, 3) := by decide +kernel
theorem dX1_set_9 : decode cX1_set 9 = .ok (.arraylength, 1) := by decide +kernel
theorem dX1_set_10 : decode cX1_set 10 = .ok (.if_icmp .ge 10, 3) := by decide +kernel
theorem dX1_set_13 : decode cX1_set 13 = .ok (.aload_n 0, 1) := by decide +kernel
theorem dX1_set_14 : decode cX1_set 14 = .ok (.getfield 7, 3) := by decide +kernel
theorem dX1_set_17 : decode cX1_set 17 = .ok (.iload_n 1, 1) := by decide +kernel
theorem dX1_set_18 : decode cX1_set 18 = .ok (.iload_n 2, 1) := by decide +kernel
theorem dX1_set_19 : decode cX1_set 19 = .ok (.iastore, 1) := by decide +kernel
theorem dX1_set_20 : decode cX1_set 20 = .ok (.return_, 1) := by decide +kernel
theorem dX1_add_0 : decode cX1_add 0 = .ok (.iload_n 1, 1) := by decide +kernel
theorem dX1_add_1 : decode cX1_add 1 = .ok (.ifCond .lt 22, 3) := by decide +kernel
theorem dX1_add_4 : decode cX1_add 4 = .ok (.iload_n 1, 1) := by decide +kernel
theorem dX1_add_5 : decode cX1_add 5 = .ok (.aload_n 0, 1) := by decide +kernel
theorem dX1_add_6 : decode cX1_add 6 = .ok (.getfield 7, 3) := by decide +kernel
theorem dX1_add_9 : decode cX1_add 9 = .ok (.arraylength, 1) := by decide +kernel
theorem dX1_add_10 : decode cX1_add 10 = .ok (.if_icmp .ge 13, 3) := by decide +kernel
theorem dX1_add_13 : decode cX1_add 13 = .ok (.aload_n 0, 1) := by decide +kernel
theorem dX1_add_14 : decode cX1_add 14 = .ok (.getfield 7, 3) := by decide +kernel
theorem dX1_add_17 : decode cX1_add 17 = .ok (.iload_n 1, 1) := by decide +kernel
theorem dX1_add_18 : decode cX1_add 18 = .ok (.dup2, 1) := by decide +kernel
theorem dX1_add_19 : decode cX1_add 19 = .ok (.iaload, 1) := by decide +kernel
theorem dX1_add_20 : decode cX1_add 20 = .ok (.iload_n 2, 1) := by decide +kernel
theorem dX1_add_21 : decode cX1_add 21 = .ok (.iadd, 1) := by decide +kernel
theorem dX1_add_22 : decode cX1_add 22 = .ok (.iastore, 1) := by decide +kernel
theorem dX1_add_23 : decode cX1_add 23 = .ok (.return_, 1) := by decide +kernel
theorem dX1_mark_0 : decode cX1_mark 0 = .ok (.iload_n 1, 1) := by decide +kernel
theorem dX1_mark_1 : decode cX1_mark 1 = .ok (.ifCond .lt 22, 3) := by decide +kernel
theorem dX1_mark_4 : decode cX1_mark 4 = .ok (.iload_n 1, 1) := by decide +kernel
theorem dX1_mark_5 : decode cX1_mark 5 = .ok (.aload_n 0, 1) := by decide +kernel
theorem dX1_mark_6 : decode cX1_mark 6 = .ok (.getfield 7, 3) := by decide +kernel
theorem dX1_mark_9 : decode cX1_mark 9 = .ok (.arraylength, 1) := by decide +kernel
theorem dX1_mark_10 : decode cX1_mark 10 = .ok (.if_icmp .ge 13, 3) := by decide +kernel
theorem dX1_mark_13 : decode cX1_mark 13 = .ok (.aload_n 0, 1) := by decide +kernel
theorem dX1_mark_14 : decode cX1_mark 14 = .ok (.getfield 7, 3) := by decide +kernel
theorem dX1_mark_17 : decode cX1_mark 17 = .ok (.iload_n 1, 1) := by decide +kernel
theorem dX1_mark_18 : decode cX1_mark 18 = .ok (.dup2, 1) := by decide +kernel
theorem dX1_mark_19 : decode cX1_mark 19 = .ok (.iaload, 1) := by decide +kernel
theorem dX1_mark_20 : decode cX1_mark 20 = .ok (.iload_n 2, 1) := by decide +kernel
theorem dX1_mark_21 : decode cX1_mark 21 = .ok (.ior, 1) := by decide +kernel
theorem dX1_mark_22 : decode cX1_mark 22 = .ok (.iastore, 1) := by decide +kernel
theorem dX1_mark_23 : decode cX1_mark 23 = .ok (.return_, 1) := by decide +kernel
theorem dX1_sum_0 : decode cX1_sum 0 = .ok (.iconst 0, 1) := by decide +kernel
theorem dX1_sum_1 : decode cX1_sum 1 = .ok (.istore_n 1, 1) := by decide +kernel
theorem dX1_sum_2 : decode cX1_sum 2 = .ok (.iconst 0, 1) := by decide +kernel
theorem dX1_sum_3 : decode cX1_sum 3 = .ok (.istore_n 2, 1) := by decide +kernel
theorem dX1_sum_4 : decode cX1_sum 4 = .ok (.iload_n 2, 1) := by decide +kernel
theorem dX1_sum_5 : decode cX1_sum 5 = .ok (.aload_n 0, 1) := by decide +kernel
theorem dX1_sum_6 : decode cX1_sum 6 = .ok (.getfield 7, 3) := by decide +kernel
theorem dX1_sum_9 : decode cX1_sum 9 = .ok (.arraylength, 1) := by decide +kernel
theorem dX1_sum_10 : decode cX1_sum 10 = .ok (.if_icmp .ge 18, 3) := by decide +kernel
theorem dX1_sum_13 : decode cX1_sum 13 = .ok (.iload_n 1, 1) := by decide +kernel
theorem dX1_sum_14 : decode cX1_sum 14 = .ok (.aload_n 0, 1) := by decide +kernel
theorem dX1_sum_15 : decode cX1_sum 15 = .ok (.getfield 7, 3) := by decide +kernel
theorem dX1_sum_18 : decode cX1_sum 18 = .ok (.iload_n 2, 1) := by decide +kernel
theorem dX1_sum_19 : decode cX1_sum 19 = .ok (.iaload, 1) := by decide +kernel
theorem dX1_sum_20 : decode cX1_sum 20 = .ok (.iadd, 1) := by decide +kernel
theorem dX1_sum_21 : decode cX1_sum 21 = .ok (.istore_n 1, 1) := by decide +kernel
theorem dX1_sum_22 : decode cX1_sum 22 = .ok (.iinc 2 1, 3) := by decide +kernel
theorem dX1_sum_25 : decode cX1_sum 25 = .ok (.goto (-21), 3) := by decide +kernel
theorem dX1_sum_28 : decode cX1_sum 28 = .ok (.iload_n 1, 1) := by decide +kernel
theorem dX1_sum_29 : decode cX1_sum 29 = .ok (.ireturn, 1) := by decide +kernel
theorem dX1_clear_0 : decode cX1_clear 0 = .ok (.iconst 0, 1) := by decide +kernel
theorem dX1_clear_1 : decode cX1_clear 1 = .ok (.istore_n 1, 1) := by decide +kernel
theorem dX1_clear_2 : decode cX1_clear 2 = .ok (.iload_n 1, 1) := by decide +kernel
theorem dX1_clear_3 : decode cX1_clear 3 = .ok (.aload_n 0, 1) := by decide +kernel
theorem dX1_clear_4 : decode cX1_clear 4 = .ok (.getfield 7, 3) := by decide +kernel
theorem dX1_clear_7 : decode cX1_clear 7 = .ok (.arraylength, 1) := by decide +kernel
theorem dX1_clear_8 : decode cX1_clear 8 = .ok (.if_icmp .ge 16, 3) := by decide +kernel
theorem dX1_clear_11 : decode cX1_clear 11 = .ok (.aload_n 0, 1) := by decide +kernel
theorem dX1_clear_12 : decode cX1_clear 12 = .ok (.getfield 7, 3) := by decide +kernel
theorem dX1_clear_15 : decode cX1_clear 15 = .ok (.iload_n 1, 1) := by decide +kernel
theorem dX1_clear_16 : decode cX1_clear 16 = .ok (.iconst 0, 1) := by decide +kernel
theorem dX1_clear_17 : decode cX1_clear 17 = .ok (.iastore, 1) := by decide +kernel
theorem dX1_clear_18 : decode cX1_clear 18 = .ok (.iinc 1 1, 3) := by decide +kernel
theorem dX1_clear_21 : decode cX1_clear 21 = .ok (.goto (-19), 3) := by decide +kernel
theorem dX1_clear_24 : decode cX1_clear 24 = .ok (.return_, 1) := by decide +kernel
theorem dX1_copyFrom_0 : decode cX1_copyFrom 0 = .ok (.aload_n 1, 1) := by decide +kernel
theorem dX1_copyFrom_1 : decode cX1_copyFrom 1 = .ok (.ifnull 29, 3) := by decide +kernel
theorem dX1_copyFrom_4 : decode cX1_copyFrom 4 = .ok (.aload_n 1, 1) := by decide +kernel
theorem dX1_copyFrom_5 : decode cX1_copyFrom 5 = .ok (.getfield 7, 3) := by decide +kernel
theorem dX1_copyFrom_8 : decode cX1_copyFrom 8 = .ok (.iconst 0, 1) := by decide +kernel
theorem dX1_copyFrom_9 : decode cX1_copyFrom 9 = .ok (.aload_n 0, 1) := by decide +kernel
theorem dX1_copyFrom_10 : decode cX1_copyFrom 10 = .ok (.getfield 7, 3) := by decide +kernel
theorem dX1_copyFrom_13 : decode cX1_copyFrom 13 = .ok (.iconst 0, 1) := by decide +kernel
theorem dX1_copyFrom_14 : decode cX1_copyFrom 14 = .ok (.aload_n 1, 1) := by decide +kernel
theorem dX1_copyFrom_15 : decode cX1_copyFrom 15 = .ok (.getfield 7, 3) := by decide +kernel
theorem dX1_copyFrom_18 : decode cX1_copyFrom 18 = .ok (.arraylength, 1) := by decide +kernel
theorem dX1_copyFrom_19 : decode cX1_copyFrom 19 = .ok (.aload_n 0, 1) := by decide +kernel
theorem dX1_copyFrom_20 : decode cX1_copyFrom 20 = .ok (.getfield 7, 3) := by decide +kernel
theorem dX1_copyFrom_23 : decode cX1_copyFrom 23 = .ok (.arraylength, 1) := by decide +kernel
theorem dX1_copyFrom_24 : decode cX1_copyFrom 24 = .ok (.invokestatic 13, 3) := by decide +kernel
theorem dX1_copyFrom_27 : decode cX1_copyFrom 27 = .ok (.invokestatic 19, 3) := by decide +kernel
theorem dX1_copyFrom_30 : decode cX1_copyFrom 30 = .ok (.return_, 1) := by decide +kernel
theorem dX2_init_0 : decode cX2_init 0 = .ok (.aload_n 0, 1) := by decide +kernel
theorem dX2_init_1 : decode cX2_init 1 = .ok (.invokespecial 3, 3) := by decide +kernel
theorem dX2_init_4 : decode cX2_init 4 = .ok (.aload_n 0, 1) := by decide +kernel
theorem dX2_init_5 : decode cX2_init 5 = .ok (.new 9, 3) := by decide +kernel
theorem dX2_init_8 : decode cX2_init 8 = .ok (.dup, 1) := by decide +kernel
theorem dX2_init_9 : decode cX2_init 9 = .ok (.sipush 160, 3) := by decide +kernel
theorem dX2_init_12 : decode cX2_init 12 = .ok (.invokespecial 11, 3) := by decide +kernel
theorem dX2_init_15 : decode cX2_init 15 = .ok (.putfield 14, 3) := by decide +kernel
theorem dX2_init_18 : decode cX2_init 18 = .ok (.aload_n 0, 1) := by decide +kernel
theorem dX2_init_19 : decode cX2_init 19 = .ok (.new 9, 3) := by decide +kernel
theorem dX2_init_22 : decode cX2_init 22 = .ok (.dup, 1) := by decide +kernel
theorem dX2_init_23 : decode cX2_init 23 = .ok (.bipush 8, 2) := by decide +kernel
theorem dX2_init_25 : decode cX2_init 25 = .ok (.invokespecial 11, 3) := by decide +kernel
theorem dX2_init_28 : decode cX2_init 28 = .ok (.putfield 20, 3) := by decide +kernel
theorem dX2_init_31 : decode cX2_init 31 = .ok (.aload_n 0, 1) := by decide +kernel
theorem dX2_init_32 : decode cX2_init 32 = .ok (.new 9, 3) := by decide +kernel
theorem dX2_init_35 : decode cX2_init 35 = .ok (.dup, 1) := by decide +kernel
theorem dX2_init_36 : decode cX2_init 36 = .ok (.bipush 8, 2) := by decide +kernel
theorem dX2_init_38 : decode cX2_init 38 = .ok (.invokespecial 11, 3) := by decide +kernel
theorem dX2_init_41 : decode cX2_init 41 = .ok (.putfield 23, 3) := by decide +kernel
theorem dX2_init_44 : decode cX2_init 44 = .ok (.aload_n 0, 1) := by decide +kernel
theorem dX2_init_45 : decode cX2_init 45 = .ok (.new 9, 3) := by decide +kernel
theorem dX2_init_48 : decode cX2_init 48 = .ok (.dup, 1) := by decide +kernel
theorem dX2_init_49 : decode cX2_init 49 = .ok (.bipush 8, 2) := by decide +kernel
theorem dX2_init_51 : decode cX2_init 51 = .ok (.invokespecial 11, 3) := by decide +kernel
theorem dX2_init_54 : decode cX2_init 54 = .ok (.putfield 26, 3) := by decide +kernel
theorem dX2_init_57 : decode cX2_init 57 = .ok (.aload_n 0, 1) := by decide +kernel
theorem dX2_init_58 : decode cX2_init 58 = .ok (.new 9, 3) := by decide +kernel
theorem dX2_init_61 : decode cX2_init 61 = .ok (.dup, 1) := by decide +kernel
theorem dX2_init_62 : decode cX2_init 62 = .ok (.bipush 6, 2) := by decide +kernel
theorem dX2_init_64 : decode cX2_init 64 = .ok (.invokespecial 11, 3) := by decide +kernel
theorem dX2_init_67 : decode cX2_init 67 = .ok (.putfield 29, 3) := by decide +kernel
theorem dX2_init_70 : decode cX2_init 70 = .ok (.aload_n 0, 1) := by decide +kernel
theorem dX2_init_71 : decode cX2_init 71 = .ok (.new 9, 3) := by decide +kernel
theorem dX2_init_74 : decode cX2_init 74 = .ok (.dup, 1) := by decide +kernel
theorem dX2_init_75 : decode cX2_init 75 = .ok (.bipush 6, 2) := by decide +kernel
theorem dX2_init_77 : decode cX2_init 77 = .ok (.invokespecial 11, 3) := by decide +kernel
theorem dX2_init_80 : decode cX2_init 80 = .ok (.putfield 32, 3) := by decide +kernel
theorem dX2_init_83 : decode cX2_init 83 = .ok (.aload_n 0, 1) := by decide +kernel
theorem dX2_init_84 : decode cX2_init 84 = .ok (.new 9, 3) := by decide +kernel
theorem dX2_init_87 : decode cX2_init 87 = .ok (.dup, 1) := by decide +kernel
theorem dX2_init_88 : decode cX2_init 88 = .ok (.bipush 6, 2) := by decide +kernel
theorem dX2_init_90 : decode cX2_init 90 = .ok (.invokespecial 11, 3) := by decide +kernel
theorem dX2_init_93 : decode cX2_init 93 = .ok (.putfield 35, 3) := by decide +kernel
theorem dX2_init_96 : decode cX2_init 96 = .ok (.aload_n 0, 1) := by decide +kernel
theorem dX2_init_97 : decode cX2_init 97 = .ok (.new 9, 3) := by decide +kernel
theorem dX2_init_100 : decode cX2_init 100 = .ok (.dup, 1) := by decide +kernel
theorem dX2_init_101 : decode cX2_init 101 = .ok (.iconst 5, 1) := by decide +kernel
theorem dX2_init_102 : decode cX2_init 102 = .ok (.invokespecial 11, 3) := by decide +kernel
theorem dX2_init_105 : decode cX2_init 105 = .ok (.putfield 38, 3) := by decide +kernel
theorem dX2_init_108 : decode cX2_init 108 = .ok (.aload_n 0, 1) := by decide +kernel
theorem dX2_init_109 : decode cX2_init 109 = .ok (.new 9, 3) := by decide +kernel
theorem dX2_init_112 : decode cX2_init 112 = .ok (.dup, 1) := by decide +kernel
theorem dX2_init_113 : decode cX2_init 113 = .ok (.sipush 420, 3) := by decide +kernel
theorem dX2_init_116 : decode cX2_init 116 = .ok (.invokespecial 11, 3) := by decide +kernel
theorem dX2_init_119 : decode cX2_init 119 = .ok (.putfield 41, 3) := by decide +kernel
theorem dX2_init_122 : decode cX2_init 122 = .ok (.return_, 1) := by decide +kernel
theorem dX2_copyFrom_0 : decode cX2_copyFrom 0 = .ok (.aload_n 1, 1) := by decide +kernel
theorem dX2_copyFrom_1 : decode cX2_copyFrom 1 = .ok (.ifnonnull 4, 3) := by decide +kernel
theorem dX2_copyFrom_4 : decode cX2_copyFrom 4 = .ok (.return_, 1) := by decide +kernel
theorem dX2_copyFrom_5 : decode cX2_copyFrom 5 = .ok (.aload_n 0, 1) := by decide +kernel
theorem dX2_copyFrom_6 : decode cX2_copyFrom 6 = .ok (.aload_n 1, 1) := by decide +kernel
theorem dX2_copyFrom_7 : decode cX2_copyFrom 7 = .ok (.getfield 44, 3) := by decide +kernel
theorem dX2_copyFrom_10 : decode cX2_copyFrom 10 = .ok (.putfield 44, 3) := by decide +kernel
theorem dX2_copyFrom_13 : decode cX2_copyFrom 13 = .ok (.aload_n 0, 1) := by decide +kernel
theorem dX2_copyFrom_14 : decode cX2_copyFrom 14 = .ok (.aload_n 1, 1) := by decide +kernel
theorem dX2_copyFrom_15 : decode cX2_copyFrom 15 = .ok (.getfield 48, 3) := by decide +kernel
theorem dX2_copyFrom_18 : decode cX2_copyFrom 18 = .ok (.putfield 48, 3) := by decide +kernel
theorem dX2_copyFrom_21 : decode cX2_copyFrom 21 = .ok (.aload_n 0, 1) := by decide +kernel
theorem dX2_copyFrom_22 : decode cX2_copyFrom 22 = .ok (.aload_n 1, 1) := by decide +kernel
theorem dX2_copyFrom_23 : decode cX2_copyFrom 23 = .ok (.getfield 51, 3) := by decide +kernel
theorem dX2_copyFrom_26 : decode cX2_copyFrom 26 = .ok (.putfield 51, 3) := by decide +kernel
theorem dX2_copyFrom_29 : decode cX2_copyFrom 29 = .ok (.aload_n 0, 1) := by decide +kernel
theorem dX2_copyFrom_30 : decode cX2_copyFrom 30 = .ok (.aload_n 1, 1) := by decide +kernel
theorem dX2_copyFrom_31 : decode cX2_copyFrom 31 = .ok (.getfield 54, 3) := by decide +kernel
theorem dX2_copyFrom_34 : decode cX2_copyFrom 34 = .ok (.putfield 54, 3) := by decide +kernel
theorem dX2_copyFrom_37 : decode cX2_copyFrom 37 = .ok (.aload_n 0, 1) := by decide +kernel
theorem dX2_copyFrom_38 : decode cX2_copyFrom 38 = .ok (.aload_n 1, 1) := by decide +kernel
theorem dX2_copyFrom_39 : decode cX2_copyFrom 39 = .ok (.getfield 57, 3) := by decide +kernel
theorem dX2_copyFrom_42 : decode cX2_copyFrom 42 = .ok (.putfield 57, 3) := by decide +kernel
theorem dX2_copyFrom_45 : decode cX2_copyFrom 45 = .ok (.aload_n 0, 1) := by decide +kernel
theorem dX2_copyFrom_46 : decode cX2_copyFrom 46 = .ok (.aload_n 1, 1) := by decide +kernel
theorem dX2_copyFrom_47 : decode cX2_copyFrom 47 = .ok (.getfield 60, 3) := by decide +kernel
theorem dX2_copyFrom_50 : decode cX2_copyFrom 50 = .ok (.putfield 60, 3) := by decide +kernel
theorem dX2_copyFrom_53 : decode cX2_copyFrom 53 = .ok (.aload_n 0, 1) := by decide +kernel
theorem dX2_copyFrom_54 : decode cX2_copyFrom 54 = .ok (.getfield 14, 3) := by decide +kernel
theorem dX2_copyFrom_57 : decode cX2_copyFrom 57 = .ok (.aload_n 1, 1) := by decide +kernel
theorem dX2_copyFrom_58 : decode cX2_copyFrom 58 = .ok (.getfield 14, 3) := by decide +kernel
theorem dX2_copyFrom_61 : decode cX2_copyFrom 61 = .ok (.invokevirtual 63, 3) := by decide +kernel
theorem dX2_copyFrom_64 : decode cX2_copyFrom 64 = .ok (.aload_n 0, 1) := by decide +kernel
theorem dX2_copyFrom_65 : decode cX2_copyFrom 65 = .ok (.getfield 20, 3) := by decide +kernel
theorem dX2_copyFrom_68 : decode cX2_copyFrom 68 = .ok (.aload_n 1, 1) := by decide +kernel
theorem dX2_copyFrom_69 : decode cX2_copyFrom 69 = .ok (.getfield 20, 3) := by decide +kernel
theorem dX2_copyFrom_72 : decode cX2_copyFrom 72 = .ok (.invokevirtual 63, 3) := by decide +kernel
theorem dX2_copyFrom_75 : decode cX2_copyFrom 75 = .ok (.aload_n 0, 1) := by decide +kernel
theorem dX2_copyFrom_76 : decode cX2_copyFrom 76 = .ok (.getfield 23, 3) := by decide +kernel
theorem dX2_copyFrom_79 : decode cX2_copyFrom 79 = .ok (.aload_n 1, 1) := by decide +kernel
theorem dX2_copyFrom_80 : decode cX2_copyFrom 80 = .ok (.getfield 23, 3) := by decide +kernel
theorem dX2_copyFrom_83 : decode cX2_copyFrom 83 = .ok (.invokevirtual 63, 3) := by decide +kernel
theorem dX2_copyFrom_86 : decode cX2_copyFrom 86 = .ok (.aload_n 0, 1) := by decide +kernel
theorem dX2_copyFrom_87 : decode cX2_copyFrom 87 = .ok (.getfield 26, 3) := by decide +kernel
theorem dX2_copyFrom_90 : decode cX2_copyFrom 90 = .ok (.aload_n 1, 1) := by decide +kernel
theorem dX2_copyFrom_91 : decode cX2_copyFrom 91 = .ok (.getfield 26, 3) := by decide +kernel
theorem dX2_copyFrom_94 : decode cX2_copyFrom 94 = .ok (.invokevirtual 63, 3) := by decide +kernel
theorem dX2_copyFrom_97 : decode cX2_copyFrom 97 = .ok (.aload_n 0, 1) := by decide +kernel
theorem dX2_copyFrom_98 : decode cX2_copyFrom 98 = .ok (.getfield 29, 3) := by decide +kernel
theorem dX2_copyFrom_101 : decode cX2_copyFrom 101 = .ok (.aload_n 1, 1) := by decide +kernel
theorem dX2_copyFrom_102 : decode cX2_copyFrom 102 = .ok (.getfield 29, 3) := by decide +kernel
theorem dX2_copyFrom_105 : decode cX2_copyFrom 105 = .ok (.invokevirtual 63, 3) := by decide +kernel
theorem dX2_copyFrom_108 : decode cX2_copyFrom 108 = .ok (.aload_n 0, 1) := by decide +kernel
theorem dX2_copyFrom_109 : decode cX2_copyFrom 109 = .ok (.getfield 32, 3) := by decide +kernel
theorem dX2_copyFrom_112 : decode cX2_copyFrom 112 = .ok (.aload_n 1, 1) := by decide +kernel
theorem dX2_copyFrom_113 : decode cX2_copyFrom 113 = .ok (.getfield 32, 3) := by decide +kernel
theorem dX2_copyFrom_116 : decode cX2_copyFrom 116 = .ok (.invokevirtual 63, 3) := by decide +kernel
theorem dX2_copyFrom_119 : decode cX2_copyFrom 119 = .ok (.aload_n 0, 1) := by decide +kernel
theorem dX2_copyFrom_120 : decode cX2_copyFrom 120 = .ok (.getfield 35, 3) := by decide +kernel
theorem dX2_copyFrom_123 : decode cX2_copyFrom 123 = .ok (.aload_n 1, 1) := by decide +kernel
theorem dX2_copyFrom_124 : decode cX2_copyFrom 124 = .ok (.getfield 35, 3) := by decide +kernel
theorem dX2_copyFrom_127 : decode cX2_copyFrom 127 = .ok (.invokevirtual 63, 3) := by decide +kernel
theorem dX2_copyFrom_130 : decode cX2_copyFrom 130 = .ok (.aload_n 0, 1) := by decide +kernel
theorem dX2_copyFrom_131 : decode cX2_copyFrom 131 = .ok (.getfield 38, 3) := by decide +kernel
theorem dX2_copyFrom_134 : decode cX2_copyFrom 134 = .ok (.aload_n 1, 1) := by decide +kernel
theorem dX2_copyFrom_135 : decode cX2_copyFrom 135 = .ok (.getfield 38, 3) := by decide +kernel
theorem dX2_copyFrom_138 : decode cX2_copyFrom 138 = .ok (.invokevirtual 63, 3) := by decide +kernel
theorem dX2_copyFrom_141 : decode cX2_copyFrom 141 = .ok (.aload_n 0, 1) := by decide +kernel
theorem dX2_copyFrom_142 : decode cX2_copyFrom 142 = .ok (.getfield 41, 3) := by decide +kernel
theorem dX2_copyFrom_145 : decode cX2_copyFrom 145 = .ok (.aload_n 1, 1) := by decide +kernel
theorem dX2_copyFrom_146 : decode cX2_copyFrom 146 = .ok (.getfield 41, 3) := by decide +kernel
theorem dX2_copyFrom_149 : decode cX2_copyFrom 149 = .ok (.invokevirtual 63, 3) := by decide +kernel
theorem dX2_copyFrom_152 : decode cX2_copyFrom 152 = .ok (.return_, 1) := by decide +kernel
theorem dX2_hasOrder_0 : decode cX2_hasOrder 0 = .ok (.iload_n 1, 1) := by decide +kernel
theorem dX2_hasOrder_1 : decode cX2_hasOrder 1 = .ok (.ifCond .lt 15, 3) := by decide +kernel
theorem dX2_hasOrder_4 : decode cX2_hasOrder 4 = .ok (.iload_n 1, 1) := by decide +kernel
theorem dX2_hasOrder_5 : decode cX2_hasOrder 5 = .ok (.aload_n 0, 1) := by decide +kernel
theorem dX2_hasOrder_6 : decode cX2_hasOrder 6 = .ok (.getfield 44, 3) := by decide +kernel
theorem dX2_hasOrder_9 : decode cX2_hasOrder 9 = .ok (.if_icmp .ge 7, 3) := by decide +kernel
theorem dX2_hasOrder_12 : decode cX2_hasOrder 12 = .ok (.iconst 1, 1) := by decide +kernel
theorem dX2_hasOrder_13 : decode cX2_hasOrder 13 = .ok (.goto 4, 3) := by decide +kernel
theorem dX2_hasOrder_16 : decode cX2_hasOrder 16 = .ok (.iconst 0, 1) := by decide +kernel
theorem dX2_hasOrder_17 : decode cX2_hasOrder 17 = .ok (.ireturn, 1) := by decide +kernel
theorem dX2_hasEscort_0 : decode cX2_hasEscort 0 = .ok (.iload_n 1, 1) := by decide +kernel
theorem dX2_hasEscort_1 : decode cX2_hasEscort 1 = .ok (.ifCond .lt 15, 3) := by decide +kernel
theorem dX2_hasEscort_4 : decode cX2_hasEscort 4 = .ok (.iload_n 1, 1) := by decide +kernel
theorem dX2_hasEscort_5 : decode cX2_hasEscort 5 = .ok (.aload_n 0, 1) := by decide +kernel
theorem dX2_hasEscort_6 : decode cX2_hasEscort 6 = .ok (.getfield 48, 3) := by decide +kernel
theorem dX2_hasEscort_9 : decode cX2_hasEscort 9 = .ok (.if_icmp .ge 7, 3) := by decide +kernel
theorem dX2_hasEscort_12 : decode cX2_hasEscort 12 = .ok (.iconst 1, 1) := by decide +kernel
theorem dX2_hasEscort_13 : decode cX2_hasEscort 13 = .ok (.goto 4, 3) := by decide +kernel
theorem dX2_hasEscort_16 : decode cX2_hasEscort 16 = .ok (.iconst 0, 1) := by decide +kernel
theorem dX2_hasEscort_17 : decode cX2_hasEscort 17 = .ok (.ireturn, 1) := by decide +kernel
theorem dX2_hasVenue_0 : decode cX2_hasVenue 0 = .ok (.iload_n 1, 1) := by decide +kernel
theorem dX2_hasVenue_1 : decode cX2_hasVenue 1 = .ok (.ifCond .lt 15, 3) := by decide +kernel
theorem dX2_hasVenue_4 : decode cX2_hasVenue 4 = .ok (.iload_n 1, 1) := by decide +kernel
theorem dX2_hasVenue_5 : decode cX2_hasVenue 5 = .ok (.aload_n 0, 1) := by decide +kernel
theorem dX2_hasVenue_6 : decode cX2_hasVenue 6 = .ok (.getfield 51, 3) := by decide +kernel
theorem dX2_hasVenue_9 : decode cX2_hasVenue 9 = .ok (.if_icmp .ge 7, 3) := by decide +kernel
theorem dX2_hasVenue_12 : decode cX2_hasVenue 12 = .ok (.iconst 1, 1) := by decide +kernel
theorem dX2_hasVenue_13 : decode cX2_hasVenue 13 = .ok (.goto 4, 3) := by decide +kernel
theorem dX2_hasVenue_16 : decode cX2_hasVenue 16 = .ok (.iconst 0, 1) := by decide +kernel
theorem dX2_hasVenue_17 : decode cX2_hasVenue 17 = .ok (.ireturn, 1) := by decide +kernel
theorem dX2_hasAllVenues_0 : decode cX2_hasAllVenues 0 = .ok (.iload_n 1, 1) := by decide +kernel
theorem dX2_hasAllVenues_1 : decode cX2_hasAllVenues 1 = .ok (.ifCond .lt 17, 3) := by decide +kernel
theorem dX2_hasAllVenues_4 : decode cX2_hasAllVenues 4 = .ok (.iload_n 1, 1) := by decide +kernel
theorem dX2_hasAllVenues_5 : decode cX2_hasAllVenues 5 = .ok (.iconst 1, 1) := by decide +kernel
theorem dX2_hasAllVenues_6 : decode cX2_hasAllVenues 6 = .ok (.aload_n 0, 1) := by decide +kernel
theorem dX2_hasAllVenues_7 : decode cX2_hasAllVenues 7 = .ok (.getfield 51, 3) := by decide +kernel
theorem dX2_hasAllVenues_10 : decode cX2_hasAllVenues 10 = .ok (.ishl, 1) := by decide +kernel
theorem dX2_hasAllVenues_11 : decode cX2_hasAllVenues 11 = .ok (.if_icmp .ge 7, 3) := by decide +kernel
theorem dX2_hasAllVenues_14 : decode cX2_hasAllVenues 14 = .ok (.iconst 1, 1) := by decide +kernel
theorem dX2_hasAllVenues_15 : decode cX2_hasAllVenues 15 = .ok (.goto 4, 3) := by decide +kernel
theorem dX2_hasAllVenues_18 : decode cX2_hasAllVenues 18 = .ok (.iconst 0, 1) := by decide +kernel
theorem dX2_hasAllVenues_19 : decode cX2_hasAllVenues 19 = .ok (.ireturn, 1) := by decide +kernel
theorem dX2_isOver_0 : decode cX2_isOver 0 = .ok (.iload_n 1, 1) := by decide +kernel
theorem dX2_isOver_1 : decode cX2_isOver 1 = .ok (.aload_n 0, 1) := by decide +kernel
theorem dX2_isOver_2 : decode cX2_isOver 2 = .ok (.getfield 57, 3) := by decide +kernel
theorem dX2_isOver_5 : decode cX2_isOver 5 = .ok (.if_icmp .ge 7, 3) := by decide +kernel
theorem dX2_isOver_8 : decode cX2_isOver 8 = .ok (.iconst 1, 1) := by decide +kernel
theorem dX2_isOver_9 : decode cX2_isOver 9 = .ok (.goto 4, 3) := by decide +kernel
theorem dX2_isOver_12 : decode cX2_isOver 12 = .ok (.iconst 0, 1) := by decide +kernel
theorem dX2_isOver_13 : decode cX2_isOver 13 = .ok (.ireturn, 1) := by decide +kernel
theorem dX2_isLastWeek_0 : decode cX2_isLastWeek 0 = .ok (.aload_n 0, 1) := by decide +kernel
theorem dX2_isLastWeek_1 : decode cX2_isLastWeek 1 = .ok (.getfield 57, 3) := by decide +kernel
theorem dX2_isLastWeek_4 : decode cX2_isLastWeek 4 = .ok (.bipush 19, 2) := by decide +kernel
theorem dX2_isLastWeek_6 : decode cX2_isLastWeek 6 = .ok (.if_icmp .lt 7, 3) := by decide +kernel
theorem dX2_isLastWeek_9 : decode cX2_isLastWeek 9 = .ok (.iconst 1, 1) := by decide +kernel
theorem dX2_isLastWeek_10 : decode cX2_isLastWeek 10 = .ok (.goto 4, 3) := by decide +kernel
theorem dX2_isLastWeek_13 : decode cX2_isLastWeek 13 = .ok (.iconst 0, 1) := by decide +kernel
theorem dX2_isLastWeek_14 : decode cX2_isLastWeek 14 = .ok (.ireturn, 1) := by decide +kernel
theorem dX2_isFull_0 : decode cX2_isFull 0 = .ok (.aload_n 0, 1) := by decide +kernel
theorem dX2_isFull_1 : decode cX2_isFull 1 = .ok (.getfield 54, 3) := by decide +kernel
theorem dX2_isFull_4 : decode cX2_isFull 4 = .ok (.bipush 60, 2) := by decide +kernel
theorem dX2_isFull_6 : decode cX2_isFull 6 = .ok (.if_icmp .lt 7, 3) := by decide +kernel
theorem dX2_isFull_9 : decode cX2_isFull 9 = .ok (.iconst 1, 1) := by decide +kernel
theorem dX2_isFull_10 : decode cX2_isFull 10 = .ok (.goto 4, 3) := by decide +kernel
theorem dX2_isFull_13 : decode cX2_isFull 13 = .ok (.iconst 0, 1) := by decide +kernel
theorem dX2_isFull_14 : decode cX2_isFull 14 = .ok (.ireturn, 1) := by decide +kernel
theorem dX2_enterOrder_0 : decode cX2_enterOrder 0 = .ok (.aload_n 0, 1) := by decide +kernel
theorem dX2_enterOrder_1 : decode cX2_enterOrder 1 = .ok (.getfield 44, 3) := by decide +kernel
theorem dX2_enterOrder_4 : decode cX2_enterOrder 4 = .ok (.istore_n 3, 1) := by decide +kernel
theorem dX2_enterOrder_5 : decode cX2_enterOrder 5 = .ok (.aload_n 0, 1) := by decide +kernel
theorem dX2_enterOrder_6 : decode cX2_enterOrder 6 = .ok (.dup, 1) := by decide +kernel
theorem dX2_enterOrder_7 : decode cX2_enterOrder 7 = .ok (.getfield 44, 3) := by decide +kernel
theorem dX2_enterOrder_10 : decode cX2_enterOrder 10 = .ok (.iconst 1, 1) := by decide +kernel
theorem dX2_enterOrder_11 : decode cX2_enterOrder 11 = .ok (.iadd, 1) := by decide +kernel
theorem dX2_enterOrder_12 : decode cX2_enterOrder 12 = .ok (.putfield 44, 3) := by decide +kernel
theorem dX2_enterOrder_15 : decode cX2_enterOrder 15 = .ok (.aload_n 0, 1) := by decide +kernel
theorem dX2_enterOrder_16 : decode cX2_enterOrder 16 = .ok (.iload_n 3, 1) := by decide +kernel
theorem dX2_enterOrder_17 : decode cX2_enterOrder 17 = .ok (.aload_n 0, 1) := by decide +kernel
theorem dX2_enterOrder_18 : decode cX2_enterOrder 18 = .ok (.getfield 57, 3) := by decide +kernel
theorem dX2_enterOrder_21 : decode cX2_enterOrder 21 = .ok (.iload_n 1, 1) := by decide +kernel
theorem dX2_enterOrder_22 : decode cX2_enterOrder 22 = .ok (.invokevirtual 67, 3) := by decide +kernel
theorem dX2_enterOrder_25 : decode cX2_enterOrder 25 = .ok (.aload_n 0, 1) := by decide +kernel
theorem dX2_enterOrder_26 : decode cX2_enterOrder 26 = .ok (.getfield 20, 3) := by decide +kernel
theorem dX2_enterOrder_29 : decode cX2_enterOrder 29 = .ok (.iload_n 3, 1) := by decide +kernel
theorem dX2_enterOrder_30 : decode cX2_enterOrder 30 = .ok (.iload_n 2, 1) := by decide +kernel
theorem dX2_enterOrder_31 : decode cX2_enterOrder 31 = .ok (.invokevirtual 71, 3) := by decide +kernel
theorem dX2_enterOrder_34 : decode cX2_enterOrder 34 = .ok (.iload_n 3, 1) := by decide +kernel
theorem dX2_enterOrder_35 : decode cX2_enterOrder 35 = .ok (.ireturn, 1) := by decide +kernel
theorem dX2_enterEscort_0 : decode cX2_enterEscort 0 = .ok (.aload_n 0, 1) := by decide +kernel
theorem dX2_enterEscort_1 : decode cX2_enterEscort 1 = .ok (.getfield 48, 3) := by decide +kernel
theorem dX2_enterEscort_4 : decode cX2_enterEscort 4 = .ok (.istore_n 3, 1) := by decide +kernel
theorem dX2_enterEscort_5 : decode cX2_enterEscort 5 = .ok (.aload_n 0, 1) := by decide +kernel
theorem dX2_enterEscort_6 : decode cX2_enterEscort 6 = .ok (.dup, 1) := by decide +kernel
theorem dX2_enterEscort_7 : decode cX2_enterEscort 7 = .ok (.getfield 48, 3) := by decide +kernel
theorem dX2_enterEscort_10 : decode cX2_enterEscort 10 = .ok (.iconst 1, 1) := by decide +kernel
theorem dX2_enterEscort_11 : decode cX2_enterEscort 11 = .ok (.iadd, 1) := by decide +kernel
theorem dX2_enterEscort_12 : decode cX2_enterEscort 12 = .ok (.putfield 48, 3) := by decide +kernel
theorem dX2_enterEscort_15 : decode cX2_enterEscort 15 = .ok (.aload_n 0, 1) := by decide +kernel
theorem dX2_enterEscort_16 : decode cX2_enterEscort 16 = .ok (.getfield 29, 3) := by decide +kernel
theorem dX2_enterEscort_19 : decode cX2_enterEscort 19 = .ok (.iload_n 3, 1) := by decide +kernel
theorem dX2_enterEscort_20 : decode cX2_enterEscort 20 = .ok (.iload_n 1, 1) := by decide +kernel
theorem dX2_enterEscort_21 : decode cX2_enterEscort 21 = .ok (.invokevirtual 71, 3) := by decide +kernel
theorem dX2_enterEscort_24 : decode cX2_enterEscort 24 = .ok (.aload_n 0, 1) := by decide +kernel
theorem dX2_enterEscort_25 : decode cX2_enterEscort 25 = .ok (.getfield 32, 3) := by decide +kernel
theorem dX2_enterEscort_28 : decode cX2_enterEscort 28 = .ok (.iload_n 3, 1) := by decide +kernel
theorem dX2_enterEscort_29 : decode cX2_enterEscort 29 = .ok (.iload_n 2, 1) := by decide +kernel
theorem dX2_enterEscort_30 : decode cX2_enterEscort 30 = .ok (.invokevirtual 71, 3) := by decide +kernel
theorem dX2_enterEscort_33 : decode cX2_enterEscort 33 = .ok (.iload_n 3, 1) := by decide +kernel
theorem dX2_enterEscort_34 : decode cX2_enterEscort 34 = .ok (.ireturn, 1) := by decide +kernel
theorem dX2_enterVenue_0 : decode cX2_enterVenue 0 = .ok (.aload_n 0, 1) := by decide +kernel
theorem dX2_enterVenue_1 : decode cX2_enterVenue 1 = .ok (.getfield 51, 3) := by decide +kernel
theorem dX2_enterVenue_4 : decode cX2_enterVenue 4 = .ok (.istore_n 2, 1) := by decide +kernel
theorem dX2_enterVenue_5 : decode cX2_enterVenue 5 = .ok (.aload_n 0, 1) := by decide +kernel
theorem dX2_enterVenue_6 : decode cX2_enterVenue 6 = .ok (.dup, 1) := by decide +kernel
theorem dX2_enterVenue_7 : decode cX2_enterVenue 7 = .ok (.getfield 51, 3) := by decide +kernel
theorem dX2_enterVenue_10 : decode cX2_enterVenue 10 = .ok (.iconst 1, 1) := by decide +kernel
theorem dX2_enterVenue_11 : decode cX2_enterVenue 11 = .ok (.iadd, 1) := by decide +kernel
theorem dX2_enterVenue_12 : decode cX2_enterVenue 12 = .ok (.putfield 51, 3) := by decide +kernel
theorem dX2_enterVenue_15 : decode cX2_enterVenue 15 = .ok (.aload_n 0, 1) := by decide +kernel
theorem dX2_enterVenue_16 : decode cX2_enterVenue 16 = .ok (.getfield 38, 3) := by decide +kernel
theorem dX2_enterVenue_19 : decode cX2_enterVenue 19 = .ok (.iload_n 2, 1) := by decide +kernel
theorem dX2_enterVenue_20 : decode cX2_enterVenue 20 = .ok (.iload_n 1, 1) := by decide +kernel
theorem dX2_enterVenue_21 : decode cX2_enterVenue 21 = .ok (.invokevirtual 71, 3) := by decide +kernel
theorem dX2_enterVenue_24 : decode cX2_enterVenue 24 = .ok (.iload_n 2, 1) := by decide +kernel
theorem dX2_enterVenue_25 : decode cX2_enterVenue 25 = .ok (.ireturn, 1) := by decide +kernel
theorem dX2_hoursIn_0 : decode cX2_hoursIn 0 = .ok (.aload_n 0, 1) := by decide +kernel
theorem dX2_hoursIn_1 : decode cX2_hoursIn 1 = .ok (.getfield 14, 3) := by decide +kernel
theorem dX2_hoursIn_4 : decode cX2_hoursIn 4 = .ok (.iload_n 1, 1) := by decide +kernel
theorem dX2_hoursIn_5 : decode cX2_hoursIn 5 = .ok (.bipush 20, 2) := by decide +kernel
theorem dX2_hoursIn_7 : decode cX2_hoursIn 7 = .ok (.imul, 1) := by decide +kernel
theorem dX2_hoursIn_8 : decode cX2_hoursIn 8 = .ok (.iload_n 2, 1) := by decide +kernel
theorem dX2_hoursIn_9 : decode cX2_hoursIn 9 = .ok (.iadd, 1) := by decide +kernel
theorem dX2_hoursIn_10 : decode cX2_hoursIn 10 = .ok (.invokevirtual 75, 3) := by decide +kernel
theorem dX2_hoursIn_13 : decode cX2_hoursIn 13 = .ok (.ireturn, 1) := by decide +kernel
theorem dX2_setHoursFrom_0 : decode cX2_setHoursFrom 0 = .ok (.iload_n 2, 1) := by decide +kernel
theorem dX2_setHoursFrom_1 : decode cX2_setHoursFrom 1 = .ok (.istore 4, 2) := by decide +kernel
theorem dX2_setHoursFrom_3 : decode cX2_setHoursFrom 3 = .ok (.iload 4, 2) := by decide +kernel
theorem dX2_setHoursFrom_5 : decode cX2_setHoursFrom 5 = .ok (.bipush 20, 2) := by decide +kernel
theorem dX2_setHoursFrom_7 : decode cX2_setHoursFrom 7 = .ok (.if_icmp .ge 24, 3) := by decide +kernel
theorem dX2_setHoursFrom_10 : decode cX2_setHoursFrom 10 = .ok (.aload_n 0, 1) := by decide +kernel
theorem dX2_setHoursFrom_11 : decode cX2_setHoursFrom 11 = .ok (.getfield 14, 3) := by decide +kernel
theorem dX2_setHoursFrom_14 : decode cX2_setHoursFrom 14 = .ok (.iload_n 1, 1) := by decide +kernel
theorem dX2_setHoursFrom_15 : decode cX2_setHoursFrom 15 = .ok (.bipush 20, 2) := by decide +kernel
theorem dX2_setHoursFrom_17 : decode cX2_setHoursFrom 17 = .ok (.imul, 1) := by decide +kernel
theorem dX2_setHoursFrom_18 : decode cX2_setHoursFrom 18 = .ok (.iload 4, 2) := by decide +kernel
theorem dX2_setHoursFrom_20 : decode cX2_setHoursFrom 20 = .ok (.iadd, 1) := by decide +kernel
theorem dX2_setHoursFrom_21 : decode cX2_setHoursFrom 21 = .ok (.iload_n 3, 1) := by decide +kernel
theorem dX2_setHoursFrom_22 : decode cX2_setHoursFrom 22 = .ok (.invokevirtual 71, 3) := by decide +kernel
theorem dX2_setHoursFrom_25 : decode cX2_setHoursFrom 25 = .ok (.iinc 4 1, 3) := by decide +kernel
theorem dX2_setHoursFrom_28 : decode cX2_setHoursFrom 28 = .ok (.goto (-25), 3) := by decide +kernel
theorem dX2_setHoursFrom_31 : decode cX2_setHoursFrom 31 = .ok (.return_, 1) := by decide +kernel
theorem dX2_hoursUpTo_0 : decode cX2_hoursUpTo 0 = .ok (.iconst 0, 1) := by decide +kernel
theorem dX2_hoursUpTo_1 : decode cX2_hoursUpTo 1 = .ok (.istore_n 3, 1) := by decide +kernel
theorem dX2_hoursUpTo_2 : decode cX2_hoursUpTo 2 = .ok (.iconst 0, 1) := by decide +kernel
theorem dX2_hoursUpTo_3 : decode cX2_hoursUpTo 3 = .ok (.istore 4, 2) := by decide +kernel
theorem dX2_hoursUpTo_5 : decode cX2_hoursUpTo 5 = .ok (.iload 4, 2) := by decide +kernel
theorem dX2_hoursUpTo_7 : decode cX2_hoursUpTo 7 = .ok (.iload_n 2, 1) := by decide +kernel
theorem dX2_hoursUpTo_8 : decode cX2_hoursUpTo 8 = .ok (.if_icmp .gt 26, 3) := by decide +kernel
theorem dX2_hoursUpTo_11 : decode cX2_hoursUpTo 11 = .ok (.iload 4, 2) := by decide +kernel
theorem dX2_hoursUpTo_13 : decode cX2_hoursUpTo 13 = .ok (.bipush 20, 2) := by decide +kernel
theorem dX2_hoursUpTo_15 : decode cX2_hoursUpTo 15 = .ok (.if_icmp .ge 19, 3) := by decide +kernel
theorem dX2_hoursUpTo_18 : decode cX2_hoursUpTo 18 = .ok (.iload_n 3, 1) := by decide +kernel
theorem dX2_hoursUpTo_19 : decode cX2_hoursUpTo 19 = .ok (.aload_n 0, 1) := by decide +kernel
theorem dX2_hoursUpTo_20 : decode cX2_hoursUpTo 20 = .ok (.iload_n 1, 1) := by decide +kernel
theorem dX2_hoursUpTo_21 : decode cX2_hoursUpTo 21 = .ok (.iload 4, 2) := by decide +kernel
theorem dX2_hoursUpTo_23 : decode cX2_hoursUpTo 23 = .ok (.invokevirtual 79, 3) := by decide +kernel
theorem dX2_hoursUpTo_26 : decode cX2_hoursUpTo 26 = .ok (.iadd, 1) := by decide +kernel
theorem dX2_hoursUpTo_27 : decode cX2_hoursUpTo 27 = .ok (.istore_n 3, 1) := by decide +kernel
theorem dX2_hoursUpTo_28 : decode cX2_hoursUpTo 28 = .ok (.iinc 4 1, 3) := by decide +kernel
theorem dX2_hoursUpTo_31 : decode cX2_hoursUpTo 31 = .ok (.goto (-26), 3) := by decide +kernel
theorem dX2_hoursUpTo_34 : decode cX2_hoursUpTo 34 = .ok (.iload_n 3, 1) := by decide +kernel
theorem dX2_hoursUpTo_35 : decode cX2_hoursUpTo 35 = .ok (.ireturn, 1) := by decide +kernel
theorem dX2_plannedUpTo_0 : decode cX2_plannedUpTo 0 = .ok (.iconst 0, 1) := by decide +kernel
theorem dX2_plannedUpTo_1 : decode cX2_plannedUpTo 1 = .ok (.istore_n 3, 1) := by decide +kernel
theorem dX2_plannedUpTo_2 : decode cX2_plannedUpTo 2 = .ok (.iconst 0, 1) := by decide +kernel
theorem dX2_plannedUpTo_3 : decode cX2_plannedUpTo 3 = .ok (.istore 4, 2) := by decide +kernel
theorem dX2_plannedUpTo_5 : decode cX2_plannedUpTo 5 = .ok (.iload 4, 2) := by decide +kernel
theorem dX2_plannedUpTo_7 : decode cX2_plannedUpTo 7 = .ok (.aload_n 0, 1) := by decide +kernel
theorem dX2_plannedUpTo_8 : decode cX2_plannedUpTo 8 = .ok (.getfield 54, 3) := by decide +kernel
theorem dX2_plannedUpTo_11 : decode cX2_plannedUpTo 11 = .ok (.if_icmp .ge 44, 3) := by decide +kernel
theorem dX2_plannedUpTo_14 : decode cX2_plannedUpTo 14 = .ok (.aload_n 0, 1) := by decide +kernel
theorem dX2_plannedUpTo_15 : decode cX2_plannedUpTo 15 = .ok (.iload 4, 2) := by decide +kernel
theorem dX2_plannedUpTo_17 : decode cX2_plannedUpTo 17 = .ok (.iconst 0, 1) := by decide +kernel
theorem dX2_plannedUpTo_18 : decode cX2_plannedUpTo 18 = .ok (.invokevirtual 83, 3) := by decide +kernel
theorem dX2_plannedUpTo_21 : decode cX2_plannedUpTo 21 = .ok (.iload_n 1, 1) := by decide +kernel
theorem dX2_plannedUpTo_22 : decode cX2_plannedUpTo 22 = .ok (.if_icmp .ne 27, 3) := by decide +kernel
theorem dX2_plannedUpTo_25 : decode cX2_plannedUpTo 25 = .ok (.aload_n 0, 1) := by decide +kernel
theorem dX2_plannedUpTo_26 : decode cX2_plannedUpTo 26 = .ok (.iload 4, 2) := by decide +kernel
theorem dX2_plannedUpTo_28 : decode cX2_plannedUpTo 28 = .ok (.iconst 5, 1) := by decide +kernel
theorem dX2_plannedUpTo_29 : decode cX2_plannedUpTo 29 = .ok (.invokevirtual 83, 3) := by decide +kernel
theorem dX2_plannedUpTo_32 : decode cX2_plannedUpTo 32 = .ok (.ifCond .ne 17, 3) := by decide +kernel
theorem dX2_plannedUpTo_35 : decode cX2_plannedUpTo 35 = .ok (.aload_n 0, 1) := by decide +kernel
theorem dX2_plannedUpTo_36 : decode cX2_plannedUpTo 36 = .ok (.iload 4, 2) := by decide +kernel
theorem dX2_plannedUpTo_38 : decode cX2_plannedUpTo 38 = .ok (.iconst 1, 1) := by decide +kernel
theorem dX2_plannedUpTo_39 : decode cX2_plannedUpTo 39 = .ok (.invokevirtual 83, 3) := by decide +kernel
theorem dX2_plannedUpTo_42 : decode cX2_plannedUpTo 42 = .ok (.iload_n 2, 1) := by decide +kernel
theorem dX2_plannedUpTo_43 : decode cX2_plannedUpTo 43 = .ok (.if_icmp .gt 6, 3) := by decide +kernel
theorem dX2_plannedUpTo_46 : decode cX2_plannedUpTo 46 = .ok (.iinc 3 1, 3) := by decide +kernel
theorem dX2_plannedUpTo_49 : decode cX2_plannedUpTo 49 = .ok (.iinc 4 1, 3) := by decide +kernel
theorem dX2_plannedUpTo_52 : decode cX2_plannedUpTo 52 = .ok (.goto (-47), 3) := by decide +kernel
theorem dX2_plannedUpTo_55 : decode cX2_plannedUpTo 55 = .ok (.iload_n 3, 1) := by decide +kernel
theorem dX2_plannedUpTo_56 : decode cX2_plannedUpTo 56 = .ok (.ireturn, 1) := by decide +kernel
theorem dX2_debt_0 : decode cX2_debt 0 = .ok (.aload_n 0, 1) := by decide +kernel
theorem dX2_debt_1 : decode cX2_debt 1 = .ok (.getfield 23, 3) := by decide +kernel
theorem dX2_debt_4 : decode cX2_debt 4 = .ok (.iload_n 1, 1) := by decide +kernel
theorem dX2_debt_5 : decode cX2_debt 5 = .ok (.invokevirtual 75, 3) := by decide +kernel
theorem dX2_debt_8 : decode cX2_debt 8 = .ok (.aload_n 0, 1) := by decide +kernel
theorem dX2_debt_9 : decode cX2_debt 9 = .ok (.iload_n 1, 1) := by decide +kernel
theorem dX2_debt_10 : decode cX2_debt 10 = .ok (.iload_n 2, 1) := by decide +kernel
theorem dX2_debt_11 : decode cX2_debt 11 = .ok (.invokevirtual 86, 3) := by decide +kernel
theorem dX2_debt_14 : decode cX2_debt 14 = .ok (.iadd, 1) := by decide +kernel
theorem dX2_debt_15 : decode cX2_debt 15 = .ok (.istore_n 3, 1) := by decide +kernel
theorem dX2_debt_16 : decode cX2_debt 16 = .ok (.iconst 0, 1) := by decide +kernel
theorem dX2_debt_17 : decode cX2_debt 17 = .ok (.aload_n 0, 1) := by decide +kernel
theorem dX2_debt_18 : decode cX2_debt 18 = .ok (.iload_n 1, 1) := by decide +kernel
theorem dX2_debt_19 : decode cX2_debt 19 = .ok (.iload_n 2, 1) := by decide +kernel
theorem dX2_debt_20 : decode cX2_debt 20 = .ok (.invokevirtual 89, 3) := by decide +kernel
theorem dX2_debt_23 : decode cX2_debt 23 = .ok (.iload_n 3, 1) := by decide +kernel
theorem dX2_debt_24 : decode cX2_debt 24 = .ok (.isub, 1) := by decide +kernel
theorem dX2_debt_25 : decode cX2_debt 25 = .ok (.invokestatic 92, 3) := by decide +kernel
theorem dX2_debt_28 : decode cX2_debt 28 = .ok (.ireturn, 1) := by decide +kernel
theorem dX2_debtOfAll_0 : decode cX2_debtOfAll 0 = .ok (.iconst 0, 1) := by decide +kernel
theorem dX2_debtOfAll_1 : decode cX2_debtOfAll 1 = .ok (.istore_n 2, 1) := by decide +kernel
theorem dX2_debtOfAll_2 : decode cX2_debtOfAll 2 = .ok (.iconst 0, 1) := by decide +kernel
theorem dX2_debtOfAll_3 : decode cX2_debtOfAll 3 = .ok (.istore_n 3, 1) := by decide +kernel
theorem dX2_debtOfAll_4 : decode cX2_debtOfAll 4 = .ok (.iload_n 3, 1) := by decide +kernel
theorem dX2_debtOfAll_5 : decode cX2_debtOfAll 5 = .ok (.aload_n 0, 1) := by decide +kernel
theorem dX2_debtOfAll_6 : decode cX2_debtOfAll 6 = .ok (.getfield 44, 3) := by decide +kernel
theorem dX2_debtOfAll_9 : decode cX2_debtOfAll 9 = .ok (.if_icmp .ge 18, 3) := by decide +kernel
theorem dX2_debtOfAll_12 : decode cX2_debtOfAll 12 = .ok (.iload_n 2, 1) := by decide +kernel
theorem dX2_debtOfAll_13 : decode cX2_debtOfAll 13 = .ok (.aload_n 0, 1) := by decide +kernel
theorem dX2_debtOfAll_14 : decode cX2_debtOfAll 14 = .ok (.iload_n 3, 1) := by decide +kernel
theorem dX2_debtOfAll_15 : decode cX2_debtOfAll 15 = .ok (.iload_n 1, 1) := by decide +kernel
theorem dX2_debtOfAll_16 : decode cX2_debtOfAll 16 = .ok (.invokevirtual 97, 3) := by decide +kernel
theorem dX2_debtOfAll_19 : decode cX2_debtOfAll 19 = .ok (.iadd, 1) := by decide +kernel
theorem dX2_debtOfAll_20 : decode cX2_debtOfAll 20 = .ok (.istore_n 2, 1) := by decide +kernel
theorem dX2_debtOfAll_21 : decode cX2_debtOfAll 21 = .ok (.iinc 3 1, 3) := by decide +kernel
theorem dX2_debtOfAll_24 : decode cX2_debtOfAll 24 = .ok (.goto (-20), 3) := by decide +kernel
theorem dX2_debtOfAll_27 : decode cX2_debtOfAll 27 = .ok (.iload_n 2, 1) := by decide +kernel
theorem dX2_debtOfAll_28 : decode cX2_debtOfAll 28 = .ok (.ireturn, 1) := by decide +kernel
theorem dX2_meetingsWith_0 : decode cX2_meetingsWith 0 = .ok (.iconst 0, 1) := by decide +kernel
theorem dX2_meetingsWith_1 : decode cX2_meetingsWith 1 = .ok (.istore_n 3, 1) := by decide +kernel
theorem dX2_meetingsWith_2 : decode cX2_meetingsWith 2 = .ok (.iconst 0, 1) := by decide +kernel
theorem dX2_meetingsWith_3 : decode cX2_meetingsWith 3 = .ok (.istore 4, 2) := by decide +kernel
theorem dX2_meetingsWith_5 : decode cX2_meetingsWith 5 = .ok (.iload 4, 2) := by decide +kernel
theorem dX2_meetingsWith_7 : decode cX2_meetingsWith 7 = .ok (.aload_n 0, 1) := by decide +kernel
theorem dX2_meetingsWith_8 : decode cX2_meetingsWith 8 = .ok (.getfield 54, 3) := by decide +kernel
theorem dX2_meetingsWith_11 : decode cX2_meetingsWith 11 = .ok (.if_icmp .ge 33, 3) := by decide +kernel
theorem dX2_meetingsWith_14 : decode cX2_meetingsWith 14 = .ok (.aload_n 0, 1) := by decide +kernel
theorem dX2_meetingsWith_15 : decode cX2_meetingsWith 15 = .ok (.iload 4, 2) := by decide +kernel
theorem dX2_meetingsWith_17 : decode cX2_meetingsWith 17 = .ok (.iconst 3, 1) := by decide +kernel
theorem dX2_meetingsWith_18 : decode cX2_meetingsWith 18 = .ok (.invokevirtual 83, 3) := by decide +kernel
theorem dX2_meetingsWith_21 : decode cX2_meetingsWith 21 = .ok (.iload_n 1, 1) := by decide +kernel
theorem dX2_meetingsWith_22 : decode cX2_meetingsWith 22 = .ok (.if_icmp .ne 16, 3) := by decide +kernel
theorem dX2_meetingsWith_25 : decode cX2_meetingsWith 25 = .ok (.aload_n 0, 1) := by decide +kernel
theorem dX2_meetingsWith_26 : decode cX2_meetingsWith 26 = .ok (.iload 4, 2) := by decide +kernel
theorem dX2_meetingsWith_28 : decode cX2_meetingsWith 28 = .ok (.iload_n 2, 1) := by decide +kernel
theorem dX2_meetingsWith_29 : decode cX2_meetingsWith 29 = .ok (.invokevirtual 100, 3) := by decide +kernel
theorem dX2_meetingsWith_32 : decode cX2_meetingsWith 32 = .ok (.ifCond .eq 6, 3) := by decide +kernel
theorem dX2_meetingsWith_35 : decode cX2_meetingsWith 35 = .ok (.iinc 3 1, 3) := by decide +kernel
theorem dX2_meetingsWith_38 : decode cX2_meetingsWith 38 = .ok (.iinc 4 1, 3) := by decide +kernel
theorem dX2_meetingsWith_41 : decode cX2_meetingsWith 41 = .ok (.goto (-36), 3) := by decide +kernel
theorem dX2_meetingsWith_44 : decode cX2_meetingsWith 44 = .ok (.iload_n 3, 1) := by decide +kernel
theorem dX2_meetingsWith_45 : decode cX2_meetingsWith 45 = .ok (.ireturn, 1) := by decide +kernel
theorem dX2_fact_0 : decode cX2_fact 0 = .ok (.aload_n 0, 1) := by decide +kernel
theorem dX2_fact_1 : decode cX2_fact 1 = .ok (.getfield 41, 3) := by decide +kernel
theorem dX2_fact_4 : decode cX2_fact 4 = .ok (.iload_n 1, 1) := by decide +kernel
theorem dX2_fact_5 : decode cX2_fact 5 = .ok (.bipush 7, 2) := by decide +kernel
theorem dX2_fact_7 : decode cX2_fact 7 = .ok (.imul, 1) := by decide +kernel
theorem dX2_fact_8 : decode cX2_fact 8 = .ok (.iload_n 2, 1) := by decide +kernel
theorem dX2_fact_9 : decode cX2_fact 9 = .ok (.iadd, 1) := by decide +kernel
theorem dX2_fact_10 : decode cX2_fact 10 = .ok (.invokevirtual 75, 3) := by decide +kernel
theorem dX2_fact_13 : decode cX2_fact 13 = .ok (.ireturn, 1) := by decide +kernel
theorem dX2_takesPlaceIn_0 : decode cX2_takesPlaceIn 0 = .ok (.aload_n 0, 1) := by decide +kernel
theorem dX2_takesPlaceIn_1 : decode cX2_takesPlaceIn 1 = .ok (.iload_n 1, 1) := by decide +kernel
theorem dX2_takesPlaceIn_2 : decode cX2_takesPlaceIn 2 = .ok (.iconst 1, 1) := by decide +kernel
theorem dX2_takesPlaceIn_3 : decode cX2_takesPlaceIn 3 = .ok (.invokevirtual 83, 3) := by decide +kernel
theorem dX2_takesPlaceIn_6 : decode cX2_takesPlaceIn 6 = .ok (.iload_n 2, 1) := by decide +kernel
theorem dX2_takesPlaceIn_7 : decode cX2_takesPlaceIn 7 = .ok (.if_icmp .ne 17, 3) := by decide +kernel
theorem dX2_takesPlaceIn_10 : decode cX2_takesPlaceIn 10 = .ok (.aload_n 0, 1) := by decide +kernel
theorem dX2_takesPlaceIn_11 : decode cX2_takesPlaceIn 11 = .ok (.iload_n 1, 1) := by decide +kernel
theorem dX2_takesPlaceIn_12 : decode cX2_takesPlaceIn 12 = .ok (.iconst 5, 1) := by decide +kernel
theorem dX2_takesPlaceIn_13 : decode cX2_takesPlaceIn 13 = .ok (.invokevirtual 83, 3) := by decide +kernel
theorem dX2_takesPlaceIn_16 : decode cX2_takesPlaceIn 16 = .ok (.iconst 2, 1) := by decide +kernel
theorem dX2_takesPlaceIn_17 : decode cX2_takesPlaceIn 17 = .ok (.if_icmp .eq 7, 3) := by decide +kernel
theorem dX2_takesPlaceIn_20 : decode cX2_takesPlaceIn 20 = .ok (.iconst 1, 1) := by decide +kernel
theorem dX2_takesPlaceIn_21 : decode cX2_takesPlaceIn 21 = .ok (.goto 4, 3) := by decide +kernel
theorem dX2_takesPlaceIn_24 : decode cX2_takesPlaceIn 24 = .ok (.iconst 0, 1) := by decide +kernel
theorem dX2_takesPlaceIn_25 : decode cX2_takesPlaceIn 25 = .ok (.ireturn, 1) := by decide +kernel
theorem dX2_isOpen_0 : decode cX2_isOpen 0 = .ok (.aload_n 0, 1) := by decide +kernel
theorem dX2_isOpen_1 : decode cX2_isOpen 1 = .ok (.iload_n 1, 1) := by decide +kernel
theorem dX2_isOpen_2 : decode cX2_isOpen 2 = .ok (.iconst 5, 1) := by decide +kernel
theorem dX2_isOpen_3 : decode cX2_isOpen 3 = .ok (.invokevirtual 83, 3) := by decide +kernel
theorem dX2_isOpen_6 : decode cX2_isOpen 6 = .ok (.ifCond .ne 20, 3) := by decide +kernel
theorem dX2_isOpen_9 : decode cX2_isOpen 9 = .ok (.aload_n 0, 1) := by decide +kernel
theorem dX2_isOpen_10 : decode cX2_isOpen 10 = .ok (.iload_n 1, 1) := by decide +kernel
theorem dX2_isOpen_11 : decode cX2_isOpen 11 = .ok (.iconst 1, 1) := by decide +kernel
theorem dX2_isOpen_12 : decode cX2_isOpen 12 = .ok (.invokevirtual 83, 3) := by decide +kernel
theorem dX2_isOpen_15 : decode cX2_isOpen 15 = .ok (.aload_n 0, 1) := by decide +kernel
theorem dX2_isOpen_16 : decode cX2_isOpen 16 = .ok (.getfield 57, 3) := by decide +kernel
theorem dX2_isOpen_19 : decode cX2_isOpen 19 = .ok (.if_icmp .ne 7, 3) := by decide +kernel
theorem dX2_isOpen_22 : decode cX2_isOpen 22 = .ok (.iconst 1, 1) := by decide +kernel
theorem dX2_isOpen_23 : decode cX2_isOpen 23 = .ok (.goto 4, 3) := by decide +kernel
theorem dX2_isOpen_26 : decode cX2_isOpen 26 = .ok (.iconst 0, 1) := by decide +kernel
theorem dX2_isOpen_27 : decode cX2_isOpen 27 = .ok (.ireturn, 1) := by decide +kernel
theorem dX2_placeOf_0 : decode cX2_placeOf 0 = .ok (.iconst 0, 1) := by decide +kernel
theorem dX2_placeOf_1 : decode cX2_placeOf 1 = .ok (.istore_n 2, 1) := by decide +kernel
theorem dX2_placeOf_2 : decode cX2_placeOf 2 = .ok (.iload_n 2, 1) := by decide +kernel
theorem dX2_placeOf_3 : decode cX2_placeOf 3 = .ok (.aload_n 0, 1) := by decide +kernel
theorem dX2_placeOf_4 : decode cX2_placeOf 4 = .ok (.getfield 54, 3) := by decide +kernel
theorem dX2_placeOf_7 : decode cX2_placeOf 7 = .ok (.if_icmp .ge 22, 3) := by decide +kernel
theorem dX2_placeOf_10 : decode cX2_placeOf 10 = .ok (.aload_n 0, 1) := by decide +kernel
theorem dX2_placeOf_11 : decode cX2_placeOf 11 = .ok (.iload_n 2, 1) := by decide +kernel
theorem dX2_placeOf_12 : decode cX2_placeOf 12 = .ok (.bipush 6, 2) := by decide +kernel
theorem dX2_placeOf_14 : decode cX2_placeOf 14 = .ok (.invokevirtual 83, 3) := by decide +kernel
theorem dX2_placeOf_17 : decode cX2_placeOf 17 = .ok (.iload_n 1, 1) := by decide +kernel
theorem dX2_placeOf_18 : decode cX2_placeOf 18 = .ok (.if_icmp .ne 5, 3) := by decide +kernel
theorem dX2_placeOf_21 : decode cX2_placeOf 21 = .ok (.iload_n 2, 1) := by decide +kernel
theorem dX2_placeOf_22 : decode cX2_placeOf 22 = .ok (.ireturn, 1) := by decide +kernel
theorem dX2_placeOf_23 : decode cX2_placeOf 23 = .ok (.iinc 2 1, 3) := by decide +kernel
theorem dX2_placeOf_26 : decode cX2_placeOf 26 = .ok (.goto (-24), 3) := by decide +kernel
theorem dX2_placeOf_29 : decode cX2_placeOf 29 = .ok (.iconst (-1), 1) := by decide +kernel
theorem dX2_placeOf_30 : decode cX2_placeOf 30 = .ok (.ireturn, 1) := by decide +kernel
theorem dX2_keepMeeting_0 : decode cX2_keepMeeting 0 = .ok (.aload_n 0, 1) := by decide +kernel
theorem dX2_keepMeeting_1 : decode cX2_keepMeeting 1 = .ok (.getfield 54, 3) := by decide +kernel
theorem dX2_keepMeeting_4 : decode cX2_keepMeeting 4 = .ok (.bipush 7, 2) := by decide +kernel
theorem dX2_keepMeeting_6 : decode cX2_keepMeeting 6 = .ok (.imul, 1) := by decide +kernel
theorem dX2_keepMeeting_7 : decode cX2_keepMeeting 7 = .ok (.istore 6, 2) := by decide +kernel
theorem dX2_keepMeeting_9 : decode cX2_keepMeeting 9 = .ok (.aload_n 0, 1) := by decide +kernel
theorem dX2_keepMeeting_10 : decode cX2_keepMeeting 10 = .ok (.getfield 41, 3) := by decide +kernel
theorem dX2_keepMeeting_13 : decode cX2_keepMeeting 13 = .ok (.iload 6, 2) := by decide +kernel
theorem dX2_keepMeeting_15 : decode cX2_keepMeeting 15 = .ok (.iconst 0, 1) := by decide +kernel
theorem dX2_keepMeeting_16 : decode cX2_keepMeeting 16 = .ok (.iadd, 1) := by decide +kernel
theorem dX2_keepMeeting_17 : decode cX2_keepMeeting 17 = .ok (.iload_n 1, 1) := by decide +kernel
theorem dX2_keepMeeting_18 : decode cX2_keepMeeting 18 = .ok (.invokevirtual 71, 3) := by decide +kernel
theorem dX2_keepMeeting_21 : decode cX2_keepMeeting 21 = .ok (.aload_n 0, 1) := by decide +kernel
theorem dX2_keepMeeting_22 : decode cX2_keepMeeting 22 = .ok (.getfield 41, 3) := by decide +kernel
theorem dX2_keepMeeting_25 : decode cX2_keepMeeting 25 = .ok (.iload 6, 2) := by decide +kernel
theorem dX2_keepMeeting_27 : decode cX2_keepMeeting 27 = .ok (.iconst 1, 1) := by decide +kernel
theorem dX2_keepMeeting_28 : decode cX2_keepMeeting 28 = .ok (.iadd, 1) := by decide +kernel
theorem dX2_keepMeeting_29 : decode cX2_keepMeeting 29 = .ok (.iload_n 2, 1) := by decide +kernel
theorem dX2_keepMeeting_30 : decode cX2_keepMeeting 30 = .ok (.invokevirtual 71, 3) := by decide +kernel
theorem dX2_keepMeeting_33 : decode cX2_keepMeeting 33 = .ok (.aload_n 0, 1) := by decide +kernel
theorem dX2_keepMeeting_34 : decode cX2_keepMeeting 34 = .ok (.getfield 41, 3) := by decide +kernel
theorem dX2_keepMeeting_37 : decode cX2_keepMeeting 37 = .ok (.iload 6, 2) := by decide +kernel
theorem dX2_keepMeeting_39 : decode cX2_keepMeeting 39 = .ok (.iconst 2, 1) := by decide +kernel
theorem dX2_keepMeeting_40 : decode cX2_keepMeeting 40 = .ok (.iadd, 1) := by decide +kernel
theorem dX2_keepMeeting_41 : decode cX2_keepMeeting 41 = .ok (.iload_n 3, 1) := by decide +kernel
theorem dX2_keepMeeting_42 : decode cX2_keepMeeting 42 = .ok (.invokevirtual 71, 3) := by decide +kernel
theorem dX2_keepMeeting_45 : decode cX2_keepMeeting 45 = .ok (.aload_n 0, 1) := by decide +kernel
theorem dX2_keepMeeting_46 : decode cX2_keepMeeting 46 = .ok (.getfield 41, 3) := by decide +kernel
theorem dX2_keepMeeting_49 : decode cX2_keepMeeting 49 = .ok (.iload 6, 2) := by decide +kernel
theorem dX2_keepMeeting_51 : decode cX2_keepMeeting 51 = .ok (.iconst 3, 1) := by decide +kernel
theorem dX2_keepMeeting_52 : decode cX2_keepMeeting 52 = .ok (.iadd, 1) := by decide +kernel
theorem dX2_keepMeeting_53 : decode cX2_keepMeeting 53 = .ok (.iload 4, 2) := by decide +kernel
theorem dX2_keepMeeting_55 : decode cX2_keepMeeting 55 = .ok (.invokevirtual 71, 3) := by decide +kernel
theorem dX2_keepMeeting_58 : decode cX2_keepMeeting 58 = .ok (.aload_n 0, 1) := by decide +kernel
theorem dX2_keepMeeting_59 : decode cX2_keepMeeting 59 = .ok (.getfield 41, 3) := by decide +kernel
theorem dX2_keepMeeting_62 : decode cX2_keepMeeting 62 = .ok (.iload 6, 2) := by decide +kernel
theorem dX2_keepMeeting_64 : decode cX2_keepMeeting 64 = .ok (.iconst 4, 1) := by decide +kernel
theorem dX2_keepMeeting_65 : decode cX2_keepMeeting 65 = .ok (.iadd, 1) := by decide +kernel
theorem dX2_keepMeeting_66 : decode cX2_keepMeeting 66 = .ok (.iload 5, 2) := by decide +kernel
theorem dX2_keepMeeting_68 : decode cX2_keepMeeting 68 = .ok (.invokevirtual 71, 3) := by decide +kernel
theorem dX2_keepMeeting_71 : decode cX2_keepMeeting 71 = .ok (.aload_n 0, 1) := by decide +kernel
theorem dX2_keepMeeting_72 : decode cX2_keepMeeting 72 = .ok (.getfield 41, 3) := by decide +kernel
theorem dX2_keepMeeting_75 : decode cX2_keepMeeting 75 = .ok (.iload 6, 2) := by decide +kernel
theorem dX2_keepMeeting_77 : decode cX2_keepMeeting 77 = .ok (.iconst 5, 1) := by decide +kernel
theorem dX2_keepMeeting_78 : decode cX2_keepMeeting 78 = .ok (.iadd, 1) := by decide +kernel
theorem dX2_keepMeeting_79 : decode cX2_keepMeeting 79 = .ok (.iconst 0, 1) := by decide +kernel
theorem dX2_keepMeeting_80 : decode cX2_keepMeeting 80 = .ok (.invokevirtual 71, 3) := by decide +kernel
theorem dX2_keepMeeting_83 : decode cX2_keepMeeting 83 = .ok (.aload_n 0, 1) := by decide +kernel
theorem dX2_keepMeeting_84 : decode cX2_keepMeeting 84 = .ok (.getfield 41, 3) := by decide +kernel
theorem dX2_keepMeeting_87 : decode cX2_keepMeeting 87 = .ok (.iload 6, 2) := by decide +kernel
theorem dX2_keepMeeting_89 : decode cX2_keepMeeting 89 = .ok (.bipush 6, 2) := by decide +kernel
theorem dX2_keepMeeting_91 : decode cX2_keepMeeting 91 = .ok (.iadd, 1) := by decide +kernel
theorem dX2_keepMeeting_92 : decode cX2_keepMeeting 92 = .ok (.aload_n 0, 1) := by decide +kernel
theorem dX2_keepMeeting_93 : decode cX2_keepMeeting 93 = .ok (.getfield 60, 3) := by decide +kernel
theorem dX2_keepMeeting_96 : decode cX2_keepMeeting 96 = .ok (.invokevirtual 71, 3) := by decide +kernel
theorem dX2_keepMeeting_99 : decode cX2_keepMeeting 99 = .ok (.aload_n 0, 1) := by decide +kernel
theorem dX2_keepMeeting_100 : decode cX2_keepMeeting 100 = .ok (.dup, 1) := by decide +kernel
theorem dX2_keepMeeting_101 : decode cX2_keepMeeting 101 = .ok (.getfield 54, 3) := by decide +kernel
theorem dX2_keepMeeting_104 : decode cX2_keepMeeting 104 = .ok (.iconst 1, 1) := by decide +kernel
theorem dX2_keepMeeting_105 : decode cX2_keepMeeting 105 = .ok (.iadd, 1) := by decide +kernel
theorem dX2_keepMeeting_106 : decode cX2_keepMeeting 106 = .ok (.putfield 54, 3) := by decide +kernel
theorem dX2_keepMeeting_109 : decode cX2_keepMeeting 109 = .ok (.aload_n 0, 1) := by decide +kernel
theorem dX2_keepMeeting_110 : decode cX2_keepMeeting 110 = .ok (.dup, 1) := by decide +kernel
theorem dX2_keepMeeting_111 : decode cX2_keepMeeting 111 = .ok (.getfield 60, 3) := by decide +kernel
theorem dX2_keepMeeting_114 : decode cX2_keepMeeting 114 = .ok (.iconst 1, 1) := by decide +kernel
theorem dX2_keepMeeting_115 : decode cX2_keepMeeting 115 = .ok (.iadd, 1) := by decide +kernel
theorem dX2_keepMeeting_116 : decode cX2_keepMeeting 116 = .ok (.putfield 60, 3) := by decide +kernel
theorem dX2_keepMeeting_119 : decode cX2_keepMeeting 119 = .ok (.aload_n 0, 1) := by decide +kernel
theorem dX2_keepMeeting_120 : decode cX2_keepMeeting 120 = .ok (.getfield 60, 3) := by decide +kernel
theorem dX2_keepMeeting_123 : decode cX2_keepMeeting 123 = .ok (.iconst 1, 1) := by decide +kernel
theorem dX2_keepMeeting_124 : decode cX2_keepMeeting 124 = .ok (.isub, 1) := by decide +kernel
theorem dX2_keepMeeting_125 : decode cX2_keepMeeting 125 = .ok (.ireturn, 1) := by decide +kernel
theorem dX2_moveMeeting_0 : decode cX2_moveMeeting 0 = .ok (.iconst 0, 1) := by decide +kernel
theorem dX2_moveMeeting_1 : decode cX2_moveMeeting 1 = .ok (.istore_n 3, 1) := by decide +kernel
theorem dX2_moveMeeting_2 : decode cX2_moveMeeting 2 = .ok (.iload_n 3, 1) := by decide +kernel
theorem dX2_moveMeeting_3 : decode cX2_moveMeeting 3 = .ok (.bipush 7, 2) := by decide +kernel
theorem dX2_moveMeeting_5 : decode cX2_moveMeeting 5 = .ok (.if_icmp .ge 28, 3) := by decide +kernel
theorem dX2_moveMeeting_8 : decode cX2_moveMeeting 8 = .ok (.aload_n 0, 1) := by decide +kernel
theorem dX2_moveMeeting_9 : decode cX2_moveMeeting 9 = .ok (.getfield 41, 3) := by decide +kernel
theorem dX2_moveMeeting_12 : decode cX2_moveMeeting 12 = .ok (.iload_n 2, 1) := by decide +kernel
theorem dX2_moveMeeting_13 : decode cX2_moveMeeting 13 = .ok (.bipush 7, 2) := by decide +kernel
theorem dX2_moveMeeting_15 : decode cX2_moveMeeting 15 = .ok (.imul, 1) := by decide +kernel
theorem dX2_moveMeeting_16 : decode cX2_moveMeeting 16 = .ok (.iload_n 3, 1) := by decide +kernel
theorem dX2_moveMeeting_17 : decode cX2_moveMeeting 17 = .ok (.iadd, 1) := by decide +kernel
theorem dX2_moveMeeting_18 : decode cX2_moveMeeting 18 = .ok (.aload_n 0, 1) := by decide +kernel
theorem dX2_moveMeeting_19 : decode cX2_moveMeeting 19 = .ok (.iload_n 1, 1) := by decide +kernel
theorem dX2_moveMeeting_20 : decode cX2_moveMeeting 20 = .ok (.iload_n 3, 1) := by decide +kernel
theorem dX2_moveMeeting_21 : decode cX2_moveMeeting 21 = .ok (.invokevirtual 83, 3) := by decide +kernel
theorem dX2_moveMeeting_24 : decode cX2_moveMeeting 24 = .ok (.invokevirtual 71, 3) := by decide +kernel
theorem dX2_moveMeeting_27 : decode cX2_moveMeeting 27 = .ok (.iinc 3 1, 3) := by decide +kernel
theorem dX2_moveMeeting_30 : decode cX2_moveMeeting 30 = .ok (.goto (-28), 3) := by decide +kernel
theorem dX2_moveMeeting_33 : decode cX2_moveMeeting 33 = .ok (.return_, 1) := by decide +kernel
theorem dX2_dropMeeting_0 : decode cX2_dropMeeting 0 = .ok (.iload_n 1, 1) := by decide +kernel
theorem dX2_dropMeeting_1 : decode cX2_dropMeeting 1 = .ok (.iconst 1, 1) := by decide +kernel
theorem dX2_dropMeeting_2 : decode cX2_dropMeeting 2 = .ok (.iadd, 1) := by decide +kernel
theorem dX2_dropMeeting_3 : decode cX2_dropMeeting 3 = .ok (.istore_n 2, 1) := by decide +kernel
theorem dX2_dropMeeting_4 : decode cX2_dropMeeting 4 = .ok (.iload_n 2, 1) := by decide +kernel
theorem dX2_dropMeeting_5 : decode cX2_dropMeeting 5 = .ok (.aload_n 0, 1) := by decide +kernel
theorem dX2_dropMeeting_6 : decode cX2_dropMeeting 6 = .ok (.getfield 54, 3) := by decide +kernel
theorem dX2_dropMeeting_9 : decode cX2_dropMeeting 9 = .ok (.if_icmp .ge 17, 3) := by decide +kernel
theorem dX2_dropMeeting_12 : decode cX2_dropMeeting 12 = .ok (.aload_n 0, 1) := by decide +kernel
theorem dX2_dropMeeting_13 : decode cX2_dropMeeting 13 = .ok (.iload_n 2, 1) := by decide +kernel
theorem dX2_dropMeeting_14 : decode cX2_dropMeeting 14 = .ok (.iload_n 2, 1) := by decide +kernel
theorem dX2_dropMeeting_15 : decode cX2_dropMeeting 15 = .ok (.iconst 1, 1) := by decide +kernel
theorem dX2_dropMeeting_16 : decode cX2_dropMeeting 16 = .ok (.isub, 1) := by decide +kernel
theorem dX2_dropMeeting_17 : decode cX2_dropMeeting 17 = .ok (.invokevirtual 104, 3) := by decide +kernel
theorem dX2_dropMeeting_20 : decode cX2_dropMeeting 20 = .ok (.iinc 2 1, 3) := by decide +kernel
theorem dX2_dropMeeting_23 : decode cX2_dropMeeting 23 = .ok (.goto (-19), 3) := by decide +kernel
theorem dX2_dropMeeting_26 : decode cX2_dropMeeting 26 = .ok (.aload_n 0, 1) := by decide +kernel
theorem dX2_dropMeeting_27 : decode cX2_dropMeeting 27 = .ok (.dup, 1) := by decide +kernel
theorem dX2_dropMeeting_28 : decode cX2_dropMeeting 28 = .ok (.getfield 54, 3) := by decide +kernel
theorem dX2_dropMeeting_31 : decode cX2_dropMeeting 31 = .ok (.iconst 1, 1) := by decide +kernel
theorem dX2_dropMeeting_32 : decode cX2_dropMeeting 32 = .ok (.isub, 1) := by decide +kernel
theorem dX2_dropMeeting_33 : decode cX2_dropMeeting 33 = .ok (.putfield 54, 3) := by decide +kernel
theorem dX2_dropMeeting_36 : decode cX2_dropMeeting 36 = .ok (.return_, 1) := by decide +kernel
theorem dX2_settle_0 : decode cX2_settle 0 = .ok (.aload_n 0, 1) := by decide +kernel
theorem dX2_settle_1 : decode cX2_settle 1 = .ok (.getfield 41, 3) := by decide +kernel
theorem dX2_settle_4 : decode cX2_settle 4 = .ok (.iload_n 1, 1) := by decide +kernel
theorem dX2_settle_5 : decode cX2_settle 5 = .ok (.bipush 7, 2) := by decide +kernel
theorem dX2_settle_7 : decode cX2_settle 7 = .ok (.imul, 1) := by decide +kernel
theorem dX2_settle_8 : decode cX2_settle 8 = .ok (.iconst 5, 1) := by decide +kernel
theorem dX2_settle_9 : decode cX2_settle 9 = .ok (.iadd, 1) := by decide +kernel
theorem dX2_settle_10 : decode cX2_settle 10 = .ok (.iload_n 2, 1) := by decide +kernel
theorem dX2_settle_11 : decode cX2_settle 11 = .ok (.invokevirtual 71, 3) := by decide +kernel
theorem dX2_settle_14 : decode cX2_settle 14 = .ok (.aload_n 0, 1) := by decide +kernel
theorem dX2_settle_15 : decode cX2_settle 15 = .ok (.iload_n 1, 1) := by decide +kernel
theorem dX2_settle_16 : decode cX2_settle 16 = .ok (.iconst 0, 1) := by decide +kernel
theorem dX2_settle_17 : decode cX2_settle 17 = .ok (.invokevirtual 83, 3) := by decide +kernel
theorem dX2_settle_20 : decode cX2_settle 20 = .ok (.istore_n 3, 1) := by decide +kernel
theorem dX2_settle_21 : decode cX2_settle 21 = .ok (.iload_n 2, 1) := by decide +kernel
theorem dX2_settle_22 : decode cX2_settle 22 = .ok (.iconst 1, 1) := by decide +kernel
theorem dX2_settle_23 : decode cX2_settle 23 = .ok (.if_icmp .ne 29, 3) := by decide +kernel
theorem dX2_settle_26 : decode cX2_settle 26 = .ok (.aload_n 0, 1) := by decide +kernel
theorem dX2_settle_27 : decode cX2_settle 27 = .ok (.getfield 23, 3) := by decide +kernel
theorem dX2_settle_30 : decode cX2_settle 30 = .ok (.iload_n 3, 1) := by decide +kernel
theorem dX2_settle_31 : decode cX2_settle 31 = .ok (.iconst 1, 1) := by decide +kernel
theorem dX2_settle_32 : decode cX2_settle 32 = .ok (.invokevirtual 107, 3) := by decide +kernel
theorem dX2_settle_35 : decode cX2_settle 35 = .ok (.aload_n 0, 1) := by decide +kernel
theorem dX2_settle_36 : decode cX2_settle 36 = .ok (.getfield 35, 3) := by decide +kernel
theorem dX2_settle_39 : decode cX2_settle 39 = .ok (.aload_n 0, 1) := by decide +kernel
theorem dX2_settle_40 : decode cX2_settle 40 = .ok (.iload_n 1, 1) := by decide +kernel
theorem dX2_settle_41 : decode cX2_settle 41 = .ok (.iconst 3, 1) := by decide +kernel
theorem dX2_settle_42 : decode cX2_settle 42 = .ok (.invokevirtual 83, 3) := by decide +kernel
theorem dX2_settle_45 : decode cX2_settle 45 = .ok (.iconst 1, 1) := by decide +kernel
theorem dX2_settle_46 : decode cX2_settle 46 = .ok (.invokevirtual 107, 3) := by decide +kernel
theorem dX2_settle_49 : decode cX2_settle 49 = .ok (.goto 12, 3) := by decide +kernel
theorem dX2_settle_52 : decode cX2_settle 52 = .ok (.aload_n 0, 1) := by decide +kernel
theorem dX2_settle_53 : decode cX2_settle 53 = .ok (.getfield 26, 3) := by decide +kernel
theorem dX2_settle_56 : decode cX2_settle 56 = .ok (.iload_n 3, 1) := by decide +kernel
theorem dX2_settle_57 : decode cX2_settle 57 = .ok (.iconst 1, 1) := by decide +kernel
theorem dX2_settle_58 : decode cX2_settle 58 = .ok (.invokevirtual 107, 3) := by decide +kernel
theorem dX2_settle_61 : decode cX2_settle 61 = .ok (.return_, 1) := by decide +kernel
theorem dX2_settleWeek_0 : decode cX2_settleWeek 0 = .ok (.iconst 0, 1) := by decide +kernel
theorem dX2_settleWeek_1 : decode cX2_settleWeek 1 = .ok (.istore_n 2, 1) := by decide +kernel
theorem dX2_settleWeek_2 : decode cX2_settleWeek 2 = .ok (.iconst 0, 1) := by decide +kernel
theorem dX2_settleWeek_3 : decode cX2_settleWeek 3 = .ok (.istore_n 3, 1) := by decide +kernel
theorem dX2_settleWeek_4 : decode cX2_settleWeek 4 = .ok (.iload_n 3, 1) := by decide +kernel
theorem dX2_settleWeek_5 : decode cX2_settleWeek 5 = .ok (.aload_n 0, 1) := by decide +kernel
theorem dX2_settleWeek_6 : decode cX2_settleWeek 6 = .ok (.getfield 54, 3) := by decide +kernel
theorem dX2_settleWeek_9 : decode cX2_settleWeek 9 = .ok (.if_icmp .ge 26, 3) := by decide +kernel
theorem dX2_settleWeek_12 : decode cX2_settleWeek 12 = .ok (.aload_n 0, 1) := by decide +kernel
theorem dX2_settleWeek_13 : decode cX2_settleWeek 13 = .ok (.iload_n 3, 1) := by decide +kernel
theorem dX2_settleWeek_14 : decode cX2_settleWeek 14 = .ok (.invokevirtual 110, 3) := by decide +kernel
theorem dX2_settleWeek_17 : decode cX2_settleWeek 17 = .ok (.ifCond .eq 12, 3) := by decide +kernel
theorem dX2_settleWeek_20 : decode cX2_settleWeek 20 = .ok (.aload_n 0, 1) := by decide +kernel
theorem dX2_settleWeek_21 : decode cX2_settleWeek 21 = .ok (.iload_n 3, 1) := by decide +kernel
theorem dX2_settleWeek_22 : decode cX2_settleWeek 22 = .ok (.iload_n 1, 1) := by decide +kernel
theorem dX2_settleWeek_23 : decode cX2_settleWeek 23 = .ok (.invokevirtual 114, 3) := by decide +kernel
theorem dX2_settleWeek_26 : decode cX2_settleWeek 26 = .ok (.iinc 2 1, 3) := by decide +kernel
theorem dX2_settleWeek_29 : decode cX2_settleWeek 29 = .ok (.iinc 3 1, 3) := by decide +kernel
theorem dX2_settleWeek_32 : decode cX2_settleWeek 32 = .ok (.goto (-28), 3) := by decide +kernel
theorem dX2_settleWeek_35 : decode cX2_settleWeek 35 = .ok (.iload_n 2, 1) := by decide +kernel
theorem dX2_settleWeek_36 : decode cX2_settleWeek 36 = .ok (.ireturn, 1) := by decide +kernel
theorem dX2_beginNextWeek_0 : decode cX2_beginNextWeek 0 = .ok (.aload_n 0, 1) := by decide +kernel
theorem dX2_beginNextWeek_1 : decode cX2_beginNextWeek 1 = .ok (.dup, 1) := by decide +kernel
theorem dX2_beginNextWeek_2 : decode cX2_beginNextWeek 2 = .ok (.getfield 57, 3) := by decide +kernel
theorem dX2_beginNextWeek_5 : decode cX2_beginNextWeek 5 = .ok (.iconst 1, 1) := by decide +kernel
theorem dX2_beginNextWeek_6 : decode cX2_beginNextWeek 6 = .ok (.iadd, 1) := by decide +kernel
theorem dX2_beginNextWeek_7 : decode cX2_beginNextWeek 7 = .ok (.putfield 57, 3) := by decide +kernel
theorem dX2_beginNextWeek_10 : decode cX2_beginNextWeek 10 = .ok (.iconst 0, 1) := by decide +kernel
theorem dX2_beginNextWeek_11 : decode cX2_beginNextWeek 11 = .ok (.istore_n 1, 1) := by decide +kernel
theorem dX2_beginNextWeek_12 : decode cX2_beginNextWeek 12 = .ok (.iconst 0, 1) := by decide +kernel
theorem dX2_beginNextWeek_13 : decode cX2_beginNextWeek 13 = .ok (.istore_n 2, 1) := by decide +kernel
theorem dX2_beginNextWeek_14 : decode cX2_beginNextWeek 14 = .ok (.iload_n 2, 1) := by decide +kernel
theorem dX2_beginNextWeek_15 : decode cX2_beginNextWeek 15 = .ok (.aload_n 0, 1) := by decide +kernel
theorem dX2_beginNextWeek_16 : decode cX2_beginNextWeek 16 = .ok (.getfield 54, 3) := by decide +kernel
theorem dX2_beginNextWeek_19 : decode cX2_beginNextWeek 19 = .ok (.if_icmp .ge 33, 3) := by decide +kernel
theorem dX2_beginNextWeek_22 : decode cX2_beginNextWeek 22 = .ok (.aload_n 0, 1) := by decide +kernel
theorem dX2_beginNextWeek_23 : decode cX2_beginNextWeek 23 = .ok (.iload_n 2, 1) := by decide +kernel
theorem dX2_beginNextWeek_24 : decode cX2_beginNextWeek 24 = .ok (.iconst 1, 1) := by decide +kernel
theorem dX2_beginNextWeek_25 : decode cX2_beginNextWeek 25 = .ok (.invokevirtual 83, 3) := by decide +kernel
theorem dX2_beginNextWeek_28 : decode cX2_beginNextWeek 28 = .ok (.aload_n 0, 1) := by decide +kernel
theorem dX2_beginNextWeek_29 : decode cX2_beginNextWeek 29 = .ok (.getfield 57, 3) := by decide +kernel
theorem dX2_beginNextWeek_32 : decode cX2_beginNextWeek 32 = .ok (.iconst 4, 1) := by decide +kernel
theorem dX2_beginNextWeek_33 : decode cX2_beginNextWeek 33 = .ok (.isub, 1) := by decide +kernel
theorem dX2_beginNextWeek_34 : decode cX2_beginNextWeek 34 = .ok (.if_icmp .lt 12, 3) := by decide +kernel
theorem dX2_beginNextWeek_37 : decode cX2_beginNextWeek 37 = .ok (.aload_n 0, 1) := by decide +kernel
theorem dX2_beginNextWeek_38 : decode cX2_beginNextWeek 38 = .ok (.iload_n 2, 1) := by decide +kernel
theorem dX2_beginNextWeek_39 : decode cX2_beginNextWeek 39 = .ok (.iload_n 1, 1) := by decide +kernel
theorem dX2_beginNextWeek_40 : decode cX2_beginNextWeek 40 = .ok (.invokevirtual 104, 3) := by decide +kernel
theorem dX2_beginNextWeek_43 : decode cX2_beginNextWeek 43 = .ok (.iinc 1 1, 3) := by decide +kernel
theorem dX2_beginNextWeek_46 : decode cX2_beginNextWeek 46 = .ok (.iinc 2 1, 3) := by decide +kernel
theorem dX2_beginNextWeek_49 : decode cX2_beginNextWeek 49 = .ok (.goto (-35), 3) := by decide +kernel
theorem dX2_beginNextWeek_52 : decode cX2_beginNextWeek 52 = .ok (.aload_n 0, 1) := by decide +kernel
theorem dX2_beginNextWeek_53 : decode cX2_beginNextWeek 53 = .ok (.iload_n 1, 1) := by decide +kernel
theorem dX2_beginNextWeek_54 : decode cX2_beginNextWeek 54 = .ok (.putfield 54, 3) := by decide +kernel
theorem dX2_beginNextWeek_57 : decode cX2_beginNextWeek 57 = .ok (.return_, 1) := by decide +kernel
theorem dX3_init_0 : decode cX3_init 0 = .ok (.aload_n 0, 1) := by decide +kernel
theorem dX3_init_1 : decode cX3_init 1 = .ok (.invokespecial 3, 3) := by decide +kernel
theorem dX3_init_4 : decode cX3_init 4 = .ok (.aload_n 0, 1) := by decide +kernel
theorem dX3_init_5 : decode cX3_init 5 = .ok (.new 9, 3) := by decide +kernel
theorem dX3_init_8 : decode cX3_init 8 = .ok (.dup, 1) := by decide +kernel
theorem dX3_init_9 : decode cX3_init 9 = .ok (.bipush 8, 2) := by decide +kernel
theorem dX3_init_11 : decode cX3_init 11 = .ok (.invokespecial 11, 3) := by decide +kernel
theorem dX3_init_14 : decode cX3_init 14 = .ok (.putfield 14, 3) := by decide +kernel
theorem dX3_init_17 : decode cX3_init 17 = .ok (.aload_n 0, 1) := by decide +kernel
theorem dX3_init_18 : decode cX3_init 18 = .ok (.new 9, 3) := by decide +kernel
theorem dX3_init_21 : decode cX3_init 21 = .ok (.dup, 1) := by decide +kernel
theorem dX3_init_22 : decode cX3_init 22 = .ok (.bipush 6, 2) := by decide +kernel
theorem dX3_init_24 : decode cX3_init 24 = .ok (.invokespecial 11, 3) := by decide +kernel
theorem dX3_init_27 : decode cX3_init 27 = .ok (.putfield 20, 3) := by decide +kernel
theorem dX3_init_30 : decode cX3_init 30 = .ok (.aload_n 0, 1) := by decide +kernel
theorem dX3_init_31 : decode cX3_init 31 = .ok (.new 9, 3) := by decide +kernel
theorem dX3_init_34 : decode cX3_init 34 = .ok (.dup, 1) := by decide +kernel
theorem dX3_init_35 : decode cX3_init 35 = .ok (.bipush 6, 2) := by decide +kernel
theorem dX3_init_37 : decode cX3_init 37 = .ok (.invokespecial 11, 3) := by decide +kernel
theorem dX3_init_40 : decode cX3_init 40 = .ok (.putfield 23, 3) := by decide +kernel
theorem dX3_init_43 : decode cX3_init 43 = .ok (.aload_n 0, 1) := by decide +kernel
theorem dX3_init_44 : decode cX3_init 44 = .ok (.new 9, 3) := by decide +kernel
theorem dX3_init_47 : decode cX3_init 47 = .ok (.dup, 1) := by decide +kernel
theorem dX3_init_48 : decode cX3_init 48 = .ok (.sipush 140, 3) := by decide +kernel
theorem dX3_init_51 : decode cX3_init 51 = .ok (.invokespecial 11, 3) := by decide +kernel
theorem dX3_init_54 : decode cX3_init 54 = .ok (.putfield 26, 3) := by decide +kernel
theorem dX3_init_57 : decode cX3_init 57 = .ok (.aload_n 0, 1) := by decide +kernel
theorem dX3_init_58 : decode cX3_init 58 = .ok (.new 9, 3) := by decide +kernel
theorem dX3_init_61 : decode cX3_init 61 = .ok (.dup, 1) := by decide +kernel
theorem dX3_init_62 : decode cX3_init 62 = .ok (.bipush 8, 2) := by decide +kernel
theorem dX3_init_64 : decode cX3_init 64 = .ok (.invokespecial 11, 3) := by decide +kernel
theorem dX3_init_67 : decode cX3_init 67 = .ok (.putfield 29, 3) := by decide +kernel
theorem dX3_init_70 : decode cX3_init 70 = .ok (.return_, 1) := by decide +kernel
theorem dX3_open_0 : decode cX3_open 0 = .ok (.aload_n 0, 1) := by decide +kernel
theorem dX3_open_1 : decode cX3_open 1 = .ok (.getfield 14, 3) := by decide +kernel
theorem dX3_open_4 : decode cX3_open 4 = .ok (.invokevirtual 32, 3) := by decide +kernel
theorem dX3_open_7 : decode cX3_open 7 = .ok (.aload_n 0, 1) := by decide +kernel
theorem dX3_open_8 : decode cX3_open 8 = .ok (.getfield 20, 3) := by decide +kernel
theorem dX3_open_11 : decode cX3_open 11 = .ok (.invokevirtual 32, 3) := by decide +kernel
theorem dX3_open_14 : decode cX3_open 14 = .ok (.aload_n 0, 1) := by decide +kernel
theorem dX3_open_15 : decode cX3_open 15 = .ok (.getfield 23, 3) := by decide +kernel
theorem dX3_open_18 : decode cX3_open 18 = .ok (.invokevirtual 32, 3) := by decide +kernel
theorem dX3_open_21 : decode cX3_open 21 = .ok (.aload_n 0, 1) := by decide +kernel
theorem dX3_open_22 : decode cX3_open 22 = .ok (.getfield 26, 3) := by decide +kernel
theorem dX3_open_25 : decode cX3_open 25 = .ok (.invokevirtual 32, 3) := by decide +kernel
theorem dX3_open_28 : decode cX3_open 28 = .ok (.iconst 0, 1) := by decide +kernel
theorem dX3_open_29 : decode cX3_open 29 = .ok (.istore_n 3, 1) := by decide +kernel
theorem dX3_open_30 : decode cX3_open 30 = .ok (.iload_n 3, 1) := by decide +kernel
theorem dX3_open_31 : decode cX3_open 31 = .ok (.aload_n 1, 1) := by decide +kernel
theorem dX3_open_32 : decode cX3_open 32 = .ok (.getfield 35, 3) := by decide +kernel
theorem dX3_open_35 : decode cX3_open 35 = .ok (.if_icmp .ge 46, 3) := by decide +kernel
theorem dX3_open_38 : decode cX3_open 38 = .ok (.aload_n 1, 1) := by decide +kernel
theorem dX3_open_39 : decode cX3_open 39 = .ok (.iload_n 3, 1) := by decide +kernel
theorem dX3_open_40 : decode cX3_open 40 = .ok (.iload_n 2, 1) := by decide +kernel
theorem dX3_open_41 : decode cX3_open 41 = .ok (.invokevirtual 41, 3) := by decide +kernel
theorem dX3_open_44 : decode cX3_open 44 = .ok (.ifCond .eq 31, 3) := by decide +kernel
theorem dX3_open_47 : decode cX3_open 47 = .ok (.aload_n 0, 1) := by decide +kernel
theorem dX3_open_48 : decode cX3_open 48 = .ok (.aload_n 1, 1) := by decide +kernel
theorem dX3_open_49 : decode cX3_open 49 = .ok (.iload_n 3, 1) := by decide +kernel
theorem dX3_open_50 : decode cX3_open 50 = .ok (.iconst 0, 1) := by decide +kernel
theorem dX3_open_51 : decode cX3_open 51 = .ok (.invokevirtual 45, 3) := by decide +kernel
theorem dX3_open_54 : decode cX3_open 54 = .ok (.aload_n 1, 1) := by decide +kernel
theorem dX3_open_55 : decode cX3_open 55 = .ok (.iload_n 3, 1) := by decide +kernel
theorem dX3_open_56 : decode cX3_open 56 = .ok (.iconst 2, 1) := by decide +kernel
theorem dX3_open_57 : decode cX3_open 57 = .ok (.invokevirtual 45, 3) := by decide +kernel
theorem dX3_open_60 : decode cX3_open 60 = .ok (.aload_n 1, 1) := by decide +kernel
theorem dX3_open_61 : decode cX3_open 61 = .ok (.iload_n 3, 1) := by decide +kernel
theorem dX3_open_62 : decode cX3_open 62 = .ok (.iconst 3, 1) := by decide +kernel
theorem dX3_open_63 : decode cX3_open 63 = .ok (.invokevirtual 45, 3) := by decide +kernel
theorem dX3_open_66 : decode cX3_open 66 = .ok (.aload_n 1, 1) := by decide +kernel
theorem dX3_open_67 : decode cX3_open 67 = .ok (.iload_n 3, 1) := by decide +kernel
theorem dX3_open_68 : decode cX3_open 68 = .ok (.iconst 4, 1) := by decide +kernel
theorem dX3_open_69 : decode cX3_open 69 = .ok (.invokevirtual 45, 3) := by decide +kernel
theorem dX3_open_72 : decode cX3_open 72 = .ok (.invokevirtual 49, 3) := by decide +kernel
theorem dX3_open_75 : decode cX3_open 75 = .ok (.iinc 3 1, 3) := by decide +kernel
theorem dX3_open_78 : decode cX3_open 78 = .ok (.goto (-48), 3) := by decide +kernel
theorem dX3_open_81 : decode cX3_open 81 = .ok (.return_, 1) := by decide +kernel
theorem dX3_take_0 : decode cX3_take 0 = .ok (.aload_n 0, 1) := by decide +kernel
theorem dX3_take_1 : decode cX3_take 1 = .ok (.getfield 14, 3) := by decide +kernel
theorem dX3_take_4 : decode cX3_take 4 = .ok (.iload_n 1, 1) := by decide +kernel
theorem dX3_take_5 : decode cX3_take 5 = .ok (.iconst 1, 1) := by decide +kernel
theorem dX3_take_6 : decode cX3_take 6 = .ok (.iload_n 2, 1) := by decide +kernel
theorem dX3_take_7 : decode cX3_take 7 = .ok (.iconst 4, 1) := by decide +kernel
theorem dX3_take_8 : decode cX3_take 8 = .ok (.idiv, 1) := by decide +kernel
theorem dX3_take_9 : decode cX3_take 9 = .ok (.ishl, 1) := by decide +kernel
theorem dX3_take_10 : decode cX3_take 10 = .ok (.invokevirtual 53, 3) := by decide +kernel
theorem dX3_take_13 : decode cX3_take 13 = .ok (.aload_n 0, 1) := by decide +kernel
theorem dX3_take_14 : decode cX3_take 14 = .ok (.getfield 20, 3) := by decide +kernel
theorem dX3_take_17 : decode cX3_take 17 = .ok (.iload_n 3, 1) := by decide +kernel
theorem dX3_take_18 : decode cX3_take 18 = .ok (.iconst 1, 1) := by decide +kernel
theorem dX3_take_19 : decode cX3_take 19 = .ok (.iload_n 2, 1) := by decide +kernel
theorem dX3_take_20 : decode cX3_take 20 = .ok (.ishl, 1) := by decide +kernel
theorem dX3_take_21 : decode cX3_take 21 = .ok (.invokevirtual 53, 3) := by decide +kernel
theorem dX3_take_24 : decode cX3_take 24 = .ok (.aload_n 0, 1) := by decide +kernel
theorem dX3_take_25 : decode cX3_take 25 = .ok (.getfield 23, 3) := by decide +kernel
theorem dX3_take_28 : decode cX3_take 28 = .ok (.iload_n 3, 1) := by decide +kernel
theorem dX3_take_29 : decode cX3_take 29 = .ok (.iconst 1, 1) := by decide +kernel
theorem dX3_take_30 : decode cX3_take 30 = .ok (.invokevirtual 57, 3) := by decide +kernel
theorem dX3_take_33 : decode cX3_take 33 = .ok (.aload_n 0, 1) := by decide +kernel
theorem dX3_take_34 : decode cX3_take 34 = .ok (.getfield 26, 3) := by decide +kernel
theorem dX3_take_37 : decode cX3_take 37 = .ok (.iload 4, 2) := by decide +kernel
theorem dX3_take_39 : decode cX3_take 39 = .ok (.bipush 28, 2) := by decide +kernel
theorem dX3_take_41 : decode cX3_take 41 = .ok (.imul, 1) := by decide +kernel
theorem dX3_take_42 : decode cX3_take 42 = .ok (.iload_n 2, 1) := by decide +kernel
theorem dX3_take_43 : decode cX3_take 43 = .ok (.iadd, 1) := by decide +kernel
theorem dX3_take_44 : decode cX3_take 44 = .ok (.iconst 1, 1) := by decide +kernel
theorem dX3_take_45 : decode cX3_take 45 = .ok (.invokevirtual 57, 3) := by decide +kernel
theorem dX3_take_48 : decode cX3_take 48 = .ok (.return_, 1) := by decide +kernel
theorem dX3_conflict_0 : decode cX3_conflict 0 = .ok (.aload_n 1, 1) := by decide +kernel
theorem dX3_conflict_1 : decode cX3_conflict 1 = .ok (.getfield 60, 3) := by decide +kernel
theorem dX3_conflict_4 : decode cX3_conflict 4 = .ok (.iload_n 2, 1) := by decide +kernel
theorem dX3_conflict_5 : decode cX3_conflict 5 = .ok (.invokevirtual 63, 3) := by decide +kernel
theorem dX3_conflict_8 : decode cX3_conflict 8 = .ok (.iload 5, 2) := by decide +kernel
theorem dX3_conflict_10 : decode cX3_conflict 10 = .ok (.invokestatic 67, 3) := by decide +kernel
theorem dX3_conflict_13 : decode cX3_conflict 13 = .ok (.ifCond .ne 5, 3) := by decide +kernel
theorem dX3_conflict_16 : decode cX3_conflict 16 = .ok (.iconst 2, 1) := by decide +kernel
theorem dX3_conflict_17 : decode cX3_conflict 17 = .ok (.ireturn, 1) := by decide +kernel
theorem dX3_conflict_18 : decode cX3_conflict 18 = .ok (.aload_n 0, 1) := by decide +kernel
theorem dX3_conflict_19 : decode cX3_conflict 19 = .ok (.getfield 14, 3) := by decide +kernel
theorem dX3_conflict_22 : decode cX3_conflict 22 = .ok (.iload_n 2, 1) := by decide +kernel
theorem dX3_conflict_23 : decode cX3_conflict 23 = .ok (.invokevirtual 63, 3) := by decide +kernel
theorem dX3_conflict_26 : decode cX3_conflict 26 = .ok (.iload_n 3, 1) := by decide +kernel
theorem dX3_conflict_27 : decode cX3_conflict 27 = .ok (.iconst 4, 1) := by decide +kernel
theorem dX3_conflict_28 : decode cX3_conflict 28 = .ok (.idiv, 1) := by decide +kernel
theorem dX3_conflict_29 : decode cX3_conflict 29 = .ok (.invokestatic 67, 3) := by decide +kernel
theorem dX3_conflict_32 : decode cX3_conflict 32 = .ok (.ifCond .eq 5, 3) := by decide +kernel
theorem dX3_conflict_35 : decode cX3_conflict 35 = .ok (.iconst 3, 1) := by decide +kernel
theorem dX3_conflict_36 : decode cX3_conflict 36 = .ok (.ireturn, 1) := by decide +kernel
theorem dX3_conflict_37 : decode cX3_conflict 37 = .ok (.aload_n 1, 1) := by decide +kernel
theorem dX3_conflict_38 : decode cX3_conflict 38 = .ok (.getfield 70, 3) := by decide +kernel
theorem dX3_conflict_41 : decode cX3_conflict 41 = .ok (.iload 4, 2) := by decide +kernel
theorem dX3_conflict_43 : decode cX3_conflict 43 = .ok (.invokevirtual 63, 3) := by decide +kernel
theorem dX3_conflict_46 : decode cX3_conflict 46 = .ok (.iload_n 3, 1) := by decide +kernel
theorem dX3_conflict_47 : decode cX3_conflict 47 = .ok (.invokestatic 67, 3) := by decide +kernel
theorem dX3_conflict_50 : decode cX3_conflict 50 = .ok (.ifCond .ne 5, 3) := by decide +kernel
theorem dX3_conflict_53 : decode cX3_conflict 53 = .ok (.iconst 4, 1) := by decide +kernel
theorem dX3_conflict_54 : decode cX3_conflict 54 = .ok (.ireturn, 1) := by decide +kernel
theorem dX3_conflict_55 : decode cX3_conflict 55 = .ok (.aload_n 0, 1) := by decide +kernel
theorem dX3_conflict_56 : decode cX3_conflict 56 = .ok (.getfield 20, 3) := by decide +kernel
theorem dX3_conflict_59 : decode cX3_conflict 59 = .ok (.iload 4, 2) := by decide +kernel
theorem dX3_conflict_61 : decode cX3_conflict 61 = .ok (.invokevirtual 63, 3) := by decide +kernel
theorem dX3_conflict_64 : decode cX3_conflict 64 = .ok (.iload_n 3, 1) := by decide +kernel
theorem dX3_conflict_65 : decode cX3_conflict 65 = .ok (.invokestatic 67, 3) := by decide +kernel
theorem dX3_conflict_68 : decode cX3_conflict 68 = .ok (.ifCond .eq 5, 3) := by decide +kernel
theorem dX3_conflict_71 : decode cX3_conflict 71 = .ok (.iconst 5, 1) := by decide +kernel
theorem dX3_conflict_72 : decode cX3_conflict 72 = .ok (.ireturn, 1) := by decide +kernel
theorem dX3_conflict_73 : decode cX3_conflict 73 = .ok (.aload_n 0, 1) := by decide +kernel
theorem dX3_conflict_74 : decode cX3_conflict 74 = .ok (.getfield 23, 3) := by decide +kernel
theorem dX3_conflict_77 : decode cX3_conflict 77 = .ok (.iload 4, 2) := by decide +kernel
theorem dX3_conflict_79 : decode cX3_conflict 79 = .ok (.invokevirtual 63, 3) := by decide +kernel
theorem dX3_conflict_82 : decode cX3_conflict 82 = .ok (.aload_n 1, 1) := by decide +kernel
theorem dX3_conflict_83 : decode cX3_conflict 83 = .ok (.getfield 73, 3) := by decide +kernel
theorem dX3_conflict_86 : decode cX3_conflict 86 = .ok (.iload 4, 2) := by decide +kernel
theorem dX3_conflict_88 : decode cX3_conflict 88 = .ok (.invokevirtual 63, 3) := by decide +kernel
theorem dX3_conflict_91 : decode cX3_conflict 91 = .ok (.if_icmp .lt 6, 3) := by decide +kernel
theorem dX3_conflict_94 : decode cX3_conflict 94 = .ok (.bipush 6, 2) := by decide +kernel
theorem dX3_conflict_96 : decode cX3_conflict 96 = .ok (.ireturn, 1) := by decide +kernel
theorem dX3_conflict_97 : decode cX3_conflict 97 = .ok (.aload_n 0, 1) := by decide +kernel
theorem dX3_conflict_98 : decode cX3_conflict 98 = .ok (.aload_n 1, 1) := by decide +kernel
theorem dX3_conflict_99 : decode cX3_conflict 99 = .ok (.iload 5, 2) := by decide +kernel
theorem dX3_conflict_101 : decode cX3_conflict 101 = .ok (.iload_n 3, 1) := by decide +kernel
theorem dX3_conflict_102 : decode cX3_conflict 102 = .ok (.invokevirtual 76, 3) := by decide +kernel
theorem dX3_conflict_105 : decode cX3_conflict 105 = .ok (.ifCond .le 7, 3) := by decide +kernel
theorem dX3_conflict_108 : decode cX3_conflict 108 = .ok (.iconst 0, 1) := by decide +kernel
theorem dX3_conflict_109 : decode cX3_conflict 109 = .ok (.goto 5, 3) := by decide +kernel
theorem dX3_conflict_112 : decode cX3_conflict 112 = .ok (.bipush 7, 2) := by decide +kernel
theorem dX3_conflict_114 : decode cX3_conflict 114 = .ok (.ireturn, 1) := by decide +kernel
theorem dX3_roomsLeft_0 : decode cX3_roomsLeft 0 = .ok (.aload_n 1, 1) := by decide +kernel
theorem dX3_roomsLeft_1 : decode cX3_roomsLeft 1 = .ok (.getfield 80, 3) := by decide +kernel
theorem dX3_roomsLeft_4 : decode cX3_roomsLeft 4 = .ok (.iload_n 2, 1) := by decide +kernel
theorem dX3_roomsLeft_5 : decode cX3_roomsLeft 5 = .ok (.invokevirtual 63, 3) := by decide +kernel
theorem dX3_roomsLeft_8 : decode cX3_roomsLeft 8 = .ok (.aload_n 0, 1) := by decide +kernel
theorem dX3_roomsLeft_9 : decode cX3_roomsLeft 9 = .ok (.getfield 26, 3) := by decide +kernel
theorem dX3_roomsLeft_12 : decode cX3_roomsLeft 12 = .ok (.iload_n 2, 1) := by decide +kernel
theorem dX3_roomsLeft_13 : decode cX3_roomsLeft 13 = .ok (.bipush 28, 2) := by decide +kernel
theorem dX3_roomsLeft_15 : decode cX3_roomsLeft 15 = .ok (.imul, 1) := by decide +kernel
theorem dX3_roomsLeft_16 : decode cX3_roomsLeft 16 = .ok (.iload_n 3, 1) := by decide +kernel
theorem dX3_roomsLeft_17 : decode cX3_roomsLeft 17 = .ok (.iadd, 1) := by decide +kernel
theorem dX3_roomsLeft_18 : decode cX3_roomsLeft 18 = .ok (.invokevirtual 63, 3) := by decide +kernel
theorem dX3_roomsLeft_21 : decode cX3_roomsLeft 21 = .ok (.isub, 1) := by decide +kernel
theorem dX3_roomsLeft_22 : decode cX3_roomsLeft 22 = .ok (.ireturn, 1) := by decide +kernel
theorem dX3_planAll_0 : decode cX3_planAll 0 = .ok (.aload_n 0, 1) := by decide +kernel
theorem dX3_planAll_1 : decode cX3_planAll 1 = .ok (.aload_n 1, 1) := by decide +kernel
theorem dX3_planAll_2 : decode cX3_planAll 2 = .ok (.iload_n 2, 1) := by decide +kernel
theorem dX3_planAll_3 : decode cX3_planAll 3 = .ok (.invokevirtual 83, 3) := by decide +kernel
theorem dX3_planAll_6 : decode cX3_planAll 6 = .ok (.iconst 0, 1) := by decide +kernel
theorem dX3_planAll_7 : decode cX3_planAll 7 = .ok (.istore_n 3, 1) := by decide +kernel
theorem dX3_planAll_8 : decode cX3_planAll 8 = .ok (.iload_n 3, 1) := by decide +kernel
theorem dX3_planAll_9 : decode cX3_planAll 9 = .ok (.aload_n 1, 1) := by decide +kernel
theorem dX3_planAll_10 : decode cX3_planAll 10 = .ok (.getfield 87, 3) := by decide +kernel
theorem dX3_planAll_13 : decode cX3_planAll 13 = .ok (.if_icmp .ge 23, 3) := by decide +kernel
theorem dX3_planAll_16 : decode cX3_planAll 16 = .ok (.aload_n 0, 1) := by decide +kernel
theorem dX3_planAll_17 : decode cX3_planAll 17 = .ok (.getfield 29, 3) := by decide +kernel
theorem dX3_planAll_20 : decode cX3_planAll 20 = .ok (.iload_n 3, 1) := by decide +kernel
theorem dX3_planAll_21 : decode cX3_planAll 21 = .ok (.aload_n 1, 1) := by decide +kernel
theorem dX3_planAll_22 : decode cX3_planAll 22 = .ok (.iload_n 3, 1) := by decide +kernel
theorem dX3_planAll_23 : decode cX3_planAll 23 = .ok (.iload_n 2, 1) := by decide +kernel
theorem dX3_planAll_24 : decode cX3_planAll 24 = .ok (.invokevirtual 90, 3) := by decide +kernel
theorem dX3_planAll_27 : decode cX3_planAll 27 = .ok (.invokevirtual 93, 3) := by decide +kernel
theorem dX3_planAll_30 : decode cX3_planAll 30 = .ok (.iinc 3 1, 3) := by decide +kernel
theorem dX3_planAll_33 : decode cX3_planAll 33 = .ok (.goto (-25), 3) := by decide +kernel
theorem dX3_planAll_36 : decode cX3_planAll 36 = .ok (.iconst 0, 1) := by decide +kernel
theorem dX3_planAll_37 : decode cX3_planAll 37 = .ok (.istore_n 3, 1) := by decide +kernel
theorem dX3_planAll_38 : decode cX3_planAll 38 = .ok (.iconst 0, 1) := by decide +kernel
theorem dX3_planAll_39 : decode cX3_planAll 39 = .ok (.istore 4, 2) := by decide +kernel
theorem dX3_planAll_41 : decode cX3_planAll 41 = .ok (.iload 4, 2) := by decide +kernel
theorem dX3_planAll_43 : decode cX3_planAll 43 = .ok (.bipush 68, 2) := by decide +kernel
theorem dX3_planAll_45 : decode cX3_planAll 45 = .ok (.if_icmp .ge 105, 3) := by decide +kernel
theorem dX3_planAll_48 : decode cX3_planAll 48 = .ok (.aload_n 1, 1) := by decide +kernel
theorem dX3_planAll_49 : decode cX3_planAll 49 = .ok (.invokevirtual 96, 3) := by decide +kernel
theorem dX3_planAll_52 : decode cX3_planAll 52 = .ok (.ifCond .ne 98, 3) := by decide +kernel
theorem dX3_planAll_55 : decode cX3_planAll 55 = .ok (.aload_n 0, 1) := by decide +kernel
theorem dX3_planAll_56 : decode cX3_planAll 56 = .ok (.aload_n 1, 1) := by decide +kernel
theorem dX3_planAll_57 : decode cX3_planAll 57 = .ok (.invokevirtual 100, 3) := by decide +kernel
theorem dX3_planAll_60 : decode cX3_planAll 60 = .ok (.istore 5, 2) := by decide +kernel
theorem dX3_planAll_62 : decode cX3_planAll 62 = .ok (.iload 5, 2) := by decide +kernel
theorem dX3_planAll_64 : decode cX3_planAll 64 = .ok (.iconst (-1), 1) := by decide +kernel
theorem dX3_planAll_65 : decode cX3_planAll 65 = .ok (.if_icmp .ne 5, 3) := by decide +kernel
theorem dX3_planAll_68 : decode cX3_planAll 68 = .ok (.iload_n 3, 1) := by decide +kernel
theorem dX3_planAll_69 : decode cX3_planAll 69 = .ok (.ireturn, 1) := by decide +kernel
theorem dX3_planAll_70 : decode cX3_planAll 70 = .ok (.aload_n 0, 1) := by decide +kernel
theorem dX3_planAll_71 : decode cX3_planAll 71 = .ok (.aload_n 1, 1) := by decide +kernel
theorem dX3_planAll_72 : decode cX3_planAll 72 = .ok (.iload 5, 2) := by decide +kernel
theorem dX3_planAll_74 : decode cX3_planAll 74 = .ok (.invokevirtual 104, 3) := by decide +kernel
theorem dX3_planAll_77 : decode cX3_planAll 77 = .ok (.ifCond .eq 57, 3) := by decide +kernel
theorem dX3_planAll_80 : decode cX3_planAll 80 = .ok (.aload_n 1, 1) := by decide +kernel
theorem dX3_planAll_81 : decode cX3_planAll 81 = .ok (.iload 5, 2) := by decide +kernel
theorem dX3_planAll_83 : decode cX3_planAll 83 = .ok (.iload_n 2, 1) := by decide +kernel
theorem dX3_planAll_84 : decode cX3_planAll 84 = .ok (.aload_n 0, 1) := by decide +kernel
theorem dX3_planAll_85 : decode cX3_planAll 85 = .ok (.getfield 108, 3) := by decide +kernel
theorem dX3_planAll_88 : decode cX3_planAll 88 = .ok (.aload_n 0, 1) := by decide +kernel
theorem dX3_planAll_89 : decode cX3_planAll 89 = .ok (.getfield 111, 3) := by decide +kernel
theorem dX3_planAll_92 : decode cX3_planAll 92 = .ok (.aload_n 0, 1) := by decide +kernel
theorem dX3_planAll_93 : decode cX3_planAll 93 = .ok (.getfield 114, 3) := by decide +kernel
theorem dX3_planAll_96 : decode cX3_planAll 96 = .ok (.invokevirtual 117, 3) := by decide +kernel
theorem dX3_planAll_99 : decode cX3_planAll 99 = .ok (.pop, 1) := by decide +kernel
theorem dX3_planAll_100 : decode cX3_planAll 100 = .ok (.aload_n 0, 1) := by decide +kernel
theorem dX3_planAll_101 : decode cX3_planAll 101 = .ok (.iload 5, 2) := by decide +kernel
theorem dX3_planAll_103 : decode cX3_planAll 103 = .ok (.aload_n 0, 1) := by decide +kernel
theorem dX3_planAll_104 : decode cX3_planAll 104 = .ok (.getfield 108, 3) := by decide +kernel
theorem dX3_planAll_107 : decode cX3_planAll 107 = .ok (.aload_n 0, 1) := by decide +kernel
theorem dX3_planAll_108 : decode cX3_planAll 108 = .ok (.getfield 111, 3) := by decide +kernel
theorem dX3_planAll_111 : decode cX3_planAll 111 = .ok (.aload_n 0, 1) := by decide +kernel
theorem dX3_planAll_112 : decode cX3_planAll 112 = .ok (.getfield 114, 3) := by decide +kernel
theorem dX3_planAll_115 : decode cX3_planAll 115 = .ok (.invokevirtual 49, 3) := by decide +kernel
theorem dX3_planAll_118 : decode cX3_planAll 118 = .ok (.aload_n 0, 1) := by decide +kernel
theorem dX3_planAll_119 : decode cX3_planAll 119 = .ok (.getfield 29, 3) := by decide +kernel
theorem dX3_planAll_122 : decode cX3_planAll 122 = .ok (.iload 5, 2) := by decide +kernel
theorem dX3_planAll_124 : decode cX3_planAll 124 = .ok (.iconst (-1), 1) := by decide +kernel
theorem dX3_planAll_125 : decode cX3_planAll 125 = .ok (.invokevirtual 57, 3) := by decide +kernel
theorem dX3_planAll_128 : decode cX3_planAll 128 = .ok (.iinc 3 1, 3) := by decide +kernel
theorem dX3_planAll_131 : decode cX3_planAll 131 = .ok (.goto 13, 3) := by decide +kernel
theorem dX3_planAll_134 : decode cX3_planAll 134 = .ok (.aload_n 0, 1) := by decide +kernel
theorem dX3_planAll_135 : decode cX3_planAll 135 = .ok (.getfield 29, 3) := by decide +kernel
theorem dX3_planAll_138 : decode cX3_planAll 138 = .ok (.iload 5, 2) := by decide +kernel
theorem dX3_planAll_140 : decode cX3_planAll 140 = .ok (.iconst 0, 1) := by decide +kernel
theorem dX3_planAll_141 : decode cX3_planAll 141 = .ok (.invokevirtual 93, 3) := by decide +kernel
theorem dX3_planAll_144 : decode cX3_planAll 144 = .ok (.iinc 4 1, 3) := by decide +kernel
theorem dX3_planAll_147 : decode cX3_planAll 147 = .ok (.goto (-106), 3) := by decide +kernel
theorem dX3_planAll_150 : decode cX3_planAll 150 = .ok (.iload_n 3, 1) := by decide +kernel
theorem dX3_planAll_151 : decode cX3_planAll 151 = .ok (.ireturn, 1) := by decide +kernel
theorem dX3_greatestDebt_0 : decode cX3_greatestDebt 0 = .ok (.iconst (-1), 1) := by decide +kernel
theorem dX3_greatestDebt_1 : decode cX3_greatestDebt 1 = .ok (.istore_n 2, 1) := by decide +kernel
theorem dX3_greatestDebt_2 : decode cX3_greatestDebt 2 = .ok (.iconst 0, 1) := by decide +kernel
theorem dX3_greatestDebt_3 : decode cX3_greatestDebt 3 = .ok (.istore_n 3, 1) := by decide +kernel
theorem dX3_greatestDebt_4 : decode cX3_greatestDebt 4 = .ok (.iconst 0, 1) := by decide +kernel
theorem dX3_greatestDebt_5 : decode cX3_greatestDebt 5 = .ok (.istore 4, 2) := by decide +kernel
theorem dX3_greatestDebt_7 : decode cX3_greatestDebt 7 = .ok (.iload 4, 2) := by decide +kernel
theorem dX3_greatestDebt_9 : decode cX3_greatestDebt 9 = .ok (.aload_n 1, 1) := by decide +kernel
theorem dX3_greatestDebt_10 : decode cX3_greatestDebt 10 = .ok (.getfield 87, 3) := by decide +kernel
theorem dX3_greatestDebt_13 : decode cX3_greatestDebt 13 = .ok (.if_icmp .ge 35, 3) := by decide +kernel
theorem dX3_greatestDebt_16 : decode cX3_greatestDebt 16 = .ok (.aload_n 0, 1) := by decide +kernel
theorem dX3_greatestDebt_17 : decode cX3_greatestDebt 17 = .ok (.getfield 29, 3) := by decide +kernel
theorem dX3_greatestDebt_20 : decode cX3_greatestDebt 20 = .ok (.iload 4, 2) := by decide +kernel
theorem dX3_greatestDebt_22 : decode cX3_greatestDebt 22 = .ok (.invokevirtual 63, 3) := by decide +kernel
theorem dX3_greatestDebt_25 : decode cX3_greatestDebt 25 = .ok (.iload_n 3, 1) := by decide +kernel
theorem dX3_greatestDebt_26 : decode cX3_greatestDebt 26 = .ok (.if_icmp .le 16, 3) := by decide +kernel
theorem dX3_greatestDebt_29 : decode cX3_greatestDebt 29 = .ok (.iload 4, 2) := by decide +kernel
theorem dX3_greatestDebt_31 : decode cX3_greatestDebt 31 = .ok (.istore_n 2, 1) := by decide +kernel
theorem dX3_greatestDebt_32 : decode cX3_greatestDebt 32 = .ok (.aload_n 0, 1) := by decide +kernel
theorem dX3_greatestDebt_33 : decode cX3_greatestDebt 33 = .ok (.getfield 29, 3) := by decide +kernel
theorem dX3_greatestDebt_36 : decode cX3_greatestDebt 36 = .ok (.iload 4, 2) := by decide +kernel
theorem dX3_greatestDebt_38 : decode cX3_greatestDebt 38 = .ok (.invokevirtual 63, 3) := by decide +kernel
theorem dX3_greatestDebt_41 : decode cX3_greatestDebt 41 = .ok (.istore_n 3, 1) := by decide +kernel
theorem dX3_greatestDebt_42 : decode cX3_greatestDebt 42 = .ok (.iinc 4 1, 3) := by decide +kernel
theorem dX3_greatestDebt_45 : decode cX3_greatestDebt 45 = .ok (.goto (-38), 3) := by decide +kernel
theorem dX3_greatestDebt_48 : decode cX3_greatestDebt 48 = .ok (.iload_n 2, 1) := by decide +kernel
theorem dX3_greatestDebt_49 : decode cX3_greatestDebt 49 = .ok (.ireturn, 1) := by decide +kernel
theorem dX3_search_0 : decode cX3_search 0 = .ok (.iconst 0, 1) := by decide +kernel
theorem dX3_search_1 : decode cX3_search 1 = .ok (.istore_n 3, 1) := by decide +kernel
theorem dX3_search_2 : decode cX3_search 2 = .ok (.iload_n 3, 1) := by decide +kernel
theorem dX3_search_3 : decode cX3_search 3 = .ok (.bipush 28, 2) := by decide +kernel
theorem dX3_search_5 : decode cX3_search 5 = .ok (.if_icmp .ge 74, 3) := by decide +kernel
theorem dX3_search_8 : decode cX3_search 8 = .ok (.aload_n 0, 1) := by decide +kernel
theorem dX3_search_9 : decode cX3_search 9 = .ok (.getfield 14, 3) := by decide +kernel
theorem dX3_search_12 : decode cX3_search 12 = .ok (.iload_n 2, 1) := by decide +kernel
theorem dX3_search_13 : decode cX3_search 13 = .ok (.invokevirtual 63, 3) := by decide +kernel
theorem dX3_search_16 : decode cX3_search 16 = .ok (.iload_n 3, 1) := by decide +kernel
theorem dX3_search_17 : decode cX3_search 17 = .ok (.iconst 4, 1) := by decide +kernel
theorem dX3_search_18 : decode cX3_search 18 = .ok (.idiv, 1) := by decide +kernel
theorem dX3_search_19 : decode cX3_search 19 = .ok (.invokestatic 67, 3) := by decide +kernel
theorem dX3_search_22 : decode cX3_search 22 = .ok (.ifCond .ne 51, 3) := by decide +kernel
theorem dX3_search_25 : decode cX3_search 25 = .ok (.aload_n 0, 1) := by decide +kernel
theorem dX3_search_26 : decode cX3_search 26 = .ok (.iload_n 3, 1) := by decide +kernel
theorem dX3_search_27 : decode cX3_search 27 = .ok (.putfield 108, 3) := by decide +kernel
theorem dX3_search_30 : decode cX3_search 30 = .ok (.aload_n 0, 1) := by decide +kernel
theorem dX3_search_31 : decode cX3_search 31 = .ok (.aload_n 0, 1) := by decide +kernel
theorem dX3_search_32 : decode cX3_search 32 = .ok (.aload_n 1, 1) := by decide +kernel
theorem dX3_search_33 : decode cX3_search 33 = .ok (.iload_n 3, 1) := by decide +kernel
theorem dX3_search_34 : decode cX3_search 34 = .ok (.invokevirtual 121, 3) := by decide +kernel
theorem dX3_search_37 : decode cX3_search 37 = .ok (.putfield 111, 3) := by decide +kernel
theorem dX3_search_40 : decode cX3_search 40 = .ok (.aload_n 0, 1) := by decide +kernel
theorem dX3_search_41 : decode cX3_search 41 = .ok (.aload_n 0, 1) := by decide +kernel
theorem dX3_search_42 : decode cX3_search 42 = .ok (.getfield 111, 3) := by decide +kernel
theorem dX3_search_45 : decode cX3_search 45 = .ok (.iconst (-1), 1) := by decide +kernel
theorem dX3_search_46 : decode cX3_search 46 = .ok (.if_icmp .ne 7, 3) := by decide +kernel
theorem dX3_search_49 : decode cX3_search 49 = .ok (.iconst (-1), 1) := by decide +kernel
theorem dX3_search_50 : decode cX3_search 50 = .ok (.goto 10, 3) := by decide +kernel
theorem dX3_search_53 : decode cX3_search 53 = .ok (.aload_n 0, 1) := by decide +kernel
theorem dX3_search_54 : decode cX3_search 54 = .ok (.aload_n 1, 1) := by decide +kernel
theorem dX3_search_55 : decode cX3_search 55 = .ok (.iload_n 2, 1) := by decide +kernel
theorem dX3_search_56 : decode cX3_search 56 = .ok (.iload_n 3, 1) := by decide +kernel
theorem dX3_search_57 : decode cX3_search 57 = .ok (.invokevirtual 125, 3) := by decide +kernel
theorem dX3_search_60 : decode cX3_search 60 = .ok (.putfield 114, 3) := by decide +kernel
theorem dX3_search_63 : decode cX3_search 63 = .ok (.aload_n 0, 1) := by decide +kernel
theorem dX3_search_64 : decode cX3_search 64 = .ok (.getfield 114, 3) := by decide +kernel
theorem dX3_search_67 : decode cX3_search 67 = .ok (.iconst (-1), 1) := by decide +kernel
theorem dX3_search_68 : decode cX3_search 68 = .ok (.if_icmp .eq 5, 3) := by decide +kernel
theorem dX3_search_71 : decode cX3_search 71 = .ok (.iconst 1, 1) := by decide +kernel
theorem dX3_search_72 : decode cX3_search 72 = .ok (.ireturn, 1) := by decide +kernel
theorem dX3_search_73 : decode cX3_search 73 = .ok (.iinc 3 1, 3) := by decide +kernel
theorem dX3_search_76 : decode cX3_search 76 = .ok (.goto (-74), 3) := by decide +kernel
theorem dX3_search_79 : decode cX3_search 79 = .ok (.iconst 0, 1) := by decide +kernel
theorem dX3_search_80 : decode cX3_search 80 = .ok (.ireturn, 1) := by decide +kernel
theorem dX3_freestEscort_0 : decode cX3_freestEscort 0 = .ok (.iconst (-1), 1) := by decide +kernel
theorem dX3_freestEscort_1 : decode cX3_freestEscort 1 = .ok (.istore_n 3, 1) := by decide +kernel
theorem dX3_freestEscort_2 : decode cX3_freestEscort 2 = .ok (.bipush 20, 2) := by decide +kernel
theorem dX3_freestEscort_4 : decode cX3_freestEscort 4 = .ok (.istore 4, 2) := by decide +kernel
theorem dX3_freestEscort_6 : decode cX3_freestEscort 6 = .ok (.iconst 0, 1) := by decide +kernel
theorem dX3_freestEscort_7 : decode cX3_freestEscort 7 = .ok (.istore 5, 2) := by decide +kernel
theorem dX3_freestEscort_9 : decode cX3_freestEscort 9 = .ok (.iload 5, 2) := by decide +kernel
theorem dX3_freestEscort_11 : decode cX3_freestEscort 11 = .ok (.aload_n 1, 1) := by decide +kernel
theorem dX3_freestEscort_12 : decode cX3_freestEscort 12 = .ok (.getfield 128, 3) := by decide +kernel
theorem dX3_freestEscort_15 : decode cX3_freestEscort 15 = .ok (.if_icmp .ge 76, 3) := by decide +kernel
theorem dX3_freestEscort_18 : decode cX3_freestEscort 18 = .ok (.aload_n 0, 1) := by decide +kernel
theorem dX3_freestEscort_19 : decode cX3_freestEscort 19 = .ok (.getfield 23, 3) := by decide +kernel
theorem dX3_freestEscort_22 : decode cX3_freestEscort 22 = .ok (.iload 5, 2) := by decide +kernel
theorem dX3_freestEscort_24 : decode cX3_freestEscort 24 = .ok (.invokevirtual 63, 3) := by decide +kernel
theorem dX3_freestEscort_27 : decode cX3_freestEscort 27 = .ok (.istore 6, 2) := by decide +kernel
theorem dX3_freestEscort_29 : decode cX3_freestEscort 29 = .ok (.iload 6, 2) := by decide +kernel
theorem dX3_freestEscort_31 : decode cX3_freestEscort 31 = .ok (.iload 4, 2) := by decide +kernel
theorem dX3_freestEscort_33 : decode cX3_freestEscort 33 = .ok (.if_icmp .ge 52, 3) := by decide +kernel
theorem dX3_freestEscort_36 : decode cX3_freestEscort 36 = .ok (.iload 6, 2) := by decide +kernel
theorem dX3_freestEscort_38 : decode cX3_freestEscort 38 = .ok (.aload_n 1, 1) := by decide +kernel
theorem dX3_freestEscort_39 : decode cX3_freestEscort 39 = .ok (.getfield 73, 3) := by decide +kernel
theorem dX3_freestEscort_42 : decode cX3_freestEscort 42 = .ok (.iload 5, 2) := by decide +kernel
theorem dX3_freestEscort_44 : decode cX3_freestEscort 44 = .ok (.invokevirtual 63, 3) := by decide +kernel
theorem dX3_freestEscort_47 : decode cX3_freestEscort 47 = .ok (.if_icmp .ge 38, 3) := by decide +kernel
theorem dX3_freestEscort_50 : decode cX3_freestEscort 50 = .ok (.aload_n 1, 1) := by decide +kernel
theorem dX3_freestEscort_51 : decode cX3_freestEscort 51 = .ok (.getfield 70, 3) := by decide +kernel
theorem dX3_freestEscort_54 : decode cX3_freestEscort 54 = .ok (.iload 5, 2) := by decide +kernel
theorem dX3_freestEscort_56 : decode cX3_freestEscort 56 = .ok (.invokevirtual 63, 3) := by decide +kernel
theorem dX3_freestEscort_59 : decode cX3_freestEscort 59 = .ok (.aload_n 0, 1) := by decide +kernel
theorem dX3_freestEscort_60 : decode cX3_freestEscort 60 = .ok (.getfield 20, 3) := by decide +kernel
theorem dX3_freestEscort_63 : decode cX3_freestEscort 63 = .ok (.iload 5, 2) := by decide +kernel
theorem dX3_freestEscort_65 : decode cX3_freestEscort 65 = .ok (.invokevirtual 63, 3) := by decide +kernel
theorem dX3_freestEscort_68 : decode cX3_freestEscort 68 = .ok (.iconst (-1), 1) := by decide +kernel
theorem dX3_freestEscort_69 : decode cX3_freestEscort 69 = .ok (.ixor, 1) := by decide +kernel
theorem dX3_freestEscort_70 : decode cX3_freestEscort 70 = .ok (.iand, 1) := by decide +kernel
theorem dX3_freestEscort_71 : decode cX3_freestEscort 71 = .ok (.iload_n 2, 1) := by decide +kernel
theorem dX3_freestEscort_72 : decode cX3_freestEscort 72 = .ok (.invokestatic 67, 3) := by decide +kernel
theorem dX3_freestEscort_75 : decode cX3_freestEscort 75 = .ok (.ifCond .eq 10, 3) := by decide +kernel
theorem dX3_freestEscort_78 : decode cX3_freestEscort 78 = .ok (.iload 5, 2) := by decide +kernel
theorem dX3_freestEscort_80 : decode cX3_freestEscort 80 = .ok (.istore_n 3, 1) := by decide +kernel
theorem dX3_freestEscort_81 : decode cX3_freestEscort 81 = .ok (.iload 6, 2) := by decide +kernel
theorem dX3_freestEscort_83 : decode cX3_freestEscort 83 = .ok (.istore 4, 2) := by decide +kernel
theorem dX3_freestEscort_85 : decode cX3_freestEscort 85 = .ok (.iinc 5 1, 3) := by decide +kernel
theorem dX3_freestEscort_88 : decode cX3_freestEscort 88 = .ok (.goto (-79), 3) := by decide +kernel
theorem dX3_freestEscort_91 : decode cX3_freestEscort 91 = .ok (.iload_n 3, 1) := by decide +kernel
theorem dX3_freestEscort_92 : decode cX3_freestEscort 92 = .ok (.ireturn, 1) := by decide +kernel
theorem dX3_firstVenue_0 : decode cX3_firstVenue 0 = .ok (.iconst 0, 1) := by decide +kernel
theorem dX3_firstVenue_1 : decode cX3_firstVenue 1 = .ok (.istore 4, 2) := by decide +kernel
theorem dX3_firstVenue_3 : decode cX3_firstVenue 3 = .ok (.iload 4, 2) := by decide +kernel
theorem dX3_firstVenue_5 : decode cX3_firstVenue 5 = .ok (.aload_n 1, 1) := by decide +kernel
theorem dX3_firstVenue_6 : decode cX3_firstVenue 6 = .ok (.getfield 131, 3) := by decide +kernel
theorem dX3_firstVenue_9 : decode cX3_firstVenue 9 = .ok (.if_icmp .ge 39, 3) := by decide +kernel
theorem dX3_firstVenue_12 : decode cX3_firstVenue 12 = .ok (.aload_n 1, 1) := by decide +kernel
theorem dX3_firstVenue_13 : decode cX3_firstVenue 13 = .ok (.getfield 60, 3) := by decide +kernel
theorem dX3_firstVenue_16 : decode cX3_firstVenue 16 = .ok (.iload_n 2, 1) := by decide +kernel
theorem dX3_firstVenue_17 : decode cX3_firstVenue 17 = .ok (.invokevirtual 63, 3) := by decide +kernel
theorem dX3_firstVenue_20 : decode cX3_firstVenue 20 = .ok (.iload 4, 2) := by decide +kernel
theorem dX3_firstVenue_22 : decode cX3_firstVenue 22 = .ok (.invokestatic 67, 3) := by decide +kernel
theorem dX3_firstVenue_25 : decode cX3_firstVenue 25 = .ok (.ifCond .eq 17, 3) := by decide +kernel
theorem dX3_firstVenue_28 : decode cX3_firstVenue 28 = .ok (.aload_n 0, 1) := by decide +kernel
theorem dX3_firstVenue_29 : decode cX3_firstVenue 29 = .ok (.aload_n 1, 1) := by decide +kernel
theorem dX3_firstVenue_30 : decode cX3_firstVenue 30 = .ok (.iload 4, 2) := by decide +kernel
theorem dX3_firstVenue_32 : decode cX3_firstVenue 32 = .ok (.iload_n 3, 1) := by decide +kernel
theorem dX3_firstVenue_33 : decode cX3_firstVenue 33 = .ok (.invokevirtual 76, 3) := by decide +kernel
theorem dX3_firstVenue_36 : decode cX3_firstVenue 36 = .ok (.ifCond .le 6, 3) := by decide +kernel
theorem dX3_firstVenue_39 : decode cX3_firstVenue 39 = .ok (.iload 4, 2) := by decide +kernel
theorem dX3_firstVenue_41 : decode cX3_firstVenue 41 = .ok (.ireturn, 1) := by decide +kernel
theorem dX3_firstVenue_42 : decode cX3_firstVenue 42 = .ok (.iinc 4 1, 3) := by decide +kernel
theorem dX3_firstVenue_45 : decode cX3_firstVenue 45 = .ok (.goto (-42), 3) := by decide +kernel
theorem dX3_firstVenue_48 : decode cX3_firstVenue 48 = .ok (.iconst (-1), 1) := by decide +kernel
theorem dX3_firstVenue_49 : decode cX3_firstVenue 49 = .ok (.ireturn, 1) := by decide +kernel
theorem dX3_isIn_0 : decode cX3_isIn 0 = .ok (.iload_n 0, 1) := by decide +kernel
theorem dX3_isIn_1 : decode cX3_isIn 1 = .ok (.iload_n 1, 1) := by decide +kernel
theorem dX3_isIn_2 : decode cX3_isIn 2 = .ok (.ishr, 1) := by decide +kernel
theorem dX3_isIn_3 : decode cX3_isIn 3 = .ok (.iconst 1, 1) := by decide +kernel
theorem dX3_isIn_4 : decode cX3_isIn 4 = .ok (.iand, 1) := by decide +kernel
theorem dX3_isIn_5 : decode cX3_isIn 5 = .ok (.iconst 1, 1) := by decide +kernel
theorem dX3_isIn_6 : decode cX3_isIn 6 = .ok (.if_icmp .ne 7, 3) := by decide +kernel
theorem dX3_isIn_9 : decode cX3_isIn 9 = .ok (.iconst 1, 1) := by decide +kernel
theorem dX3_isIn_10 : decode cX3_isIn 10 = .ok (.goto 4, 3) := by decide +kernel
theorem dX3_isIn_13 : decode cX3_isIn 13 = .ok (.iconst 0, 1) := by decide +kernel
theorem dX3_isIn_14 : decode cX3_isIn 14 = .ok (.ireturn, 1) := by decide +kernel
theorem dX4_init_0 : decode cX4_init 0 = .ok (.aload_n 0, 1) := by decide +kernel
theorem dX4_init_1 : decode cX4_init 1 = .ok (.invokespecial 3, 3) := by decide +kernel
theorem dX4_init_4 : decode cX4_init 4 = .ok (.aload_n 0, 1) := by decide +kernel
theorem dX4_init_5 : decode cX4_init 5 = .ok (.new 9, 3) := by decide +kernel
theorem dX4_init_8 : decode cX4_init 8 = .ok (.dup, 1) := by decide +kernel
theorem dX4_init_9 : decode cX4_init 9 = .ok (.invokespecial 11, 3) := by decide +kernel
theorem dX4_init_12 : decode cX4_init 12 = .ok (.putfield 12, 3) := by decide +kernel
theorem dX4_init_15 : decode cX4_init 15 = .ok (.aload_n 0, 1) := by decide +kernel
theorem dX4_init_16 : decode cX4_init 16 = .ok (.new 9, 3) := by decide +kernel
theorem dX4_init_19 : decode cX4_init 19 = .ok (.dup, 1) := by decide +kernel
theorem dX4_init_20 : decode cX4_init 20 = .ok (.invokespecial 11, 3) := by decide +kernel
theorem dX4_init_23 : decode cX4_init 23 = .ok (.putfield 16, 3) := by decide +kernel
theorem dX4_init_26 : decode cX4_init 26 = .ok (.aload_n 0, 1) := by decide +kernel
theorem dX4_init_27 : decode cX4_init 27 = .ok (.iconst 4, 1) := by decide +kernel
theorem dX4_init_28 : decode cX4_init 28 = .ok (.anewarray 9, 3) := by decide +kernel
theorem dX4_init_31 : decode cX4_init 31 = .ok (.putfield 19, 3) := by decide +kernel
theorem dX4_init_34 : decode cX4_init 34 = .ok (.iconst 0, 1) := by decide +kernel
theorem dX4_init_35 : decode cX4_init 35 = .ok (.istore_n 1, 1) := by decide +kernel
theorem dX4_init_36 : decode cX4_init 36 = .ok (.iload_n 1, 1) := by decide +kernel
theorem dX4_init_37 : decode cX4_init 37 = .ok (.aload_n 0, 1) := by decide +kernel
theorem dX4_init_38 : decode cX4_init 38 = .ok (.getfield 19, 3) := by decide +kernel
theorem dX4_init_41 : decode cX4_init 41 = .ok (.arraylength, 1) := by decide +kernel
theorem dX4_init_42 : decode cX4_init 42 = .ok (.if_icmp .ge 22, 3) := by decide +kernel
theorem dX4_init_45 : decode cX4_init 45 = .ok (.aload_n 0, 1) := by decide +kernel
theorem dX4_init_46 : decode cX4_init 46 = .ok (.getfield 19, 3) := by decide +kernel
theorem dX4_init_49 : decode cX4_init 49 = .ok (.iload_n 1, 1) := by decide +kernel
theorem dX4_init_50 : decode cX4_init 50 = .ok (.new 9, 3) := by decide +kernel
theorem dX4_init_53 : decode cX4_init 53 = .ok (.dup, 1) := by decide +kernel
theorem dX4_init_54 : decode cX4_init 54 = .ok (.invokespecial 11, 3) := by decide +kernel
theorem dX4_init_57 : decode cX4_init 57 = .ok (.aastore, 1) := by decide +kernel
theorem dX4_init_58 : decode cX4_init 58 = .ok (.iinc 1 1, 3) := by decide +kernel
theorem dX4_init_61 : decode cX4_init 61 = .ok (.goto (-25), 3) := by decide +kernel
theorem dX4_init_64 : decode cX4_init 64 = .ok (.aload_n 0, 1) := by decide +kernel
theorem dX4_init_65 : decode cX4_init 65 = .ok (.new 23, 3) := by decide +kernel
theorem dX4_init_68 : decode cX4_init 68 = .ok (.dup, 1) := by decide +kernel
theorem dX4_init_69 : decode cX4_init 69 = .ok (.invokespecial 25, 3) := by decide +kernel
theorem dX4_init_72 : decode cX4_init 72 = .ok (.putfield 26, 3) := by decide +kernel
theorem dX4_init_75 : decode cX4_init 75 = .ok (.aload_n 0, 1) := by decide +kernel
theorem dX4_init_76 : decode cX4_init 76 = .ok (.new 30, 3) := by decide +kernel
theorem dX4_init_79 : decode cX4_init 79 = .ok (.dup, 1) := by decide +kernel
theorem dX4_init_80 : decode cX4_init 80 = .ok (.invokespecial 32, 3) := by decide +kernel
theorem dX4_init_83 : decode cX4_init 83 = .ok (.putfield 33, 3) := by decide +kernel
theorem dX4_init_86 : decode cX4_init 86 = .ok (.aload_n 0, 1) := by decide +kernel
theorem dX4_init_87 : decode cX4_init 87 = .ok (.iconst 0, 1) := by decide +kernel
theorem dX4_init_88 : decode cX4_init 88 = .ok (.putfield 37, 3) := by decide +kernel
theorem dX4_init_91 : decode cX4_init 91 = .ok (.return_, 1) := by decide +kernel
theorem dX4_addOrder_0 : decode cX4_addOrder 0 = .ok (.iload_n 1, 1) := by decide +kernel
theorem dX4_addOrder_1 : decode cX4_addOrder 1 = .ok (.invokestatic 41, 3) := by decide +kernel
theorem dX4_addOrder_4 : decode cX4_addOrder 4 = .ok (.ifCond .eq 14, 3) := by decide +kernel
theorem dX4_addOrder_7 : decode cX4_addOrder 7 = .ok (.aload_n 0, 1) := by decide +kernel
theorem dX4_addOrder_8 : decode cX4_addOrder 8 = .ok (.getfield 12, 3) := by decide +kernel
theorem dX4_addOrder_11 : decode cX4_addOrder 11 = .ok (.iload_n 2, 1) := by decide +kernel
theorem dX4_addOrder_12 : decode cX4_addOrder 12 = .ok (.invokevirtual 45, 3) := by decide +kernel
theorem dX4_addOrder_15 : decode cX4_addOrder 15 = .ok (.ifCond .ne 13, 3) := by decide +kernel
theorem dX4_addOrder_18 : decode cX4_addOrder 18 = .ok (.new 48, 3) := by decide +kernel
theorem dX4_addOrder_21 : decode cX4_addOrder 21 = .ok (.dup, 1) := by decide +kernel
theorem dX4_addOrder_22 : decode cX4_addOrder 22 = .ok (.ldc 50, 2) := by decide +kernel
theorem dX4_addOrder_24 : decode cX4_addOrder 24 = .ok (.invokespecial 52, 3) := by decide +kernel
theorem dX4_addOrder_27 : decode cX4_addOrder 27 = .ok (.athrow, 1) := by decide +kernel
theorem dX4_addOrder_28 : decode cX4_addOrder 28 = .ok (.aload_n 0, 1) := by decide +kernel
theorem dX4_addOrder_29 : decode cX4_addOrder 29 = .ok (.getfield 12, 3) := by decide +kernel
theorem dX4_addOrder_32 : decode cX4_addOrder 32 = .ok (.getfield 55, 3) := by decide +kernel
theorem dX4_addOrder_35 : decode cX4_addOrder 35 = .ok (.bipush 8, 2) := by decide +kernel
theorem dX4_addOrder_37 : decode cX4_addOrder 37 = .ok (.if_icmp .lt 13, 3) := by decide +kernel
theorem dX4_addOrder_40 : decode cX4_addOrder 40 = .ok (.new 58, 3) := by decide +kernel
theorem dX4_addOrder_43 : decode cX4_addOrder 43 = .ok (.dup, 1) := by decide +kernel
theorem dX4_addOrder_44 : decode cX4_addOrder 44 = .ok (.ldc 60, 2) := by decide +kernel
theorem dX4_addOrder_46 : decode cX4_addOrder 46 = .ok (.invokespecial 62, 3) := by decide +kernel
theorem dX4_addOrder_49 : decode cX4_addOrder 49 = .ok (.athrow, 1) := by decide +kernel
theorem dX4_addOrder_50 : decode cX4_addOrder 50 = .ok (.aload_n 0, 1) := by decide +kernel
theorem dX4_addOrder_51 : decode cX4_addOrder 51 = .ok (.invokevirtual 63, 3) := by decide +kernel
theorem dX4_addOrder_54 : decode cX4_addOrder 54 = .ok (.aload_n 0, 1) := by decide +kernel
theorem dX4_addOrder_55 : decode cX4_addOrder 55 = .ok (.getfield 12, 3) := by decide +kernel
theorem dX4_addOrder_58 : decode cX4_addOrder 58 = .ok (.iload_n 1, 1) := by decide +kernel
theorem dX4_addOrder_59 : decode cX4_addOrder 59 = .ok (.iload_n 2, 1) := by decide +kernel
theorem dX4_addOrder_60 : decode cX4_addOrder 60 = .ok (.invokevirtual 66, 3) := by decide +kernel
theorem dX4_addOrder_63 : decode cX4_addOrder 63 = .ok (.ireturn, 1) := by decide +kernel
theorem dX4_change_0 : decode cX4_change 0 = .ok (.aload_n 0, 1) := by decide +kernel
theorem dX4_change_1 : decode cX4_change 1 = .ok (.getfield 12, 3) := by decide +kernel
theorem dX4_change_4 : decode cX4_change 4 = .ok (.iload_n 1, 1) := by decide +kernel
theorem dX4_change_5 : decode cX4_change 5 = .ok (.invokevirtual 70, 3) := by decide +kernel
theorem dX4_change_8 : decode cX4_change 8 = .ok (.ifCond .ne 13, 3) := by decide +kernel
theorem dX4_change_11 : decode cX4_change 11 = .ok (.new 73, 3) := by decide +kernel
theorem dX4_change_14 : decode cX4_change 14 = .ok (.dup, 1) := by decide +kernel
theorem dX4_change_15 : decode cX4_change 15 = .ok (.ldc 75, 2) := by decide +kernel
theorem dX4_change_17 : decode cX4_change 17 = .ok (.invokespecial 77, 3) := by decide +kernel
theorem dX4_change_20 : decode cX4_change 20 = .ok (.athrow, 1) := by decide +kernel
theorem dX4_change_21 : decode cX4_change 21 = .ok (.aload_n 0, 1) := by decide +kernel
theorem dX4_change_22 : decode cX4_change 22 = .ok (.iload_n 2, 1) := by decide +kernel
theorem dX4_change_23 : decode cX4_change 23 = .ok (.iload_n 3, 1) := by decide +kernel
theorem dX4_change_24 : decode cX4_change 24 = .ok (.invokevirtual 78, 3) := by decide +kernel
theorem dX4_change_27 : decode cX4_change 27 = .ok (.ifCond .ne 13, 3) := by decide +kernel
theorem dX4_change_30 : decode cX4_change 30 = .ok (.new 48, 3) := by decide +kernel
theorem dX4_change_33 : decode cX4_change 33 = .ok (.dup, 1) := by decide +kernel
theorem dX4_change_34 : decode cX4_change 34 = .ok (.ldc 82, 2) := by decide +kernel
theorem dX4_change_36 : decode cX4_change 36 = .ok (.invokespecial 52, 3) := by decide +kernel
theorem dX4_change_39 : decode cX4_change 39 = .ok (.athrow, 1) := by decide +kernel
theorem dX4_change_40 : decode cX4_change 40 = .ok (.aload_n 0, 1) := by decide +kernel
theorem dX4_change_41 : decode cX4_change 41 = .ok (.invokevirtual 63, 3) := by decide +kernel
theorem dX4_change_44 : decode cX4_change 44 = .ok (.aload_n 0, 1) := by decide +kernel
theorem dX4_change_45 : decode cX4_change 45 = .ok (.getfield 12, 3) := by decide +kernel
theorem dX4_change_48 : decode cX4_change 48 = .ok (.iload_n 1, 1) := by decide +kernel
theorem dX4_change_49 : decode cX4_change 49 = .ok (.iload_n 2, 1) := by decide +kernel
theorem dX4_change_50 : decode cX4_change 50 = .ok (.invokevirtual 84, 3) := by decide +kernel
theorem dX4_change_53 : decode cX4_change 53 = .ok (.istore 4, 2) := by decide +kernel
theorem dX4_change_55 : decode cX4_change 55 = .ok (.aload_n 0, 1) := by decide +kernel
theorem dX4_change_56 : decode cX4_change 56 = .ok (.getfield 12, 3) := by decide +kernel
theorem dX4_change_59 : decode cX4_change 59 = .ok (.iload_n 1, 1) := by decide +kernel
theorem dX4_change_60 : decode cX4_change 60 = .ok (.iload_n 2, 1) := by decide +kernel
theorem dX4_change_61 : decode cX4_change 61 = .ok (.iload_n 3, 1) := by decide +kernel
theorem dX4_change_62 : decode cX4_change 62 = .ok (.invokevirtual 87, 3) := by decide +kernel
theorem dX4_change_65 : decode cX4_change 65 = .ok (.iload 4, 2) := by decide +kernel
theorem dX4_change_67 : decode cX4_change 67 = .ok (.ireturn, 1) := by decide +kernel
theorem dX4_addEscort_0 : decode cX4_addEscort 0 = .ok (.iload_n 1, 1) := by decide +kernel
theorem dX4_addEscort_1 : decode cX4_addEscort 1 = .ok (.invokestatic 107, 3) := by decide +kernel
theorem dX4_addEscort_4 : decode cX4_addEscort 4 = .ok (.ifCond .eq 14, 3) := by decide +kernel
theorem dX4_addEscort_7 : decode cX4_addEscort 7 = .ok (.iload_n 2, 1) := by decide +kernel
theorem dX4_addEscort_8 : decode cX4_addEscort 8 = .ok (.iconst 1, 1) := by decide +kernel
theorem dX4_addEscort_9 : decode cX4_addEscort 9 = .ok (.if_icmp .lt 9, 3) := by decide +kernel
theorem dX4_addEscort_12 : decode cX4_addEscort 12 = .ok (.iload_n 2, 1) := by decide +kernel
theorem dX4_addEscort_13 : decode cX4_addEscort 13 = .ok (.bipush 20, 2) := by decide +kernel
theorem dX4_addEscort_15 : decode cX4_addEscort 15 = .ok (.if_icmp .le 13, 3) := by decide +kernel
theorem dX4_addEscort_18 : decode cX4_addEscort 18 = .ok (.new 48, 3) := by decide +kernel
theorem dX4_addEscort_21 : decode cX4_addEscort 21 = .ok (.dup, 1) := by decide +kernel
theorem dX4_addEscort_22 : decode cX4_addEscort 22 = .ok (.ldc 110, 2) := by decide +kernel
theorem dX4_addEscort_24 : decode cX4_addEscort 24 = .ok (.invokespecial 52, 3) := by decide +kernel
theorem dX4_addEscort_27 : decode cX4_addEscort 27 = .ok (.athrow, 1) := by decide +kernel
theorem dX4_addEscort_28 : decode cX4_addEscort 28 = .ok (.aload_n 0, 1) := by decide +kernel
theorem dX4_addEscort_29 : decode cX4_addEscort 29 = .ok (.getfield 12, 3) := by decide +kernel
theorem dX4_addEscort_32 : decode cX4_addEscort 32 = .ok (.getfield 112, 3) := by decide +kernel
theorem dX4_addEscort_35 : decode cX4_addEscort 35 = .ok (.bipush 6, 2) := by decide +kernel
theorem dX4_addEscort_37 : decode cX4_addEscort 37 = .ok (.if_icmp .lt 13, 3) := by decide +kernel
theorem dX4_addEscort_40 : decode cX4_addEscort 40 = .ok (.new 58, 3) := by decide +kernel
theorem dX4_addEscort_43 : decode cX4_addEscort 43 = .ok (.dup, 1) := by decide +kernel
theorem dX4_addEscort_44 : decode cX4_addEscort 44 = .ok (.ldc 115, 2) := by decide +kernel
theorem dX4_addEscort_46 : decode cX4_addEscort 46 = .ok (.invokespecial 62, 3) := by decide +kernel
theorem dX4_addEscort_49 : decode cX4_addEscort 49 = .ok (.athrow, 1) := by decide +kernel
theorem dX4_addEscort_50 : decode cX4_addEscort 50 = .ok (.aload_n 0, 1) := by decide +kernel
theorem dX4_addEscort_51 : decode cX4_addEscort 51 = .ok (.invokevirtual 63, 3) := by decide +kernel
theorem dX4_addEscort_54 : decode cX4_addEscort 54 = .ok (.aload_n 0, 1) := by decide +kernel
theorem dX4_addEscort_55 : decode cX4_addEscort 55 = .ok (.getfield 12, 3) := by decide +kernel
theorem dX4_addEscort_58 : decode cX4_addEscort 58 = .ok (.iload_n 1, 1) := by decide +kernel
theorem dX4_addEscort_59 : decode cX4_addEscort 59 = .ok (.iload_n 2, 1) := by decide +kernel
theorem dX4_addEscort_60 : decode cX4_addEscort 60 = .ok (.invokevirtual 117, 3) := by decide +kernel
theorem dX4_addEscort_63 : decode cX4_addEscort 63 = .ok (.ireturn, 1) := by decide +kernel
theorem dX4_setSlots_0 : decode cX4_setSlots 0 = .ok (.aload_n 0, 1) := by decide +kernel
theorem dX4_setSlots_1 : decode cX4_setSlots 1 = .ok (.getfield 12, 3) := by decide +kernel
theorem dX4_setSlots_4 : decode cX4_setSlots 4 = .ok (.iload_n 1, 1) := by decide +kernel
theorem dX4_setSlots_5 : decode cX4_setSlots 5 = .ok (.invokevirtual 120, 3) := by decide +kernel
theorem dX4_setSlots_8 : decode cX4_setSlots 8 = .ok (.ifCond .ne 13, 3) := by decide +kernel
theorem dX4_setSlots_11 : decode cX4_setSlots 11 = .ok (.new 73, 3) := by decide +kernel
theorem dX4_setSlots_14 : decode cX4_setSlots 14 = .ok (.dup, 1) := by decide +kernel
theorem dX4_setSlots_15 : decode cX4_setSlots 15 = .ok (.ldc 123, 2) := by decide +kernel
theorem dX4_setSlots_17 : decode cX4_setSlots 17 = .ok (.invokespecial 77, 3) := by decide +kernel
theorem dX4_setSlots_20 : decode cX4_setSlots 20 = .ok (.athrow, 1) := by decide +kernel
theorem dX4_setSlots_21 : decode cX4_setSlots 21 = .ok (.iload_n 2, 1) := by decide +kernel
theorem dX4_setSlots_22 : decode cX4_setSlots 22 = .ok (.invokestatic 107, 3) := by decide +kernel
theorem dX4_setSlots_25 : decode cX4_setSlots 25 = .ok (.ifCond .ne 13, 3) := by decide +kernel
theorem dX4_setSlots_28 : decode cX4_setSlots 28 = .ok (.new 48, 3) := by decide +kernel
theorem dX4_setSlots_31 : decode cX4_setSlots 31 = .ok (.dup, 1) := by decide +kernel
theorem dX4_setSlots_32 : decode cX4_setSlots 32 = .ok (.ldc 125, 2) := by decide +kernel
theorem dX4_setSlots_34 : decode cX4_setSlots 34 = .ok (.invokespecial 52, 3) := by decide +kernel
theorem dX4_setSlots_37 : decode cX4_setSlots 37 = .ok (.athrow, 1) := by decide +kernel
theorem dX4_setSlots_38 : decode cX4_setSlots 38 = .ok (.aload_n 0, 1) := by decide +kernel
theorem dX4_setSlots_39 : decode cX4_setSlots 39 = .ok (.invokevirtual 63, 3) := by decide +kernel
theorem dX4_setSlots_42 : decode cX4_setSlots 42 = .ok (.aload_n 0, 1) := by decide +kernel
theorem dX4_setSlots_43 : decode cX4_setSlots 43 = .ok (.getfield 12, 3) := by decide +kernel
theorem dX4_setSlots_46 : decode cX4_setSlots 46 = .ok (.getfield 127, 3) := by decide +kernel
theorem dX4_setSlots_49 : decode cX4_setSlots 49 = .ok (.iload_n 1, 1) := by decide +kernel
theorem dX4_setSlots_50 : decode cX4_setSlots 50 = .ok (.invokevirtual 97, 3) := by decide +kernel
theorem dX4_setSlots_53 : decode cX4_setSlots 53 = .ok (.istore_n 3, 1) := by decide +kernel
theorem dX4_setSlots_54 : decode cX4_setSlots 54 = .ok (.aload_n 0, 1) := by decide +kernel
theorem dX4_setSlots_55 : decode cX4_setSlots 55 = .ok (.getfield 12, 3) := by decide +kernel
theorem dX4_setSlots_58 : decode cX4_setSlots 58 = .ok (.getfield 127, 3) := by decide +kernel
theorem dX4_setSlots_61 : decode cX4_setSlots 61 = .ok (.iload_n 1, 1) := by decide +kernel
theorem dX4_setSlots_62 : decode cX4_setSlots 62 = .ok (.iload_n 2, 1) := by decide +kernel
theorem dX4_setSlots_63 : decode cX4_setSlots 63 = .ok (.invokevirtual 103, 3) := by decide +kernel
theorem dX4_setSlots_66 : decode cX4_setSlots 66 = .ok (.iload_n 3, 1) := by decide +kernel
theorem dX4_setSlots_67 : decode cX4_setSlots 67 = .ok (.ireturn, 1) := by decide +kernel
theorem dX4_addVenue_0 : decode cX4_addVenue 0 = .ok (.iload_n 1, 1) := by decide +kernel
theorem dX4_addVenue_1 : decode cX4_addVenue 1 = .ok (.iconst 1, 1) := by decide +kernel
theorem dX4_addVenue_2 : decode cX4_addVenue 2 = .ok (.if_icmp .lt 8, 3) := by decide +kernel
theorem dX4_addVenue_5 : decode cX4_addVenue 5 = .ok (.iload_n 1, 1) := by decide +kernel
theorem dX4_addVenue_6 : decode cX4_addVenue 6 = .ok (.iconst 4, 1) := by decide +kernel
theorem dX4_addVenue_7 : decode cX4_addVenue 7 = .ok (.if_icmp .le 13, 3) := by decide +kernel
theorem dX4_addVenue_10 : decode cX4_addVenue 10 = .ok (.new 48, 3) := by decide +kernel
theorem dX4_addVenue_13 : decode cX4_addVenue 13 = .ok (.dup, 1) := by decide +kernel
theorem dX4_addVenue_14 : decode cX4_addVenue 14 = .ok (.ldc 130, 2) := by decide +kernel
theorem dX4_addVenue_16 : decode cX4_addVenue 16 = .ok (.invokespecial 52, 3) := by decide +kernel
theorem dX4_addVenue_19 : decode cX4_addVenue 19 = .ok (.athrow, 1) := by decide +kernel
theorem dX4_addVenue_20 : decode cX4_addVenue 20 = .ok (.aload_n 0, 1) := by decide +kernel
theorem dX4_addVenue_21 : decode cX4_addVenue 21 = .ok (.getfield 12, 3) := by decide +kernel
theorem dX4_addVenue_24 : decode cX4_addVenue 24 = .ok (.getfield 132, 3) := by decide +kernel
theorem dX4_addVenue_27 : decode cX4_addVenue 27 = .ok (.iconst 5, 1) := by decide +kernel
theorem dX4_addVenue_28 : decode cX4_addVenue 28 = .ok (.if_icmp .lt 13, 3) := by decide +kernel
theorem dX4_addVenue_31 : decode cX4_addVenue 31 = .ok (.new 58, 3) := by decide +kernel
theorem dX4_addVenue_34 : decode cX4_addVenue 34 = .ok (.dup, 1) := by decide +kernel
theorem dX4_addVenue_35 : decode cX4_addVenue 35 = .ok (.ldc 135, 2) := by decide +kernel
theorem dX4_addVenue_37 : decode cX4_addVenue 37 = .ok (.invokespecial 62, 3) := by decide +kernel
theorem dX4_addVenue_40 : decode cX4_addVenue 40 = .ok (.athrow, 1) := by decide +kernel
theorem dX4_addVenue_41 : decode cX4_addVenue 41 = .ok (.aload_n 0, 1) := by decide +kernel
theorem dX4_addVenue_42 : decode cX4_addVenue 42 = .ok (.invokevirtual 63, 3) := by decide +kernel
theorem dX4_addVenue_45 : decode cX4_addVenue 45 = .ok (.aload_n 0, 1) := by decide +kernel
theorem dX4_addVenue_46 : decode cX4_addVenue 46 = .ok (.getfield 12, 3) := by decide +kernel
theorem dX4_addVenue_49 : decode cX4_addVenue 49 = .ok (.iload_n 1, 1) := by decide +kernel
theorem dX4_addVenue_50 : decode cX4_addVenue 50 = .ok (.invokevirtual 137, 3) := by decide +kernel
theorem dX4_addVenue_53 : decode cX4_addVenue 53 = .ok (.ireturn, 1) := by decide +kernel
theorem dX4_plan_0 : decode cX4_plan 0 = .ok (.aload_n 0, 1) := by decide +kernel
theorem dX4_plan_1 : decode cX4_plan 1 = .ok (.getfield 12, 3) := by decide +kernel
theorem dX4_plan_4 : decode cX4_plan 4 = .ok (.iload_n 1, 1) := by decide +kernel
theorem dX4_plan_5 : decode cX4_plan 5 = .ok (.invokevirtual 70, 3) := by decide +kernel
theorem dX4_plan_8 : decode cX4_plan 8 = .ok (.ifCond .eq 27, 3) := by decide +kernel
theorem dX4_plan_11 : decode cX4_plan 11 = .ok (.aload_n 0, 1) := by decide +kernel
theorem dX4_plan_12 : decode cX4_plan 12 = .ok (.getfield 12, 3) := by decide +kernel
theorem dX4_plan_15 : decode cX4_plan 15 = .ok (.iload 4, 2) := by decide +kernel
theorem dX4_plan_17 : decode cX4_plan 17 = .ok (.invokevirtual 120, 3) := by decide +kernel
theorem dX4_plan_20 : decode cX4_plan 20 = .ok (.ifCond .eq 15, 3) := by decide +kernel
theorem dX4_plan_23 : decode cX4_plan 23 = .ok (.aload_n 0, 1) := by decide +kernel
theorem dX4_plan_24 : decode cX4_plan 24 = .ok (.getfield 12, 3) := by decide +kernel
theorem dX4_plan_27 : decode cX4_plan 27 = .ok (.iload 5, 2) := by decide +kernel
theorem dX4_plan_29 : decode cX4_plan 29 = .ok (.invokevirtual 140, 3) := by decide +kernel
theorem dX4_plan_32 : decode cX4_plan 32 = .ok (.ifCond .ne 13, 3) := by decide +kernel
theorem dX4_plan_35 : decode cX4_plan 35 = .ok (.new 73, 3) := by decide +kernel
theorem dX4_plan_38 : decode cX4_plan 38 = .ok (.dup, 1) := by decide +kernel
theorem dX4_plan_39 : decode cX4_plan 39 = .ok (.ldc 143, 2) := by decide +kernel
theorem dX4_plan_41 : decode cX4_plan 41 = .ok (.invokespecial 77, 3) := by decide +kernel
theorem dX4_plan_44 : decode cX4_plan 44 = .ok (.athrow, 1) := by decide +kernel
theorem dX4_plan_45 : decode cX4_plan 45 = .ok (.iload_n 2, 1) := by decide +kernel
theorem dX4_plan_46 : decode cX4_plan 46 = .ok (.invokestatic 145, 3) := by decide +kernel
theorem dX4_plan_49 : decode cX4_plan 49 = .ok (.ifCond .eq 10, 3) := by decide +kernel
theorem dX4_plan_52 : decode cX4_plan 52 = .ok (.iload_n 3, 1) := by decide +kernel
theorem dX4_plan_53 : decode cX4_plan 53 = .ok (.invokestatic 148, 3) := by decide +kernel
theorem dX4_plan_56 : decode cX4_plan 56 = .ok (.ifCond .ne 13, 3) := by decide +kernel
theorem dX4_plan_59 : decode cX4_plan 59 = .ok (.new 48, 3) := by decide +kernel
theorem dX4_plan_62 : decode cX4_plan 62 = .ok (.dup, 1) := by decide +kernel
theorem dX4_plan_63 : decode cX4_plan 63 = .ok (.ldc 151, 2) := by decide +kernel
theorem dX4_plan_65 : decode cX4_plan 65 = .ok (.invokespecial 52, 3) := by decide +kernel
theorem dX4_plan_68 : decode cX4_plan 68 = .ok (.athrow, 1) := by decide +kernel
theorem dX4_plan_69 : decode cX4_plan 69 = .ok (.aload_n 0, 1) := by decide +kernel
theorem dX4_plan_70 : decode cX4_plan 70 = .ok (.iload_n 1, 1) := by decide +kernel
theorem dX4_plan_71 : decode cX4_plan 71 = .ok (.iload_n 2, 1) := by decide +kernel
theorem dX4_plan_72 : decode cX4_plan 72 = .ok (.iload_n 3, 1) := by decide +kernel
theorem dX4_plan_73 : decode cX4_plan 73 = .ok (.iload 4, 2) := by decide +kernel
theorem dX4_plan_75 : decode cX4_plan 75 = .ok (.iload 5, 2) := by decide +kernel
theorem dX4_plan_77 : decode cX4_plan 77 = .ok (.invokevirtual 153, 3) := by decide +kernel
theorem dX4_plan_80 : decode cX4_plan 80 = .ok (.ifCond .eq 13, 3) := by decide +kernel
theorem dX4_plan_83 : decode cX4_plan 83 = .ok (.new 58, 3) := by decide +kernel
theorem dX4_plan_86 : decode cX4_plan 86 = .ok (.dup, 1) := by decide +kernel
theorem dX4_plan_87 : decode cX4_plan 87 = .ok (.ldc 157, 2) := by decide +kernel
theorem dX4_plan_89 : decode cX4_plan 89 = .ok (.invokespecial 62, 3) := by decide +kernel
theorem dX4_plan_92 : decode cX4_plan 92 = .ok (.athrow, 1) := by decide +kernel
theorem dX4_plan_93 : decode cX4_plan 93 = .ok (.aload_n 0, 1) := by decide +kernel
theorem dX4_plan_94 : decode cX4_plan 94 = .ok (.invokevirtual 63, 3) := by decide +kernel
theorem dX4_plan_97 : decode cX4_plan 97 = .ok (.aload_n 0, 1) := by decide +kernel
theorem dX4_plan_98 : decode cX4_plan 98 = .ok (.getfield 12, 3) := by decide +kernel
theorem dX4_plan_101 : decode cX4_plan 101 = .ok (.iload_n 1, 1) := by decide +kernel
theorem dX4_plan_102 : decode cX4_plan 102 = .ok (.iload_n 2, 1) := by decide +kernel
theorem dX4_plan_103 : decode cX4_plan 103 = .ok (.iload_n 3, 1) := by decide +kernel
theorem dX4_plan_104 : decode cX4_plan 104 = .ok (.iload 4, 2) := by decide +kernel
theorem dX4_plan_106 : decode cX4_plan 106 = .ok (.iload 5, 2) := by decide +kernel
theorem dX4_plan_108 : decode cX4_plan 108 = .ok (.invokevirtual 159, 3) := by decide +kernel
theorem dX4_plan_111 : decode cX4_plan 111 = .ok (.ireturn, 1) := by decide +kernel
theorem dX4_planWeek_0 : decode cX4_planWeek 0 = .ok (.iload_n 1, 1) := by decide +kernel
theorem dX4_planWeek_1 : decode cX4_planWeek 1 = .ok (.invokestatic 145, 3) := by decide +kernel
theorem dX4_planWeek_4 : decode cX4_planWeek 4 = .ok (.ifCond .ne 13, 3) := by decide +kernel
theorem dX4_planWeek_7 : decode cX4_planWeek 7 = .ok (.new 48, 3) := by decide +kernel
theorem dX4_planWeek_10 : decode cX4_planWeek 10 = .ok (.dup, 1) := by decide +kernel
theorem dX4_planWeek_11 : decode cX4_planWeek 11 = .ok (.ldc 162, 2) := by decide +kernel
theorem dX4_planWeek_13 : decode cX4_planWeek 13 = .ok (.invokespecial 52, 3) := by decide +kernel
theorem dX4_planWeek_16 : decode cX4_planWeek 16 = .ok (.athrow, 1) := by decide +kernel
theorem dX4_planWeek_17 : decode cX4_planWeek 17 = .ok (.aload_n 0, 1) := by decide +kernel
theorem dX4_planWeek_18 : decode cX4_planWeek 18 = .ok (.getfield 12, 3) := by decide +kernel
theorem dX4_planWeek_21 : decode cX4_planWeek 21 = .ok (.iload_n 1, 1) := by decide +kernel
theorem dX4_planWeek_22 : decode cX4_planWeek 22 = .ok (.invokevirtual 164, 3) := by decide +kernel
theorem dX4_planWeek_25 : decode cX4_planWeek 25 = .ok (.ifCond .eq 13, 3) := by decide +kernel
theorem dX4_planWeek_28 : decode cX4_planWeek 28 = .ok (.new 58, 3) := by decide +kernel
theorem dX4_planWeek_31 : decode cX4_planWeek 31 = .ok (.dup, 1) := by decide +kernel
theorem dX4_planWeek_32 : decode cX4_planWeek 32 = .ok (.ldc 167, 2) := by decide +kernel
theorem dX4_planWeek_34 : decode cX4_planWeek 34 = .ok (.invokespecial 62, 3) := by decide +kernel
theorem dX4_planWeek_37 : decode cX4_planWeek 37 = .ok (.athrow, 1) := by decide +kernel
theorem dX4_planWeek_38 : decode cX4_planWeek 38 = .ok (.aload_n 0, 1) := by decide +kernel
theorem dX4_planWeek_39 : decode cX4_planWeek 39 = .ok (.invokevirtual 63, 3) := by decide +kernel
theorem dX4_planWeek_42 : decode cX4_planWeek 42 = .ok (.aload_n 0, 1) := by decide +kernel
theorem dX4_planWeek_43 : decode cX4_planWeek 43 = .ok (.getfield 26, 3) := by decide +kernel
theorem dX4_planWeek_46 : decode cX4_planWeek 46 = .ok (.aload_n 0, 1) := by decide +kernel
theorem dX4_planWeek_47 : decode cX4_planWeek 47 = .ok (.getfield 12, 3) := by decide +kernel
theorem dX4_planWeek_50 : decode cX4_planWeek 50 = .ok (.iload_n 1, 1) := by decide +kernel
theorem dX4_planWeek_51 : decode cX4_planWeek 51 = .ok (.invokevirtual 169, 3) := by decide +kernel
theorem dX4_planWeek_54 : decode cX4_planWeek 54 = .ok (.ireturn, 1) := by decide +kernel
theorem dX4_cancel_0 : decode cX4_cancel 0 = .ok (.aload_n 0, 1) := by decide +kernel
theorem dX4_cancel_1 : decode cX4_cancel 1 = .ok (.getfield 12, 3) := by decide +kernel
theorem dX4_cancel_4 : decode cX4_cancel 4 = .ok (.iload_n 1, 1) := by decide +kernel
theorem dX4_cancel_5 : decode cX4_cancel 5 = .ok (.invokevirtual 173, 3) := by decide +kernel
theorem dX4_cancel_8 : decode cX4_cancel 8 = .ok (.istore_n 2, 1) := by decide +kernel
theorem dX4_cancel_9 : decode cX4_cancel 9 = .ok (.iload_n 2, 1) := by decide +kernel
theorem dX4_cancel_10 : decode cX4_cancel 10 = .ok (.iconst (-1), 1) := by decide +kernel
theorem dX4_cancel_11 : decode cX4_cancel 11 = .ok (.if_icmp .ne 13, 3) := by decide +kernel
theorem dX4_cancel_14 : decode cX4_cancel 14 = .ok (.new 73, 3) := by decide +kernel
theorem dX4_cancel_17 : decode cX4_cancel 17 = .ok (.dup, 1) := by decide +kernel
theorem dX4_cancel_18 : decode cX4_cancel 18 = .ok (.ldc 176, 2) := by decide +kernel
theorem dX4_cancel_20 : decode cX4_cancel 20 = .ok (.invokespecial 77, 3) := by decide +kernel
theorem dX4_cancel_23 : decode cX4_cancel 23 = .ok (.athrow, 1) := by decide +kernel
theorem dX4_cancel_24 : decode cX4_cancel 24 = .ok (.aload_n 0, 1) := by decide +kernel
theorem dX4_cancel_25 : decode cX4_cancel 25 = .ok (.getfield 12, 3) := by decide +kernel
theorem dX4_cancel_28 : decode cX4_cancel 28 = .ok (.iload_n 2, 1) := by decide +kernel
theorem dX4_cancel_29 : decode cX4_cancel 29 = .ok (.iconst 5, 1) := by decide +kernel
theorem dX4_cancel_30 : decode cX4_cancel 30 = .ok (.invokevirtual 178, 3) := by decide +kernel
theorem dX4_cancel_33 : decode cX4_cancel 33 = .ok (.ifCond .eq 13, 3) := by decide +kernel
theorem dX4_cancel_36 : decode cX4_cancel 36 = .ok (.new 58, 3) := by decide +kernel
theorem dX4_cancel_39 : decode cX4_cancel 39 = .ok (.dup, 1) := by decide +kernel
theorem dX4_cancel_40 : decode cX4_cancel 40 = .ok (.ldc 181, 2) := by decide +kernel
theorem dX4_cancel_42 : decode cX4_cancel 42 = .ok (.invokespecial 62, 3) := by decide +kernel
theorem dX4_cancel_45 : decode cX4_cancel 45 = .ok (.athrow, 1) := by decide +kernel
theorem dX4_cancel_46 : decode cX4_cancel 46 = .ok (.aload_n 0, 1) := by decide +kernel
theorem dX4_cancel_47 : decode cX4_cancel 47 = .ok (.invokevirtual 63, 3) := by decide +kernel
theorem dX4_cancel_50 : decode cX4_cancel 50 = .ok (.aload_n 0, 1) := by decide +kernel
theorem dX4_cancel_51 : decode cX4_cancel 51 = .ok (.getfield 12, 3) := by decide +kernel
theorem dX4_cancel_54 : decode cX4_cancel 54 = .ok (.iload_n 2, 1) := by decide +kernel
theorem dX4_cancel_55 : decode cX4_cancel 55 = .ok (.iconst 1, 1) := by decide +kernel
theorem dX4_cancel_56 : decode cX4_cancel 56 = .ok (.invokevirtual 178, 3) := by decide +kernel
theorem dX4_cancel_59 : decode cX4_cancel 59 = .ok (.istore_n 3, 1) := by decide +kernel
theorem dX4_cancel_60 : decode cX4_cancel 60 = .ok (.aload_n 0, 1) := by decide +kernel
theorem dX4_cancel_61 : decode cX4_cancel 61 = .ok (.getfield 12, 3) := by decide +kernel
theorem dX4_cancel_64 : decode cX4_cancel 64 = .ok (.iload_n 2, 1) := by decide +kernel
theorem dX4_cancel_65 : decode cX4_cancel 65 = .ok (.invokevirtual 183, 3) := by decide +kernel
theorem dX4_cancel_68 : decode cX4_cancel 68 = .ok (.iload_n 3, 1) := by decide +kernel
theorem dX4_cancel_69 : decode cX4_cancel 69 = .ok (.ireturn, 1) := by decide +kernel
theorem dX4_tell_0 : decode cX4_tell 0 = .ok (.aload_n 0, 1) := by decide +kernel
theorem dX4_tell_1 : decode cX4_tell 1 = .ok (.getfield 12, 3) := by decide +kernel
theorem dX4_tell_4 : decode cX4_tell 4 = .ok (.iload_n 1, 1) := by decide +kernel
theorem dX4_tell_5 : decode cX4_tell 5 = .ok (.invokevirtual 173, 3) := by decide +kernel
theorem dX4_tell_8 : decode cX4_tell 8 = .ok (.istore_n 3, 1) := by decide +kernel
theorem dX4_tell_9 : decode cX4_tell 9 = .ok (.iload_n 3, 1) := by decide +kernel
theorem dX4_tell_10 : decode cX4_tell 10 = .ok (.iconst (-1), 1) := by decide +kernel
theorem dX4_tell_11 : decode cX4_tell 11 = .ok (.if_icmp .ne 13, 3) := by decide +kernel
theorem dX4_tell_14 : decode cX4_tell 14 = .ok (.new 73, 3) := by decide +kernel
theorem dX4_tell_17 : decode cX4_tell 17 = .ok (.dup, 1) := by decide +kernel
theorem dX4_tell_18 : decode cX4_tell 18 = .ok (.ldc 176, 2) := by decide +kernel
theorem dX4_tell_20 : decode cX4_tell 20 = .ok (.invokespecial 77, 3) := by decide +kernel
theorem dX4_tell_23 : decode cX4_tell 23 = .ok (.athrow, 1) := by decide +kernel
theorem dX4_tell_24 : decode cX4_tell 24 = .ok (.aload_n 0, 1) := by decide +kernel
theorem dX4_tell_25 : decode cX4_tell 25 = .ok (.getfield 12, 3) := by decide +kernel
theorem dX4_tell_28 : decode cX4_tell 28 = .ok (.iload_n 3, 1) := by decide +kernel
theorem dX4_tell_29 : decode cX4_tell 29 = .ok (.invokevirtual 187, 3) := by decide +kernel
theorem dX4_tell_32 : decode cX4_tell 32 = .ok (.ifCond .ne 13, 3) := by decide +kernel
theorem dX4_tell_35 : decode cX4_tell 35 = .ok (.new 58, 3) := by decide +kernel
theorem dX4_tell_38 : decode cX4_tell 38 = .ok (.dup, 1) := by decide +kernel
theorem dX4_tell_39 : decode cX4_tell 39 = .ok (.ldc 190, 2) := by decide +kernel
theorem dX4_tell_41 : decode cX4_tell 41 = .ok (.invokespecial 62, 3) := by decide +kernel
theorem dX4_tell_44 : decode cX4_tell 44 = .ok (.athrow, 1) := by decide +kernel
theorem dX4_tell_45 : decode cX4_tell 45 = .ok (.aload_n 0, 1) := by decide +kernel
theorem dX4_tell_46 : decode cX4_tell 46 = .ok (.invokevirtual 63, 3) := by decide +kernel
theorem dX4_tell_49 : decode cX4_tell 49 = .ok (.aload_n 0, 1) := by decide +kernel
theorem dX4_tell_50 : decode cX4_tell 50 = .ok (.getfield 12, 3) := by decide +kernel
theorem dX4_tell_53 : decode cX4_tell 53 = .ok (.iload_n 3, 1) := by decide +kernel
theorem dX4_tell_54 : decode cX4_tell 54 = .ok (.iload_n 2, 1) := by decide +kernel
theorem dX4_tell_55 : decode cX4_tell 55 = .ok (.ifCond .eq 7, 3) := by decide +kernel
theorem dX4_tell_58 : decode cX4_tell 58 = .ok (.iconst 1, 1) := by decide +kernel
theorem dX4_tell_59 : decode cX4_tell 59 = .ok (.goto 4, 3) := by decide +kernel
theorem dX4_tell_62 : decode cX4_tell 62 = .ok (.iconst 2, 1) := by decide +kernel
theorem dX4_tell_63 : decode cX4_tell 63 = .ok (.invokevirtual 192, 3) := by decide +kernel
theorem dX4_tell_66 : decode cX4_tell 66 = .ok (.aload_n 0, 1) := by decide +kernel
theorem dX4_tell_67 : decode cX4_tell 67 = .ok (.getfield 12, 3) := by decide +kernel
theorem dX4_tell_70 : decode cX4_tell 70 = .ok (.aload_n 0, 1) := by decide +kernel
theorem dX4_tell_71 : decode cX4_tell 71 = .ok (.getfield 12, 3) := by decide +kernel
theorem dX4_tell_74 : decode cX4_tell 74 = .ok (.iload_n 3, 1) := by decide +kernel
theorem dX4_tell_75 : decode cX4_tell 75 = .ok (.iconst 0, 1) := by decide +kernel
theorem dX4_tell_76 : decode cX4_tell 76 = .ok (.invokevirtual 178, 3) := by decide +kernel
theorem dX4_tell_79 : decode cX4_tell 79 = .ok (.aload_n 0, 1) := by decide +kernel
theorem dX4_tell_80 : decode cX4_tell 80 = .ok (.getfield 12, 3) := by decide +kernel
theorem dX4_tell_83 : decode cX4_tell 83 = .ok (.getfield 195, 3) := by decide +kernel
theorem dX4_tell_86 : decode cX4_tell 86 = .ok (.invokevirtual 198, 3) := by decide +kernel
theorem dX4_tell_89 : decode cX4_tell 89 = .ok (.ireturn, 1) := by decide +kernel
theorem dX4_endWeek_0 : decode cX4_endWeek 0 = .ok (.aload_n 0, 1) := by decide +kernel
theorem dX4_endWeek_1 : decode cX4_endWeek 1 = .ok (.getfield 12, 3) := by decide +kernel
theorem dX4_endWeek_4 : decode cX4_endWeek 4 = .ok (.invokevirtual 201, 3) := by decide +kernel
theorem dX4_endWeek_7 : decode cX4_endWeek 7 = .ok (.ifCond .eq 13, 3) := by decide +kernel
theorem dX4_endWeek_10 : decode cX4_endWeek 10 = .ok (.new 58, 3) := by decide +kernel
theorem dX4_endWeek_13 : decode cX4_endWeek 13 = .ok (.dup, 1) := by decide +kernel
theorem dX4_endWeek_14 : decode cX4_endWeek 14 = .ok (.ldc 205, 2) := by decide +kernel
theorem dX4_endWeek_16 : decode cX4_endWeek 16 = .ok (.invokespecial 62, 3) := by decide +kernel
theorem dX4_endWeek_19 : decode cX4_endWeek 19 = .ok (.athrow, 1) := by decide +kernel
theorem dX4_endWeek_20 : decode cX4_endWeek 20 = .ok (.aload_n 0, 1) := by decide +kernel
theorem dX4_endWeek_21 : decode cX4_endWeek 21 = .ok (.invokevirtual 63, 3) := by decide +kernel
theorem dX4_endWeek_24 : decode cX4_endWeek 24 = .ok (.aload_n 0, 1) := by decide +kernel
theorem dX4_endWeek_25 : decode cX4_endWeek 25 = .ok (.getfield 12, 3) := by decide +kernel
theorem dX4_endWeek_28 : decode cX4_endWeek 28 = .ok (.iconst 2, 1) := by decide +kernel
theorem dX4_endWeek_29 : decode cX4_endWeek 29 = .ok (.invokevirtual 207, 3) := by decide +kernel
theorem dX4_endWeek_32 : decode cX4_endWeek 32 = .ok (.istore_n 1, 1) := by decide +kernel
theorem dX4_endWeek_33 : decode cX4_endWeek 33 = .ok (.aload_n 0, 1) := by decide +kernel
theorem dX4_endWeek_34 : decode cX4_endWeek 34 = .ok (.getfield 12, 3) := by decide +kernel
theorem dX4_endWeek_37 : decode cX4_endWeek 37 = .ok (.invokevirtual 210, 3) := by decide +kernel
theorem dX4_endWeek_40 : decode cX4_endWeek 40 = .ok (.iload_n 1, 1) := by decide +kernel
theorem dX4_endWeek_41 : decode cX4_endWeek 41 = .ok (.ireturn, 1) := by decide +kernel
theorem dX4_order_0 : decode cX4_order 0 = .ok (.aload_n 0, 1) := by decide +kernel
theorem dX4_order_1 : decode cX4_order 1 = .ok (.getfield 12, 3) := by decide +kernel
theorem dX4_order_4 : decode cX4_order 4 = .ok (.iload_n 1, 1) := by decide +kernel
theorem dX4_order_5 : decode cX4_order 5 = .ok (.invokevirtual 70, 3) := by decide +kernel
theorem dX4_order_8 : decode cX4_order 8 = .ok (.ifCond .ne 13, 3) := by decide +kernel
theorem dX4_order_11 : decode cX4_order 11 = .ok (.new 73, 3) := by decide +kernel
theorem dX4_order_14 : decode cX4_order 14 = .ok (.dup, 1) := by decide +kernel
theorem dX4_order_15 : decode cX4_order 15 = .ok (.ldc 75, 2) := by decide +kernel
theorem dX4_order_17 : decode cX4_order 17 = .ok (.invokespecial 77, 3) := by decide +kernel
theorem dX4_order_20 : decode cX4_order 20 = .ok (.athrow, 1) := by decide +kernel
theorem dX4_order_21 : decode cX4_order 21 = .ok (.iload_n 2, 1) := by decide +kernel
theorem dX4_order_22 : decode cX4_order 22 = .ok (.tableswitch 132 0 6 #[42, 58, 70, 82, 94, 105, 121], 42) := by decide +kernel
theorem dX4_order_64 : decode cX4_order 64 = .ok (.aload_n 0, 1) := by decide +kernel
theorem dX4_order_65 : decode cX4_order 65 = .ok (.getfield 12, 3) := by decide +kernel
theorem dX4_order_68 : decode cX4_order 68 = .ok (.iload_n 1, 1) := by decide +kernel
theorem dX4_order_69 : decode cX4_order 69 = .ok (.aload_n 0, 1) := by decide +kernel
theorem dX4_order_70 : decode cX4_order 70 = .ok (.getfield 12, 3) := by decide +kernel
theorem dX4_order_73 : decode cX4_order 73 = .ok (.getfield 195, 3) := by decide +kernel
theorem dX4_order_76 : decode cX4_order 76 = .ok (.invokevirtual 84, 3) := by decide +kernel
theorem dX4_order_79 : decode cX4_order 79 = .ok (.ireturn, 1) := by decide +kernel
theorem dX4_order_80 : decode cX4_order 80 = .ok (.aload_n 0, 1) := by decide +kernel
theorem dX4_order_81 : decode cX4_order 81 = .ok (.getfield 12, 3) := by decide +kernel
theorem dX4_order_84 : decode cX4_order 84 = .ok (.getfield 93, 3) := by decide +kernel
theorem dX4_order_87 : decode cX4_order 87 = .ok (.iload_n 1, 1) := by decide +kernel
theorem dX4_order_88 : decode cX4_order 88 = .ok (.invokevirtual 97, 3) := by decide +kernel
theorem dX4_order_91 : decode cX4_order 91 = .ok (.ireturn, 1) := by decide +kernel
theorem dX4_order_92 : decode cX4_order 92 = .ok (.aload_n 0, 1) := by decide +kernel
theorem dX4_order_93 : decode cX4_order 93 = .ok (.getfield 12, 3) := by decide +kernel
theorem dX4_order_96 : decode cX4_order 96 = .ok (.getfield 213, 3) := by decide +kernel
theorem dX4_order_99 : decode cX4_order 99 = .ok (.iload_n 1, 1) := by decide +kernel
theorem dX4_order_100 : decode cX4_order 100 = .ok (.invokevirtual 97, 3) := by decide +kernel
theorem dX4_order_103 : decode cX4_order 103 = .ok (.ireturn, 1) := by decide +kernel
theorem dX4_order_104 : decode cX4_order 104 = .ok (.aload_n 0, 1) := by decide +kernel
theorem dX4_order_105 : decode cX4_order 105 = .ok (.getfield 12, 3) := by decide +kernel
theorem dX4_order_108 : decode cX4_order 108 = .ok (.getfield 216, 3) := by decide +kernel
theorem dX4_order_111 : decode cX4_order 111 = .ok (.iload_n 1, 1) := by decide +kernel
theorem dX4_order_112 : decode cX4_order 112 = .ok (.invokevirtual 97, 3) := by decide +kernel
theorem dX4_order_115 : decode cX4_order 115 = .ok (.ireturn, 1) := by decide +kernel
theorem dX4_order_116 : decode cX4_order 116 = .ok (.aload_n 0, 1) := by decide +kernel
theorem dX4_order_117 : decode cX4_order 117 = .ok (.getfield 12, 3) := by decide +kernel
theorem dX4_order_120 : decode cX4_order 120 = .ok (.iload_n 1, 1) := by decide +kernel
theorem dX4_order_121 : decode cX4_order 121 = .ok (.bipush 19, 2) := by decide +kernel
theorem dX4_order_123 : decode cX4_order 123 = .ok (.invokevirtual 219, 3) := by decide +kernel
theorem dX4_order_126 : decode cX4_order 126 = .ok (.ireturn, 1) := by decide +kernel
theorem dX4_order_127 : decode cX4_order 127 = .ok (.aload_n 0, 1) := by decide +kernel
theorem dX4_order_128 : decode cX4_order 128 = .ok (.getfield 12, 3) := by decide +kernel
theorem dX4_order_131 : decode cX4_order 131 = .ok (.iload_n 1, 1) := by decide +kernel
theorem dX4_order_132 : decode cX4_order 132 = .ok (.aload_n 0, 1) := by decide +kernel
theorem dX4_order_133 : decode cX4_order 133 = .ok (.getfield 12, 3) := by decide +kernel
theorem dX4_order_136 : decode cX4_order 136 = .ok (.getfield 195, 3) := by decide +kernel
theorem dX4_order_139 : decode cX4_order 139 = .ok (.invokevirtual 198, 3) := by decide +kernel
theorem dX4_order_142 : decode cX4_order 142 = .ok (.ireturn, 1) := by decide +kernel
theorem dX4_order_143 : decode cX4_order 143 = .ok (.aload_n 0, 1) := by decide +kernel
theorem dX4_order_144 : decode cX4_order 144 = .ok (.getfield 12, 3) := by decide +kernel
theorem dX4_order_147 : decode cX4_order 147 = .ok (.iload_n 1, 1) := by decide +kernel
theorem dX4_order_148 : decode cX4_order 148 = .ok (.bipush 19, 2) := by decide +kernel
theorem dX4_order_150 : decode cX4_order 150 = .ok (.invokevirtual 222, 3) := by decide +kernel
theorem dX4_order_153 : decode cX4_order 153 = .ok (.ireturn, 1) := by decide +kernel
theorem dX4_order_154 : decode cX4_order 154 = .ok (.new 48, 3) := by decide +kernel
theorem dX4_order_157 : decode cX4_order 157 = .ok (.dup, 1) := by decide +kernel
theorem dX4_order_158 : decode cX4_order 158 = .ok (.ldc 225, 2) := by decide +kernel
theorem dX4_order_160 : decode cX4_order 160 = .ok (.invokespecial 52, 3) := by decide +kernel
theorem dX4_order_163 : decode cX4_order 163 = .ok (.athrow, 1) := by decide +kernel
theorem dX4_hours_0 : decode cX4_hours 0 = .ok (.aload_n 0, 1) := by decide +kernel
theorem dX4_hours_1 : decode cX4_hours 1 = .ok (.getfield 12, 3) := by decide +kernel
theorem dX4_hours_4 : decode cX4_hours 4 = .ok (.iload_n 1, 1) := by decide +kernel
theorem dX4_hours_5 : decode cX4_hours 5 = .ok (.invokevirtual 70, 3) := by decide +kernel
theorem dX4_hours_8 : decode cX4_hours 8 = .ok (.ifCond .ne 13, 3) := by decide +kernel
theorem dX4_hours_11 : decode cX4_hours 11 = .ok (.new 73, 3) := by decide +kernel
theorem dX4_hours_14 : decode cX4_hours 14 = .ok (.dup, 1) := by decide +kernel
theorem dX4_hours_15 : decode cX4_hours 15 = .ok (.ldc 75, 2) := by decide +kernel
theorem dX4_hours_17 : decode cX4_hours 17 = .ok (.invokespecial 77, 3) := by decide +kernel
theorem dX4_hours_20 : decode cX4_hours 20 = .ok (.athrow, 1) := by decide +kernel
theorem dX4_hours_21 : decode cX4_hours 21 = .ok (.iload_n 2, 1) := by decide +kernel
theorem dX4_hours_22 : decode cX4_hours 22 = .ok (.invokestatic 145, 3) := by decide +kernel
theorem dX4_hours_25 : decode cX4_hours 25 = .ok (.ifCond .ne 13, 3) := by decide +kernel
theorem dX4_hours_28 : decode cX4_hours 28 = .ok (.new 48, 3) := by decide +kernel
theorem dX4_hours_31 : decode cX4_hours 31 = .ok (.dup, 1) := by decide +kernel
theorem dX4_hours_32 : decode cX4_hours 32 = .ok (.ldc 162, 2) := by decide +kernel
theorem dX4_hours_34 : decode cX4_hours 34 = .ok (.invokespecial 52, 3) := by decide +kernel
theorem dX4_hours_37 : decode cX4_hours 37 = .ok (.athrow, 1) := by decide +kernel
theorem dX4_hours_38 : decode cX4_hours 38 = .ok (.aload_n 0, 1) := by decide +kernel
theorem dX4_hours_39 : decode cX4_hours 39 = .ok (.getfield 12, 3) := by decide +kernel
theorem dX4_hours_42 : decode cX4_hours 42 = .ok (.iload_n 1, 1) := by decide +kernel
theorem dX4_hours_43 : decode cX4_hours 43 = .ok (.iload_n 2, 1) := by decide +kernel
theorem dX4_hours_44 : decode cX4_hours 44 = .ok (.invokevirtual 84, 3) := by decide +kernel
theorem dX4_hours_47 : decode cX4_hours 47 = .ok (.ireturn, 1) := by decide +kernel
theorem dX4_owed_0 : decode cX4_owed 0 = .ok (.aload_n 0, 1) := by decide +kernel
theorem dX4_owed_1 : decode cX4_owed 1 = .ok (.getfield 12, 3) := by decide +kernel
theorem dX4_owed_4 : decode cX4_owed 4 = .ok (.iload_n 1, 1) := by decide +kernel
theorem dX4_owed_5 : decode cX4_owed 5 = .ok (.invokevirtual 70, 3) := by decide +kernel
theorem dX4_owed_8 : decode cX4_owed 8 = .ok (.ifCond .ne 13, 3) := by decide +kernel
theorem dX4_owed_11 : decode cX4_owed 11 = .ok (.new 73, 3) := by decide +kernel
theorem dX4_owed_14 : decode cX4_owed 14 = .ok (.dup, 1) := by decide +kernel
theorem dX4_owed_15 : decode cX4_owed 15 = .ok (.ldc 75, 2) := by decide +kernel
theorem dX4_owed_17 : decode cX4_owed 17 = .ok (.invokespecial 77, 3) := by decide +kernel
theorem dX4_owed_20 : decode cX4_owed 20 = .ok (.athrow, 1) := by decide +kernel
theorem dX4_owed_21 : decode cX4_owed 21 = .ok (.iload_n 2, 1) := by decide +kernel
theorem dX4_owed_22 : decode cX4_owed 22 = .ok (.invokestatic 145, 3) := by decide +kernel
theorem dX4_owed_25 : decode cX4_owed 25 = .ok (.ifCond .ne 13, 3) := by decide +kernel
theorem dX4_owed_28 : decode cX4_owed 28 = .ok (.new 48, 3) := by decide +kernel
theorem dX4_owed_31 : decode cX4_owed 31 = .ok (.dup, 1) := by decide +kernel
theorem dX4_owed_32 : decode cX4_owed 32 = .ok (.ldc 162, 2) := by decide +kernel
theorem dX4_owed_34 : decode cX4_owed 34 = .ok (.invokespecial 52, 3) := by decide +kernel
theorem dX4_owed_37 : decode cX4_owed 37 = .ok (.athrow, 1) := by decide +kernel
theorem dX4_owed_38 : decode cX4_owed 38 = .ok (.aload_n 0, 1) := by decide +kernel
theorem dX4_owed_39 : decode cX4_owed 39 = .ok (.getfield 12, 3) := by decide +kernel
theorem dX4_owed_42 : decode cX4_owed 42 = .ok (.iload_n 1, 1) := by decide +kernel
theorem dX4_owed_43 : decode cX4_owed 43 = .ok (.iload_n 2, 1) := by decide +kernel
theorem dX4_owed_44 : decode cX4_owed 44 = .ok (.invokevirtual 198, 3) := by decide +kernel
theorem dX4_owed_47 : decode cX4_owed 47 = .ok (.ireturn, 1) := by decide +kernel
theorem dX4_meeting_0 : decode cX4_meeting 0 = .ok (.aload_n 0, 1) := by decide +kernel
theorem dX4_meeting_1 : decode cX4_meeting 1 = .ok (.getfield 12, 3) := by decide +kernel
theorem dX4_meeting_4 : decode cX4_meeting 4 = .ok (.iload_n 1, 1) := by decide +kernel
theorem dX4_meeting_5 : decode cX4_meeting 5 = .ok (.invokevirtual 173, 3) := by decide +kernel
theorem dX4_meeting_8 : decode cX4_meeting 8 = .ok (.istore_n 3, 1) := by decide +kernel
theorem dX4_meeting_9 : decode cX4_meeting 9 = .ok (.iload_n 3, 1) := by decide +kernel
theorem dX4_meeting_10 : decode cX4_meeting 10 = .ok (.iconst (-1), 1) := by decide +kernel
theorem dX4_meeting_11 : decode cX4_meeting 11 = .ok (.if_icmp .ne 13, 3) := by decide +kernel
theorem dX4_meeting_14 : decode cX4_meeting 14 = .ok (.new 73, 3) := by decide +kernel
theorem dX4_meeting_17 : decode cX4_meeting 17 = .ok (.dup, 1) := by decide +kernel
theorem dX4_meeting_18 : decode cX4_meeting 18 = .ok (.ldc 176, 2) := by decide +kernel
theorem dX4_meeting_20 : decode cX4_meeting 20 = .ok (.invokespecial 77, 3) := by decide +kernel
theorem dX4_meeting_23 : decode cX4_meeting 23 = .ok (.athrow, 1) := by decide +kernel
theorem dX4_meeting_24 : decode cX4_meeting 24 = .ok (.iload_n 2, 1) := by decide +kernel
theorem dX4_meeting_25 : decode cX4_meeting 25 = .ok (.ifCond .lt 8, 3) := by decide +kernel
theorem dX4_meeting_28 : decode cX4_meeting 28 = .ok (.iload_n 2, 1) := by decide +kernel
theorem dX4_meeting_29 : decode cX4_meeting 29 = .ok (.iconst 5, 1) := by decide +kernel
theorem dX4_meeting_30 : decode cX4_meeting 30 = .ok (.if_icmp .le 13, 3) := by decide +kernel
theorem dX4_meeting_33 : decode cX4_meeting 33 = .ok (.new 48, 3) := by decide +kernel
theorem dX4_meeting_36 : decode cX4_meeting 36 = .ok (.dup, 1) := by decide +kernel
theorem dX4_meeting_37 : decode cX4_meeting 37 = .ok (.ldc 225, 2) := by decide +kernel
theorem dX4_meeting_39 : decode cX4_meeting 39 = .ok (.invokespecial 52, 3) := by decide +kernel
theorem dX4_meeting_42 : decode cX4_meeting 42 = .ok (.athrow, 1) := by decide +kernel
theorem dX4_meeting_43 : decode cX4_meeting 43 = .ok (.aload_n 0, 1) := by decide +kernel
theorem dX4_meeting_44 : decode cX4_meeting 44 = .ok (.getfield 12, 3) := by decide +kernel
theorem dX4_meeting_47 : decode cX4_meeting 47 = .ok (.iload_n 3, 1) := by decide +kernel
theorem dX4_meeting_48 : decode cX4_meeting 48 = .ok (.iload_n 2, 1) := by decide +kernel
theorem dX4_meeting_49 : decode cX4_meeting 49 = .ok (.invokevirtual 178, 3) := by decide +kernel
theorem dX4_meeting_52 : decode cX4_meeting 52 = .ok (.ireturn, 1) := by decide +kernel
theorem dX4_escort_0 : decode cX4_escort 0 = .ok (.aload_n 0, 1) := by decide +kernel
theorem dX4_escort_1 : decode cX4_escort 1 = .ok (.getfield 12, 3) := by decide +kernel
theorem dX4_escort_4 : decode cX4_escort 4 = .ok (.iload_n 1, 1) := by decide +kernel
theorem dX4_escort_5 : decode cX4_escort 5 = .ok (.invokevirtual 120, 3) := by decide +kernel
theorem dX4_escort_8 : decode cX4_escort 8 = .ok (.ifCond .ne 13, 3) := by decide +kernel
theorem dX4_escort_11 : decode cX4_escort 11 = .ok (.new 73, 3) := by decide +kernel
theorem dX4_escort_14 : decode cX4_escort 14 = .ok (.dup, 1) := by decide +kernel
theorem dX4_escort_15 : decode cX4_escort 15 = .ok (.ldc 123, 2) := by decide +kernel
theorem dX4_escort_17 : decode cX4_escort 17 = .ok (.invokespecial 77, 3) := by decide +kernel
theorem dX4_escort_20 : decode cX4_escort 20 = .ok (.athrow, 1) := by decide +kernel
theorem dX4_escort_21 : decode cX4_escort 21 = .ok (.iload_n 2, 1) := by decide +kernel
theorem dX4_escort_22 : decode cX4_escort 22 = .ok (.tableswitch 82 0 3 #[30, 42, 54, 70], 30) := by decide +kernel
theorem dX4_escort_52 : decode cX4_escort 52 = .ok (.aload_n 0, 1) := by decide +kernel
theorem dX4_escort_53 : decode cX4_escort 53 = .ok (.getfield 12, 3) := by decide +kernel
theorem dX4_escort_56 : decode cX4_escort 56 = .ok (.getfield 127, 3) := by decide +kernel
theorem dX4_escort_59 : decode cX4_escort 59 = .ok (.iload_n 1, 1) := by decide +kernel
theorem dX4_escort_60 : decode cX4_escort 60 = .ok (.invokevirtual 97, 3) := by decide +kernel
theorem dX4_escort_63 : decode cX4_escort 63 = .ok (.ireturn, 1) := by decide +kernel
theorem dX4_escort_64 : decode cX4_escort 64 = .ok (.aload_n 0, 1) := by decide +kernel
theorem dX4_escort_65 : decode cX4_escort 65 = .ok (.getfield 12, 3) := by decide +kernel
theorem dX4_escort_68 : decode cX4_escort 68 = .ok (.getfield 227, 3) := by decide +kernel
theorem dX4_escort_71 : decode cX4_escort 71 = .ok (.iload_n 1, 1) := by decide +kernel
theorem dX4_escort_72 : decode cX4_escort 72 = .ok (.invokevirtual 97, 3) := by decide +kernel
theorem dX4_escort_75 : decode cX4_escort 75 = .ok (.ireturn, 1) := by decide +kernel
theorem dX4_escort_76 : decode cX4_escort 76 = .ok (.aload_n 0, 1) := by decide +kernel
theorem dX4_escort_77 : decode cX4_escort 77 = .ok (.getfield 12, 3) := by decide +kernel
theorem dX4_escort_80 : decode cX4_escort 80 = .ok (.iload_n 1, 1) := by decide +kernel
theorem dX4_escort_81 : decode cX4_escort 81 = .ok (.aload_n 0, 1) := by decide +kernel
theorem dX4_escort_82 : decode cX4_escort 82 = .ok (.getfield 12, 3) := by decide +kernel
theorem dX4_escort_85 : decode cX4_escort 85 = .ok (.getfield 195, 3) := by decide +kernel
theorem dX4_escort_88 : decode cX4_escort 88 = .ok (.invokevirtual 230, 3) := by decide +kernel
theorem dX4_escort_91 : decode cX4_escort 91 = .ok (.ireturn, 1) := by decide +kernel
theorem dX4_escort_92 : decode cX4_escort 92 = .ok (.aload_n 0, 1) := by decide +kernel
theorem dX4_escort_93 : decode cX4_escort 93 = .ok (.getfield 12, 3) := by decide +kernel
theorem dX4_escort_96 : decode cX4_escort 96 = .ok (.getfield 233, 3) := by decide +kernel
theorem dX4_escort_99 : decode cX4_escort 99 = .ok (.iload_n 1, 1) := by decide +kernel
theorem dX4_escort_100 : decode cX4_escort 100 = .ok (.invokevirtual 97, 3) := by decide +kernel
theorem dX4_escort_103 : decode cX4_escort 103 = .ok (.ireturn, 1) := by decide +kernel
theorem dX4_escort_104 : decode cX4_escort 104 = .ok (.new 48, 3) := by decide +kernel
theorem dX4_escort_107 : decode cX4_escort 107 = .ok (.dup, 1) := by decide +kernel
theorem dX4_escort_108 : decode cX4_escort 108 = .ok (.ldc 225, 2) := by decide +kernel
theorem dX4_escort_110 : decode cX4_escort 110 = .ok (.invokespecial 52, 3) := by decide +kernel
theorem dX4_escort_113 : decode cX4_escort 113 = .ok (.athrow, 1) := by decide +kernel
theorem dX4_value_0 : decode cX4_value 0 = .ok (.iload_n 1, 1) := by decide +kernel
theorem dX4_value_1 : decode cX4_value 1 = .ok (.tableswitch 148 0 9 #[55, 63, 71, 79, 87, 95, 103, 114, 125, 140], 55) := by decide +kernel
theorem dX4_value_56 : decode cX4_value 56 = .ok (.aload_n 0, 1) := by decide +kernel
theorem dX4_value_57 : decode cX4_value 57 = .ok (.getfield 12, 3) := by decide +kernel
theorem dX4_value_60 : decode cX4_value 60 = .ok (.getfield 55, 3) := by decide +kernel
theorem dX4_value_63 : decode cX4_value 63 = .ok (.ireturn, 1) := by decide +kernel
theorem dX4_value_64 : decode cX4_value 64 = .ok (.aload_n 0, 1) := by decide +kernel
theorem dX4_value_65 : decode cX4_value 65 = .ok (.getfield 12, 3) := by decide +kernel
theorem dX4_value_68 : decode cX4_value 68 = .ok (.getfield 112, 3) := by decide +kernel
theorem dX4_value_71 : decode cX4_value 71 = .ok (.ireturn, 1) := by decide +kernel
theorem dX4_value_72 : decode cX4_value 72 = .ok (.aload_n 0, 1) := by decide +kernel
theorem dX4_value_73 : decode cX4_value 73 = .ok (.getfield 12, 3) := by decide +kernel
theorem dX4_value_76 : decode cX4_value 76 = .ok (.getfield 132, 3) := by decide +kernel
theorem dX4_value_79 : decode cX4_value 79 = .ok (.ireturn, 1) := by decide +kernel
theorem dX4_value_80 : decode cX4_value 80 = .ok (.aload_n 0, 1) := by decide +kernel
theorem dX4_value_81 : decode cX4_value 81 = .ok (.getfield 12, 3) := by decide +kernel
theorem dX4_value_84 : decode cX4_value 84 = .ok (.getfield 246, 3) := by decide +kernel
theorem dX4_value_87 : decode cX4_value 87 = .ok (.ireturn, 1) := by decide +kernel
theorem dX4_value_88 : decode cX4_value 88 = .ok (.aload_n 0, 1) := by decide +kernel
theorem dX4_value_89 : decode cX4_value 89 = .ok (.getfield 12, 3) := by decide +kernel
theorem dX4_value_92 : decode cX4_value 92 = .ok (.getfield 195, 3) := by decide +kernel
theorem dX4_value_95 : decode cX4_value 95 = .ok (.ireturn, 1) := by decide +kernel
theorem dX4_value_96 : decode cX4_value 96 = .ok (.aload_n 0, 1) := by decide +kernel
theorem dX4_value_97 : decode cX4_value 97 = .ok (.getfield 12, 3) := by decide +kernel
theorem dX4_value_100 : decode cX4_value 100 = .ok (.getfield 249, 3) := by decide +kernel
theorem dX4_value_103 : decode cX4_value 103 = .ok (.ireturn, 1) := by decide +kernel
theorem dX4_value_104 : decode cX4_value 104 = .ok (.aload_n 0, 1) := by decide +kernel
theorem dX4_value_105 : decode cX4_value 105 = .ok (.getfield 12, 3) := by decide +kernel
theorem dX4_value_108 : decode cX4_value 108 = .ok (.getfield 213, 3) := by decide +kernel
theorem dX4_value_111 : decode cX4_value 111 = .ok (.invokevirtual 252, 3) := by decide +kernel
theorem dX4_value_114 : decode cX4_value 114 = .ok (.ireturn, 1) := by decide +kernel
theorem dX4_value_115 : decode cX4_value 115 = .ok (.aload_n 0, 1) := by decide +kernel
theorem dX4_value_116 : decode cX4_value 116 = .ok (.getfield 12, 3) := by decide +kernel
theorem dX4_value_119 : decode cX4_value 119 = .ok (.getfield 216, 3) := by decide +kernel
theorem dX4_value_122 : decode cX4_value 122 = .ok (.invokevirtual 252, 3) := by decide +kernel
theorem dX4_value_125 : decode cX4_value 125 = .ok (.ireturn, 1) := by decide +kernel
theorem dX4_value_126 : decode cX4_value 126 = .ok (.aload_n 0, 1) := by decide +kernel
theorem dX4_value_127 : decode cX4_value 127 = .ok (.getfield 12, 3) := by decide +kernel
theorem dX4_value_130 : decode cX4_value 130 = .ok (.aload_n 0, 1) := by decide +kernel
theorem dX4_value_131 : decode cX4_value 131 = .ok (.getfield 12, 3) := by decide +kernel
theorem dX4_value_134 : decode cX4_value 134 = .ok (.getfield 195, 3) := by decide +kernel
theorem dX4_value_137 : decode cX4_value 137 = .ok (.invokevirtual 256, 3) := by decide +kernel
theorem dX4_value_140 : decode cX4_value 140 = .ok (.ireturn, 1) := by decide +kernel
theorem dX4_value_141 : decode cX4_value 141 = .ok (.aload_n 0, 1) := by decide +kernel
theorem dX4_value_142 : decode cX4_value 142 = .ok (.getfield 12, 3) := by decide +kernel
theorem dX4_value_145 : decode cX4_value 145 = .ok (.getfield 249, 3) := by decide +kernel
theorem dX4_value_148 : decode cX4_value 148 = .ok (.ireturn, 1) := by decide +kernel
theorem dX4_value_149 : decode cX4_value 149 = .ok (.new 48, 3) := by decide +kernel
theorem dX4_value_152 : decode cX4_value 152 = .ok (.dup, 1) := by decide +kernel
theorem dX4_value_153 : decode cX4_value 153 = .ok (.ldc 225, 2) := by decide +kernel
theorem dX4_value_155 : decode cX4_value 155 = .ok (.invokespecial 52, 3) := by decide +kernel
theorem dX4_value_158 : decode cX4_value 158 = .ok (.athrow, 1) := by decide +kernel
theorem dX4_why_0 : decode cX4_why 0 = .ok (.aload_n 0, 1) := by decide +kernel
theorem dX4_why_1 : decode cX4_why 1 = .ok (.getfield 12, 3) := by decide +kernel
theorem dX4_why_4 : decode cX4_why 4 = .ok (.iload_n 1, 1) := by decide +kernel
theorem dX4_why_5 : decode cX4_why 5 = .ok (.invokevirtual 70, 3) := by decide +kernel
theorem dX4_why_8 : decode cX4_why 8 = .ok (.ifCond .eq 27, 3) := by decide +kernel
theorem dX4_why_11 : decode cX4_why 11 = .ok (.aload_n 0, 1) := by decide +kernel
theorem dX4_why_12 : decode cX4_why 12 = .ok (.getfield 12, 3) := by decide +kernel
theorem dX4_why_15 : decode cX4_why 15 = .ok (.iload 4, 2) := by decide +kernel
theorem dX4_why_17 : decode cX4_why 17 = .ok (.invokevirtual 120, 3) := by decide +kernel
theorem dX4_why_20 : decode cX4_why 20 = .ok (.ifCond .eq 15, 3) := by decide +kernel
theorem dX4_why_23 : decode cX4_why 23 = .ok (.aload_n 0, 1) := by decide +kernel
theorem dX4_why_24 : decode cX4_why 24 = .ok (.getfield 12, 3) := by decide +kernel
theorem dX4_why_27 : decode cX4_why 27 = .ok (.iload 5, 2) := by decide +kernel
theorem dX4_why_29 : decode cX4_why 29 = .ok (.invokevirtual 140, 3) := by decide +kernel
theorem dX4_why_32 : decode cX4_why 32 = .ok (.ifCond .ne 13, 3) := by decide +kernel
theorem dX4_why_35 : decode cX4_why 35 = .ok (.new 73, 3) := by decide +kernel
theorem dX4_why_38 : decode cX4_why 38 = .ok (.dup, 1) := by decide +kernel
theorem dX4_why_39 : decode cX4_why 39 = .ok (.ldc 143, 2) := by decide +kernel
theorem dX4_why_41 : decode cX4_why 41 = .ok (.invokespecial 77, 3) := by decide +kernel
theorem dX4_why_44 : decode cX4_why 44 = .ok (.athrow, 1) := by decide +kernel
theorem dX4_why_45 : decode cX4_why 45 = .ok (.iload_n 2, 1) := by decide +kernel
theorem dX4_why_46 : decode cX4_why 46 = .ok (.invokestatic 145, 3) := by decide +kernel
theorem dX4_why_49 : decode cX4_why 49 = .ok (.ifCond .eq 10, 3) := by decide +kernel
theorem dX4_why_52 : decode cX4_why 52 = .ok (.iload_n 3, 1) := by decide +kernel
theorem dX4_why_53 : decode cX4_why 53 = .ok (.invokestatic 148, 3) := by decide +kernel
theorem dX4_why_56 : decode cX4_why 56 = .ok (.ifCond .ne 13, 3) := by decide +kernel
theorem dX4_why_59 : decode cX4_why 59 = .ok (.new 48, 3) := by decide +kernel
theorem dX4_why_62 : decode cX4_why 62 = .ok (.dup, 1) := by decide +kernel
theorem dX4_why_63 : decode cX4_why 63 = .ok (.ldc 151, 2) := by decide +kernel
theorem dX4_why_65 : decode cX4_why 65 = .ok (.invokespecial 52, 3) := by decide +kernel
theorem dX4_why_68 : decode cX4_why 68 = .ok (.athrow, 1) := by decide +kernel
theorem dX4_why_69 : decode cX4_why 69 = .ok (.aload_n 0, 1) := by decide +kernel
theorem dX4_why_70 : decode cX4_why 70 = .ok (.iload_n 1, 1) := by decide +kernel
theorem dX4_why_71 : decode cX4_why 71 = .ok (.iload_n 2, 1) := by decide +kernel
theorem dX4_why_72 : decode cX4_why 72 = .ok (.iload_n 3, 1) := by decide +kernel
theorem dX4_why_73 : decode cX4_why 73 = .ok (.iload 4, 2) := by decide +kernel
theorem dX4_why_75 : decode cX4_why 75 = .ok (.iload 5, 2) := by decide +kernel
theorem dX4_why_77 : decode cX4_why 77 = .ok (.invokevirtual 153, 3) := by decide +kernel
theorem dX4_why_80 : decode cX4_why 80 = .ok (.ireturn, 1) := by decide +kernel
theorem dX4_firstSlot_0 : decode cX4_firstSlot 0 = .ok (.aload_n 0, 1) := by decide +kernel
theorem dX4_firstSlot_1 : decode cX4_firstSlot 1 = .ok (.getfield 12, 3) := by decide +kernel
theorem dX4_firstSlot_4 : decode cX4_firstSlot 4 = .ok (.iload_n 1, 1) := by decide +kernel
theorem dX4_firstSlot_5 : decode cX4_firstSlot 5 = .ok (.invokevirtual 70, 3) := by decide +kernel
theorem dX4_firstSlot_8 : decode cX4_firstSlot 8 = .ok (.ifCond .ne 13, 3) := by decide +kernel
theorem dX4_firstSlot_11 : decode cX4_firstSlot 11 = .ok (.new 73, 3) := by decide +kernel
theorem dX4_firstSlot_14 : decode cX4_firstSlot 14 = .ok (.dup, 1) := by decide +kernel
theorem dX4_firstSlot_15 : decode cX4_firstSlot 15 = .ok (.ldc 75, 2) := by decide +kernel
theorem dX4_firstSlot_17 : decode cX4_firstSlot 17 = .ok (.invokespecial 77, 3) := by decide +kernel
theorem dX4_firstSlot_20 : decode cX4_firstSlot 20 = .ok (.athrow, 1) := by decide +kernel
theorem dX4_firstSlot_21 : decode cX4_firstSlot 21 = .ok (.iload_n 2, 1) := by decide +kernel
theorem dX4_firstSlot_22 : decode cX4_firstSlot 22 = .ok (.invokestatic 145, 3) := by decide +kernel
theorem dX4_firstSlot_25 : decode cX4_firstSlot 25 = .ok (.ifCond .ne 13, 3) := by decide +kernel
theorem dX4_firstSlot_28 : decode cX4_firstSlot 28 = .ok (.new 48, 3) := by decide +kernel
theorem dX4_firstSlot_31 : decode cX4_firstSlot 31 = .ok (.dup, 1) := by decide +kernel
theorem dX4_firstSlot_32 : decode cX4_firstSlot 32 = .ok (.ldc 162, 2) := by decide +kernel
theorem dX4_firstSlot_34 : decode cX4_firstSlot 34 = .ok (.invokespecial 52, 3) := by decide +kernel
theorem dX4_firstSlot_37 : decode cX4_firstSlot 37 = .ok (.athrow, 1) := by decide +kernel
theorem dX4_firstSlot_38 : decode cX4_firstSlot 38 = .ok (.aload_n 0, 1) := by decide +kernel
theorem dX4_firstSlot_39 : decode cX4_firstSlot 39 = .ok (.getfield 12, 3) := by decide +kernel
theorem dX4_firstSlot_42 : decode cX4_firstSlot 42 = .ok (.iload_n 2, 1) := by decide +kernel
theorem dX4_firstSlot_43 : decode cX4_firstSlot 43 = .ok (.invokevirtual 164, 3) := by decide +kernel
theorem dX4_firstSlot_46 : decode cX4_firstSlot 46 = .ok (.ifCond .ne 13, 3) := by decide +kernel
theorem dX4_firstSlot_49 : decode cX4_firstSlot 49 = .ok (.aload_n 0, 1) := by decide +kernel
theorem dX4_firstSlot_50 : decode cX4_firstSlot 50 = .ok (.getfield 12, 3) := by decide +kernel
theorem dX4_firstSlot_53 : decode cX4_firstSlot 53 = .ok (.invokevirtual 259, 3) := by decide +kernel
theorem dX4_firstSlot_56 : decode cX4_firstSlot 56 = .ok (.ifCond .eq 5, 3) := by decide +kernel
theorem dX4_firstSlot_59 : decode cX4_firstSlot 59 = .ok (.iconst (-1), 1) := by decide +kernel
theorem dX4_firstSlot_60 : decode cX4_firstSlot 60 = .ok (.ireturn, 1) := by decide +kernel
theorem dX4_firstSlot_61 : decode cX4_firstSlot 61 = .ok (.aload_n 0, 1) := by decide +kernel
theorem dX4_firstSlot_62 : decode cX4_firstSlot 62 = .ok (.getfield 26, 3) := by decide +kernel
theorem dX4_firstSlot_65 : decode cX4_firstSlot 65 = .ok (.aload_n 0, 1) := by decide +kernel
theorem dX4_firstSlot_66 : decode cX4_firstSlot 66 = .ok (.getfield 12, 3) := by decide +kernel
theorem dX4_firstSlot_69 : decode cX4_firstSlot 69 = .ok (.iload_n 2, 1) := by decide +kernel
theorem dX4_firstSlot_70 : decode cX4_firstSlot 70 = .ok (.invokevirtual 238, 3) := by decide +kernel
theorem dX4_firstSlot_73 : decode cX4_firstSlot 73 = .ok (.aload_n 0, 1) := by decide +kernel
theorem dX4_firstSlot_74 : decode cX4_firstSlot 74 = .ok (.getfield 26, 3) := by decide +kernel
theorem dX4_firstSlot_77 : decode cX4_firstSlot 77 = .ok (.aload_n 0, 1) := by decide +kernel
theorem dX4_firstSlot_78 : decode cX4_firstSlot 78 = .ok (.getfield 12, 3) := by decide +kernel
theorem dX4_firstSlot_81 : decode cX4_firstSlot 81 = .ok (.iload_n 1, 1) := by decide +kernel
theorem dX4_firstSlot_82 : decode cX4_firstSlot 82 = .ok (.invokevirtual 262, 3) := by decide +kernel
theorem dX4_firstSlot_85 : decode cX4_firstSlot 85 = .ok (.ifCond .eq 13, 3) := by decide +kernel
theorem dX4_firstSlot_88 : decode cX4_firstSlot 88 = .ok (.aload_n 0, 1) := by decide +kernel
theorem dX4_firstSlot_89 : decode cX4_firstSlot 89 = .ok (.getfield 26, 3) := by decide +kernel
theorem dX4_firstSlot_92 : decode cX4_firstSlot 92 = .ok (.getfield 266, 3) := by decide +kernel
theorem dX4_firstSlot_95 : decode cX4_firstSlot 95 = .ok (.goto 4, 3) := by decide +kernel
theorem dX4_firstSlot_98 : decode cX4_firstSlot 98 = .ok (.iconst (-1), 1) := by decide +kernel
theorem dX4_firstSlot_99 : decode cX4_firstSlot 99 = .ok (.ireturn, 1) := by decide +kernel
theorem dX4_owedBehind_0 : decode cX4_owedBehind 0 = .ok (.iload_n 1, 1) := by decide +kernel
theorem dX4_owedBehind_1 : decode cX4_owedBehind 1 = .ok (.invokestatic 145, 3) := by decide +kernel
theorem dX4_owedBehind_4 : decode cX4_owedBehind 4 = .ok (.ifCond .ne 13, 3) := by decide +kernel
theorem dX4_owedBehind_7 : decode cX4_owedBehind 7 = .ok (.new 48, 3) := by decide +kernel
theorem dX4_owedBehind_10 : decode cX4_owedBehind 10 = .ok (.dup, 1) := by decide +kernel
theorem dX4_owedBehind_11 : decode cX4_owedBehind 11 = .ok (.ldc 162, 2) := by decide +kernel
theorem dX4_owedBehind_13 : decode cX4_owedBehind 13 = .ok (.invokespecial 52, 3) := by decide +kernel
theorem dX4_owedBehind_16 : decode cX4_owedBehind 16 = .ok (.athrow, 1) := by decide +kernel
theorem dX4_owedBehind_17 : decode cX4_owedBehind 17 = .ok (.aload_n 0, 1) := by decide +kernel
theorem dX4_owedBehind_18 : decode cX4_owedBehind 18 = .ok (.getfield 12, 3) := by decide +kernel
theorem dX4_owedBehind_21 : decode cX4_owedBehind 21 = .ok (.iload_n 1, 1) := by decide +kernel
theorem dX4_owedBehind_22 : decode cX4_owedBehind 22 = .ok (.invokevirtual 164, 3) := by decide +kernel
theorem dX4_owedBehind_25 : decode cX4_owedBehind 25 = .ok (.ifCond .eq 13, 3) := by decide +kernel
theorem dX4_owedBehind_28 : decode cX4_owedBehind 28 = .ok (.new 58, 3) := by decide +kernel
theorem dX4_owedBehind_31 : decode cX4_owedBehind 31 = .ok (.dup, 1) := by decide +kernel
theorem dX4_owedBehind_32 : decode cX4_owedBehind 32 = .ok (.ldc 167, 2) := by decide +kernel
theorem dX4_owedBehind_34 : decode cX4_owedBehind 34 = .ok (.invokespecial 62, 3) := by decide +kernel
theorem dX4_owedBehind_37 : decode cX4_owedBehind 37 = .ok (.athrow, 1) := by decide +kernel
theorem dX4_owedBehind_38 : decode cX4_owedBehind 38 = .ok (.aload_n 0, 1) := by decide +kernel
theorem dX4_owedBehind_39 : decode cX4_owedBehind 39 = .ok (.getfield 16, 3) := by decide +kernel
theorem dX4_owedBehind_42 : decode cX4_owedBehind 42 = .ok (.aload_n 0, 1) := by decide +kernel
theorem dX4_owedBehind_43 : decode cX4_owedBehind 43 = .ok (.getfield 12, 3) := by decide +kernel
theorem dX4_owedBehind_46 : decode cX4_owedBehind 46 = .ok (.invokevirtual 269, 3) := by decide +kernel
theorem dX4_owedBehind_49 : decode cX4_owedBehind 49 = .ok (.aload_n 0, 1) := by decide +kernel
theorem dX4_owedBehind_50 : decode cX4_owedBehind 50 = .ok (.getfield 26, 3) := by decide +kernel
theorem dX4_owedBehind_53 : decode cX4_owedBehind 53 = .ok (.aload_n 0, 1) := by decide +kernel
theorem dX4_owedBehind_54 : decode cX4_owedBehind 54 = .ok (.getfield 16, 3) := by decide +kernel
theorem dX4_owedBehind_57 : decode cX4_owedBehind 57 = .ok (.iload_n 1, 1) := by decide +kernel
theorem dX4_owedBehind_58 : decode cX4_owedBehind 58 = .ok (.invokevirtual 169, 3) := by decide +kernel
theorem dX4_owedBehind_61 : decode cX4_owedBehind 61 = .ok (.pop, 1) := by decide +kernel
theorem dX4_owedBehind_62 : decode cX4_owedBehind 62 = .ok (.aload_n 0, 1) := by decide +kernel
theorem dX4_owedBehind_63 : decode cX4_owedBehind 63 = .ok (.getfield 16, 3) := by decide +kernel
theorem dX4_owedBehind_66 : decode cX4_owedBehind 66 = .ok (.iload_n 1, 1) := by decide +kernel
theorem dX4_owedBehind_67 : decode cX4_owedBehind 67 = .ok (.invokevirtual 256, 3) := by decide +kernel
theorem dX4_owedBehind_70 : decode cX4_owedBehind 70 = .ok (.ireturn, 1) := by decide +kernel
theorem dX4_settledIn_0 : decode cX4_settledIn 0 = .ok (.aload_n 0, 1) := by decide +kernel
theorem dX4_settledIn_1 : decode cX4_settledIn 1 = .ok (.getfield 16, 3) := by decide +kernel
theorem dX4_settledIn_4 : decode cX4_settledIn 4 = .ok (.aload_n 0, 1) := by decide +kernel
theorem dX4_settledIn_5 : decode cX4_settledIn 5 = .ok (.getfield 12, 3) := by decide +kernel
theorem dX4_settledIn_8 : decode cX4_settledIn 8 = .ok (.invokevirtual 269, 3) := by decide +kernel
theorem dX4_settledIn_11 : decode cX4_settledIn 11 = .ok (.aload_n 0, 1) := by decide +kernel
theorem dX4_settledIn_12 : decode cX4_settledIn 12 = .ok (.getfield 12, 3) := by decide +kernel
theorem dX4_settledIn_15 : decode cX4_settledIn 15 = .ok (.getfield 195, 3) := by decide +kernel
theorem dX4_settledIn_18 : decode cX4_settledIn 18 = .ok (.istore_n 1, 1) := by decide +kernel
theorem dX4_settledIn_19 : decode cX4_settledIn 19 = .ok (.iload_n 1, 1) := by decide +kernel
theorem dX4_settledIn_20 : decode cX4_settledIn 20 = .ok (.bipush 20, 2) := by decide +kernel
theorem dX4_settledIn_22 : decode cX4_settledIn 22 = .ok (.if_icmp .ge 51, 3) := by decide +kernel
theorem dX4_settledIn_25 : decode cX4_settledIn 25 = .ok (.aload_n 0, 1) := by decide +kernel
theorem dX4_settledIn_26 : decode cX4_settledIn 26 = .ok (.getfield 26, 3) := by decide +kernel
theorem dX4_settledIn_29 : decode cX4_settledIn 29 = .ok (.aload_n 0, 1) := by decide +kernel
theorem dX4_settledIn_30 : decode cX4_settledIn 30 = .ok (.getfield 16, 3) := by decide +kernel
theorem dX4_settledIn_33 : decode cX4_settledIn 33 = .ok (.iload_n 1, 1) := by decide +kernel
theorem dX4_settledIn_34 : decode cX4_settledIn 34 = .ok (.invokevirtual 169, 3) := by decide +kernel
theorem dX4_settledIn_37 : decode cX4_settledIn 37 = .ok (.pop, 1) := by decide +kernel
theorem dX4_settledIn_38 : decode cX4_settledIn 38 = .ok (.aload_n 0, 1) := by decide +kernel
theorem dX4_settledIn_39 : decode cX4_settledIn 39 = .ok (.getfield 16, 3) := by decide +kernel
theorem dX4_settledIn_42 : decode cX4_settledIn 42 = .ok (.iconst 1, 1) := by decide +kernel
theorem dX4_settledIn_43 : decode cX4_settledIn 43 = .ok (.invokevirtual 207, 3) := by decide +kernel
theorem dX4_settledIn_46 : decode cX4_settledIn 46 = .ok (.pop, 1) := by decide +kernel
theorem dX4_settledIn_47 : decode cX4_settledIn 47 = .ok (.aload_n 0, 1) := by decide +kernel
theorem dX4_settledIn_48 : decode cX4_settledIn 48 = .ok (.getfield 16, 3) := by decide +kernel
theorem dX4_settledIn_51 : decode cX4_settledIn 51 = .ok (.iload_n 1, 1) := by decide +kernel
theorem dX4_settledIn_52 : decode cX4_settledIn 52 = .ok (.invokevirtual 256, 3) := by decide +kernel
theorem dX4_settledIn_55 : decode cX4_settledIn 55 = .ok (.ifCond .ne 5, 3) := by decide +kernel
theorem dX4_settledIn_58 : decode cX4_settledIn 58 = .ok (.iload_n 1, 1) := by decide +kernel
theorem dX4_settledIn_59 : decode cX4_settledIn 59 = .ok (.ireturn, 1) := by decide +kernel
theorem dX4_settledIn_60 : decode cX4_settledIn 60 = .ok (.aload_n 0, 1) := by decide +kernel
theorem dX4_settledIn_61 : decode cX4_settledIn 61 = .ok (.getfield 16, 3) := by decide +kernel
theorem dX4_settledIn_64 : decode cX4_settledIn 64 = .ok (.invokevirtual 210, 3) := by decide +kernel
theorem dX4_settledIn_67 : decode cX4_settledIn 67 = .ok (.iinc 1 1, 3) := by decide +kernel
theorem dX4_settledIn_70 : decode cX4_settledIn 70 = .ok (.goto (-51), 3) := by decide +kernel
theorem dX4_settledIn_73 : decode cX4_settledIn 73 = .ok (.iconst (-1), 1) := by decide +kernel
theorem dX4_settledIn_74 : decode cX4_settledIn 74 = .ok (.ireturn, 1) := by decide +kernel
theorem dX4_gainBy_0 : decode cX4_gainBy 0 = .ok (.aload_n 0, 1) := by decide +kernel
theorem dX4_gainBy_1 : decode cX4_gainBy 1 = .ok (.getfield 12, 3) := by decide +kernel
theorem dX4_gainBy_4 : decode cX4_gainBy 4 = .ok (.iload_n 1, 1) := by decide +kernel
theorem dX4_gainBy_5 : decode cX4_gainBy 5 = .ok (.invokevirtual 120, 3) := by decide +kernel
theorem dX4_gainBy_8 : decode cX4_gainBy 8 = .ok (.ifCond .ne 13, 3) := by decide +kernel
theorem dX4_gainBy_11 : decode cX4_gainBy 11 = .ok (.new 73, 3) := by decide +kernel
theorem dX4_gainBy_14 : decode cX4_gainBy 14 = .ok (.dup, 1) := by decide +kernel
theorem dX4_gainBy_15 : decode cX4_gainBy 15 = .ok (.ldc 123, 2) := by decide +kernel
theorem dX4_gainBy_17 : decode cX4_gainBy 17 = .ok (.invokespecial 77, 3) := by decide +kernel
theorem dX4_gainBy_20 : decode cX4_gainBy 20 = .ok (.athrow, 1) := by decide +kernel
theorem dX4_gainBy_21 : decode cX4_gainBy 21 = .ok (.iload_n 2, 1) := by decide +kernel
theorem dX4_gainBy_22 : decode cX4_gainBy 22 = .ok (.invokestatic 145, 3) := by decide +kernel
theorem dX4_gainBy_25 : decode cX4_gainBy 25 = .ok (.ifCond .ne 13, 3) := by decide +kernel
theorem dX4_gainBy_28 : decode cX4_gainBy 28 = .ok (.new 48, 3) := by decide +kernel
theorem dX4_gainBy_31 : decode cX4_gainBy 31 = .ok (.dup, 1) := by decide +kernel
theorem dX4_gainBy_32 : decode cX4_gainBy 32 = .ok (.ldc 162, 2) := by decide +kernel
theorem dX4_gainBy_34 : decode cX4_gainBy 34 = .ok (.invokespecial 52, 3) := by decide +kernel
theorem dX4_gainBy_37 : decode cX4_gainBy 37 = .ok (.athrow, 1) := by decide +kernel
theorem dX4_gainBy_38 : decode cX4_gainBy 38 = .ok (.aload_n 0, 1) := by decide +kernel
theorem dX4_gainBy_39 : decode cX4_gainBy 39 = .ok (.getfield 12, 3) := by decide +kernel
theorem dX4_gainBy_42 : decode cX4_gainBy 42 = .ok (.iload_n 2, 1) := by decide +kernel
theorem dX4_gainBy_43 : decode cX4_gainBy 43 = .ok (.invokevirtual 164, 3) := by decide +kernel
theorem dX4_gainBy_46 : decode cX4_gainBy 46 = .ok (.ifCond .eq 13, 3) := by decide +kernel
theorem dX4_gainBy_49 : decode cX4_gainBy 49 = .ok (.new 58, 3) := by decide +kernel
theorem dX4_gainBy_52 : decode cX4_gainBy 52 = .ok (.dup, 1) := by decide +kernel
theorem dX4_gainBy_53 : decode cX4_gainBy 53 = .ok (.ldc 167, 2) := by decide +kernel
theorem dX4_gainBy_55 : decode cX4_gainBy 55 = .ok (.invokespecial 62, 3) := by decide +kernel
theorem dX4_gainBy_58 : decode cX4_gainBy 58 = .ok (.athrow, 1) := by decide +kernel
theorem dX4_gainBy_59 : decode cX4_gainBy 59 = .ok (.aload_n 0, 1) := by decide +kernel
theorem dX4_gainBy_60 : decode cX4_gainBy 60 = .ok (.getfield 16, 3) := by decide +kernel
theorem dX4_gainBy_63 : decode cX4_gainBy 63 = .ok (.aload_n 0, 1) := by decide +kernel
theorem dX4_gainBy_64 : decode cX4_gainBy 64 = .ok (.getfield 12, 3) := by decide +kernel
theorem dX4_gainBy_67 : decode cX4_gainBy 67 = .ok (.invokevirtual 269, 3) := by decide +kernel
theorem dX4_gainBy_70 : decode cX4_gainBy 70 = .ok (.aload_n 0, 1) := by decide +kernel
theorem dX4_gainBy_71 : decode cX4_gainBy 71 = .ok (.getfield 26, 3) := by decide +kernel
theorem dX4_gainBy_74 : decode cX4_gainBy 74 = .ok (.aload_n 0, 1) := by decide +kernel
theorem dX4_gainBy_75 : decode cX4_gainBy 75 = .ok (.getfield 16, 3) := by decide +kernel
theorem dX4_gainBy_78 : decode cX4_gainBy 78 = .ok (.iload_n 2, 1) := by decide +kernel
theorem dX4_gainBy_79 : decode cX4_gainBy 79 = .ok (.invokevirtual 169, 3) := by decide +kernel
theorem dX4_gainBy_82 : decode cX4_gainBy 82 = .ok (.istore_n 3, 1) := by decide +kernel
theorem dX4_gainBy_83 : decode cX4_gainBy 83 = .ok (.aload_n 0, 1) := by decide +kernel
theorem dX4_gainBy_84 : decode cX4_gainBy 84 = .ok (.getfield 16, 3) := by decide +kernel
theorem dX4_gainBy_87 : decode cX4_gainBy 87 = .ok (.aload_n 0, 1) := by decide +kernel
theorem dX4_gainBy_88 : decode cX4_gainBy 88 = .ok (.getfield 12, 3) := by decide +kernel
theorem dX4_gainBy_91 : decode cX4_gainBy 91 = .ok (.invokevirtual 269, 3) := by decide +kernel
theorem dX4_gainBy_94 : decode cX4_gainBy 94 = .ok (.aload_n 0, 1) := by decide +kernel
theorem dX4_gainBy_95 : decode cX4_gainBy 95 = .ok (.getfield 16, 3) := by decide +kernel
theorem dX4_gainBy_98 : decode cX4_gainBy 98 = .ok (.getfield 227, 3) := by decide +kernel
theorem dX4_gainBy_101 : decode cX4_gainBy 101 = .ok (.iload_n 1, 1) := by decide +kernel
theorem dX4_gainBy_102 : decode cX4_gainBy 102 = .ok (.bipush 20, 2) := by decide +kernel
theorem dX4_gainBy_104 : decode cX4_gainBy 104 = .ok (.invokevirtual 103, 3) := by decide +kernel
theorem dX4_gainBy_107 : decode cX4_gainBy 107 = .ok (.aload_n 0, 1) := by decide +kernel
theorem dX4_gainBy_108 : decode cX4_gainBy 108 = .ok (.getfield 26, 3) := by decide +kernel
theorem dX4_gainBy_111 : decode cX4_gainBy 111 = .ok (.aload_n 0, 1) := by decide +kernel
theorem dX4_gainBy_112 : decode cX4_gainBy 112 = .ok (.getfield 16, 3) := by decide +kernel
theorem dX4_gainBy_115 : decode cX4_gainBy 115 = .ok (.iload_n 2, 1) := by decide +kernel
theorem dX4_gainBy_116 : decode cX4_gainBy 116 = .ok (.invokevirtual 169, 3) := by decide +kernel
theorem dX4_gainBy_119 : decode cX4_gainBy 119 = .ok (.iload_n 3, 1) := by decide +kernel
theorem dX4_gainBy_120 : decode cX4_gainBy 120 = .ok (.isub, 1) := by decide +kernel
theorem dX4_gainBy_121 : decode cX4_gainBy 121 = .ok (.ireturn, 1) := by decide +kernel
theorem dX4_undo_0 : decode cX4_undo 0 = .ok (.aload_n 0, 1) := by decide +kernel
theorem dX4_undo_1 : decode cX4_undo 1 = .ok (.getfield 37, 3) := by decide +kernel
theorem dX4_undo_4 : decode cX4_undo 4 = .ok (.iconst 1, 1) := by decide +kernel
theorem dX4_undo_5 : decode cX4_undo 5 = .ok (.if_icmp .lt 15, 3) := by decide +kernel
theorem dX4_undo_8 : decode cX4_undo 8 = .ok (.aload_n 0, 1) := by decide +kernel
theorem dX4_undo_9 : decode cX4_undo 9 = .ok (.getfield 37, 3) := by decide +kernel
theorem dX4_undo_12 : decode cX4_undo 12 = .ok (.aload_n 0, 1) := by decide +kernel
theorem dX4_undo_13 : decode cX4_undo 13 = .ok (.getfield 19, 3) := by decide +kernel
theorem dX4_undo_16 : decode cX4_undo 16 = .ok (.arraylength, 1) := by decide +kernel
theorem dX4_undo_17 : decode cX4_undo 17 = .ok (.if_icmp .le 14, 3) := by decide +kernel
theorem dX4_undo_20 : decode cX4_undo 20 = .ok (.new 58, 3) := by decide +kernel
theorem dX4_undo_23 : decode cX4_undo 23 = .ok (.dup, 1) := by decide +kernel
theorem dX4_undo_24 : decode cX4_undo 24 = .ok (.ldc_w 305, 3) := by decide +kernel
theorem dX4_undo_27 : decode cX4_undo 27 = .ok (.invokespecial 62, 3) := by decide +kernel
theorem dX4_undo_30 : decode cX4_undo 30 = .ok (.athrow, 1) := by decide +kernel
theorem dX4_undo_31 : decode cX4_undo 31 = .ok (.aload_n 0, 1) := by decide +kernel
theorem dX4_undo_32 : decode cX4_undo 32 = .ok (.dup, 1) := by decide +kernel
theorem dX4_undo_33 : decode cX4_undo 33 = .ok (.getfield 37, 3) := by decide +kernel
theorem dX4_undo_36 : decode cX4_undo 36 = .ok (.iconst 1, 1) := by decide +kernel
theorem dX4_undo_37 : decode cX4_undo 37 = .ok (.isub, 1) := by decide +kernel
theorem dX4_undo_38 : decode cX4_undo 38 = .ok (.putfield 37, 3) := by decide +kernel
theorem dX4_undo_41 : decode cX4_undo 41 = .ok (.aload_n 0, 1) := by decide +kernel
theorem dX4_undo_42 : decode cX4_undo 42 = .ok (.getfield 12, 3) := by decide +kernel
theorem dX4_undo_45 : decode cX4_undo 45 = .ok (.aload_n 0, 1) := by decide +kernel
theorem dX4_undo_46 : decode cX4_undo 46 = .ok (.getfield 19, 3) := by decide +kernel
theorem dX4_undo_49 : decode cX4_undo 49 = .ok (.aload_n 0, 1) := by decide +kernel
theorem dX4_undo_50 : decode cX4_undo 50 = .ok (.getfield 37, 3) := by decide +kernel
theorem dX4_undo_53 : decode cX4_undo 53 = .ok (.aaload, 1) := by decide +kernel
theorem dX4_undo_54 : decode cX4_undo 54 = .ok (.invokevirtual 269, 3) := by decide +kernel
theorem dX4_undo_57 : decode cX4_undo 57 = .ok (.aload_n 0, 1) := by decide +kernel
theorem dX4_undo_58 : decode cX4_undo 58 = .ok (.getfield 37, 3) := by decide +kernel
theorem dX4_undo_61 : decode cX4_undo 61 = .ok (.ireturn, 1) := by decide +kernel
theorem dX4_reasonAgainst_0 : decode cX4_reasonAgainst 0 = .ok (.aload_n 0, 1) := by decide +kernel
theorem dX4_reasonAgainst_1 : decode cX4_reasonAgainst 1 = .ok (.getfield 12, 3) := by decide +kernel
theorem dX4_reasonAgainst_4 : decode cX4_reasonAgainst 4 = .ok (.iload_n 2, 1) := by decide +kernel
theorem dX4_reasonAgainst_5 : decode cX4_reasonAgainst 5 = .ok (.invokevirtual 164, 3) := by decide +kernel
theorem dX4_reasonAgainst_8 : decode cX4_reasonAgainst 8 = .ok (.ifCond .eq 5, 3) := by decide +kernel
theorem dX4_reasonAgainst_11 : decode cX4_reasonAgainst 11 = .ok (.iconst 1, 1) := by decide +kernel
theorem dX4_reasonAgainst_12 : decode cX4_reasonAgainst 12 = .ok (.ireturn, 1) := by decide +kernel
theorem dX4_reasonAgainst_13 : decode cX4_reasonAgainst 13 = .ok (.aload_n 0, 1) := by decide +kernel
theorem dX4_reasonAgainst_14 : decode cX4_reasonAgainst 14 = .ok (.getfield 26, 3) := by decide +kernel
theorem dX4_reasonAgainst_17 : decode cX4_reasonAgainst 17 = .ok (.aload_n 0, 1) := by decide +kernel
theorem dX4_reasonAgainst_18 : decode cX4_reasonAgainst 18 = .ok (.getfield 12, 3) := by decide +kernel
theorem dX4_reasonAgainst_21 : decode cX4_reasonAgainst 21 = .ok (.iload_n 2, 1) := by decide +kernel
theorem dX4_reasonAgainst_22 : decode cX4_reasonAgainst 22 = .ok (.invokevirtual 238, 3) := by decide +kernel
theorem dX4_reasonAgainst_25 : decode cX4_reasonAgainst 25 = .ok (.aload_n 0, 1) := by decide +kernel
theorem dX4_reasonAgainst_26 : decode cX4_reasonAgainst 26 = .ok (.getfield 26, 3) := by decide +kernel
theorem dX4_reasonAgainst_29 : decode cX4_reasonAgainst 29 = .ok (.aload_n 0, 1) := by decide +kernel
theorem dX4_reasonAgainst_30 : decode cX4_reasonAgainst 30 = .ok (.getfield 12, 3) := by decide +kernel
theorem dX4_reasonAgainst_33 : decode cX4_reasonAgainst 33 = .ok (.iload_n 1, 1) := by decide +kernel
theorem dX4_reasonAgainst_34 : decode cX4_reasonAgainst 34 = .ok (.iload_n 3, 1) := by decide +kernel
theorem dX4_reasonAgainst_35 : decode cX4_reasonAgainst 35 = .ok (.iload 4, 2) := by decide +kernel
theorem dX4_reasonAgainst_37 : decode cX4_reasonAgainst 37 = .ok (.iload 5, 2) := by decide +kernel
theorem dX4_reasonAgainst_39 : decode cX4_reasonAgainst 39 = .ok (.invokevirtual 336, 3) := by decide +kernel
theorem dX4_reasonAgainst_42 : decode cX4_reasonAgainst 42 = .ok (.istore 6, 2) := by decide +kernel
theorem dX4_reasonAgainst_44 : decode cX4_reasonAgainst 44 = .ok (.iload 6, 2) := by decide +kernel
theorem dX4_reasonAgainst_46 : decode cX4_reasonAgainst 46 = .ok (.ifCond .ne 16, 3) := by decide +kernel
theorem dX4_reasonAgainst_49 : decode cX4_reasonAgainst 49 = .ok (.aload_n 0, 1) := by decide +kernel
theorem dX4_reasonAgainst_50 : decode cX4_reasonAgainst 50 = .ok (.getfield 12, 3) := by decide +kernel
theorem dX4_reasonAgainst_53 : decode cX4_reasonAgainst 53 = .ok (.invokevirtual 259, 3) := by decide +kernel
theorem dX4_reasonAgainst_56 : decode cX4_reasonAgainst 56 = .ok (.ifCond .eq 6, 3) := by decide +kernel
theorem dX4_reasonAgainst_59 : decode cX4_reasonAgainst 59 = .ok (.bipush 8, 2) := by decide +kernel
theorem dX4_reasonAgainst_61 : decode cX4_reasonAgainst 61 = .ok (.ireturn, 1) := by decide +kernel
theorem dX4_reasonAgainst_62 : decode cX4_reasonAgainst 62 = .ok (.iload 6, 2) := by decide +kernel
theorem dX4_reasonAgainst_64 : decode cX4_reasonAgainst 64 = .ok (.ireturn, 1) := by decide +kernel
theorem dX4_save_0 : decode cX4_save 0 = .ok (.aload_n 0, 1) := by decide +kernel
theorem dX4_save_1 : decode cX4_save 1 = .ok (.getfield 37, 3) := by decide +kernel
theorem dX4_save_4 : decode cX4_save 4 = .ok (.aload_n 0, 1) := by decide +kernel
theorem dX4_save_5 : decode cX4_save 5 = .ok (.getfield 19, 3) := by decide +kernel
theorem dX4_save_8 : decode cX4_save 8 = .ok (.arraylength, 1) := by decide +kernel
theorem dX4_save_9 : decode cX4_save 9 = .ok (.if_icmp .lt 65, 3) := by decide +kernel
theorem dX4_save_12 : decode cX4_save 12 = .ok (.aload_n 0, 1) := by decide +kernel
theorem dX4_save_13 : decode cX4_save 13 = .ok (.getfield 19, 3) := by decide +kernel
theorem dX4_save_16 : decode cX4_save 16 = .ok (.iconst 0, 1) := by decide +kernel
theorem dX4_save_17 : decode cX4_save 17 = .ok (.aaload, 1) := by decide +kernel
theorem dX4_save_18 : decode cX4_save 18 = .ok (.astore_n 1, 1) := by decide +kernel
theorem dX4_save_19 : decode cX4_save 19 = .ok (.iconst 1, 1) := by decide +kernel
theorem dX4_save_20 : decode cX4_save 20 = .ok (.istore_n 2, 1) := by decide +kernel
theorem dX4_save_21 : decode cX4_save 21 = .ok (.iload_n 2, 1) := by decide +kernel
theorem dX4_save_22 : decode cX4_save 22 = .ok (.aload_n 0, 1) := by decide +kernel
theorem dX4_save_23 : decode cX4_save 23 = .ok (.getfield 19, 3) := by decide +kernel
theorem dX4_save_26 : decode cX4_save 26 = .ok (.arraylength, 1) := by decide +kernel
theorem dX4_save_27 : decode cX4_save 27 = .ok (.if_icmp .ge 23, 3) := by decide +kernel
theorem dX4_save_30 : decode cX4_save 30 = .ok (.aload_n 0, 1) := by decide +kernel
theorem dX4_save_31 : decode cX4_save 31 = .ok (.getfield 19, 3) := by decide +kernel
theorem dX4_save_34 : decode cX4_save 34 = .ok (.iload_n 2, 1) := by decide +kernel
theorem dX4_save_35 : decode cX4_save 35 = .ok (.iconst 1, 1) := by decide +kernel
theorem dX4_save_36 : decode cX4_save 36 = .ok (.isub, 1) := by decide +kernel
theorem dX4_save_37 : decode cX4_save 37 = .ok (.aload_n 0, 1) := by decide +kernel
theorem dX4_save_38 : decode cX4_save 38 = .ok (.getfield 19, 3) := by decide +kernel
theorem dX4_save_41 : decode cX4_save 41 = .ok (.iload_n 2, 1) := by decide +kernel
theorem dX4_save_42 : decode cX4_save 42 = .ok (.aaload, 1) := by decide +kernel
theorem dX4_save_43 : decode cX4_save 43 = .ok (.aastore, 1) := by decide +kernel
theorem dX4_save_44 : decode cX4_save 44 = .ok (.iinc 2 1, 3) := by decide +kernel
theorem dX4_save_47 : decode cX4_save 47 = .ok (.goto (-26), 3) := by decide +kernel
theorem dX4_save_50 : decode cX4_save 50 = .ok (.aload_n 0, 1) := by decide +kernel
theorem dX4_save_51 : decode cX4_save 51 = .ok (.getfield 19, 3) := by decide +kernel
theorem dX4_save_54 : decode cX4_save 54 = .ok (.aload_n 0, 1) := by decide +kernel
theorem dX4_save_55 : decode cX4_save 55 = .ok (.getfield 19, 3) := by decide +kernel
theorem dX4_save_58 : decode cX4_save 58 = .ok (.arraylength, 1) := by decide +kernel
theorem dX4_save_59 : decode cX4_save 59 = .ok (.iconst 1, 1) := by decide +kernel
theorem dX4_save_60 : decode cX4_save 60 = .ok (.isub, 1) := by decide +kernel
theorem dX4_save_61 : decode cX4_save 61 = .ok (.aload_n 1, 1) := by decide +kernel
theorem dX4_save_62 : decode cX4_save 62 = .ok (.aastore, 1) := by decide +kernel
theorem dX4_save_63 : decode cX4_save 63 = .ok (.aload_n 0, 1) := by decide +kernel
theorem dX4_save_64 : decode cX4_save 64 = .ok (.aload_n 0, 1) := by decide +kernel
theorem dX4_save_65 : decode cX4_save 65 = .ok (.getfield 19, 3) := by decide +kernel
theorem dX4_save_68 : decode cX4_save 68 = .ok (.arraylength, 1) := by decide +kernel
theorem dX4_save_69 : decode cX4_save 69 = .ok (.iconst 1, 1) := by decide +kernel
theorem dX4_save_70 : decode cX4_save 70 = .ok (.isub, 1) := by decide +kernel
theorem dX4_save_71 : decode cX4_save 71 = .ok (.putfield 37, 3) := by decide +kernel
theorem dX4_save_74 : decode cX4_save 74 = .ok (.aload_n 0, 1) := by decide +kernel
theorem dX4_save_75 : decode cX4_save 75 = .ok (.getfield 37, 3) := by decide +kernel
theorem dX4_save_78 : decode cX4_save 78 = .ok (.ifCond .ge 4, 3) := by decide +kernel
theorem dX4_save_81 : decode cX4_save 81 = .ok (.return_, 1) := by decide +kernel
theorem dX4_save_82 : decode cX4_save 82 = .ok (.aload_n 0, 1) := by decide +kernel
theorem dX4_save_83 : decode cX4_save 83 = .ok (.getfield 19, 3) := by decide +kernel
theorem dX4_save_86 : decode cX4_save 86 = .ok (.aload_n 0, 1) := by decide +kernel
theorem dX4_save_87 : decode cX4_save 87 = .ok (.getfield 37, 3) := by decide +kernel
theorem dX4_save_90 : decode cX4_save 90 = .ok (.aaload, 1) := by decide +kernel
theorem dX4_save_91 : decode cX4_save 91 = .ok (.astore_n 1, 1) := by decide +kernel
theorem dX4_save_92 : decode cX4_save 92 = .ok (.aload_n 1, 1) := by decide +kernel
theorem dX4_save_93 : decode cX4_save 93 = .ok (.ifnull 21, 3) := by decide +kernel
theorem dX4_save_96 : decode cX4_save 96 = .ok (.aload_n 1, 1) := by decide +kernel
theorem dX4_save_97 : decode cX4_save 97 = .ok (.aload_n 0, 1) := by decide +kernel
theorem dX4_save_98 : decode cX4_save 98 = .ok (.getfield 12, 3) := by decide +kernel
theorem dX4_save_101 : decode cX4_save 101 = .ok (.invokevirtual 269, 3) := by decide +kernel
theorem dX4_save_104 : decode cX4_save 104 = .ok (.aload_n 0, 1) := by decide +kernel
theorem dX4_save_105 : decode cX4_save 105 = .ok (.dup, 1) := by decide +kernel
theorem dX4_save_106 : decode cX4_save 106 = .ok (.getfield 37, 3) := by decide +kernel
theorem dX4_save_109 : decode cX4_save 109 = .ok (.iconst 1, 1) := by decide +kernel
theorem dX4_save_110 : decode cX4_save 110 = .ok (.iadd, 1) := by decide +kernel
theorem dX4_save_111 : decode cX4_save 111 = .ok (.putfield 37, 3) := by decide +kernel
theorem dX4_save_114 : decode cX4_save 114 = .ok (.return_, 1) := by decide +kernel
theorem dX4_mayChange_0 : decode cX4_mayChange 0 = .ok (.iload_n 1, 1) := by decide +kernel
theorem dX4_mayChange_1 : decode cX4_mayChange 1 = .ok (.invokestatic 145, 3) := by decide +kernel
theorem dX4_mayChange_4 : decode cX4_mayChange 4 = .ok (.ifCond .eq 25, 3) := by decide +kernel
theorem dX4_mayChange_7 : decode cX4_mayChange 7 = .ok (.aload_n 0, 1) := by decide +kernel
theorem dX4_mayChange_8 : decode cX4_mayChange 8 = .ok (.getfield 12, 3) := by decide +kernel
theorem dX4_mayChange_11 : decode cX4_mayChange 11 = .ok (.iload_n 1, 1) := by decide +kernel
theorem dX4_mayChange_12 : decode cX4_mayChange 12 = .ok (.invokevirtual 164, 3) := by decide +kernel
theorem dX4_mayChange_15 : decode cX4_mayChange 15 = .ok (.ifCond .ne 14, 3) := by decide +kernel
theorem dX4_mayChange_18 : decode cX4_mayChange 18 = .ok (.iload_n 2, 1) := by decide +kernel
theorem dX4_mayChange_19 : decode cX4_mayChange 19 = .ok (.invokestatic 41, 3) := by decide +kernel
theorem dX4_mayChange_22 : decode cX4_mayChange 22 = .ok (.ifCond .eq 7, 3) := by decide +kernel
theorem dX4_mayChange_25 : decode cX4_mayChange 25 = .ok (.iconst 1, 1) := by decide +kernel
theorem dX4_mayChange_26 : decode cX4_mayChange 26 = .ok (.goto 4, 3) := by decide +kernel
theorem dX4_mayChange_29 : decode cX4_mayChange 29 = .ok (.iconst 0, 1) := by decide +kernel
theorem dX4_mayChange_30 : decode cX4_mayChange 30 = .ok (.ireturn, 1) := by decide +kernel
theorem dX4_isHours_0 : decode cX4_isHours 0 = .ok (.iload_n 0, 1) := by decide +kernel
theorem dX4_isHours_1 : decode cX4_isHours 1 = .ok (.ifCond .lt 13, 3) := by decide +kernel
theorem dX4_isHours_4 : decode cX4_isHours 4 = .ok (.iload_n 0, 1) := by decide +kernel
theorem dX4_isHours_5 : decode cX4_isHours 5 = .ok (.bipush 7, 2) := by decide +kernel
theorem dX4_isHours_7 : decode cX4_isHours 7 = .ok (.if_icmp .gt 7, 3) := by decide +kernel
theorem dX4_isHours_10 : decode cX4_isHours 10 = .ok (.iconst 1, 1) := by decide +kernel
theorem dX4_isHours_11 : decode cX4_isHours 11 = .ok (.goto 4, 3) := by decide +kernel
theorem dX4_isHours_14 : decode cX4_isHours 14 = .ok (.iconst 0, 1) := by decide +kernel
theorem dX4_isHours_15 : decode cX4_isHours 15 = .ok (.ireturn, 1) := by decide +kernel
theorem dX4_isWeek_0 : decode cX4_isWeek 0 = .ok (.iload_n 0, 1) := by decide +kernel
theorem dX4_isWeek_1 : decode cX4_isWeek 1 = .ok (.ifCond .lt 13, 3) := by decide +kernel
theorem dX4_isWeek_4 : decode cX4_isWeek 4 = .ok (.iload_n 0, 1) := by decide +kernel
theorem dX4_isWeek_5 : decode cX4_isWeek 5 = .ok (.bipush 20, 2) := by decide +kernel
theorem dX4_isWeek_7 : decode cX4_isWeek 7 = .ok (.if_icmp .ge 7, 3) := by decide +kernel
theorem dX4_isWeek_10 : decode cX4_isWeek 10 = .ok (.iconst 1, 1) := by decide +kernel
theorem dX4_isWeek_11 : decode cX4_isWeek 11 = .ok (.goto 4, 3) := by decide +kernel
theorem dX4_isWeek_14 : decode cX4_isWeek 14 = .ok (.iconst 0, 1) := by decide +kernel
theorem dX4_isWeek_15 : decode cX4_isWeek 15 = .ok (.ireturn, 1) := by decide +kernel
theorem dX4_isSlot_0 : decode cX4_isSlot 0 = .ok (.iload_n 0, 1) := by decide +kernel
theorem dX4_isSlot_1 : decode cX4_isSlot 1 = .ok (.ifCond .lt 13, 3) := by decide +kernel
theorem dX4_isSlot_4 : decode cX4_isSlot 4 = .ok (.iload_n 0, 1) := by decide +kernel
theorem dX4_isSlot_5 : decode cX4_isSlot 5 = .ok (.bipush 28, 2) := by decide +kernel
theorem dX4_isSlot_7 : decode cX4_isSlot 7 = .ok (.if_icmp .ge 7, 3) := by decide +kernel
theorem dX4_isSlot_10 : decode cX4_isSlot 10 = .ok (.iconst 1, 1) := by decide +kernel
theorem dX4_isSlot_11 : decode cX4_isSlot 11 = .ok (.goto 4, 3) := by decide +kernel
theorem dX4_isSlot_14 : decode cX4_isSlot 14 = .ok (.iconst 0, 1) := by decide +kernel
theorem dX4_isSlot_15 : decode cX4_isSlot 15 = .ok (.ireturn, 1) := by decide +kernel
theorem dX4_isSetOfSlots_0 : decode cX4_isSetOfSlots 0 = .ok (.iload_n 0, 1) := by decide +kernel
theorem dX4_isSetOfSlots_1 : decode cX4_isSetOfSlots 1 = .ok (.ifCond .lt 14, 3) := by decide +kernel
theorem dX4_isSetOfSlots_4 : decode cX4_isSetOfSlots 4 = .ok (.iload_n 0, 1) := by decide +kernel
theorem dX4_isSetOfSlots_5 : decode cX4_isSetOfSlots 5 = .ok (.ldc_w 340, 3) := by decide +kernel
theorem dX4_isSetOfSlots_8 : decode cX4_isSetOfSlots 8 = .ok (.if_icmp .gt 7, 3) := by decide +kernel
theorem dX4_isSetOfSlots_11 : decode cX4_isSetOfSlots 11 = .ok (.iconst 1, 1) := by decide +kernel
theorem dX4_isSetOfSlots_12 : decode cX4_isSetOfSlots 12 = .ok (.goto 4, 3) := by decide +kernel
theorem dX4_isSetOfSlots_15 : decode cX4_isSetOfSlots 15 = .ok (.iconst 0, 1) := by decide +kernel
theorem dX4_isSetOfSlots_16 : decode cX4_isSetOfSlots 16 = .ok (.ireturn, 1) := by decide +kernel
theorem dJ9_max_7cf53_0 : decode cJ9_max_7cf53 0 = .ok (.iload_n 0, 1) := by decide +kernel
theorem dJ9_max_7cf53_1 : decode cJ9_max_7cf53 1 = .ok (.iload_n 1, 1) := by decide +kernel
theorem dJ9_max_7cf53_2 : decode cJ9_max_7cf53 2 = .ok (.if_icmp .lt 7, 3) := by decide +kernel
theorem dJ9_max_7cf53_5 : decode cJ9_max_7cf53 5 = .ok (.iload_n 0, 1) := by decide +kernel
theorem dJ9_max_7cf53_6 : decode cJ9_max_7cf53 6 = .ok (.goto 4, 3) := by decide +kernel
theorem dJ9_max_7cf53_9 : decode cJ9_max_7cf53 9 = .ok (.iload_n 1, 1) := by decide +kernel
theorem dJ9_max_7cf53_10 : decode cJ9_max_7cf53 10 = .ok (.ireturn, 1) := by decide +kernel
theorem dJ9_min_7cf53_0 : decode cJ9_min_7cf53 0 = .ok (.iload_n 0, 1) := by decide +kernel
theorem dJ9_min_7cf53_1 : decode cJ9_min_7cf53 1 = .ok (.iload_n 1, 1) := by decide +kernel
theorem dJ9_min_7cf53_2 : decode cJ9_min_7cf53 2 = .ok (.if_icmp .gt 7, 3) := by decide +kernel
theorem dJ9_min_7cf53_5 : decode cJ9_min_7cf53 5 = .ok (.iload_n 0, 1) := by decide +kernel
theorem dJ9_min_7cf53_6 : decode cJ9_min_7cf53 6 = .ok (.goto 4, 3) := by decide +kernel
theorem dJ9_min_7cf53_9 : decode cJ9_min_7cf53 9 = .ok (.iload_n 1, 1) := by decide +kernel
theorem dJ9_min_7cf53_10 : decode cJ9_min_7cf53 10 = .ok (.ireturn, 1) := by decide +kernel
