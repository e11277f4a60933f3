theorem dX5_init_0 : decode cX5_init 0 = .ok (.aload_n 0, 1) := by decide +kernel
theorem dX5_init_1 : decode cX5_init 1 = .ok (.invokespecial 1, 3) := by decide +kernel
theorem dX5_init_4 : decode cX5_init 4 = .ok (.aload_n 0, 1) := by decide +kernel
theorem dX5_init_5 : decode cX5_init 5 = .ok (.sipush 640, 3) := by decide +kernel
theorem dX5_init_8 : decode cX5_init 8 = .ok (.newarray .int, 2) := by decide +kernel
theorem dX5_init_10 : decode cX5_init 10 = .ok (.putfield 7, 3) := by decide +kernel
theorem dX5_init_13 : decode cX5_init 13 = .ok (.aload_n 0, 1) := by decide +kernel
theorem dX5_init_14 : decode cX5_init 14 = .ok (.sipush 2560, 3) := by decide +kernel
theorem dX5_init_17 : decode cX5_init 17 = .ok (.newarray .int, 2) := by decide +kernel
theorem dX5_init_19 : decode cX5_init 19 = .ok (.putfield 13, 3) := by decide +kernel
theorem dX5_init_22 : decode cX5_init 22 = .ok (.aload_n 0, 1) := by decide +kernel
theorem dX5_init_23 : decode cX5_init 23 = .ok (.sipush 640, 3) := by decide +kernel
theorem dX5_init_26 : decode cX5_init 26 = .ok (.newarray .int, 2) := by decide +kernel
theorem dX5_init_28 : decode cX5_init 28 = .ok (.putfield 16, 3) := by decide +kernel
theorem dX5_init_31 : decode cX5_init 31 = .ok (.aload_n 0, 1) := by decide +kernel
theorem dX5_init_32 : decode cX5_init 32 = .ok (.sipush 140, 3) := by decide +kernel
theorem dX5_init_35 : decode cX5_init 35 = .ok (.newarray .int, 2) := by decide +kernel
theorem dX5_init_37 : decode cX5_init 37 = .ok (.putfield 19, 3) := by decide +kernel
theorem dX5_init_40 : decode cX5_init 40 = .ok (.aload_n 0, 1) := by decide +kernel
theorem dX5_init_41 : decode cX5_init 41 = .ok (.bipush 6, 2) := by decide +kernel
theorem dX5_init_43 : decode cX5_init 43 = .ok (.newarray .int, 2) := by decide +kernel
theorem dX5_init_45 : decode cX5_init 45 = .ok (.putfield 22, 3) := by decide +kernel
theorem dX5_init_48 : decode cX5_init 48 = .ok (.aload_n 0, 1) := by decide +kernel
theorem dX5_init_49 : decode cX5_init 49 = .ok (.bipush 6, 2) := by decide +kernel
theorem dX5_init_51 : decode cX5_init 51 = .ok (.newarray .int, 2) := by decide +kernel
theorem dX5_init_53 : decode cX5_init 53 = .ok (.putfield 25, 3) := by decide +kernel
theorem dX5_init_56 : decode cX5_init 56 = .ok (.aload_n 0, 1) := by decide +kernel
theorem dX5_init_57 : decode cX5_init 57 = .ok (.bipush 8, 2) := by decide +kernel
theorem dX5_init_59 : decode cX5_init 59 = .ok (.newarray .int, 2) := by decide +kernel
theorem dX5_init_61 : decode cX5_init 61 = .ok (.putfield 28, 3) := by decide +kernel
theorem dX5_init_64 : decode cX5_init 64 = .ok (.aload_n 0, 1) := by decide +kernel
theorem dX5_init_65 : decode cX5_init 65 = .ok (.bipush 100, 2) := by decide +kernel
theorem dX5_init_67 : decode cX5_init 67 = .ok (.newarray .int, 2) := by decide +kernel
theorem dX5_init_69 : decode cX5_init 69 = .ok (.putfield 31, 3) := by decide +kernel
theorem dX5_init_72 : decode cX5_init 72 = .ok (.aload_n 0, 1) := by decide +kernel
theorem dX5_init_73 : decode cX5_init 73 = .ok (.iconst 3, 1) := by decide +kernel
theorem dX5_init_74 : decode cX5_init 74 = .ok (.newarray .int, 2) := by decide +kernel
theorem dX5_init_76 : decode cX5_init 76 = .ok (.putfield 34, 3) := by decide +kernel
theorem dX5_init_79 : decode cX5_init 79 = .ok (.return_, 1) := by decide +kernel
theorem dX5_thrown_0 : decode cX5_thrown 0 = .ok (.aload_n 0, 1) := by decide +kernel
theorem dX5_thrown_1 : decode cX5_thrown 1 = .ok (.getfield 37, 3) := by decide +kernel
theorem dX5_thrown_4 : decode cX5_thrown 4 = .ok (.ireturn, 1) := by decide +kernel
theorem dX5_in_0 : decode cX5_in 0 = .ok (.lload_n 0, 1) := by decide +kernel
theorem dX5_in_1 : decode cX5_in 1 = .ok (.lload_n 2, 1) := by decide +kernel
theorem dX5_in_2 : decode cX5_in 2 = .ok (.lcmp, 1) := by decide +kernel
theorem dX5_in_3 : decode cX5_in 3 = .ok (.ifCond .lt 14, 3) := by decide +kernel
theorem dX5_in_6 : decode cX5_in 6 = .ok (.lload_n 0, 1) := by decide +kernel
theorem dX5_in_7 : decode cX5_in 7 = .ok (.lload 4, 2) := by decide +kernel
theorem dX5_in_9 : decode cX5_in 9 = .ok (.lcmp, 1) := by decide +kernel
theorem dX5_in_10 : decode cX5_in 10 = .ok (.ifCond .gt 7, 3) := by decide +kernel
theorem dX5_in_13 : decode cX5_in 13 = .ok (.iconst 1, 1) := by decide +kernel
theorem dX5_in_14 : decode cX5_in 14 = .ok (.goto 4, 3) := by decide +kernel
theorem dX5_in_17 : decode cX5_in 17 = .ok (.iconst 0, 1) := by decide +kernel
theorem dX5_in_18 : decode cX5_in 18 = .ok (.ireturn, 1) := by decide +kernel
theorem dX5_goes_0 : decode cX5_goes 0 = .ok (.aload_n 0, 1) := by decide +kernel
theorem dX5_goes_1 : decode cX5_goes 1 = .ok (.iload_n 1, 1) := by decide +kernel
theorem dX5_goes_2 : decode cX5_goes 2 = .ok (.ifCond .ne 7, 3) := by decide +kernel
theorem dX5_goes_5 : decode cX5_goes 5 = .ok (.iconst 1, 1) := by decide +kernel
theorem dX5_goes_6 : decode cX5_goes 6 = .ok (.goto 20, 3) := by decide +kernel
theorem dX5_goes_9 : decode cX5_goes 9 = .ok (.iload_n 2, 1) := by decide +kernel
theorem dX5_goes_10 : decode cX5_goes 10 = .ok (.ifCond .ne 7, 3) := by decide +kernel
theorem dX5_goes_13 : decode cX5_goes 13 = .ok (.iconst 2, 1) := by decide +kernel
theorem dX5_goes_14 : decode cX5_goes 14 = .ok (.goto 12, 3) := by decide +kernel
theorem dX5_goes_17 : decode cX5_goes 17 = .ok (.iload_n 3, 1) := by decide +kernel
theorem dX5_goes_18 : decode cX5_goes 18 = .ok (.ifCond .ne 7, 3) := by decide +kernel
theorem dX5_goes_21 : decode cX5_goes 21 = .ok (.iconst 3, 1) := by decide +kernel
theorem dX5_goes_22 : decode cX5_goes 22 = .ok (.goto 4, 3) := by decide +kernel
theorem dX5_goes_25 : decode cX5_goes 25 = .ok (.iconst 0, 1) := by decide +kernel
theorem dX5_goes_26 : decode cX5_goes 26 = .ok (.putfield 37, 3) := by decide +kernel
theorem dX5_goes_29 : decode cX5_goes 29 = .ok (.aload_n 0, 1) := by decide +kernel
theorem dX5_goes_30 : decode cX5_goes 30 = .ok (.getfield 37, 3) := by decide +kernel
theorem dX5_goes_33 : decode cX5_goes 33 = .ok (.ifCond .ne 7, 3) := by decide +kernel
theorem dX5_goes_36 : decode cX5_goes 36 = .ok (.iconst 1, 1) := by decide +kernel
theorem dX5_goes_37 : decode cX5_goes 37 = .ok (.goto 4, 3) := by decide +kernel
theorem dX5_goes_40 : decode cX5_goes 40 = .ok (.iconst 0, 1) := by decide +kernel
theorem dX5_goes_41 : decode cX5_goes 41 = .ok (.ireturn, 1) := by decide +kernel
theorem dX5_save_0 : decode cX5_save 0 = .ok (.aload_n 0, 1) := by decide +kernel
theorem dX5_save_1 : decode cX5_save 1 = .ok (.getfield 41, 3) := by decide +kernel
theorem dX5_save_4 : decode cX5_save 4 = .ok (.iconst 4, 1) := by decide +kernel
theorem dX5_save_5 : decode cX5_save 5 = .ok (.if_icmp .ne 44, 3) := by decide +kernel
theorem dX5_save_8 : decode cX5_save 8 = .ok (.iconst 0, 1) := by decide +kernel
theorem dX5_save_9 : decode cX5_save 9 = .ok (.istore_n 1, 1) := by decide +kernel
theorem dX5_save_10 : decode cX5_save 10 = .ok (.iload_n 1, 1) := by decide +kernel
theorem dX5_save_11 : decode cX5_save 11 = .ok (.sipush 1920, 3) := by decide +kernel
theorem dX5_save_14 : decode cX5_save 14 = .ok (.if_icmp .ge 25, 3) := by decide +kernel
theorem dX5_save_17 : decode cX5_save 17 = .ok (.aload_n 0, 1) := by decide +kernel
theorem dX5_save_18 : decode cX5_save 18 = .ok (.getfield 13, 3) := by decide +kernel
theorem dX5_save_21 : decode cX5_save 21 = .ok (.iload_n 1, 1) := by decide +kernel
theorem dX5_save_22 : decode cX5_save 22 = .ok (.aload_n 0, 1) := by decide +kernel
theorem dX5_save_23 : decode cX5_save 23 = .ok (.getfield 13, 3) := by decide +kernel
theorem dX5_save_26 : decode cX5_save 26 = .ok (.iload_n 1, 1) := by decide +kernel
theorem dX5_save_27 : decode cX5_save 27 = .ok (.sipush 640, 3) := by decide +kernel
theorem dX5_save_30 : decode cX5_save 30 = .ok (.iadd, 1) := by decide +kernel
theorem dX5_save_31 : decode cX5_save 31 = .ok (.iaload, 1) := by decide +kernel
theorem dX5_save_32 : decode cX5_save 32 = .ok (.iastore, 1) := by decide +kernel
theorem dX5_save_33 : decode cX5_save 33 = .ok (.iinc 1 1, 3) := by decide +kernel
theorem dX5_save_36 : decode cX5_save 36 = .ok (.goto (-26), 3) := by decide +kernel
theorem dX5_save_39 : decode cX5_save 39 = .ok (.aload_n 0, 1) := by decide +kernel
theorem dX5_save_40 : decode cX5_save 40 = .ok (.dup, 1) := by decide +kernel
theorem dX5_save_41 : decode cX5_save 41 = .ok (.getfield 41, 3) := by decide +kernel
theorem dX5_save_44 : decode cX5_save 44 = .ok (.iconst 1, 1) := by decide +kernel
theorem dX5_save_45 : decode cX5_save 45 = .ok (.isub, 1) := by decide +kernel
theorem dX5_save_46 : decode cX5_save 46 = .ok (.putfield 41, 3) := by decide +kernel
theorem dX5_save_49 : decode cX5_save 49 = .ok (.iconst 0, 1) := by decide +kernel
theorem dX5_save_50 : decode cX5_save 50 = .ok (.istore_n 1, 1) := by decide +kernel
theorem dX5_save_51 : decode cX5_save 51 = .ok (.iload_n 1, 1) := by decide +kernel
theorem dX5_save_52 : decode cX5_save 52 = .ok (.sipush 640, 3) := by decide +kernel
theorem dX5_save_55 : decode cX5_save 55 = .ok (.if_icmp .ge 30, 3) := by decide +kernel
theorem dX5_save_58 : decode cX5_save 58 = .ok (.aload_n 0, 1) := by decide +kernel
theorem dX5_save_59 : decode cX5_save 59 = .ok (.getfield 13, 3) := by decide +kernel
theorem dX5_save_62 : decode cX5_save 62 = .ok (.sipush 640, 3) := by decide +kernel
theorem dX5_save_65 : decode cX5_save 65 = .ok (.aload_n 0, 1) := by decide +kernel
theorem dX5_save_66 : decode cX5_save 66 = .ok (.getfield 41, 3) := by decide +kernel
theorem dX5_save_69 : decode cX5_save 69 = .ok (.imul, 1) := by decide +kernel
theorem dX5_save_70 : decode cX5_save 70 = .ok (.iload_n 1, 1) := by decide +kernel
theorem dX5_save_71 : decode cX5_save 71 = .ok (.iadd, 1) := by decide +kernel
theorem dX5_save_72 : decode cX5_save 72 = .ok (.aload_n 0, 1) := by decide +kernel
theorem dX5_save_73 : decode cX5_save 73 = .ok (.getfield 7, 3) := by decide +kernel
theorem dX5_save_76 : decode cX5_save 76 = .ok (.iload_n 1, 1) := by decide +kernel
theorem dX5_save_77 : decode cX5_save 77 = .ok (.iaload, 1) := by decide +kernel
theorem dX5_save_78 : decode cX5_save 78 = .ok (.iastore, 1) := by decide +kernel
theorem dX5_save_79 : decode cX5_save 79 = .ok (.iinc 1 1, 3) := by decide +kernel
theorem dX5_save_82 : decode cX5_save 82 = .ok (.goto (-31), 3) := by decide +kernel
theorem dX5_save_85 : decode cX5_save 85 = .ok (.aload_n 0, 1) := by decide +kernel
theorem dX5_save_86 : decode cX5_save 86 = .ok (.dup, 1) := by decide +kernel
theorem dX5_save_87 : decode cX5_save 87 = .ok (.getfield 41, 3) := by decide +kernel
theorem dX5_save_90 : decode cX5_save 90 = .ok (.iconst 1, 1) := by decide +kernel
theorem dX5_save_91 : decode cX5_save 91 = .ok (.iadd, 1) := by decide +kernel
theorem dX5_save_92 : decode cX5_save 92 = .ok (.putfield 41, 3) := by decide +kernel
theorem dX5_save_95 : decode cX5_save 95 = .ok (.return_, 1) := by decide +kernel
theorem dX5_layAside_0 : decode cX5_layAside 0 = .ok (.iconst 0, 1) := by decide +kernel
theorem dX5_layAside_1 : decode cX5_layAside 1 = .ok (.istore_n 1, 1) := by decide +kernel
theorem dX5_layAside_2 : decode cX5_layAside 2 = .ok (.iload_n 1, 1) := by decide +kernel
theorem dX5_layAside_3 : decode cX5_layAside 3 = .ok (.sipush 640, 3) := by decide +kernel
theorem dX5_layAside_6 : decode cX5_layAside 6 = .ok (.if_icmp .ge 21, 3) := by decide +kernel
theorem dX5_layAside_9 : decode cX5_layAside 9 = .ok (.aload_n 0, 1) := by decide +kernel
theorem dX5_layAside_10 : decode cX5_layAside 10 = .ok (.getfield 16, 3) := by decide +kernel
theorem dX5_layAside_13 : decode cX5_layAside 13 = .ok (.iload_n 1, 1) := by decide +kernel
theorem dX5_layAside_14 : decode cX5_layAside 14 = .ok (.aload_n 0, 1) := by decide +kernel
theorem dX5_layAside_15 : decode cX5_layAside 15 = .ok (.getfield 7, 3) := by decide +kernel
theorem dX5_layAside_18 : decode cX5_layAside 18 = .ok (.iload_n 1, 1) := by decide +kernel
theorem dX5_layAside_19 : decode cX5_layAside 19 = .ok (.iaload, 1) := by decide +kernel
theorem dX5_layAside_20 : decode cX5_layAside 20 = .ok (.iastore, 1) := by decide +kernel
theorem dX5_layAside_21 : decode cX5_layAside 21 = .ok (.iinc 1 1, 3) := by decide +kernel
theorem dX5_layAside_24 : decode cX5_layAside 24 = .ok (.goto (-22), 3) := by decide +kernel
theorem dX5_layAside_27 : decode cX5_layAside 27 = .ok (.return_, 1) := by decide +kernel
theorem dX5_takeBack_0 : decode cX5_takeBack 0 = .ok (.iconst 0, 1) := by decide +kernel
theorem dX5_takeBack_1 : decode cX5_takeBack 1 = .ok (.istore_n 1, 1) := by decide +kernel
theorem dX5_takeBack_2 : decode cX5_takeBack 2 = .ok (.iload_n 1, 1) := by decide +kernel
theorem dX5_takeBack_3 : decode cX5_takeBack 3 = .ok (.sipush 640, 3) := by decide +kernel
theorem dX5_takeBack_6 : decode cX5_takeBack 6 = .ok (.if_icmp .ge 21, 3) := by decide +kernel
theorem dX5_takeBack_9 : decode cX5_takeBack 9 = .ok (.aload_n 0, 1) := by decide +kernel
theorem dX5_takeBack_10 : decode cX5_takeBack 10 = .ok (.getfield 7, 3) := by decide +kernel
theorem dX5_takeBack_13 : decode cX5_takeBack 13 = .ok (.iload_n 1, 1) := by decide +kernel
theorem dX5_takeBack_14 : decode cX5_takeBack 14 = .ok (.aload_n 0, 1) := by decide +kernel
theorem dX5_takeBack_15 : decode cX5_takeBack 15 = .ok (.getfield 16, 3) := by decide +kernel
theorem dX5_takeBack_18 : decode cX5_takeBack 18 = .ok (.iload_n 1, 1) := by decide +kernel
theorem dX5_takeBack_19 : decode cX5_takeBack 19 = .ok (.iaload, 1) := by decide +kernel
theorem dX5_takeBack_20 : decode cX5_takeBack 20 = .ok (.iastore, 1) := by decide +kernel
theorem dX5_takeBack_21 : decode cX5_takeBack 21 = .ok (.iinc 1 1, 3) := by decide +kernel
theorem dX5_takeBack_24 : decode cX5_takeBack 24 = .ok (.goto (-22), 3) := by decide +kernel
theorem dX5_takeBack_27 : decode cX5_takeBack 27 = .ok (.return_, 1) := by decide +kernel
theorem dX5_has_0 : decode cX5_has 0 = .ok (.iload_n 0, 1) := by decide +kernel
theorem dX5_has_1 : decode cX5_has 1 = .ok (.iload_n 1, 1) := by decide +kernel
theorem dX5_has_2 : decode cX5_has 2 = .ok (.ishr, 1) := by decide +kernel
theorem dX5_has_3 : decode cX5_has 3 = .ok (.iconst 1, 1) := by decide +kernel
theorem dX5_has_4 : decode cX5_has 4 = .ok (.iand, 1) := by decide +kernel
theorem dX5_has_5 : decode cX5_has 5 = .ok (.iconst 1, 1) := by decide +kernel
theorem dX5_has_6 : decode cX5_has 6 = .ok (.if_icmp .ne 7, 3) := by decide +kernel
theorem dX5_has_9 : decode cX5_has 9 = .ok (.iconst 1, 1) := by decide +kernel
theorem dX5_has_10 : decode cX5_has 10 = .ok (.goto 4, 3) := by decide +kernel
theorem dX5_has_13 : decode cX5_has 13 = .ok (.iconst 0, 1) := by decide +kernel
theorem dX5_has_14 : decode cX5_has 14 = .ok (.ireturn, 1) := by decide +kernel
theorem dX5_isOrder_0 : decode cX5_isOrder 0 = .ok (.iload_n 1, 1) := by decide +kernel
theorem dX5_isOrder_1 : decode cX5_isOrder 1 = .ok (.i2l, 1) := by decide +kernel
theorem dX5_isOrder_2 : decode cX5_isOrder 2 = .ok (.lconst 0, 1) := by decide +kernel
theorem dX5_isOrder_3 : decode cX5_isOrder 3 = .ok (.aload_n 0, 1) := by decide +kernel
theorem dX5_isOrder_4 : decode cX5_isOrder 4 = .ok (.getfield 7, 3) := by decide +kernel
theorem dX5_isOrder_7 : decode cX5_isOrder 7 = .ok (.iconst 4, 1) := by decide +kernel
theorem dX5_isOrder_8 : decode cX5_isOrder 8 = .ok (.iaload, 1) := by decide +kernel
theorem dX5_isOrder_9 : decode cX5_isOrder 9 = .ok (.i2l, 1) := by decide +kernel
theorem dX5_isOrder_10 : decode cX5_isOrder 10 = .ok (.lconst 1, 1) := by decide +kernel
theorem dX5_isOrder_11 : decode cX5_isOrder 11 = .ok (.lsub, 1) := by decide +kernel
theorem dX5_isOrder_12 : decode cX5_isOrder 12 = .ok (.invokestatic 44, 3) := by decide +kernel
theorem dX5_isOrder_15 : decode cX5_isOrder 15 = .ok (.ireturn, 1) := by decide +kernel
theorem dX5_isEscort_0 : decode cX5_isEscort 0 = .ok (.iload_n 1, 1) := by decide +kernel
theorem dX5_isEscort_1 : decode cX5_isEscort 1 = .ok (.i2l, 1) := by decide +kernel
theorem dX5_isEscort_2 : decode cX5_isEscort 2 = .ok (.lconst 0, 1) := by decide +kernel
theorem dX5_isEscort_3 : decode cX5_isEscort 3 = .ok (.aload_n 0, 1) := by decide +kernel
theorem dX5_isEscort_4 : decode cX5_isEscort 4 = .ok (.getfield 7, 3) := by decide +kernel
theorem dX5_isEscort_7 : decode cX5_isEscort 7 = .ok (.iconst 5, 1) := by decide +kernel
theorem dX5_isEscort_8 : decode cX5_isEscort 8 = .ok (.iaload, 1) := by decide +kernel
theorem dX5_isEscort_9 : decode cX5_isEscort 9 = .ok (.i2l, 1) := by decide +kernel
theorem dX5_isEscort_10 : decode cX5_isEscort 10 = .ok (.lconst 1, 1) := by decide +kernel
theorem dX5_isEscort_11 : decode cX5_isEscort 11 = .ok (.lsub, 1) := by decide +kernel
theorem dX5_isEscort_12 : decode cX5_isEscort 12 = .ok (.invokestatic 44, 3) := by decide +kernel
theorem dX5_isEscort_15 : decode cX5_isEscort 15 = .ok (.ireturn, 1) := by decide +kernel
theorem dX5_isVenue_0 : decode cX5_isVenue 0 = .ok (.iload_n 1, 1) := by decide +kernel
theorem dX5_isVenue_1 : decode cX5_isVenue 1 = .ok (.i2l, 1) := by decide +kernel
theorem dX5_isVenue_2 : decode cX5_isVenue 2 = .ok (.lconst 0, 1) := by decide +kernel
theorem dX5_isVenue_3 : decode cX5_isVenue 3 = .ok (.aload_n 0, 1) := by decide +kernel
theorem dX5_isVenue_4 : decode cX5_isVenue 4 = .ok (.getfield 7, 3) := by decide +kernel
theorem dX5_isVenue_7 : decode cX5_isVenue 7 = .ok (.bipush 6, 2) := by decide +kernel
theorem dX5_isVenue_9 : decode cX5_isVenue 9 = .ok (.iaload, 1) := by decide +kernel
theorem dX5_isVenue_10 : decode cX5_isVenue 10 = .ok (.i2l, 1) := by decide +kernel
theorem dX5_isVenue_11 : decode cX5_isVenue 11 = .ok (.lconst 1, 1) := by decide +kernel
theorem dX5_isVenue_12 : decode cX5_isVenue 12 = .ok (.lsub, 1) := by decide +kernel
theorem dX5_isVenue_13 : decode cX5_isVenue 13 = .ok (.invokestatic 44, 3) := by decide +kernel
theorem dX5_isVenue_16 : decode cX5_isVenue 16 = .ok (.ireturn, 1) := by decide +kernel
theorem dX5_isWeek_0 : decode cX5_isWeek 0 = .ok (.iload_n 0, 1) := by decide +kernel
theorem dX5_isWeek_1 : decode cX5_isWeek 1 = .ok (.i2l, 1) := by decide +kernel
theorem dX5_isWeek_2 : decode cX5_isWeek 2 = .ok (.lconst 0, 1) := by decide +kernel
theorem dX5_isWeek_3 : decode cX5_isWeek 3 = .ok (.ldc2_w 48, 3) := by decide +kernel
theorem dX5_isWeek_6 : decode cX5_isWeek 6 = .ok (.invokestatic 44, 3) := by decide +kernel
theorem dX5_isWeek_9 : decode cX5_isWeek 9 = .ok (.ireturn, 1) := by decide +kernel
theorem dX5_isSlot_0 : decode cX5_isSlot 0 = .ok (.iload_n 0, 1) := by decide +kernel
theorem dX5_isSlot_1 : decode cX5_isSlot 1 = .ok (.i2l, 1) := by decide +kernel
theorem dX5_isSlot_2 : decode cX5_isSlot 2 = .ok (.lconst 0, 1) := by decide +kernel
theorem dX5_isSlot_3 : decode cX5_isSlot 3 = .ok (.ldc2_w 50, 3) := by decide +kernel
theorem dX5_isSlot_6 : decode cX5_isSlot 6 = .ok (.invokestatic 44, 3) := by decide +kernel
theorem dX5_isSlot_9 : decode cX5_isSlot 9 = .ok (.ireturn, 1) := by decide +kernel
theorem dX5_areVenues_0 : decode cX5_areVenues 0 = .ok (.iload_n 1, 1) := by decide +kernel
theorem dX5_areVenues_1 : decode cX5_areVenues 1 = .ok (.i2l, 1) := by decide +kernel
theorem dX5_areVenues_2 : decode cX5_areVenues 2 = .ok (.lconst 0, 1) := by decide +kernel
theorem dX5_areVenues_3 : decode cX5_areVenues 3 = .ok (.lconst 1, 1) := by decide +kernel
theorem dX5_areVenues_4 : decode cX5_areVenues 4 = .ok (.aload_n 0, 1) := by decide +kernel
theorem dX5_areVenues_5 : decode cX5_areVenues 5 = .ok (.getfield 7, 3) := by decide +kernel
theorem dX5_areVenues_8 : decode cX5_areVenues 8 = .ok (.bipush 6, 2) := by decide +kernel
theorem dX5_areVenues_10 : decode cX5_areVenues 10 = .ok (.iaload, 1) := by decide +kernel
theorem dX5_areVenues_11 : decode cX5_areVenues 11 = .ok (.lshl, 1) := by decide +kernel
theorem dX5_areVenues_12 : decode cX5_areVenues 12 = .ok (.lconst 1, 1) := by decide +kernel
theorem dX5_areVenues_13 : decode cX5_areVenues 13 = .ok (.lsub, 1) := by decide +kernel
theorem dX5_areVenues_14 : decode cX5_areVenues 14 = .ok (.invokestatic 44, 3) := by decide +kernel
theorem dX5_areVenues_17 : decode cX5_areVenues 17 = .ok (.ireturn, 1) := by decide +kernel
theorem dX5_addOrder_0 : decode cX5_addOrder 0 = .ok (.aload_n 0, 1) := by decide +kernel
theorem dX5_addOrder_1 : decode cX5_addOrder 1 = .ok (.iload_n 1, 1) := by decide +kernel
theorem dX5_addOrder_2 : decode cX5_addOrder 2 = .ok (.i2l, 1) := by decide +kernel
theorem dX5_addOrder_3 : decode cX5_addOrder 3 = .ok (.lconst 0, 1) := by decide +kernel
theorem dX5_addOrder_4 : decode cX5_addOrder 4 = .ok (.ldc2_w 52, 3) := by decide +kernel
theorem dX5_addOrder_7 : decode cX5_addOrder 7 = .ok (.invokestatic 44, 3) := by decide +kernel
theorem dX5_addOrder_10 : decode cX5_addOrder 10 = .ok (.ifCond .eq 15, 3) := by decide +kernel
theorem dX5_addOrder_13 : decode cX5_addOrder 13 = .ok (.aload_n 0, 1) := by decide +kernel
theorem dX5_addOrder_14 : decode cX5_addOrder 14 = .ok (.iload_n 2, 1) := by decide +kernel
theorem dX5_addOrder_15 : decode cX5_addOrder 15 = .ok (.invokevirtual 54, 3) := by decide +kernel
theorem dX5_addOrder_18 : decode cX5_addOrder 18 = .ok (.ifCond .eq 7, 3) := by decide +kernel
theorem dX5_addOrder_21 : decode cX5_addOrder 21 = .ok (.iconst 1, 1) := by decide +kernel
theorem dX5_addOrder_22 : decode cX5_addOrder 22 = .ok (.goto 4, 3) := by decide +kernel
theorem dX5_addOrder_25 : decode cX5_addOrder 25 = .ok (.iconst 0, 1) := by decide +kernel
theorem dX5_addOrder_26 : decode cX5_addOrder 26 = .ok (.aload_n 0, 1) := by decide +kernel
theorem dX5_addOrder_27 : decode cX5_addOrder 27 = .ok (.getfield 7, 3) := by decide +kernel
theorem dX5_addOrder_30 : decode cX5_addOrder 30 = .ok (.iconst 4, 1) := by decide +kernel
theorem dX5_addOrder_31 : decode cX5_addOrder 31 = .ok (.iaload, 1) := by decide +kernel
theorem dX5_addOrder_32 : decode cX5_addOrder 32 = .ok (.bipush 8, 2) := by decide +kernel
theorem dX5_addOrder_34 : decode cX5_addOrder 34 = .ok (.if_icmp .ge 7, 3) := by decide +kernel
theorem dX5_addOrder_37 : decode cX5_addOrder 37 = .ok (.iconst 1, 1) := by decide +kernel
theorem dX5_addOrder_38 : decode cX5_addOrder 38 = .ok (.goto 4, 3) := by decide +kernel
theorem dX5_addOrder_41 : decode cX5_addOrder 41 = .ok (.iconst 0, 1) := by decide +kernel
theorem dX5_addOrder_42 : decode cX5_addOrder 42 = .ok (.iconst 1, 1) := by decide +kernel
theorem dX5_addOrder_43 : decode cX5_addOrder 43 = .ok (.invokevirtual 58, 3) := by decide +kernel
theorem dX5_addOrder_46 : decode cX5_addOrder 46 = .ok (.ifCond .ne 5, 3) := by decide +kernel
theorem dX5_addOrder_49 : decode cX5_addOrder 49 = .ok (.iconst 0, 1) := by decide +kernel
theorem dX5_addOrder_50 : decode cX5_addOrder 50 = .ok (.ireturn, 1) := by decide +kernel
theorem dX5_addOrder_51 : decode cX5_addOrder 51 = .ok (.aload_n 0, 1) := by decide +kernel
theorem dX5_addOrder_52 : decode cX5_addOrder 52 = .ok (.invokevirtual 62, 3) := by decide +kernel
theorem dX5_addOrder_55 : decode cX5_addOrder 55 = .ok (.aload_n 0, 1) := by decide +kernel
theorem dX5_addOrder_56 : decode cX5_addOrder 56 = .ok (.getfield 7, 3) := by decide +kernel
theorem dX5_addOrder_59 : decode cX5_addOrder 59 = .ok (.iconst 4, 1) := by decide +kernel
theorem dX5_addOrder_60 : decode cX5_addOrder 60 = .ok (.iaload, 1) := by decide +kernel
theorem dX5_addOrder_61 : decode cX5_addOrder 61 = .ok (.istore_n 3, 1) := by decide +kernel
theorem dX5_addOrder_62 : decode cX5_addOrder 62 = .ok (.iconst 0, 1) := by decide +kernel
theorem dX5_addOrder_63 : decode cX5_addOrder 63 = .ok (.istore 4, 2) := by decide +kernel
theorem dX5_addOrder_65 : decode cX5_addOrder 65 = .ok (.iload 4, 2) := by decide +kernel
theorem dX5_addOrder_67 : decode cX5_addOrder 67 = .ok (.bipush 20, 2) := by decide +kernel
theorem dX5_addOrder_69 : decode cX5_addOrder 69 = .ok (.if_icmp .ge 40, 3) := by decide +kernel
theorem dX5_addOrder_72 : decode cX5_addOrder 72 = .ok (.aload_n 0, 1) := by decide +kernel
theorem dX5_addOrder_73 : decode cX5_addOrder 73 = .ok (.getfield 7, 3) := by decide +kernel
theorem dX5_addOrder_76 : decode cX5_addOrder 76 = .ok (.bipush 8, 2) := by decide +kernel
theorem dX5_addOrder_78 : decode cX5_addOrder 78 = .ok (.bipush 20, 2) := by decide +kernel
theorem dX5_addOrder_80 : decode cX5_addOrder 80 = .ok (.iload_n 3, 1) := by decide +kernel
theorem dX5_addOrder_81 : decode cX5_addOrder 81 = .ok (.imul, 1) := by decide +kernel
theorem dX5_addOrder_82 : decode cX5_addOrder 82 = .ok (.iadd, 1) := by decide +kernel
theorem dX5_addOrder_83 : decode cX5_addOrder 83 = .ok (.iload 4, 2) := by decide +kernel
theorem dX5_addOrder_85 : decode cX5_addOrder 85 = .ok (.iadd, 1) := by decide +kernel
theorem dX5_addOrder_86 : decode cX5_addOrder 86 = .ok (.iload 4, 2) := by decide +kernel
theorem dX5_addOrder_88 : decode cX5_addOrder 88 = .ok (.aload_n 0, 1) := by decide +kernel
theorem dX5_addOrder_89 : decode cX5_addOrder 89 = .ok (.getfield 7, 3) := by decide +kernel
theorem dX5_addOrder_92 : decode cX5_addOrder 92 = .ok (.iconst 0, 1) := by decide +kernel
theorem dX5_addOrder_93 : decode cX5_addOrder 93 = .ok (.iaload, 1) := by decide +kernel
theorem dX5_addOrder_94 : decode cX5_addOrder 94 = .ok (.if_icmp .ge 7, 3) := by decide +kernel
theorem dX5_addOrder_97 : decode cX5_addOrder 97 = .ok (.iconst 0, 1) := by decide +kernel
theorem dX5_addOrder_98 : decode cX5_addOrder 98 = .ok (.goto 4, 3) := by decide +kernel
theorem dX5_addOrder_101 : decode cX5_addOrder 101 = .ok (.iload_n 1, 1) := by decide +kernel
theorem dX5_addOrder_102 : decode cX5_addOrder 102 = .ok (.iastore, 1) := by decide +kernel
theorem dX5_addOrder_103 : decode cX5_addOrder 103 = .ok (.iinc 4 1, 3) := by decide +kernel
theorem dX5_addOrder_106 : decode cX5_addOrder 106 = .ok (.goto (-41), 3) := by decide +kernel
theorem dX5_addOrder_109 : decode cX5_addOrder 109 = .ok (.aload_n 0, 1) := by decide +kernel
theorem dX5_addOrder_110 : decode cX5_addOrder 110 = .ok (.getfield 7, 3) := by decide +kernel
theorem dX5_addOrder_113 : decode cX5_addOrder 113 = .ok (.sipush 168, 3) := by decide +kernel
theorem dX5_addOrder_116 : decode cX5_addOrder 116 = .ok (.iload_n 3, 1) := by decide +kernel
theorem dX5_addOrder_117 : decode cX5_addOrder 117 = .ok (.iadd, 1) := by decide +kernel
theorem dX5_addOrder_118 : decode cX5_addOrder 118 = .ok (.iload_n 2, 1) := by decide +kernel
theorem dX5_addOrder_119 : decode cX5_addOrder 119 = .ok (.iastore, 1) := by decide +kernel
theorem dX5_addOrder_120 : decode cX5_addOrder 120 = .ok (.aload_n 0, 1) := by decide +kernel
theorem dX5_addOrder_121 : decode cX5_addOrder 121 = .ok (.getfield 7, 3) := by decide +kernel
theorem dX5_addOrder_124 : decode cX5_addOrder 124 = .ok (.iconst 4, 1) := by decide +kernel
theorem dX5_addOrder_125 : decode cX5_addOrder 125 = .ok (.dup2, 1) := by decide +kernel
theorem dX5_addOrder_126 : decode cX5_addOrder 126 = .ok (.iaload, 1) := by decide +kernel
theorem dX5_addOrder_127 : decode cX5_addOrder 127 = .ok (.iconst 1, 1) := by decide +kernel
theorem dX5_addOrder_128 : decode cX5_addOrder 128 = .ok (.iadd, 1) := by decide +kernel
theorem dX5_addOrder_129 : decode cX5_addOrder 129 = .ok (.iastore, 1) := by decide +kernel
theorem dX5_addOrder_130 : decode cX5_addOrder 130 = .ok (.iload_n 3, 1) := by decide +kernel
theorem dX5_addOrder_131 : decode cX5_addOrder 131 = .ok (.ireturn, 1) := by decide +kernel
theorem dX5_changes_0 : decode cX5_changes 0 = .ok (.iload_n 2, 1) := by decide +kernel
theorem dX5_changes_1 : decode cX5_changes 1 = .ok (.istore 4, 2) := by decide +kernel
theorem dX5_changes_3 : decode cX5_changes 3 = .ok (.iload 4, 2) := by decide +kernel
theorem dX5_changes_5 : decode cX5_changes 5 = .ok (.bipush 20, 2) := by decide +kernel
theorem dX5_changes_7 : decode cX5_changes 7 = .ok (.if_icmp .ge 25, 3) := by decide +kernel
theorem dX5_changes_10 : decode cX5_changes 10 = .ok (.aload_n 0, 1) := by decide +kernel
theorem dX5_changes_11 : decode cX5_changes 11 = .ok (.getfield 7, 3) := by decide +kernel
theorem dX5_changes_14 : decode cX5_changes 14 = .ok (.bipush 8, 2) := by decide +kernel
theorem dX5_changes_16 : decode cX5_changes 16 = .ok (.bipush 20, 2) := by decide +kernel
theorem dX5_changes_18 : decode cX5_changes 18 = .ok (.iload_n 1, 1) := by decide +kernel
theorem dX5_changes_19 : decode cX5_changes 19 = .ok (.imul, 1) := by decide +kernel
theorem dX5_changes_20 : decode cX5_changes 20 = .ok (.iadd, 1) := by decide +kernel
theorem dX5_changes_21 : decode cX5_changes 21 = .ok (.iload 4, 2) := by decide +kernel
theorem dX5_changes_23 : decode cX5_changes 23 = .ok (.iadd, 1) := by decide +kernel
theorem dX5_changes_24 : decode cX5_changes 24 = .ok (.iload_n 3, 1) := by decide +kernel
theorem dX5_changes_25 : decode cX5_changes 25 = .ok (.iastore, 1) := by decide +kernel
theorem dX5_changes_26 : decode cX5_changes 26 = .ok (.iinc 4 1, 3) := by decide +kernel
theorem dX5_changes_29 : decode cX5_changes 29 = .ok (.goto (-26), 3) := by decide +kernel
theorem dX5_changes_32 : decode cX5_changes 32 = .ok (.return_, 1) := by decide +kernel
theorem dX5_mayChange_0 : decode cX5_mayChange 0 = .ok (.iload_n 1, 1) := by decide +kernel
theorem dX5_mayChange_1 : decode cX5_mayChange 1 = .ok (.i2l, 1) := by decide +kernel
theorem dX5_mayChange_2 : decode cX5_mayChange 2 = .ok (.aload_n 0, 1) := by decide +kernel
theorem dX5_mayChange_3 : decode cX5_mayChange 3 = .ok (.getfield 7, 3) := by decide +kernel
theorem dX5_mayChange_6 : decode cX5_mayChange 6 = .ok (.iconst 0, 1) := by decide +kernel
theorem dX5_mayChange_7 : decode cX5_mayChange 7 = .ok (.iaload, 1) := by decide +kernel
theorem dX5_mayChange_8 : decode cX5_mayChange 8 = .ok (.i2l, 1) := by decide +kernel
theorem dX5_mayChange_9 : decode cX5_mayChange 9 = .ok (.ldc2_w 48, 3) := by decide +kernel
theorem dX5_mayChange_12 : decode cX5_mayChange 12 = .ok (.invokestatic 44, 3) := by decide +kernel
theorem dX5_mayChange_15 : decode cX5_mayChange 15 = .ok (.ifCond .eq 19, 3) := by decide +kernel
theorem dX5_mayChange_18 : decode cX5_mayChange 18 = .ok (.iload_n 2, 1) := by decide +kernel
theorem dX5_mayChange_19 : decode cX5_mayChange 19 = .ok (.i2l, 1) := by decide +kernel
theorem dX5_mayChange_20 : decode cX5_mayChange 20 = .ok (.lconst 0, 1) := by decide +kernel
theorem dX5_mayChange_21 : decode cX5_mayChange 21 = .ok (.ldc2_w 52, 3) := by decide +kernel
theorem dX5_mayChange_24 : decode cX5_mayChange 24 = .ok (.invokestatic 44, 3) := by decide +kernel
theorem dX5_mayChange_27 : decode cX5_mayChange 27 = .ok (.ifCond .eq 7, 3) := by decide +kernel
theorem dX5_mayChange_30 : decode cX5_mayChange 30 = .ok (.iconst 1, 1) := by decide +kernel
theorem dX5_mayChange_31 : decode cX5_mayChange 31 = .ok (.goto 4, 3) := by decide +kernel
theorem dX5_mayChange_34 : decode cX5_mayChange 34 = .ok (.iconst 0, 1) := by decide +kernel
theorem dX5_mayChange_35 : decode cX5_mayChange 35 = .ok (.ireturn, 1) := by decide +kernel
theorem dX5_change_0 : decode cX5_change 0 = .ok (.aload_n 0, 1) := by decide +kernel
theorem dX5_change_1 : decode cX5_change 1 = .ok (.aload_n 0, 1) := by decide +kernel
theorem dX5_change_2 : decode cX5_change 2 = .ok (.iload_n 1, 1) := by decide +kernel
theorem dX5_change_3 : decode cX5_change 3 = .ok (.invokevirtual 65, 3) := by decide +kernel
theorem dX5_change_6 : decode cX5_change 6 = .ok (.aload_n 0, 1) := by decide +kernel
theorem dX5_change_7 : decode cX5_change 7 = .ok (.iload_n 2, 1) := by decide +kernel
theorem dX5_change_8 : decode cX5_change 8 = .ok (.iload_n 3, 1) := by decide +kernel
theorem dX5_change_9 : decode cX5_change 9 = .ok (.invokevirtual 68, 3) := by decide +kernel
theorem dX5_change_12 : decode cX5_change 12 = .ok (.iconst 1, 1) := by decide +kernel
theorem dX5_change_13 : decode cX5_change 13 = .ok (.invokevirtual 58, 3) := by decide +kernel
theorem dX5_change_16 : decode cX5_change 16 = .ok (.ifCond .ne 5, 3) := by decide +kernel
theorem dX5_change_19 : decode cX5_change 19 = .ok (.iconst 0, 1) := by decide +kernel
theorem dX5_change_20 : decode cX5_change 20 = .ok (.ireturn, 1) := by decide +kernel
theorem dX5_change_21 : decode cX5_change 21 = .ok (.aload_n 0, 1) := by decide +kernel
theorem dX5_change_22 : decode cX5_change 22 = .ok (.invokevirtual 62, 3) := by decide +kernel
theorem dX5_change_25 : decode cX5_change 25 = .ok (.aload_n 0, 1) := by decide +kernel
theorem dX5_change_26 : decode cX5_change 26 = .ok (.getfield 7, 3) := by decide +kernel
theorem dX5_change_29 : decode cX5_change 29 = .ok (.bipush 8, 2) := by decide +kernel
theorem dX5_change_31 : decode cX5_change 31 = .ok (.bipush 20, 2) := by decide +kernel
theorem dX5_change_33 : decode cX5_change 33 = .ok (.iload_n 1, 1) := by decide +kernel
theorem dX5_change_34 : decode cX5_change 34 = .ok (.imul, 1) := by decide +kernel
theorem dX5_change_35 : decode cX5_change 35 = .ok (.iadd, 1) := by decide +kernel
theorem dX5_change_36 : decode cX5_change 36 = .ok (.iload_n 2, 1) := by decide +kernel
theorem dX5_change_37 : decode cX5_change 37 = .ok (.iadd, 1) := by decide +kernel
theorem dX5_change_38 : decode cX5_change 38 = .ok (.iaload, 1) := by decide +kernel
theorem dX5_change_39 : decode cX5_change 39 = .ok (.istore 4, 2) := by decide +kernel
theorem dX5_change_41 : decode cX5_change 41 = .ok (.aload_n 0, 1) := by decide +kernel
theorem dX5_change_42 : decode cX5_change 42 = .ok (.iload_n 1, 1) := by decide +kernel
theorem dX5_change_43 : decode cX5_change 43 = .ok (.iload_n 2, 1) := by decide +kernel
theorem dX5_change_44 : decode cX5_change 44 = .ok (.iload_n 3, 1) := by decide +kernel
theorem dX5_change_45 : decode cX5_change 45 = .ok (.invokevirtual 72, 3) := by decide +kernel
theorem dX5_change_48 : decode cX5_change 48 = .ok (.iload 4, 2) := by decide +kernel
theorem dX5_change_50 : decode cX5_change 50 = .ok (.ireturn, 1) := by decide +kernel
theorem dX5_exchange_0 : decode cX5_exchange 0 = .ok (.aload_n 0, 1) := by decide +kernel
theorem dX5_exchange_1 : decode cX5_exchange 1 = .ok (.invokevirtual 62, 3) := by decide +kernel
theorem dX5_exchange_4 : decode cX5_exchange 4 = .ok (.aload_n 0, 1) := by decide +kernel
theorem dX5_exchange_5 : decode cX5_exchange 5 = .ok (.getfield 7, 3) := by decide +kernel
theorem dX5_exchange_8 : decode cX5_exchange 8 = .ok (.iload_n 1, 1) := by decide +kernel
theorem dX5_exchange_9 : decode cX5_exchange 9 = .ok (.iaload, 1) := by decide +kernel
theorem dX5_exchange_10 : decode cX5_exchange 10 = .ok (.istore_n 3, 1) := by decide +kernel
theorem dX5_exchange_11 : decode cX5_exchange 11 = .ok (.aload_n 0, 1) := by decide +kernel
theorem dX5_exchange_12 : decode cX5_exchange 12 = .ok (.getfield 7, 3) := by decide +kernel
theorem dX5_exchange_15 : decode cX5_exchange 15 = .ok (.iload_n 1, 1) := by decide +kernel
theorem dX5_exchange_16 : decode cX5_exchange 16 = .ok (.iload_n 2, 1) := by decide +kernel
theorem dX5_exchange_17 : decode cX5_exchange 17 = .ok (.iastore, 1) := by decide +kernel
theorem dX5_exchange_18 : decode cX5_exchange 18 = .ok (.iload_n 3, 1) := by decide +kernel
theorem dX5_exchange_19 : decode cX5_exchange 19 = .ok (.ireturn, 1) := by decide +kernel
theorem dX5_allow_0 : decode cX5_allow 0 = .ok (.aload_n 0, 1) := by decide +kernel
theorem dX5_allow_1 : decode cX5_allow 1 = .ok (.aload_n 0, 1) := by decide +kernel
theorem dX5_allow_2 : decode cX5_allow 2 = .ok (.iload_n 1, 1) := by decide +kernel
theorem dX5_allow_3 : decode cX5_allow 3 = .ok (.invokevirtual 65, 3) := by decide +kernel
theorem dX5_allow_6 : decode cX5_allow 6 = .ok (.aload_n 0, 1) := by decide +kernel
theorem dX5_allow_7 : decode cX5_allow 7 = .ok (.iload_n 2, 1) := by decide +kernel
theorem dX5_allow_8 : decode cX5_allow 8 = .ok (.invokevirtual 54, 3) := by decide +kernel
theorem dX5_allow_11 : decode cX5_allow 11 = .ok (.iconst 1, 1) := by decide +kernel
theorem dX5_allow_12 : decode cX5_allow 12 = .ok (.invokevirtual 58, 3) := by decide +kernel
theorem dX5_allow_15 : decode cX5_allow 15 = .ok (.ifCond .eq 16, 3) := by decide +kernel
theorem dX5_allow_18 : decode cX5_allow 18 = .ok (.aload_n 0, 1) := by decide +kernel
theorem dX5_allow_19 : decode cX5_allow 19 = .ok (.sipush 168, 3) := by decide +kernel
theorem dX5_allow_22 : decode cX5_allow 22 = .ok (.iload_n 1, 1) := by decide +kernel
theorem dX5_allow_23 : decode cX5_allow 23 = .ok (.iadd, 1) := by decide +kernel
theorem dX5_allow_24 : decode cX5_allow 24 = .ok (.iload_n 2, 1) := by decide +kernel
theorem dX5_allow_25 : decode cX5_allow 25 = .ok (.invokevirtual 76, 3) := by decide +kernel
theorem dX5_allow_28 : decode cX5_allow 28 = .ok (.goto 4, 3) := by decide +kernel
theorem dX5_allow_31 : decode cX5_allow 31 = .ok (.iconst 0, 1) := by decide +kernel
theorem dX5_allow_32 : decode cX5_allow 32 = .ok (.ireturn, 1) := by decide +kernel
theorem dX5_addEscort_0 : decode cX5_addEscort 0 = .ok (.aload_n 0, 1) := by decide +kernel
theorem dX5_addEscort_1 : decode cX5_addEscort 1 = .ok (.iload_n 1, 1) := by decide +kernel
theorem dX5_addEscort_2 : decode cX5_addEscort 2 = .ok (.i2l, 1) := by decide +kernel
theorem dX5_addEscort_3 : decode cX5_addEscort 3 = .ok (.lconst 0, 1) := by decide +kernel
theorem dX5_addEscort_4 : decode cX5_addEscort 4 = .ok (.ldc2_w 80, 3) := by decide +kernel
theorem dX5_addEscort_7 : decode cX5_addEscort 7 = .ok (.invokestatic 44, 3) := by decide +kernel
theorem dX5_addEscort_10 : decode cX5_addEscort 10 = .ok (.ifCond .eq 19, 3) := by decide +kernel
theorem dX5_addEscort_13 : decode cX5_addEscort 13 = .ok (.iload_n 2, 1) := by decide +kernel
theorem dX5_addEscort_14 : decode cX5_addEscort 14 = .ok (.i2l, 1) := by decide +kernel
theorem dX5_addEscort_15 : decode cX5_addEscort 15 = .ok (.lconst 1, 1) := by decide +kernel
theorem dX5_addEscort_16 : decode cX5_addEscort 16 = .ok (.ldc2_w 82, 3) := by decide +kernel
theorem dX5_addEscort_19 : decode cX5_addEscort 19 = .ok (.invokestatic 44, 3) := by decide +kernel
theorem dX5_addEscort_22 : decode cX5_addEscort 22 = .ok (.ifCond .eq 7, 3) := by decide +kernel
theorem dX5_addEscort_25 : decode cX5_addEscort 25 = .ok (.iconst 1, 1) := by decide +kernel
theorem dX5_addEscort_26 : decode cX5_addEscort 26 = .ok (.goto 4, 3) := by decide +kernel
theorem dX5_addEscort_29 : decode cX5_addEscort 29 = .ok (.iconst 0, 1) := by decide +kernel
theorem dX5_addEscort_30 : decode cX5_addEscort 30 = .ok (.aload_n 0, 1) := by decide +kernel
theorem dX5_addEscort_31 : decode cX5_addEscort 31 = .ok (.getfield 7, 3) := by decide +kernel
theorem dX5_addEscort_34 : decode cX5_addEscort 34 = .ok (.iconst 5, 1) := by decide +kernel
theorem dX5_addEscort_35 : decode cX5_addEscort 35 = .ok (.iaload, 1) := by decide +kernel
theorem dX5_addEscort_36 : decode cX5_addEscort 36 = .ok (.bipush 6, 2) := by decide +kernel
theorem dX5_addEscort_38 : decode cX5_addEscort 38 = .ok (.if_icmp .ge 7, 3) := by decide +kernel
theorem dX5_addEscort_41 : decode cX5_addEscort 41 = .ok (.iconst 1, 1) := by decide +kernel
theorem dX5_addEscort_42 : decode cX5_addEscort 42 = .ok (.goto 4, 3) := by decide +kernel
theorem dX5_addEscort_45 : decode cX5_addEscort 45 = .ok (.iconst 0, 1) := by decide +kernel
theorem dX5_addEscort_46 : decode cX5_addEscort 46 = .ok (.iconst 1, 1) := by decide +kernel
theorem dX5_addEscort_47 : decode cX5_addEscort 47 = .ok (.invokevirtual 58, 3) := by decide +kernel
theorem dX5_addEscort_50 : decode cX5_addEscort 50 = .ok (.ifCond .ne 5, 3) := by decide +kernel
theorem dX5_addEscort_53 : decode cX5_addEscort 53 = .ok (.iconst 0, 1) := by decide +kernel
theorem dX5_addEscort_54 : decode cX5_addEscort 54 = .ok (.ireturn, 1) := by decide +kernel
theorem dX5_addEscort_55 : decode cX5_addEscort 55 = .ok (.aload_n 0, 1) := by decide +kernel
theorem dX5_addEscort_56 : decode cX5_addEscort 56 = .ok (.invokevirtual 62, 3) := by decide +kernel
theorem dX5_addEscort_59 : decode cX5_addEscort 59 = .ok (.aload_n 0, 1) := by decide +kernel
theorem dX5_addEscort_60 : decode cX5_addEscort 60 = .ok (.getfield 7, 3) := by decide +kernel
theorem dX5_addEscort_63 : decode cX5_addEscort 63 = .ok (.iconst 5, 1) := by decide +kernel
theorem dX5_addEscort_64 : decode cX5_addEscort 64 = .ok (.iaload, 1) := by decide +kernel
theorem dX5_addEscort_65 : decode cX5_addEscort 65 = .ok (.istore_n 3, 1) := by decide +kernel
theorem dX5_addEscort_66 : decode cX5_addEscort 66 = .ok (.aload_n 0, 1) := by decide +kernel
theorem dX5_addEscort_67 : decode cX5_addEscort 67 = .ok (.getfield 7, 3) := by decide +kernel
theorem dX5_addEscort_70 : decode cX5_addEscort 70 = .ok (.sipush 192, 3) := by decide +kernel
theorem dX5_addEscort_73 : decode cX5_addEscort 73 = .ok (.iload_n 3, 1) := by decide +kernel
theorem dX5_addEscort_74 : decode cX5_addEscort 74 = .ok (.iadd, 1) := by decide +kernel
theorem dX5_addEscort_75 : decode cX5_addEscort 75 = .ok (.iload_n 1, 1) := by decide +kernel
theorem dX5_addEscort_76 : decode cX5_addEscort 76 = .ok (.iastore, 1) := by decide +kernel
theorem dX5_addEscort_77 : decode cX5_addEscort 77 = .ok (.aload_n 0, 1) := by decide +kernel
theorem dX5_addEscort_78 : decode cX5_addEscort 78 = .ok (.getfield 7, 3) := by decide +kernel
theorem dX5_addEscort_81 : decode cX5_addEscort 81 = .ok (.sipush 198, 3) := by decide +kernel
theorem dX5_addEscort_84 : decode cX5_addEscort 84 = .ok (.iload_n 3, 1) := by decide +kernel
theorem dX5_addEscort_85 : decode cX5_addEscort 85 = .ok (.iadd, 1) := by decide +kernel
theorem dX5_addEscort_86 : decode cX5_addEscort 86 = .ok (.iload_n 2, 1) := by decide +kernel
theorem dX5_addEscort_87 : decode cX5_addEscort 87 = .ok (.iastore, 1) := by decide +kernel
theorem dX5_addEscort_88 : decode cX5_addEscort 88 = .ok (.aload_n 0, 1) := by decide +kernel
theorem dX5_addEscort_89 : decode cX5_addEscort 89 = .ok (.getfield 7, 3) := by decide +kernel
theorem dX5_addEscort_92 : decode cX5_addEscort 92 = .ok (.iconst 5, 1) := by decide +kernel
theorem dX5_addEscort_93 : decode cX5_addEscort 93 = .ok (.dup2, 1) := by decide +kernel
theorem dX5_addEscort_94 : decode cX5_addEscort 94 = .ok (.iaload, 1) := by decide +kernel
theorem dX5_addEscort_95 : decode cX5_addEscort 95 = .ok (.iconst 1, 1) := by decide +kernel
theorem dX5_addEscort_96 : decode cX5_addEscort 96 = .ok (.iadd, 1) := by decide +kernel
theorem dX5_addEscort_97 : decode cX5_addEscort 97 = .ok (.iastore, 1) := by decide +kernel
theorem dX5_addEscort_98 : decode cX5_addEscort 98 = .ok (.iload_n 3, 1) := by decide +kernel
theorem dX5_addEscort_99 : decode cX5_addEscort 99 = .ok (.ireturn, 1) := by decide +kernel
theorem dX5_setSlots_0 : decode cX5_setSlots 0 = .ok (.aload_n 0, 1) := by decide +kernel
theorem dX5_setSlots_1 : decode cX5_setSlots 1 = .ok (.aload_n 0, 1) := by decide +kernel
theorem dX5_setSlots_2 : decode cX5_setSlots 2 = .ok (.iload_n 1, 1) := by decide +kernel
theorem dX5_setSlots_3 : decode cX5_setSlots 3 = .ok (.invokevirtual 84, 3) := by decide +kernel
theorem dX5_setSlots_6 : decode cX5_setSlots 6 = .ok (.iload_n 2, 1) := by decide +kernel
theorem dX5_setSlots_7 : decode cX5_setSlots 7 = .ok (.i2l, 1) := by decide +kernel
theorem dX5_setSlots_8 : decode cX5_setSlots 8 = .ok (.lconst 0, 1) := by decide +kernel
theorem dX5_setSlots_9 : decode cX5_setSlots 9 = .ok (.ldc2_w 80, 3) := by decide +kernel
theorem dX5_setSlots_12 : decode cX5_setSlots 12 = .ok (.invokestatic 44, 3) := by decide +kernel
theorem dX5_setSlots_15 : decode cX5_setSlots 15 = .ok (.iconst 1, 1) := by decide +kernel
theorem dX5_setSlots_16 : decode cX5_setSlots 16 = .ok (.invokevirtual 58, 3) := by decide +kernel
theorem dX5_setSlots_19 : decode cX5_setSlots 19 = .ok (.ifCond .eq 16, 3) := by decide +kernel
theorem dX5_setSlots_22 : decode cX5_setSlots 22 = .ok (.aload_n 0, 1) := by decide +kernel
theorem dX5_setSlots_23 : decode cX5_setSlots 23 = .ok (.sipush 192, 3) := by decide +kernel
theorem dX5_setSlots_26 : decode cX5_setSlots 26 = .ok (.iload_n 1, 1) := by decide +kernel
theorem dX5_setSlots_27 : decode cX5_setSlots 27 = .ok (.iadd, 1) := by decide +kernel
theorem dX5_setSlots_28 : decode cX5_setSlots 28 = .ok (.iload_n 2, 1) := by decide +kernel
theorem dX5_setSlots_29 : decode cX5_setSlots 29 = .ok (.invokevirtual 76, 3) := by decide +kernel
theorem dX5_setSlots_32 : decode cX5_setSlots 32 = .ok (.goto 4, 3) := by decide +kernel
theorem dX5_setSlots_35 : decode cX5_setSlots 35 = .ok (.iconst 0, 1) := by decide +kernel
theorem dX5_setSlots_36 : decode cX5_setSlots 36 = .ok (.ireturn, 1) := by decide +kernel
theorem dX5_addVenue_0 : decode cX5_addVenue 0 = .ok (.aload_n 0, 1) := by decide +kernel
theorem dX5_addVenue_1 : decode cX5_addVenue 1 = .ok (.iload_n 1, 1) := by decide +kernel
theorem dX5_addVenue_2 : decode cX5_addVenue 2 = .ok (.i2l, 1) := by decide +kernel
theorem dX5_addVenue_3 : decode cX5_addVenue 3 = .ok (.lconst 1, 1) := by decide +kernel
theorem dX5_addVenue_4 : decode cX5_addVenue 4 = .ok (.ldc2_w 87, 3) := by decide +kernel
theorem dX5_addVenue_7 : decode cX5_addVenue 7 = .ok (.invokestatic 44, 3) := by decide +kernel
theorem dX5_addVenue_10 : decode cX5_addVenue 10 = .ok (.aload_n 0, 1) := by decide +kernel
theorem dX5_addVenue_11 : decode cX5_addVenue 11 = .ok (.getfield 7, 3) := by decide +kernel
theorem dX5_addVenue_14 : decode cX5_addVenue 14 = .ok (.bipush 6, 2) := by decide +kernel
theorem dX5_addVenue_16 : decode cX5_addVenue 16 = .ok (.iaload, 1) := by decide +kernel
theorem dX5_addVenue_17 : decode cX5_addVenue 17 = .ok (.iconst 5, 1) := by decide +kernel
theorem dX5_addVenue_18 : decode cX5_addVenue 18 = .ok (.if_icmp .ge 7, 3) := by decide +kernel
theorem dX5_addVenue_21 : decode cX5_addVenue 21 = .ok (.iconst 1, 1) := by decide +kernel
theorem dX5_addVenue_22 : decode cX5_addVenue 22 = .ok (.goto 4, 3) := by decide +kernel
theorem dX5_addVenue_25 : decode cX5_addVenue 25 = .ok (.iconst 0, 1) := by decide +kernel
theorem dX5_addVenue_26 : decode cX5_addVenue 26 = .ok (.iconst 1, 1) := by decide +kernel
theorem dX5_addVenue_27 : decode cX5_addVenue 27 = .ok (.invokevirtual 58, 3) := by decide +kernel
theorem dX5_addVenue_30 : decode cX5_addVenue 30 = .ok (.ifCond .ne 5, 3) := by decide +kernel
theorem dX5_addVenue_33 : decode cX5_addVenue 33 = .ok (.iconst 0, 1) := by decide +kernel
theorem dX5_addVenue_34 : decode cX5_addVenue 34 = .ok (.ireturn, 1) := by decide +kernel
theorem dX5_addVenue_35 : decode cX5_addVenue 35 = .ok (.aload_n 0, 1) := by decide +kernel
theorem dX5_addVenue_36 : decode cX5_addVenue 36 = .ok (.invokevirtual 62, 3) := by decide +kernel
theorem dX5_addVenue_39 : decode cX5_addVenue 39 = .ok (.aload_n 0, 1) := by decide +kernel
theorem dX5_addVenue_40 : decode cX5_addVenue 40 = .ok (.getfield 7, 3) := by decide +kernel
theorem dX5_addVenue_43 : decode cX5_addVenue 43 = .ok (.bipush 6, 2) := by decide +kernel
theorem dX5_addVenue_45 : decode cX5_addVenue 45 = .ok (.iaload, 1) := by decide +kernel
theorem dX5_addVenue_46 : decode cX5_addVenue 46 = .ok (.istore_n 2, 1) := by decide +kernel
theorem dX5_addVenue_47 : decode cX5_addVenue 47 = .ok (.aload_n 0, 1) := by decide +kernel
theorem dX5_addVenue_48 : decode cX5_addVenue 48 = .ok (.getfield 7, 3) := by decide +kernel
theorem dX5_addVenue_51 : decode cX5_addVenue 51 = .ok (.sipush 210, 3) := by decide +kernel
theorem dX5_addVenue_54 : decode cX5_addVenue 54 = .ok (.iload_n 2, 1) := by decide +kernel
theorem dX5_addVenue_55 : decode cX5_addVenue 55 = .ok (.iadd, 1) := by decide +kernel
theorem dX5_addVenue_56 : decode cX5_addVenue 56 = .ok (.iload_n 1, 1) := by decide +kernel
theorem dX5_addVenue_57 : decode cX5_addVenue 57 = .ok (.iastore, 1) := by decide +kernel
theorem dX5_addVenue_58 : decode cX5_addVenue 58 = .ok (.aload_n 0, 1) := by decide +kernel
theorem dX5_addVenue_59 : decode cX5_addVenue 59 = .ok (.getfield 7, 3) := by decide +kernel
theorem dX5_addVenue_62 : decode cX5_addVenue 62 = .ok (.bipush 6, 2) := by decide +kernel
theorem dX5_addVenue_64 : decode cX5_addVenue 64 = .ok (.dup2, 1) := by decide +kernel
theorem dX5_addVenue_65 : decode cX5_addVenue 65 = .ok (.iaload, 1) := by decide +kernel
theorem dX5_addVenue_66 : decode cX5_addVenue 66 = .ok (.iconst 1, 1) := by decide +kernel
theorem dX5_addVenue_67 : decode cX5_addVenue 67 = .ok (.iadd, 1) := by decide +kernel
theorem dX5_addVenue_68 : decode cX5_addVenue 68 = .ok (.iastore, 1) := by decide +kernel
theorem dX5_addVenue_69 : decode cX5_addVenue 69 = .ok (.iload_n 2, 1) := by decide +kernel
theorem dX5_addVenue_70 : decode cX5_addVenue 70 = .ok (.ireturn, 1) := by decide +kernel
theorem dX5_of_0 : decode cX5_of 0 = .ok (.aload_n 0, 1) := by decide +kernel
theorem dX5_of_1 : decode cX5_of 1 = .ok (.getfield 7, 3) := by decide +kernel
theorem dX5_of_4 : decode cX5_of 4 = .ok (.sipush 215, 3) := by decide +kernel
theorem dX5_of_7 : decode cX5_of 7 = .ok (.bipush 7, 2) := by decide +kernel
theorem dX5_of_9 : decode cX5_of 9 = .ok (.iload_n 1, 1) := by decide +kernel
theorem dX5_of_10 : decode cX5_of 10 = .ok (.imul, 1) := by decide +kernel
theorem dX5_of_11 : decode cX5_of 11 = .ok (.iadd, 1) := by decide +kernel
theorem dX5_of_12 : decode cX5_of 12 = .ok (.iload_n 2, 1) := by decide +kernel
theorem dX5_of_13 : decode cX5_of 13 = .ok (.iadd, 1) := by decide +kernel
theorem dX5_of_14 : decode cX5_of 14 = .ok (.iaload, 1) := by decide +kernel
theorem dX5_of_15 : decode cX5_of 15 = .ok (.ireturn, 1) := by decide +kernel
theorem dX5_placeOf_0 : decode cX5_placeOf 0 = .ok (.iconst 0, 1) := by decide +kernel
theorem dX5_placeOf_1 : decode cX5_placeOf 1 = .ok (.istore_n 2, 1) := by decide +kernel
theorem dX5_placeOf_2 : decode cX5_placeOf 2 = .ok (.iload_n 2, 1) := by decide +kernel
theorem dX5_placeOf_3 : decode cX5_placeOf 3 = .ok (.aload_n 0, 1) := by decide +kernel
theorem dX5_placeOf_4 : decode cX5_placeOf 4 = .ok (.getfield 7, 3) := by decide +kernel
theorem dX5_placeOf_7 : decode cX5_placeOf 7 = .ok (.bipush 7, 2) := by decide +kernel
theorem dX5_placeOf_9 : decode cX5_placeOf 9 = .ok (.iaload, 1) := by decide +kernel
theorem dX5_placeOf_10 : decode cX5_placeOf 10 = .ok (.if_icmp .ge 21, 3) := by decide +kernel
theorem dX5_placeOf_13 : decode cX5_placeOf 13 = .ok (.aload_n 0, 1) := by decide +kernel
theorem dX5_placeOf_14 : decode cX5_placeOf 14 = .ok (.iload_n 2, 1) := by decide +kernel
theorem dX5_placeOf_15 : decode cX5_placeOf 15 = .ok (.iconst 0, 1) := by decide +kernel
theorem dX5_placeOf_16 : decode cX5_placeOf 16 = .ok (.invokevirtual 89, 3) := by decide +kernel
theorem dX5_placeOf_19 : decode cX5_placeOf 19 = .ok (.iload_n 1, 1) := by decide +kernel
theorem dX5_placeOf_20 : decode cX5_placeOf 20 = .ok (.if_icmp .ne 5, 3) := by decide +kernel
theorem dX5_placeOf_23 : decode cX5_placeOf 23 = .ok (.iload_n 2, 1) := by decide +kernel
theorem dX5_placeOf_24 : decode cX5_placeOf 24 = .ok (.ireturn, 1) := by decide +kernel
theorem dX5_placeOf_25 : decode cX5_placeOf 25 = .ok (.iinc 2 1, 3) := by decide +kernel
theorem dX5_placeOf_28 : decode cX5_placeOf 28 = .ok (.goto (-26), 3) := by decide +kernel
theorem dX5_placeOf_31 : decode cX5_placeOf 31 = .ok (.iconst (-1), 1) := by decide +kernel
theorem dX5_placeOf_32 : decode cX5_placeOf 32 = .ok (.ireturn, 1) := by decide +kernel
theorem dX5_takeOut_0 : decode cX5_takeOut 0 = .ok (.aload_n 0, 1) := by decide +kernel
theorem dX5_takeOut_1 : decode cX5_takeOut 1 = .ok (.getfield 7, 3) := by decide +kernel
theorem dX5_takeOut_4 : decode cX5_takeOut 4 = .ok (.bipush 7, 2) := by decide +kernel
theorem dX5_takeOut_6 : decode cX5_takeOut 6 = .ok (.dup2, 1) := by decide +kernel
theorem dX5_takeOut_7 : decode cX5_takeOut 7 = .ok (.iaload, 1) := by decide +kernel
theorem dX5_takeOut_8 : decode cX5_takeOut 8 = .ok (.iconst 1, 1) := by decide +kernel
theorem dX5_takeOut_9 : decode cX5_takeOut 9 = .ok (.isub, 1) := by decide +kernel
theorem dX5_takeOut_10 : decode cX5_takeOut 10 = .ok (.iastore, 1) := by decide +kernel
theorem dX5_takeOut_11 : decode cX5_takeOut 11 = .ok (.bipush 7, 2) := by decide +kernel
theorem dX5_takeOut_13 : decode cX5_takeOut 13 = .ok (.iload_n 1, 1) := by decide +kernel
theorem dX5_takeOut_14 : decode cX5_takeOut 14 = .ok (.imul, 1) := by decide +kernel
theorem dX5_takeOut_15 : decode cX5_takeOut 15 = .ok (.istore_n 2, 1) := by decide +kernel
theorem dX5_takeOut_16 : decode cX5_takeOut 16 = .ok (.iload_n 2, 1) := by decide +kernel
theorem dX5_takeOut_17 : decode cX5_takeOut 17 = .ok (.bipush 7, 2) := by decide +kernel
theorem dX5_takeOut_19 : decode cX5_takeOut 19 = .ok (.aload_n 0, 1) := by decide +kernel
theorem dX5_takeOut_20 : decode cX5_takeOut 20 = .ok (.getfield 7, 3) := by decide +kernel
theorem dX5_takeOut_23 : decode cX5_takeOut 23 = .ok (.bipush 7, 2) := by decide +kernel
theorem dX5_takeOut_25 : decode cX5_takeOut 25 = .ok (.iaload, 1) := by decide +kernel
theorem dX5_takeOut_26 : decode cX5_takeOut 26 = .ok (.imul, 1) := by decide +kernel
theorem dX5_takeOut_27 : decode cX5_takeOut 27 = .ok (.if_icmp .ge 32, 3) := by decide +kernel
theorem dX5_takeOut_30 : decode cX5_takeOut 30 = .ok (.aload_n 0, 1) := by decide +kernel
theorem dX5_takeOut_31 : decode cX5_takeOut 31 = .ok (.getfield 7, 3) := by decide +kernel
theorem dX5_takeOut_34 : decode cX5_takeOut 34 = .ok (.sipush 215, 3) := by decide +kernel
theorem dX5_takeOut_37 : decode cX5_takeOut 37 = .ok (.iload_n 2, 1) := by decide +kernel
theorem dX5_takeOut_38 : decode cX5_takeOut 38 = .ok (.iadd, 1) := by decide +kernel
theorem dX5_takeOut_39 : decode cX5_takeOut 39 = .ok (.aload_n 0, 1) := by decide +kernel
theorem dX5_takeOut_40 : decode cX5_takeOut 40 = .ok (.getfield 7, 3) := by decide +kernel
theorem dX5_takeOut_43 : decode cX5_takeOut 43 = .ok (.sipush 215, 3) := by decide +kernel
theorem dX5_takeOut_46 : decode cX5_takeOut 46 = .ok (.iload_n 2, 1) := by decide +kernel
theorem dX5_takeOut_47 : decode cX5_takeOut 47 = .ok (.iadd, 1) := by decide +kernel
theorem dX5_takeOut_48 : decode cX5_takeOut 48 = .ok (.bipush 7, 2) := by decide +kernel
theorem dX5_takeOut_50 : decode cX5_takeOut 50 = .ok (.iadd, 1) := by decide +kernel
theorem dX5_takeOut_51 : decode cX5_takeOut 51 = .ok (.iaload, 1) := by decide +kernel
theorem dX5_takeOut_52 : decode cX5_takeOut 52 = .ok (.iastore, 1) := by decide +kernel
theorem dX5_takeOut_53 : decode cX5_takeOut 53 = .ok (.iinc 2 1, 3) := by decide +kernel
theorem dX5_takeOut_56 : decode cX5_takeOut 56 = .ok (.goto (-40), 3) := by decide +kernel
theorem dX5_takeOut_59 : decode cX5_takeOut 59 = .ok (.iconst 0, 1) := by decide +kernel
theorem dX5_takeOut_60 : decode cX5_takeOut 60 = .ok (.istore_n 2, 1) := by decide +kernel
theorem dX5_takeOut_61 : decode cX5_takeOut 61 = .ok (.iload_n 2, 1) := by decide +kernel
theorem dX5_takeOut_62 : decode cX5_takeOut 62 = .ok (.bipush 7, 2) := by decide +kernel
theorem dX5_takeOut_64 : decode cX5_takeOut 64 = .ok (.if_icmp .ge 31, 3) := by decide +kernel
theorem dX5_takeOut_67 : decode cX5_takeOut 67 = .ok (.aload_n 0, 1) := by decide +kernel
theorem dX5_takeOut_68 : decode cX5_takeOut 68 = .ok (.getfield 7, 3) := by decide +kernel
theorem dX5_takeOut_71 : decode cX5_takeOut 71 = .ok (.sipush 215, 3) := by decide +kernel
theorem dX5_takeOut_74 : decode cX5_takeOut 74 = .ok (.bipush 7, 2) := by decide +kernel
theorem dX5_takeOut_76 : decode cX5_takeOut 76 = .ok (.aload_n 0, 1) := by decide +kernel
theorem dX5_takeOut_77 : decode cX5_takeOut 77 = .ok (.getfield 7, 3) := by decide +kernel
theorem dX5_takeOut_80 : decode cX5_takeOut 80 = .ok (.bipush 7, 2) := by decide +kernel
theorem dX5_takeOut_82 : decode cX5_takeOut 82 = .ok (.iaload, 1) := by decide +kernel
theorem dX5_takeOut_83 : decode cX5_takeOut 83 = .ok (.imul, 1) := by decide +kernel
theorem dX5_takeOut_84 : decode cX5_takeOut 84 = .ok (.iadd, 1) := by decide +kernel
theorem dX5_takeOut_85 : decode cX5_takeOut 85 = .ok (.iload_n 2, 1) := by decide +kernel
theorem dX5_takeOut_86 : decode cX5_takeOut 86 = .ok (.iadd, 1) := by decide +kernel
theorem dX5_takeOut_87 : decode cX5_takeOut 87 = .ok (.iconst 0, 1) := by decide +kernel
theorem dX5_takeOut_88 : decode cX5_takeOut 88 = .ok (.iastore, 1) := by decide +kernel
theorem dX5_takeOut_89 : decode cX5_takeOut 89 = .ok (.iinc 2 1, 3) := by decide +kernel
theorem dX5_takeOut_92 : decode cX5_takeOut 92 = .ok (.goto (-31), 3) := by decide +kernel
theorem dX5_takeOut_95 : decode cX5_takeOut 95 = .ok (.return_, 1) := by decide +kernel
theorem dX5_stands_0 : decode cX5_stands 0 = .ok (.aload_n 0, 1) := by decide +kernel
theorem dX5_stands_1 : decode cX5_stands 1 = .ok (.iload_n 1, 1) := by decide +kernel
theorem dX5_stands_2 : decode cX5_stands 2 = .ok (.iconst 2, 1) := by decide +kernel
theorem dX5_stands_3 : decode cX5_stands 3 = .ok (.invokevirtual 89, 3) := by decide +kernel
theorem dX5_stands_6 : decode cX5_stands 6 = .ok (.iload_n 2, 1) := by decide +kernel
theorem dX5_stands_7 : decode cX5_stands 7 = .ok (.if_icmp .ne 18, 3) := by decide +kernel
theorem dX5_stands_10 : decode cX5_stands 10 = .ok (.aload_n 0, 1) := by decide +kernel
theorem dX5_stands_11 : decode cX5_stands 11 = .ok (.iload_n 1, 1) := by decide +kernel
theorem dX5_stands_12 : decode cX5_stands 12 = .ok (.bipush 6, 2) := by decide +kernel
theorem dX5_stands_14 : decode cX5_stands 14 = .ok (.invokevirtual 89, 3) := by decide +kernel
theorem dX5_stands_17 : decode cX5_stands 17 = .ok (.iconst 2, 1) := by decide +kernel
theorem dX5_stands_18 : decode cX5_stands 18 = .ok (.if_icmp .eq 7, 3) := by decide +kernel
theorem dX5_stands_21 : decode cX5_stands 21 = .ok (.iconst 1, 1) := by decide +kernel
theorem dX5_stands_22 : decode cX5_stands 22 = .ok (.goto 4, 3) := by decide +kernel
theorem dX5_stands_25 : decode cX5_stands 25 = .ok (.iconst 0, 1) := by decide +kernel
theorem dX5_stands_26 : decode cX5_stands 26 = .ok (.ireturn, 1) := by decide +kernel
theorem dX5_look_0 : decode cX5_look 0 = .ok (.iconst 0, 1) := by decide +kernel
theorem dX5_look_1 : decode cX5_look 1 = .ok (.istore_n 2, 1) := by decide +kernel
theorem dX5_look_2 : decode cX5_look 2 = .ok (.iload_n 2, 1) := by decide +kernel
theorem dX5_look_3 : decode cX5_look 3 = .ok (.sipush 140, 3) := by decide +kernel
theorem dX5_look_6 : decode cX5_look 6 = .ok (.if_icmp .ge 28, 3) := by decide +kernel
theorem dX5_look_9 : decode cX5_look 9 = .ok (.aload_n 0, 1) := by decide +kernel
theorem dX5_look_10 : decode cX5_look 10 = .ok (.getfield 19, 3) := by decide +kernel
theorem dX5_look_13 : decode cX5_look 13 = .ok (.iload_n 2, 1) := by decide +kernel
theorem dX5_look_14 : decode cX5_look 14 = .ok (.aload_n 0, 1) := by decide +kernel
theorem dX5_look_15 : decode cX5_look 15 = .ok (.getfield 7, 3) := by decide +kernel
theorem dX5_look_18 : decode cX5_look 18 = .ok (.sipush 210, 3) := by decide +kernel
theorem dX5_look_21 : decode cX5_look 21 = .ok (.iload_n 2, 1) := by decide +kernel
theorem dX5_look_22 : decode cX5_look 22 = .ok (.bipush 28, 2) := by decide +kernel
theorem dX5_look_24 : decode cX5_look 24 = .ok (.idiv, 1) := by decide +kernel
theorem dX5_look_25 : decode cX5_look 25 = .ok (.iadd, 1) := by decide +kernel
theorem dX5_look_26 : decode cX5_look 26 = .ok (.iaload, 1) := by decide +kernel
theorem dX5_look_27 : decode cX5_look 27 = .ok (.iastore, 1) := by decide +kernel
theorem dX5_look_28 : decode cX5_look 28 = .ok (.iinc 2 1, 3) := by decide +kernel
theorem dX5_look_31 : decode cX5_look 31 = .ok (.goto (-29), 3) := by decide +kernel
theorem dX5_look_34 : decode cX5_look 34 = .ok (.iconst 0, 1) := by decide +kernel
theorem dX5_look_35 : decode cX5_look 35 = .ok (.istore_n 2, 1) := by decide +kernel
theorem dX5_look_36 : decode cX5_look 36 = .ok (.iload_n 2, 1) := by decide +kernel
theorem dX5_look_37 : decode cX5_look 37 = .ok (.bipush 6, 2) := by decide +kernel
theorem dX5_look_39 : decode cX5_look 39 = .ok (.if_icmp .ge 23, 3) := by decide +kernel
theorem dX5_look_42 : decode cX5_look 42 = .ok (.aload_n 0, 1) := by decide +kernel
theorem dX5_look_43 : decode cX5_look 43 = .ok (.getfield 22, 3) := by decide +kernel
theorem dX5_look_46 : decode cX5_look 46 = .ok (.iload_n 2, 1) := by decide +kernel
theorem dX5_look_47 : decode cX5_look 47 = .ok (.iconst 0, 1) := by decide +kernel
theorem dX5_look_48 : decode cX5_look 48 = .ok (.iastore, 1) := by decide +kernel
theorem dX5_look_49 : decode cX5_look 49 = .ok (.aload_n 0, 1) := by decide +kernel
theorem dX5_look_50 : decode cX5_look 50 = .ok (.getfield 25, 3) := by decide +kernel
theorem dX5_look_53 : decode cX5_look 53 = .ok (.iload_n 2, 1) := by decide +kernel
theorem dX5_look_54 : decode cX5_look 54 = .ok (.iconst 0, 1) := by decide +kernel
theorem dX5_look_55 : decode cX5_look 55 = .ok (.iastore, 1) := by decide +kernel
theorem dX5_look_56 : decode cX5_look 56 = .ok (.iinc 2 1, 3) := by decide +kernel
theorem dX5_look_59 : decode cX5_look 59 = .ok (.goto (-23), 3) := by decide +kernel
theorem dX5_look_62 : decode cX5_look 62 = .ok (.iconst 0, 1) := by decide +kernel
theorem dX5_look_63 : decode cX5_look 63 = .ok (.istore_n 2, 1) := by decide +kernel
theorem dX5_look_64 : decode cX5_look 64 = .ok (.iload_n 2, 1) := by decide +kernel
theorem dX5_look_65 : decode cX5_look 65 = .ok (.bipush 8, 2) := by decide +kernel
theorem dX5_look_67 : decode cX5_look 67 = .ok (.if_icmp .ge 16, 3) := by decide +kernel
theorem dX5_look_70 : decode cX5_look 70 = .ok (.aload_n 0, 1) := by decide +kernel
theorem dX5_look_71 : decode cX5_look 71 = .ok (.getfield 28, 3) := by decide +kernel
theorem dX5_look_74 : decode cX5_look 74 = .ok (.iload_n 2, 1) := by decide +kernel
theorem dX5_look_75 : decode cX5_look 75 = .ok (.iconst 0, 1) := by decide +kernel
theorem dX5_look_76 : decode cX5_look 76 = .ok (.iastore, 1) := by decide +kernel
theorem dX5_look_77 : decode cX5_look 77 = .ok (.iinc 2 1, 3) := by decide +kernel
theorem dX5_look_80 : decode cX5_look 80 = .ok (.goto (-16), 3) := by decide +kernel
theorem dX5_look_83 : decode cX5_look 83 = .ok (.iconst 0, 1) := by decide +kernel
theorem dX5_look_84 : decode cX5_look 84 = .ok (.istore_n 2, 1) := by decide +kernel
theorem dX5_look_85 : decode cX5_look 85 = .ok (.iload_n 2, 1) := by decide +kernel
theorem dX5_look_86 : decode cX5_look 86 = .ok (.aload_n 0, 1) := by decide +kernel
theorem dX5_look_87 : decode cX5_look 87 = .ok (.getfield 7, 3) := by decide +kernel
theorem dX5_look_90 : decode cX5_look 90 = .ok (.bipush 7, 2) := by decide +kernel
theorem dX5_look_92 : decode cX5_look 92 = .ok (.iaload, 1) := by decide +kernel
theorem dX5_look_93 : decode cX5_look 93 = .ok (.if_icmp .ge 104, 3) := by decide +kernel
theorem dX5_look_96 : decode cX5_look 96 = .ok (.aload_n 0, 1) := by decide +kernel
theorem dX5_look_97 : decode cX5_look 97 = .ok (.iload_n 2, 1) := by decide +kernel
theorem dX5_look_98 : decode cX5_look 98 = .ok (.iload_n 1, 1) := by decide +kernel
theorem dX5_look_99 : decode cX5_look 99 = .ok (.invokevirtual 92, 3) := by decide +kernel
theorem dX5_look_102 : decode cX5_look 102 = .ok (.ifCond .eq 89, 3) := by decide +kernel
theorem dX5_look_105 : decode cX5_look 105 = .ok (.aload_n 0, 1) := by decide +kernel
theorem dX5_look_106 : decode cX5_look 106 = .ok (.getfield 19, 3) := by decide +kernel
theorem dX5_look_109 : decode cX5_look 109 = .ok (.bipush 28, 2) := by decide +kernel
theorem dX5_look_111 : decode cX5_look 111 = .ok (.aload_n 0, 1) := by decide +kernel
theorem dX5_look_112 : decode cX5_look 112 = .ok (.iload_n 2, 1) := by decide +kernel
theorem dX5_look_113 : decode cX5_look 113 = .ok (.iconst 5, 1) := by decide +kernel
theorem dX5_look_114 : decode cX5_look 114 = .ok (.invokevirtual 89, 3) := by decide +kernel
theorem dX5_look_117 : decode cX5_look 117 = .ok (.imul, 1) := by decide +kernel
theorem dX5_look_118 : decode cX5_look 118 = .ok (.aload_n 0, 1) := by decide +kernel
theorem dX5_look_119 : decode cX5_look 119 = .ok (.iload_n 2, 1) := by decide +kernel
theorem dX5_look_120 : decode cX5_look 120 = .ok (.iconst 3, 1) := by decide +kernel
theorem dX5_look_121 : decode cX5_look 121 = .ok (.invokevirtual 89, 3) := by decide +kernel
theorem dX5_look_124 : decode cX5_look 124 = .ok (.iadd, 1) := by decide +kernel
theorem dX5_look_125 : decode cX5_look 125 = .ok (.dup2, 1) := by decide +kernel
theorem dX5_look_126 : decode cX5_look 126 = .ok (.iaload, 1) := by decide +kernel
theorem dX5_look_127 : decode cX5_look 127 = .ok (.iconst 1, 1) := by decide +kernel
theorem dX5_look_128 : decode cX5_look 128 = .ok (.isub, 1) := by decide +kernel
theorem dX5_look_129 : decode cX5_look 129 = .ok (.iastore, 1) := by decide +kernel
theorem dX5_look_130 : decode cX5_look 130 = .ok (.aload_n 0, 1) := by decide +kernel
theorem dX5_look_131 : decode cX5_look 131 = .ok (.getfield 22, 3) := by decide +kernel
theorem dX5_look_134 : decode cX5_look 134 = .ok (.aload_n 0, 1) := by decide +kernel
theorem dX5_look_135 : decode cX5_look 135 = .ok (.iload_n 2, 1) := by decide +kernel
theorem dX5_look_136 : decode cX5_look 136 = .ok (.iconst 4, 1) := by decide +kernel
theorem dX5_look_137 : decode cX5_look 137 = .ok (.invokevirtual 89, 3) := by decide +kernel
theorem dX5_look_140 : decode cX5_look 140 = .ok (.dup2, 1) := by decide +kernel
theorem dX5_look_141 : decode cX5_look 141 = .ok (.iaload, 1) := by decide +kernel
theorem dX5_look_142 : decode cX5_look 142 = .ok (.iconst 1, 1) := by decide +kernel
theorem dX5_look_143 : decode cX5_look 143 = .ok (.aload_n 0, 1) := by decide +kernel
theorem dX5_look_144 : decode cX5_look 144 = .ok (.iload_n 2, 1) := by decide +kernel
theorem dX5_look_145 : decode cX5_look 145 = .ok (.iconst 3, 1) := by decide +kernel
theorem dX5_look_146 : decode cX5_look 146 = .ok (.invokevirtual 89, 3) := by decide +kernel
theorem dX5_look_149 : decode cX5_look 149 = .ok (.ishl, 1) := by decide +kernel
theorem dX5_look_150 : decode cX5_look 150 = .ok (.ior, 1) := by decide +kernel
theorem dX5_look_151 : decode cX5_look 151 = .ok (.iastore, 1) := by decide +kernel
theorem dX5_look_152 : decode cX5_look 152 = .ok (.aload_n 0, 1) := by decide +kernel
theorem dX5_look_153 : decode cX5_look 153 = .ok (.getfield 25, 3) := by decide +kernel
theorem dX5_look_156 : decode cX5_look 156 = .ok (.aload_n 0, 1) := by decide +kernel
theorem dX5_look_157 : decode cX5_look 157 = .ok (.iload_n 2, 1) := by decide +kernel
theorem dX5_look_158 : decode cX5_look 158 = .ok (.iconst 4, 1) := by decide +kernel
theorem dX5_look_159 : decode cX5_look 159 = .ok (.invokevirtual 89, 3) := by decide +kernel
theorem dX5_look_162 : decode cX5_look 162 = .ok (.dup2, 1) := by decide +kernel
theorem dX5_look_163 : decode cX5_look 163 = .ok (.iaload, 1) := by decide +kernel
theorem dX5_look_164 : decode cX5_look 164 = .ok (.iconst 1, 1) := by decide +kernel
theorem dX5_look_165 : decode cX5_look 165 = .ok (.iadd, 1) := by decide +kernel
theorem dX5_look_166 : decode cX5_look 166 = .ok (.iastore, 1) := by decide +kernel
theorem dX5_look_167 : decode cX5_look 167 = .ok (.aload_n 0, 1) := by decide +kernel
theorem dX5_look_168 : decode cX5_look 168 = .ok (.getfield 28, 3) := by decide +kernel
theorem dX5_look_171 : decode cX5_look 171 = .ok (.aload_n 0, 1) := by decide +kernel
theorem dX5_look_172 : decode cX5_look 172 = .ok (.iload_n 2, 1) := by decide +kernel
theorem dX5_look_173 : decode cX5_look 173 = .ok (.iconst 1, 1) := by decide +kernel
theorem dX5_look_174 : decode cX5_look 174 = .ok (.invokevirtual 89, 3) := by decide +kernel
theorem dX5_look_177 : decode cX5_look 177 = .ok (.dup2, 1) := by decide +kernel
theorem dX5_look_178 : decode cX5_look 178 = .ok (.iaload, 1) := by decide +kernel
theorem dX5_look_179 : decode cX5_look 179 = .ok (.iconst 1, 1) := by decide +kernel
theorem dX5_look_180 : decode cX5_look 180 = .ok (.aload_n 0, 1) := by decide +kernel
theorem dX5_look_181 : decode cX5_look 181 = .ok (.iload_n 2, 1) := by decide +kernel
theorem dX5_look_182 : decode cX5_look 182 = .ok (.iconst 3, 1) := by decide +kernel
theorem dX5_look_183 : decode cX5_look 183 = .ok (.invokevirtual 89, 3) := by decide +kernel
theorem dX5_look_186 : decode cX5_look 186 = .ok (.iconst 4, 1) := by decide +kernel
theorem dX5_look_187 : decode cX5_look 187 = .ok (.idiv, 1) := by decide +kernel
theorem dX5_look_188 : decode cX5_look 188 = .ok (.ishl, 1) := by decide +kernel
theorem dX5_look_189 : decode cX5_look 189 = .ok (.ior, 1) := by decide +kernel
theorem dX5_look_190 : decode cX5_look 190 = .ok (.iastore, 1) := by decide +kernel
theorem dX5_look_191 : decode cX5_look 191 = .ok (.iinc 2 1, 3) := by decide +kernel
theorem dX5_look_194 : decode cX5_look 194 = .ok (.goto (-109), 3) := by decide +kernel
theorem dX5_look_197 : decode cX5_look 197 = .ok (.return_, 1) := by decide +kernel
theorem dX5_whyEscort_0 : decode cX5_whyEscort 0 = .ok (.aload_n 0, 1) := by decide +kernel
theorem dX5_whyEscort_1 : decode cX5_whyEscort 1 = .ok (.getfield 7, 3) := by decide +kernel
theorem dX5_whyEscort_4 : decode cX5_whyEscort 4 = .ok (.sipush 192, 3) := by decide +kernel
theorem dX5_whyEscort_7 : decode cX5_whyEscort 7 = .ok (.iload_n 1, 1) := by decide +kernel
theorem dX5_whyEscort_8 : decode cX5_whyEscort 8 = .ok (.iadd, 1) := by decide +kernel
theorem dX5_whyEscort_9 : decode cX5_whyEscort 9 = .ok (.iaload, 1) := by decide +kernel
theorem dX5_whyEscort_10 : decode cX5_whyEscort 10 = .ok (.iload_n 2, 1) := by decide +kernel
theorem dX5_whyEscort_11 : decode cX5_whyEscort 11 = .ok (.invokestatic 95, 3) := by decide +kernel
theorem dX5_whyEscort_14 : decode cX5_whyEscort 14 = .ok (.ifCond .ne 5, 3) := by decide +kernel
theorem dX5_whyEscort_17 : decode cX5_whyEscort 17 = .ok (.iconst 4, 1) := by decide +kernel
theorem dX5_whyEscort_18 : decode cX5_whyEscort 18 = .ok (.ireturn, 1) := by decide +kernel
theorem dX5_whyEscort_19 : decode cX5_whyEscort 19 = .ok (.aload_n 0, 1) := by decide +kernel
theorem dX5_whyEscort_20 : decode cX5_whyEscort 20 = .ok (.getfield 22, 3) := by decide +kernel
theorem dX5_whyEscort_23 : decode cX5_whyEscort 23 = .ok (.iload_n 1, 1) := by decide +kernel
theorem dX5_whyEscort_24 : decode cX5_whyEscort 24 = .ok (.iaload, 1) := by decide +kernel
theorem dX5_whyEscort_25 : decode cX5_whyEscort 25 = .ok (.iload_n 2, 1) := by decide +kernel
theorem dX5_whyEscort_26 : decode cX5_whyEscort 26 = .ok (.invokestatic 95, 3) := by decide +kernel
theorem dX5_whyEscort_29 : decode cX5_whyEscort 29 = .ok (.ifCond .eq 7, 3) := by decide +kernel
theorem dX5_whyEscort_32 : decode cX5_whyEscort 32 = .ok (.iconst 5, 1) := by decide +kernel
theorem dX5_whyEscort_33 : decode cX5_whyEscort 33 = .ok (.goto 28, 3) := by decide +kernel
theorem dX5_whyEscort_36 : decode cX5_whyEscort 36 = .ok (.aload_n 0, 1) := by decide +kernel
theorem dX5_whyEscort_37 : decode cX5_whyEscort 37 = .ok (.getfield 25, 3) := by decide +kernel
theorem dX5_whyEscort_40 : decode cX5_whyEscort 40 = .ok (.iload_n 1, 1) := by decide +kernel
theorem dX5_whyEscort_41 : decode cX5_whyEscort 41 = .ok (.iaload, 1) := by decide +kernel
theorem dX5_whyEscort_42 : decode cX5_whyEscort 42 = .ok (.aload_n 0, 1) := by decide +kernel
theorem dX5_whyEscort_43 : decode cX5_whyEscort 43 = .ok (.getfield 7, 3) := by decide +kernel
theorem dX5_whyEscort_46 : decode cX5_whyEscort 46 = .ok (.sipush 198, 3) := by decide +kernel
theorem dX5_whyEscort_49 : decode cX5_whyEscort 49 = .ok (.iload_n 1, 1) := by decide +kernel
theorem dX5_whyEscort_50 : decode cX5_whyEscort 50 = .ok (.iadd, 1) := by decide +kernel
theorem dX5_whyEscort_51 : decode cX5_whyEscort 51 = .ok (.iaload, 1) := by decide +kernel
theorem dX5_whyEscort_52 : decode cX5_whyEscort 52 = .ok (.if_icmp .lt 8, 3) := by decide +kernel
theorem dX5_whyEscort_55 : decode cX5_whyEscort 55 = .ok (.bipush 6, 2) := by decide +kernel
theorem dX5_whyEscort_57 : decode cX5_whyEscort 57 = .ok (.goto 4, 3) := by decide +kernel
theorem dX5_whyEscort_60 : decode cX5_whyEscort 60 = .ok (.iconst 0, 1) := by decide +kernel
theorem dX5_whyEscort_61 : decode cX5_whyEscort 61 = .ok (.ireturn, 1) := by decide +kernel
theorem dX5_reason_0 : decode cX5_reason 0 = .ok (.iload_n 2, 1) := by decide +kernel
theorem dX5_reason_1 : decode cX5_reason 1 = .ok (.aload_n 0, 1) := by decide +kernel
theorem dX5_reason_2 : decode cX5_reason 2 = .ok (.getfield 7, 3) := by decide +kernel
theorem dX5_reason_5 : decode cX5_reason 5 = .ok (.iconst 0, 1) := by decide +kernel
theorem dX5_reason_6 : decode cX5_reason 6 = .ok (.iaload, 1) := by decide +kernel
theorem dX5_reason_7 : decode cX5_reason 7 = .ok (.if_icmp .ge 5, 3) := by decide +kernel
theorem dX5_reason_10 : decode cX5_reason 10 = .ok (.iconst 1, 1) := by decide +kernel
theorem dX5_reason_11 : decode cX5_reason 11 = .ok (.ireturn, 1) := by decide +kernel
theorem dX5_reason_12 : decode cX5_reason 12 = .ok (.aload_n 0, 1) := by decide +kernel
theorem dX5_reason_13 : decode cX5_reason 13 = .ok (.getfield 7, 3) := by decide +kernel
theorem dX5_reason_16 : decode cX5_reason 16 = .ok (.sipush 168, 3) := by decide +kernel
theorem dX5_reason_19 : decode cX5_reason 19 = .ok (.iload_n 1, 1) := by decide +kernel
theorem dX5_reason_20 : decode cX5_reason 20 = .ok (.iadd, 1) := by decide +kernel
theorem dX5_reason_21 : decode cX5_reason 21 = .ok (.iaload, 1) := by decide +kernel
theorem dX5_reason_22 : decode cX5_reason 22 = .ok (.iload 5, 2) := by decide +kernel
theorem dX5_reason_24 : decode cX5_reason 24 = .ok (.invokestatic 95, 3) := by decide +kernel
theorem dX5_reason_27 : decode cX5_reason 27 = .ok (.ifCond .ne 5, 3) := by decide +kernel
theorem dX5_reason_30 : decode cX5_reason 30 = .ok (.iconst 2, 1) := by decide +kernel
theorem dX5_reason_31 : decode cX5_reason 31 = .ok (.ireturn, 1) := by decide +kernel
theorem dX5_reason_32 : decode cX5_reason 32 = .ok (.aload_n 0, 1) := by decide +kernel
theorem dX5_reason_33 : decode cX5_reason 33 = .ok (.iload_n 2, 1) := by decide +kernel
theorem dX5_reason_34 : decode cX5_reason 34 = .ok (.invokevirtual 98, 3) := by decide +kernel
theorem dX5_reason_37 : decode cX5_reason 37 = .ok (.aload_n 0, 1) := by decide +kernel
theorem dX5_reason_38 : decode cX5_reason 38 = .ok (.getfield 28, 3) := by decide +kernel
theorem dX5_reason_41 : decode cX5_reason 41 = .ok (.iload_n 1, 1) := by decide +kernel
theorem dX5_reason_42 : decode cX5_reason 42 = .ok (.iaload, 1) := by decide +kernel
theorem dX5_reason_43 : decode cX5_reason 43 = .ok (.iload_n 3, 1) := by decide +kernel
theorem dX5_reason_44 : decode cX5_reason 44 = .ok (.iconst 4, 1) := by decide +kernel
theorem dX5_reason_45 : decode cX5_reason 45 = .ok (.idiv, 1) := by decide +kernel
theorem dX5_reason_46 : decode cX5_reason 46 = .ok (.invokestatic 95, 3) := by decide +kernel
theorem dX5_reason_49 : decode cX5_reason 49 = .ok (.ifCond .eq 5, 3) := by decide +kernel
theorem dX5_reason_52 : decode cX5_reason 52 = .ok (.iconst 3, 1) := by decide +kernel
theorem dX5_reason_53 : decode cX5_reason 53 = .ok (.ireturn, 1) := by decide +kernel
theorem dX5_reason_54 : decode cX5_reason 54 = .ok (.aload_n 0, 1) := by decide +kernel
theorem dX5_reason_55 : decode cX5_reason 55 = .ok (.iload 4, 2) := by decide +kernel
theorem dX5_reason_57 : decode cX5_reason 57 = .ok (.iload_n 3, 1) := by decide +kernel
theorem dX5_reason_58 : decode cX5_reason 58 = .ok (.invokevirtual 102, 3) := by decide +kernel
theorem dX5_reason_61 : decode cX5_reason 61 = .ok (.istore 6, 2) := by decide +kernel
theorem dX5_reason_63 : decode cX5_reason 63 = .ok (.iload 6, 2) := by decide +kernel
theorem dX5_reason_65 : decode cX5_reason 65 = .ok (.ifCond .eq 8, 3) := by decide +kernel
theorem dX5_reason_68 : decode cX5_reason 68 = .ok (.iload 6, 2) := by decide +kernel
theorem dX5_reason_70 : decode cX5_reason 70 = .ok (.goto 42, 3) := by decide +kernel
theorem dX5_reason_73 : decode cX5_reason 73 = .ok (.aload_n 0, 1) := by decide +kernel
theorem dX5_reason_74 : decode cX5_reason 74 = .ok (.getfield 19, 3) := by decide +kernel
theorem dX5_reason_77 : decode cX5_reason 77 = .ok (.bipush 28, 2) := by decide +kernel
theorem dX5_reason_79 : decode cX5_reason 79 = .ok (.iload 5, 2) := by decide +kernel
theorem dX5_reason_81 : decode cX5_reason 81 = .ok (.imul, 1) := by decide +kernel
theorem dX5_reason_82 : decode cX5_reason 82 = .ok (.iload_n 3, 1) := by decide +kernel
theorem dX5_reason_83 : decode cX5_reason 83 = .ok (.iadd, 1) := by decide +kernel
theorem dX5_reason_84 : decode cX5_reason 84 = .ok (.iaload, 1) := by decide +kernel
theorem dX5_reason_85 : decode cX5_reason 85 = .ok (.iconst 1, 1) := by decide +kernel
theorem dX5_reason_86 : decode cX5_reason 86 = .ok (.if_icmp .ge 8, 3) := by decide +kernel
theorem dX5_reason_89 : decode cX5_reason 89 = .ok (.bipush 7, 2) := by decide +kernel
theorem dX5_reason_91 : decode cX5_reason 91 = .ok (.goto 21, 3) := by decide +kernel
theorem dX5_reason_94 : decode cX5_reason 94 = .ok (.aload_n 0, 1) := by decide +kernel
theorem dX5_reason_95 : decode cX5_reason 95 = .ok (.getfield 7, 3) := by decide +kernel
theorem dX5_reason_98 : decode cX5_reason 98 = .ok (.bipush 7, 2) := by decide +kernel
theorem dX5_reason_100 : decode cX5_reason 100 = .ok (.iaload, 1) := by decide +kernel
theorem dX5_reason_101 : decode cX5_reason 101 = .ok (.bipush 60, 2) := by decide +kernel
theorem dX5_reason_103 : decode cX5_reason 103 = .ok (.if_icmp .ne 8, 3) := by decide +kernel
theorem dX5_reason_106 : decode cX5_reason 106 = .ok (.bipush 8, 2) := by decide +kernel
theorem dX5_reason_108 : decode cX5_reason 108 = .ok (.goto 4, 3) := by decide +kernel
theorem dX5_reason_111 : decode cX5_reason 111 = .ok (.iconst 0, 1) := by decide +kernel
theorem dX5_reason_112 : decode cX5_reason 112 = .ok (.ireturn, 1) := by decide +kernel
theorem dX5_lays_0 : decode cX5_lays 0 = .ok (.sipush 215, 3) := by decide +kernel
theorem dX5_lays_3 : decode cX5_lays 3 = .ok (.bipush 7, 2) := by decide +kernel
theorem dX5_lays_5 : decode cX5_lays 5 = .ok (.aload_n 0, 1) := by decide +kernel
theorem dX5_lays_6 : decode cX5_lays 6 = .ok (.getfield 7, 3) := by decide +kernel
theorem dX5_lays_9 : decode cX5_lays 9 = .ok (.bipush 7, 2) := by decide +kernel
theorem dX5_lays_11 : decode cX5_lays 11 = .ok (.iaload, 1) := by decide +kernel
theorem dX5_lays_12 : decode cX5_lays 12 = .ok (.imul, 1) := by decide +kernel
theorem dX5_lays_13 : decode cX5_lays 13 = .ok (.iadd, 1) := by decide +kernel
theorem dX5_lays_14 : decode cX5_lays 14 = .ok (.istore 6, 2) := by decide +kernel
theorem dX5_lays_16 : decode cX5_lays 16 = .ok (.aload_n 0, 1) := by decide +kernel
theorem dX5_lays_17 : decode cX5_lays 17 = .ok (.getfield 7, 3) := by decide +kernel
theorem dX5_lays_20 : decode cX5_lays 20 = .ok (.iload 6, 2) := by decide +kernel
theorem dX5_lays_22 : decode cX5_lays 22 = .ok (.aload_n 0, 1) := by decide +kernel
theorem dX5_lays_23 : decode cX5_lays 23 = .ok (.getfield 7, 3) := by decide +kernel
theorem dX5_lays_26 : decode cX5_lays 26 = .ok (.iconst 1, 1) := by decide +kernel
theorem dX5_lays_27 : decode cX5_lays 27 = .ok (.iaload, 1) := by decide +kernel
theorem dX5_lays_28 : decode cX5_lays 28 = .ok (.iastore, 1) := by decide +kernel
theorem dX5_lays_29 : decode cX5_lays 29 = .ok (.aload_n 0, 1) := by decide +kernel
theorem dX5_lays_30 : decode cX5_lays 30 = .ok (.getfield 7, 3) := by decide +kernel
theorem dX5_lays_33 : decode cX5_lays 33 = .ok (.iload 6, 2) := by decide +kernel
theorem dX5_lays_35 : decode cX5_lays 35 = .ok (.iconst 1, 1) := by decide +kernel
theorem dX5_lays_36 : decode cX5_lays 36 = .ok (.iadd, 1) := by decide +kernel
theorem dX5_lays_37 : decode cX5_lays 37 = .ok (.iload_n 1, 1) := by decide +kernel
theorem dX5_lays_38 : decode cX5_lays 38 = .ok (.iastore, 1) := by decide +kernel
theorem dX5_lays_39 : decode cX5_lays 39 = .ok (.aload_n 0, 1) := by decide +kernel
theorem dX5_lays_40 : decode cX5_lays 40 = .ok (.getfield 7, 3) := by decide +kernel
theorem dX5_lays_43 : decode cX5_lays 43 = .ok (.iload 6, 2) := by decide +kernel
theorem dX5_lays_45 : decode cX5_lays 45 = .ok (.iconst 2, 1) := by decide +kernel
theorem dX5_lays_46 : decode cX5_lays 46 = .ok (.iadd, 1) := by decide +kernel
theorem dX5_lays_47 : decode cX5_lays 47 = .ok (.iload_n 2, 1) := by decide +kernel
theorem dX5_lays_48 : decode cX5_lays 48 = .ok (.iastore, 1) := by decide +kernel
theorem dX5_lays_49 : decode cX5_lays 49 = .ok (.aload_n 0, 1) := by decide +kernel
theorem dX5_lays_50 : decode cX5_lays 50 = .ok (.getfield 7, 3) := by decide +kernel
theorem dX5_lays_53 : decode cX5_lays 53 = .ok (.iload 6, 2) := by decide +kernel
theorem dX5_lays_55 : decode cX5_lays 55 = .ok (.iconst 3, 1) := by decide +kernel
theorem dX5_lays_56 : decode cX5_lays 56 = .ok (.iadd, 1) := by decide +kernel
theorem dX5_lays_57 : decode cX5_lays 57 = .ok (.iload_n 3, 1) := by decide +kernel
theorem dX5_lays_58 : decode cX5_lays 58 = .ok (.iastore, 1) := by decide +kernel
theorem dX5_lays_59 : decode cX5_lays 59 = .ok (.aload_n 0, 1) := by decide +kernel
theorem dX5_lays_60 : decode cX5_lays 60 = .ok (.getfield 7, 3) := by decide +kernel
theorem dX5_lays_63 : decode cX5_lays 63 = .ok (.iload 6, 2) := by decide +kernel
theorem dX5_lays_65 : decode cX5_lays 65 = .ok (.iconst 4, 1) := by decide +kernel
theorem dX5_lays_66 : decode cX5_lays 66 = .ok (.iadd, 1) := by decide +kernel
theorem dX5_lays_67 : decode cX5_lays 67 = .ok (.iload 4, 2) := by decide +kernel
theorem dX5_lays_69 : decode cX5_lays 69 = .ok (.iastore, 1) := by decide +kernel
theorem dX5_lays_70 : decode cX5_lays 70 = .ok (.aload_n 0, 1) := by decide +kernel
theorem dX5_lays_71 : decode cX5_lays 71 = .ok (.getfield 7, 3) := by decide +kernel
theorem dX5_lays_74 : decode cX5_lays 74 = .ok (.iload 6, 2) := by decide +kernel
theorem dX5_lays_76 : decode cX5_lays 76 = .ok (.iconst 5, 1) := by decide +kernel
theorem dX5_lays_77 : decode cX5_lays 77 = .ok (.iadd, 1) := by decide +kernel
theorem dX5_lays_78 : decode cX5_lays 78 = .ok (.iload 5, 2) := by decide +kernel
theorem dX5_lays_80 : decode cX5_lays 80 = .ok (.iastore, 1) := by decide +kernel
theorem dX5_lays_81 : decode cX5_lays 81 = .ok (.aload_n 0, 1) := by decide +kernel
theorem dX5_lays_82 : decode cX5_lays 82 = .ok (.getfield 7, 3) := by decide +kernel
theorem dX5_lays_85 : decode cX5_lays 85 = .ok (.iload 6, 2) := by decide +kernel
theorem dX5_lays_87 : decode cX5_lays 87 = .ok (.bipush 6, 2) := by decide +kernel
theorem dX5_lays_89 : decode cX5_lays 89 = .ok (.iadd, 1) := by decide +kernel
theorem dX5_lays_90 : decode cX5_lays 90 = .ok (.iconst 0, 1) := by decide +kernel
theorem dX5_lays_91 : decode cX5_lays 91 = .ok (.iastore, 1) := by decide +kernel
theorem dX5_lays_92 : decode cX5_lays 92 = .ok (.aload_n 0, 1) := by decide +kernel
theorem dX5_lays_93 : decode cX5_lays 93 = .ok (.getfield 7, 3) := by decide +kernel
theorem dX5_lays_96 : decode cX5_lays 96 = .ok (.bipush 7, 2) := by decide +kernel
theorem dX5_lays_98 : decode cX5_lays 98 = .ok (.dup2, 1) := by decide +kernel
theorem dX5_lays_99 : decode cX5_lays 99 = .ok (.iaload, 1) := by decide +kernel
theorem dX5_lays_100 : decode cX5_lays 100 = .ok (.iconst 1, 1) := by decide +kernel
theorem dX5_lays_101 : decode cX5_lays 101 = .ok (.iadd, 1) := by decide +kernel
theorem dX5_lays_102 : decode cX5_lays 102 = .ok (.iastore, 1) := by decide +kernel
theorem dX5_lays_103 : decode cX5_lays 103 = .ok (.aload_n 0, 1) := by decide +kernel
theorem dX5_lays_104 : decode cX5_lays 104 = .ok (.getfield 7, 3) := by decide +kernel
theorem dX5_lays_107 : decode cX5_lays 107 = .ok (.iconst 1, 1) := by decide +kernel
theorem dX5_lays_108 : decode cX5_lays 108 = .ok (.dup2, 1) := by decide +kernel
theorem dX5_lays_109 : decode cX5_lays 109 = .ok (.iaload, 1) := by decide +kernel
theorem dX5_lays_110 : decode cX5_lays 110 = .ok (.iconst 1, 1) := by decide +kernel
theorem dX5_lays_111 : decode cX5_lays 111 = .ok (.iadd, 1) := by decide +kernel
theorem dX5_lays_112 : decode cX5_lays 112 = .ok (.iastore, 1) := by decide +kernel
theorem dX5_lays_113 : decode cX5_lays 113 = .ok (.return_, 1) := by decide +kernel
theorem dX5_areThere_0 : decode cX5_areThere 0 = .ok (.aload_n 0, 1) := by decide +kernel
theorem dX5_areThere_1 : decode cX5_areThere 1 = .ok (.iload_n 1, 1) := by decide +kernel
theorem dX5_areThere_2 : decode cX5_areThere 2 = .ok (.invokevirtual 65, 3) := by decide +kernel
theorem dX5_areThere_5 : decode cX5_areThere 5 = .ok (.ifCond .eq 23, 3) := by decide +kernel
theorem dX5_areThere_8 : decode cX5_areThere 8 = .ok (.aload_n 0, 1) := by decide +kernel
theorem dX5_areThere_9 : decode cX5_areThere 9 = .ok (.iload_n 2, 1) := by decide +kernel
theorem dX5_areThere_10 : decode cX5_areThere 10 = .ok (.invokevirtual 84, 3) := by decide +kernel
theorem dX5_areThere_13 : decode cX5_areThere 13 = .ok (.ifCond .eq 15, 3) := by decide +kernel
theorem dX5_areThere_16 : decode cX5_areThere 16 = .ok (.aload_n 0, 1) := by decide +kernel
theorem dX5_areThere_17 : decode cX5_areThere 17 = .ok (.iload_n 3, 1) := by decide +kernel
theorem dX5_areThere_18 : decode cX5_areThere 18 = .ok (.invokevirtual 105, 3) := by decide +kernel
theorem dX5_areThere_21 : decode cX5_areThere 21 = .ok (.ifCond .eq 7, 3) := by decide +kernel
theorem dX5_areThere_24 : decode cX5_areThere 24 = .ok (.iconst 1, 1) := by decide +kernel
theorem dX5_areThere_25 : decode cX5_areThere 25 = .ok (.goto 4, 3) := by decide +kernel
theorem dX5_areThere_28 : decode cX5_areThere 28 = .ok (.iconst 0, 1) := by decide +kernel
theorem dX5_areThere_29 : decode cX5_areThere 29 = .ok (.ireturn, 1) := by decide +kernel
theorem dX5_plan_0 : decode cX5_plan 0 = .ok (.aload_n 0, 1) := by decide +kernel
theorem dX5_plan_1 : decode cX5_plan 1 = .ok (.iload_n 1, 1) := by decide +kernel
theorem dX5_plan_2 : decode cX5_plan 2 = .ok (.iload 4, 2) := by decide +kernel
theorem dX5_plan_4 : decode cX5_plan 4 = .ok (.iload 5, 2) := by decide +kernel
theorem dX5_plan_6 : decode cX5_plan 6 = .ok (.invokevirtual 108, 3) := by decide +kernel
theorem dX5_plan_9 : decode cX5_plan 9 = .ok (.istore 6, 2) := by decide +kernel
theorem dX5_plan_11 : decode cX5_plan 11 = .ok (.iload 6, 2) := by decide +kernel
theorem dX5_plan_13 : decode cX5_plan 13 = .ok (.ifCond .eq 21, 3) := by decide +kernel
theorem dX5_plan_16 : decode cX5_plan 16 = .ok (.iload_n 2, 1) := by decide +kernel
theorem dX5_plan_17 : decode cX5_plan 17 = .ok (.invokestatic 112, 3) := by decide +kernel
theorem dX5_plan_20 : decode cX5_plan 20 = .ok (.ifCond .eq 14, 3) := by decide +kernel
theorem dX5_plan_23 : decode cX5_plan 23 = .ok (.iload_n 3, 1) := by decide +kernel
theorem dX5_plan_24 : decode cX5_plan 24 = .ok (.invokestatic 115, 3) := by decide +kernel
theorem dX5_plan_27 : decode cX5_plan 27 = .ok (.ifCond .eq 7, 3) := by decide +kernel
theorem dX5_plan_30 : decode cX5_plan 30 = .ok (.iconst 1, 1) := by decide +kernel
theorem dX5_plan_31 : decode cX5_plan 31 = .ok (.goto 4, 3) := by decide +kernel
theorem dX5_plan_34 : decode cX5_plan 34 = .ok (.iconst 0, 1) := by decide +kernel
theorem dX5_plan_35 : decode cX5_plan 35 = .ok (.istore 7, 2) := by decide +kernel
theorem dX5_plan_37 : decode cX5_plan 37 = .ok (.aload_n 0, 1) := by decide +kernel
theorem dX5_plan_38 : decode cX5_plan 38 = .ok (.iload 6, 2) := by decide +kernel
theorem dX5_plan_40 : decode cX5_plan 40 = .ok (.iload 7, 2) := by decide +kernel
theorem dX5_plan_42 : decode cX5_plan 42 = .ok (.iload 7, 2) := by decide +kernel
theorem dX5_plan_44 : decode cX5_plan 44 = .ok (.ifCond .eq 21, 3) := by decide +kernel
theorem dX5_plan_47 : decode cX5_plan 47 = .ok (.aload_n 0, 1) := by decide +kernel
theorem dX5_plan_48 : decode cX5_plan 48 = .ok (.iload_n 1, 1) := by decide +kernel
theorem dX5_plan_49 : decode cX5_plan 49 = .ok (.iload_n 2, 1) := by decide +kernel
theorem dX5_plan_50 : decode cX5_plan 50 = .ok (.iload_n 3, 1) := by decide +kernel
theorem dX5_plan_51 : decode cX5_plan 51 = .ok (.iload 4, 2) := by decide +kernel
theorem dX5_plan_53 : decode cX5_plan 53 = .ok (.iload 5, 2) := by decide +kernel
theorem dX5_plan_55 : decode cX5_plan 55 = .ok (.invokevirtual 118, 3) := by decide +kernel
theorem dX5_plan_58 : decode cX5_plan 58 = .ok (.ifCond .ne 7, 3) := by decide +kernel
theorem dX5_plan_61 : decode cX5_plan 61 = .ok (.iconst 1, 1) := by decide +kernel
theorem dX5_plan_62 : decode cX5_plan 62 = .ok (.goto 4, 3) := by decide +kernel
theorem dX5_plan_65 : decode cX5_plan 65 = .ok (.iconst 0, 1) := by decide +kernel
theorem dX5_plan_66 : decode cX5_plan 66 = .ok (.invokevirtual 58, 3) := by decide +kernel
theorem dX5_plan_69 : decode cX5_plan 69 = .ok (.ifCond .ne 5, 3) := by decide +kernel
theorem dX5_plan_72 : decode cX5_plan 72 = .ok (.iconst 0, 1) := by decide +kernel
theorem dX5_plan_73 : decode cX5_plan 73 = .ok (.ireturn, 1) := by decide +kernel
theorem dX5_plan_74 : decode cX5_plan 74 = .ok (.aload_n 0, 1) := by decide +kernel
theorem dX5_plan_75 : decode cX5_plan 75 = .ok (.invokevirtual 62, 3) := by decide +kernel
theorem dX5_plan_78 : decode cX5_plan 78 = .ok (.aload_n 0, 1) := by decide +kernel
theorem dX5_plan_79 : decode cX5_plan 79 = .ok (.iload_n 1, 1) := by decide +kernel
theorem dX5_plan_80 : decode cX5_plan 80 = .ok (.iload_n 2, 1) := by decide +kernel
theorem dX5_plan_81 : decode cX5_plan 81 = .ok (.iload_n 3, 1) := by decide +kernel
theorem dX5_plan_82 : decode cX5_plan 82 = .ok (.iload 4, 2) := by decide +kernel
theorem dX5_plan_84 : decode cX5_plan 84 = .ok (.iload 5, 2) := by decide +kernel
theorem dX5_plan_86 : decode cX5_plan 86 = .ok (.invokevirtual 122, 3) := by decide +kernel
theorem dX5_plan_89 : decode cX5_plan 89 = .ok (.aload_n 0, 1) := by decide +kernel
theorem dX5_plan_90 : decode cX5_plan 90 = .ok (.getfield 7, 3) := by decide +kernel
theorem dX5_plan_93 : decode cX5_plan 93 = .ok (.iconst 1, 1) := by decide +kernel
theorem dX5_plan_94 : decode cX5_plan 94 = .ok (.iaload, 1) := by decide +kernel
theorem dX5_plan_95 : decode cX5_plan 95 = .ok (.iconst 1, 1) := by decide +kernel
theorem dX5_plan_96 : decode cX5_plan 96 = .ok (.isub, 1) := by decide +kernel
theorem dX5_plan_97 : decode cX5_plan 97 = .ok (.ireturn, 1) := by decide +kernel
theorem dX5_owes_0 : decode cX5_owes 0 = .ok (.aload_n 0, 1) := by decide +kernel
theorem dX5_owes_1 : decode cX5_owes 1 = .ok (.getfield 7, 3) := by decide +kernel
theorem dX5_owes_4 : decode cX5_owes 4 = .ok (.sipush 176, 3) := by decide +kernel
theorem dX5_owes_7 : decode cX5_owes 7 = .ok (.iload_n 1, 1) := by decide +kernel
theorem dX5_owes_8 : decode cX5_owes 8 = .ok (.iadd, 1) := by decide +kernel
theorem dX5_owes_9 : decode cX5_owes 9 = .ok (.iaload, 1) := by decide +kernel
theorem dX5_owes_10 : decode cX5_owes 10 = .ok (.ineg, 1) := by decide +kernel
theorem dX5_owes_11 : decode cX5_owes 11 = .ok (.istore_n 3, 1) := by decide +kernel
theorem dX5_owes_12 : decode cX5_owes 12 = .ok (.iconst 0, 1) := by decide +kernel
theorem dX5_owes_13 : decode cX5_owes 13 = .ok (.istore 4, 2) := by decide +kernel
theorem dX5_owes_15 : decode cX5_owes 15 = .ok (.iload 4, 2) := by decide +kernel
theorem dX5_owes_17 : decode cX5_owes 17 = .ok (.iload_n 2, 1) := by decide +kernel
theorem dX5_owes_18 : decode cX5_owes 18 = .ok (.if_icmp .gt 27, 3) := by decide +kernel
theorem dX5_owes_21 : decode cX5_owes 21 = .ok (.iload_n 3, 1) := by decide +kernel
theorem dX5_owes_22 : decode cX5_owes 22 = .ok (.aload_n 0, 1) := by decide +kernel
theorem dX5_owes_23 : decode cX5_owes 23 = .ok (.getfield 7, 3) := by decide +kernel
theorem dX5_owes_26 : decode cX5_owes 26 = .ok (.bipush 8, 2) := by decide +kernel
theorem dX5_owes_28 : decode cX5_owes 28 = .ok (.bipush 20, 2) := by decide +kernel
theorem dX5_owes_30 : decode cX5_owes 30 = .ok (.iload_n 1, 1) := by decide +kernel
theorem dX5_owes_31 : decode cX5_owes 31 = .ok (.imul, 1) := by decide +kernel
theorem dX5_owes_32 : decode cX5_owes 32 = .ok (.iadd, 1) := by decide +kernel
theorem dX5_owes_33 : decode cX5_owes 33 = .ok (.iload 4, 2) := by decide +kernel
theorem dX5_owes_35 : decode cX5_owes 35 = .ok (.iadd, 1) := by decide +kernel
theorem dX5_owes_36 : decode cX5_owes 36 = .ok (.iaload, 1) := by decide +kernel
theorem dX5_owes_37 : decode cX5_owes 37 = .ok (.iadd, 1) := by decide +kernel
theorem dX5_owes_38 : decode cX5_owes 38 = .ok (.istore_n 3, 1) := by decide +kernel
theorem dX5_owes_39 : decode cX5_owes 39 = .ok (.iinc 4 1, 3) := by decide +kernel
theorem dX5_owes_42 : decode cX5_owes 42 = .ok (.goto (-27), 3) := by decide +kernel
theorem dX5_owes_45 : decode cX5_owes 45 = .ok (.iconst 0, 1) := by decide +kernel
theorem dX5_owes_46 : decode cX5_owes 46 = .ok (.istore 4, 2) := by decide +kernel
theorem dX5_owes_48 : decode cX5_owes 48 = .ok (.iload 4, 2) := by decide +kernel
theorem dX5_owes_50 : decode cX5_owes 50 = .ok (.aload_n 0, 1) := by decide +kernel
theorem dX5_owes_51 : decode cX5_owes 51 = .ok (.getfield 7, 3) := by decide +kernel
theorem dX5_owes_54 : decode cX5_owes 54 = .ok (.bipush 7, 2) := by decide +kernel
theorem dX5_owes_56 : decode cX5_owes 56 = .ok (.iaload, 1) := by decide +kernel
theorem dX5_owes_57 : decode cX5_owes 57 = .ok (.if_icmp .ge 50, 3) := by decide +kernel
theorem dX5_owes_60 : decode cX5_owes 60 = .ok (.iload_n 3, 1) := by decide +kernel
theorem dX5_owes_61 : decode cX5_owes 61 = .ok (.aload_n 0, 1) := by decide +kernel
theorem dX5_owes_62 : decode cX5_owes 62 = .ok (.iload 4, 2) := by decide +kernel
theorem dX5_owes_64 : decode cX5_owes 64 = .ok (.iconst 1, 1) := by decide +kernel
theorem dX5_owes_65 : decode cX5_owes 65 = .ok (.invokevirtual 89, 3) := by decide +kernel
theorem dX5_owes_68 : decode cX5_owes 68 = .ok (.iload_n 1, 1) := by decide +kernel
theorem dX5_owes_69 : decode cX5_owes 69 = .ok (.if_icmp .ne 29, 3) := by decide +kernel
theorem dX5_owes_72 : decode cX5_owes 72 = .ok (.aload_n 0, 1) := by decide +kernel
theorem dX5_owes_73 : decode cX5_owes 73 = .ok (.iload 4, 2) := by decide +kernel
theorem dX5_owes_75 : decode cX5_owes 75 = .ok (.bipush 6, 2) := by decide +kernel
theorem dX5_owes_77 : decode cX5_owes 77 = .ok (.invokevirtual 89, 3) := by decide +kernel
theorem dX5_owes_80 : decode cX5_owes 80 = .ok (.ifCond .ne 18, 3) := by decide +kernel
theorem dX5_owes_83 : decode cX5_owes 83 = .ok (.aload_n 0, 1) := by decide +kernel
theorem dX5_owes_84 : decode cX5_owes 84 = .ok (.iload 4, 2) := by decide +kernel
theorem dX5_owes_86 : decode cX5_owes 86 = .ok (.iconst 2, 1) := by decide +kernel
theorem dX5_owes_87 : decode cX5_owes 87 = .ok (.invokevirtual 89, 3) := by decide +kernel
theorem dX5_owes_90 : decode cX5_owes 90 = .ok (.iload_n 2, 1) := by decide +kernel
theorem dX5_owes_91 : decode cX5_owes 91 = .ok (.if_icmp .gt 7, 3) := by decide +kernel
theorem dX5_owes_94 : decode cX5_owes 94 = .ok (.iconst 1, 1) := by decide +kernel
theorem dX5_owes_95 : decode cX5_owes 95 = .ok (.goto 4, 3) := by decide +kernel
theorem dX5_owes_98 : decode cX5_owes 98 = .ok (.iconst 0, 1) := by decide +kernel
theorem dX5_owes_99 : decode cX5_owes 99 = .ok (.isub, 1) := by decide +kernel
theorem dX5_owes_100 : decode cX5_owes 100 = .ok (.istore_n 3, 1) := by decide +kernel
theorem dX5_owes_101 : decode cX5_owes 101 = .ok (.iinc 4 1, 3) := by decide +kernel
theorem dX5_owes_104 : decode cX5_owes 104 = .ok (.goto (-56), 3) := by decide +kernel
theorem dX5_owes_107 : decode cX5_owes 107 = .ok (.iload_n 3, 1) := by decide +kernel
theorem dX5_owes_108 : decode cX5_owes 108 = .ok (.ifCond .ge 7, 3) := by decide +kernel
theorem dX5_owes_111 : decode cX5_owes 111 = .ok (.iconst 0, 1) := by decide +kernel
theorem dX5_owes_112 : decode cX5_owes 112 = .ok (.goto 4, 3) := by decide +kernel
theorem dX5_owes_115 : decode cX5_owes 115 = .ok (.iload_n 3, 1) := by decide +kernel
theorem dX5_owes_116 : decode cX5_owes 116 = .ok (.ireturn, 1) := by decide +kernel
theorem dX5_owedByAll_0 : decode cX5_owedByAll 0 = .ok (.iconst 0, 1) := by decide +kernel
theorem dX5_owedByAll_1 : decode cX5_owedByAll 1 = .ok (.istore_n 2, 1) := by decide +kernel
theorem dX5_owedByAll_2 : decode cX5_owedByAll 2 = .ok (.iconst 0, 1) := by decide +kernel
theorem dX5_owedByAll_3 : decode cX5_owedByAll 3 = .ok (.istore_n 3, 1) := by decide +kernel
theorem dX5_owedByAll_4 : decode cX5_owedByAll 4 = .ok (.iload_n 3, 1) := by decide +kernel
theorem dX5_owedByAll_5 : decode cX5_owedByAll 5 = .ok (.aload_n 0, 1) := by decide +kernel
theorem dX5_owedByAll_6 : decode cX5_owedByAll 6 = .ok (.getfield 7, 3) := by decide +kernel
theorem dX5_owedByAll_9 : decode cX5_owedByAll 9 = .ok (.iconst 4, 1) := by decide +kernel
theorem dX5_owedByAll_10 : decode cX5_owedByAll 10 = .ok (.iaload, 1) := by decide +kernel
theorem dX5_owedByAll_11 : decode cX5_owedByAll 11 = .ok (.if_icmp .ge 18, 3) := by decide +kernel
theorem dX5_owedByAll_14 : decode cX5_owedByAll 14 = .ok (.iload_n 2, 1) := by decide +kernel
theorem dX5_owedByAll_15 : decode cX5_owedByAll 15 = .ok (.aload_n 0, 1) := by decide +kernel
theorem dX5_owedByAll_16 : decode cX5_owedByAll 16 = .ok (.iload_n 3, 1) := by decide +kernel
theorem dX5_owedByAll_17 : decode cX5_owedByAll 17 = .ok (.iload_n 1, 1) := by decide +kernel
theorem dX5_owedByAll_18 : decode cX5_owedByAll 18 = .ok (.invokevirtual 126, 3) := by decide +kernel
theorem dX5_owedByAll_21 : decode cX5_owedByAll 21 = .ok (.iadd, 1) := by decide +kernel
theorem dX5_owedByAll_22 : decode cX5_owedByAll 22 = .ok (.istore_n 2, 1) := by decide +kernel
theorem dX5_owedByAll_23 : decode cX5_owedByAll 23 = .ok (.iinc 3 1, 3) := by decide +kernel
theorem dX5_owedByAll_26 : decode cX5_owedByAll 26 = .ok (.goto (-22), 3) := by decide +kernel
theorem dX5_owedByAll_29 : decode cX5_owedByAll 29 = .ok (.iload_n 2, 1) := by decide +kernel
theorem dX5_owedByAll_30 : decode cX5_owedByAll 30 = .ok (.ireturn, 1) := by decide +kernel
theorem dX5_venueFor_0 : decode cX5_venueFor 0 = .ok (.iconst 0, 1) := by decide +kernel
theorem dX5_venueFor_1 : decode cX5_venueFor 1 = .ok (.istore_n 3, 1) := by decide +kernel
theorem dX5_venueFor_2 : decode cX5_venueFor 2 = .ok (.iload_n 3, 1) := by decide +kernel
theorem dX5_venueFor_3 : decode cX5_venueFor 3 = .ok (.aload_n 0, 1) := by decide +kernel
theorem dX5_venueFor_4 : decode cX5_venueFor 4 = .ok (.getfield 7, 3) := by decide +kernel
theorem dX5_venueFor_7 : decode cX5_venueFor 7 = .ok (.bipush 6, 2) := by decide +kernel
theorem dX5_venueFor_9 : decode cX5_venueFor 9 = .ok (.iaload, 1) := by decide +kernel
theorem dX5_venueFor_10 : decode cX5_venueFor 10 = .ok (.if_icmp .ge 42, 3) := by decide +kernel
theorem dX5_venueFor_13 : decode cX5_venueFor 13 = .ok (.aload_n 0, 1) := by decide +kernel
theorem dX5_venueFor_14 : decode cX5_venueFor 14 = .ok (.getfield 7, 3) := by decide +kernel
theorem dX5_venueFor_17 : decode cX5_venueFor 17 = .ok (.sipush 168, 3) := by decide +kernel
theorem dX5_venueFor_20 : decode cX5_venueFor 20 = .ok (.iload_n 1, 1) := by decide +kernel
theorem dX5_venueFor_21 : decode cX5_venueFor 21 = .ok (.iadd, 1) := by decide +kernel
theorem dX5_venueFor_22 : decode cX5_venueFor 22 = .ok (.iaload, 1) := by decide +kernel
theorem dX5_venueFor_23 : decode cX5_venueFor 23 = .ok (.iload_n 3, 1) := by decide +kernel
theorem dX5_venueFor_24 : decode cX5_venueFor 24 = .ok (.invokestatic 95, 3) := by decide +kernel
theorem dX5_venueFor_27 : decode cX5_venueFor 27 = .ok (.ifCond .eq 19, 3) := by decide +kernel
theorem dX5_venueFor_30 : decode cX5_venueFor 30 = .ok (.aload_n 0, 1) := by decide +kernel
theorem dX5_venueFor_31 : decode cX5_venueFor 31 = .ok (.getfield 19, 3) := by decide +kernel
theorem dX5_venueFor_34 : decode cX5_venueFor 34 = .ok (.bipush 28, 2) := by decide +kernel
theorem dX5_venueFor_36 : decode cX5_venueFor 36 = .ok (.iload_n 3, 1) := by decide +kernel
theorem dX5_venueFor_37 : decode cX5_venueFor 37 = .ok (.imul, 1) := by decide +kernel
theorem dX5_venueFor_38 : decode cX5_venueFor 38 = .ok (.iload_n 2, 1) := by decide +kernel
theorem dX5_venueFor_39 : decode cX5_venueFor 39 = .ok (.iadd, 1) := by decide +kernel
theorem dX5_venueFor_40 : decode cX5_venueFor 40 = .ok (.iaload, 1) := by decide +kernel
theorem dX5_venueFor_41 : decode cX5_venueFor 41 = .ok (.ifCond .le 5, 3) := by decide +kernel
theorem dX5_venueFor_44 : decode cX5_venueFor 44 = .ok (.iload_n 3, 1) := by decide +kernel
theorem dX5_venueFor_45 : decode cX5_venueFor 45 = .ok (.ireturn, 1) := by decide +kernel
theorem dX5_venueFor_46 : decode cX5_venueFor 46 = .ok (.iinc 3 1, 3) := by decide +kernel
theorem dX5_venueFor_49 : decode cX5_venueFor 49 = .ok (.goto (-47), 3) := by decide +kernel
theorem dX5_venueFor_52 : decode cX5_venueFor 52 = .ok (.iconst (-1), 1) := by decide +kernel
theorem dX5_venueFor_53 : decode cX5_venueFor 53 = .ok (.ireturn, 1) := by decide +kernel
theorem dX5_escortFor_0 : decode cX5_escortFor 0 = .ok (.iconst (-1), 1) := by decide +kernel
theorem dX5_escortFor_1 : decode cX5_escortFor 1 = .ok (.istore_n 2, 1) := by decide +kernel
theorem dX5_escortFor_2 : decode cX5_escortFor 2 = .ok (.iconst 0, 1) := by decide +kernel
theorem dX5_escortFor_3 : decode cX5_escortFor 3 = .ok (.istore_n 3, 1) := by decide +kernel
theorem dX5_escortFor_4 : decode cX5_escortFor 4 = .ok (.iload_n 3, 1) := by decide +kernel
theorem dX5_escortFor_5 : decode cX5_escortFor 5 = .ok (.aload_n 0, 1) := by decide +kernel
theorem dX5_escortFor_6 : decode cX5_escortFor 6 = .ok (.getfield 7, 3) := by decide +kernel
theorem dX5_escortFor_9 : decode cX5_escortFor 9 = .ok (.iconst 5, 1) := by decide +kernel
theorem dX5_escortFor_10 : decode cX5_escortFor 10 = .ok (.iaload, 1) := by decide +kernel
theorem dX5_escortFor_11 : decode cX5_escortFor 11 = .ok (.if_icmp .ge 56, 3) := by decide +kernel
theorem dX5_escortFor_14 : decode cX5_escortFor 14 = .ok (.aload_n 0, 1) := by decide +kernel
theorem dX5_escortFor_15 : decode cX5_escortFor 15 = .ok (.iload_n 3, 1) := by decide +kernel
theorem dX5_escortFor_16 : decode cX5_escortFor 16 = .ok (.iload_n 1, 1) := by decide +kernel
theorem dX5_escortFor_17 : decode cX5_escortFor 17 = .ok (.invokevirtual 102, 3) := by decide +kernel
theorem dX5_escortFor_20 : decode cX5_escortFor 20 = .ok (.ifCond .ne 7, 3) := by decide +kernel
theorem dX5_escortFor_23 : decode cX5_escortFor 23 = .ok (.iconst 1, 1) := by decide +kernel
theorem dX5_escortFor_24 : decode cX5_escortFor 24 = .ok (.goto 4, 3) := by decide +kernel
theorem dX5_escortFor_27 : decode cX5_escortFor 27 = .ok (.iconst 0, 1) := by decide +kernel
theorem dX5_escortFor_28 : decode cX5_escortFor 28 = .ok (.istore 4, 2) := by decide +kernel
theorem dX5_escortFor_30 : decode cX5_escortFor 30 = .ok (.iload 4, 2) := by decide +kernel
theorem dX5_escortFor_32 : decode cX5_escortFor 32 = .ok (.ifCond .eq 27, 3) := by decide +kernel
theorem dX5_escortFor_35 : decode cX5_escortFor 35 = .ok (.iload_n 2, 1) := by decide +kernel
theorem dX5_escortFor_36 : decode cX5_escortFor 36 = .ok (.iconst (-1), 1) := by decide +kernel
theorem dX5_escortFor_37 : decode cX5_escortFor 37 = .ok (.if_icmp .eq 18, 3) := by decide +kernel
theorem dX5_escortFor_40 : decode cX5_escortFor 40 = .ok (.aload_n 0, 1) := by decide +kernel
theorem dX5_escortFor_41 : decode cX5_escortFor 41 = .ok (.getfield 25, 3) := by decide +kernel
theorem dX5_escortFor_44 : decode cX5_escortFor 44 = .ok (.iload_n 3, 1) := by decide +kernel
theorem dX5_escortFor_45 : decode cX5_escortFor 45 = .ok (.iaload, 1) := by decide +kernel
theorem dX5_escortFor_46 : decode cX5_escortFor 46 = .ok (.aload_n 0, 1) := by decide +kernel
theorem dX5_escortFor_47 : decode cX5_escortFor 47 = .ok (.getfield 25, 3) := by decide +kernel
theorem dX5_escortFor_50 : decode cX5_escortFor 50 = .ok (.iload_n 2, 1) := by decide +kernel
theorem dX5_escortFor_51 : decode cX5_escortFor 51 = .ok (.iaload, 1) := by decide +kernel
theorem dX5_escortFor_52 : decode cX5_escortFor 52 = .ok (.if_icmp .ge 7, 3) := by decide +kernel
theorem dX5_escortFor_55 : decode cX5_escortFor 55 = .ok (.iload_n 3, 1) := by decide +kernel
theorem dX5_escortFor_56 : decode cX5_escortFor 56 = .ok (.goto 4, 3) := by decide +kernel
theorem dX5_escortFor_59 : decode cX5_escortFor 59 = .ok (.iload_n 2, 1) := by decide +kernel
theorem dX5_escortFor_60 : decode cX5_escortFor 60 = .ok (.istore_n 2, 1) := by decide +kernel
theorem dX5_escortFor_61 : decode cX5_escortFor 61 = .ok (.iinc 3 1, 3) := by decide +kernel
theorem dX5_escortFor_64 : decode cX5_escortFor 64 = .ok (.goto (-60), 3) := by decide +kernel
theorem dX5_escortFor_67 : decode cX5_escortFor 67 = .ok (.iload_n 2, 1) := by decide +kernel
theorem dX5_escortFor_68 : decode cX5_escortFor 68 = .ok (.ireturn, 1) := by decide +kernel
theorem dX5_slotFor_0 : decode cX5_slotFor 0 = .ok (.iload_n 2, 1) := by decide +kernel
theorem dX5_slotFor_1 : decode cX5_slotFor 1 = .ok (.aload_n 0, 1) := by decide +kernel
theorem dX5_slotFor_2 : decode cX5_slotFor 2 = .ok (.getfield 7, 3) := by decide +kernel
theorem dX5_slotFor_5 : decode cX5_slotFor 5 = .ok (.iconst 0, 1) := by decide +kernel
theorem dX5_slotFor_6 : decode cX5_slotFor 6 = .ok (.iaload, 1) := by decide +kernel
theorem dX5_slotFor_7 : decode cX5_slotFor 7 = .ok (.if_icmp .lt 15, 3) := by decide +kernel
theorem dX5_slotFor_10 : decode cX5_slotFor 10 = .ok (.aload_n 0, 1) := by decide +kernel
theorem dX5_slotFor_11 : decode cX5_slotFor 11 = .ok (.getfield 7, 3) := by decide +kernel
theorem dX5_slotFor_14 : decode cX5_slotFor 14 = .ok (.bipush 7, 2) := by decide +kernel
theorem dX5_slotFor_16 : decode cX5_slotFor 16 = .ok (.iaload, 1) := by decide +kernel
theorem dX5_slotFor_17 : decode cX5_slotFor 17 = .ok (.bipush 60, 2) := by decide +kernel
theorem dX5_slotFor_19 : decode cX5_slotFor 19 = .ok (.if_icmp .ne 5, 3) := by decide +kernel
theorem dX5_slotFor_22 : decode cX5_slotFor 22 = .ok (.iconst (-1), 1) := by decide +kernel
theorem dX5_slotFor_23 : decode cX5_slotFor 23 = .ok (.ireturn, 1) := by decide +kernel
theorem dX5_slotFor_24 : decode cX5_slotFor 24 = .ok (.iconst 0, 1) := by decide +kernel
theorem dX5_slotFor_25 : decode cX5_slotFor 25 = .ok (.istore_n 3, 1) := by decide +kernel
theorem dX5_slotFor_26 : decode cX5_slotFor 26 = .ok (.iload_n 3, 1) := by decide +kernel
theorem dX5_slotFor_27 : decode cX5_slotFor 27 = .ok (.bipush 28, 2) := by decide +kernel
theorem dX5_slotFor_29 : decode cX5_slotFor 29 = .ok (.if_icmp .ge 45, 3) := by decide +kernel
theorem dX5_slotFor_32 : decode cX5_slotFor 32 = .ok (.aload_n 0, 1) := by decide +kernel
theorem dX5_slotFor_33 : decode cX5_slotFor 33 = .ok (.getfield 28, 3) := by decide +kernel
theorem dX5_slotFor_36 : decode cX5_slotFor 36 = .ok (.iload_n 1, 1) := by decide +kernel
theorem dX5_slotFor_37 : decode cX5_slotFor 37 = .ok (.iaload, 1) := by decide +kernel
theorem dX5_slotFor_38 : decode cX5_slotFor 38 = .ok (.iload_n 3, 1) := by decide +kernel
theorem dX5_slotFor_39 : decode cX5_slotFor 39 = .ok (.iconst 4, 1) := by decide +kernel
theorem dX5_slotFor_40 : decode cX5_slotFor 40 = .ok (.idiv, 1) := by decide +kernel
theorem dX5_slotFor_41 : decode cX5_slotFor 41 = .ok (.invokestatic 95, 3) := by decide +kernel
theorem dX5_slotFor_44 : decode cX5_slotFor 44 = .ok (.ifCond .ne 24, 3) := by decide +kernel
theorem dX5_slotFor_47 : decode cX5_slotFor 47 = .ok (.aload_n 0, 1) := by decide +kernel
theorem dX5_slotFor_48 : decode cX5_slotFor 48 = .ok (.iload_n 1, 1) := by decide +kernel
theorem dX5_slotFor_49 : decode cX5_slotFor 49 = .ok (.iload_n 3, 1) := by decide +kernel
theorem dX5_slotFor_50 : decode cX5_slotFor 50 = .ok (.invokevirtual 129, 3) := by decide +kernel
theorem dX5_slotFor_53 : decode cX5_slotFor 53 = .ok (.iconst (-1), 1) := by decide +kernel
theorem dX5_slotFor_54 : decode cX5_slotFor 54 = .ok (.if_icmp .eq 14, 3) := by decide +kernel
theorem dX5_slotFor_57 : decode cX5_slotFor 57 = .ok (.aload_n 0, 1) := by decide +kernel
theorem dX5_slotFor_58 : decode cX5_slotFor 58 = .ok (.iload_n 3, 1) := by decide +kernel
theorem dX5_slotFor_59 : decode cX5_slotFor 59 = .ok (.invokevirtual 132, 3) := by decide +kernel
theorem dX5_slotFor_62 : decode cX5_slotFor 62 = .ok (.iconst (-1), 1) := by decide +kernel
theorem dX5_slotFor_63 : decode cX5_slotFor 63 = .ok (.if_icmp .eq 5, 3) := by decide +kernel
theorem dX5_slotFor_66 : decode cX5_slotFor 66 = .ok (.iload_n 3, 1) := by decide +kernel
theorem dX5_slotFor_67 : decode cX5_slotFor 67 = .ok (.ireturn, 1) := by decide +kernel
theorem dX5_slotFor_68 : decode cX5_slotFor 68 = .ok (.iinc 3 1, 3) := by decide +kernel
theorem dX5_slotFor_71 : decode cX5_slotFor 71 = .ok (.goto (-45), 3) := by decide +kernel
theorem dX5_slotFor_74 : decode cX5_slotFor 74 = .ok (.iconst (-1), 1) := by decide +kernel
theorem dX5_slotFor_75 : decode cX5_slotFor 75 = .ok (.ireturn, 1) := by decide +kernel
theorem dX5_plansOne_0 : decode cX5_plansOne 0 = .ok (.iconst (-1), 1) := by decide +kernel
theorem dX5_plansOne_1 : decode cX5_plansOne 1 = .ok (.istore_n 2, 1) := by decide +kernel
theorem dX5_plansOne_2 : decode cX5_plansOne 2 = .ok (.iconst 0, 1) := by decide +kernel
theorem dX5_plansOne_3 : decode cX5_plansOne 3 = .ok (.istore_n 3, 1) := by decide +kernel
theorem dX5_plansOne_4 : decode cX5_plansOne 4 = .ok (.aload_n 0, 1) := by decide +kernel
theorem dX5_plansOne_5 : decode cX5_plansOne 5 = .ok (.iload_n 1, 1) := by decide +kernel
theorem dX5_plansOne_6 : decode cX5_plansOne 6 = .ok (.invokevirtual 98, 3) := by decide +kernel
theorem dX5_plansOne_9 : decode cX5_plansOne 9 = .ok (.iconst 0, 1) := by decide +kernel
theorem dX5_plansOne_10 : decode cX5_plansOne 10 = .ok (.istore 4, 2) := by decide +kernel
theorem dX5_plansOne_12 : decode cX5_plansOne 12 = .ok (.iload 4, 2) := by decide +kernel
theorem dX5_plansOne_14 : decode cX5_plansOne 14 = .ok (.aload_n 0, 1) := by decide +kernel
theorem dX5_plansOne_15 : decode cX5_plansOne 15 = .ok (.getfield 7, 3) := by decide +kernel
theorem dX5_plansOne_18 : decode cX5_plansOne 18 = .ok (.iconst 4, 1) := by decide +kernel
theorem dX5_plansOne_19 : decode cX5_plansOne 19 = .ok (.iaload, 1) := by decide +kernel
theorem dX5_plansOne_20 : decode cX5_plansOne 20 = .ok (.if_icmp .ge 66, 3) := by decide +kernel
theorem dX5_plansOne_23 : decode cX5_plansOne 23 = .ok (.aload_n 0, 1) := by decide +kernel
theorem dX5_plansOne_24 : decode cX5_plansOne 24 = .ok (.iload 4, 2) := by decide +kernel
theorem dX5_plansOne_26 : decode cX5_plansOne 26 = .ok (.iload_n 1, 1) := by decide +kernel
theorem dX5_plansOne_27 : decode cX5_plansOne 27 = .ok (.invokevirtual 126, 3) := by decide +kernel
theorem dX5_plansOne_30 : decode cX5_plansOne 30 = .ok (.istore 5, 2) := by decide +kernel
theorem dX5_plansOne_32 : decode cX5_plansOne 32 = .ok (.iload 5, 2) := by decide +kernel
theorem dX5_plansOne_34 : decode cX5_plansOne 34 = .ok (.iload_n 3, 1) := by decide +kernel
theorem dX5_plansOne_35 : decode cX5_plansOne 35 = .ok (.if_icmp .le 18, 3) := by decide +kernel
theorem dX5_plansOne_38 : decode cX5_plansOne 38 = .ok (.aload_n 0, 1) := by decide +kernel
theorem dX5_plansOne_39 : decode cX5_plansOne 39 = .ok (.iload 4, 2) := by decide +kernel
theorem dX5_plansOne_41 : decode cX5_plansOne 41 = .ok (.iload_n 1, 1) := by decide +kernel
theorem dX5_plansOne_42 : decode cX5_plansOne 42 = .ok (.invokevirtual 136, 3) := by decide +kernel
theorem dX5_plansOne_45 : decode cX5_plansOne 45 = .ok (.iconst (-1), 1) := by decide +kernel
theorem dX5_plansOne_46 : decode cX5_plansOne 46 = .ok (.if_icmp .eq 7, 3) := by decide +kernel
theorem dX5_plansOne_49 : decode cX5_plansOne 49 = .ok (.iconst 1, 1) := by decide +kernel
theorem dX5_plansOne_50 : decode cX5_plansOne 50 = .ok (.goto 4, 3) := by decide +kernel
theorem dX5_plansOne_53 : decode cX5_plansOne 53 = .ok (.iconst 0, 1) := by decide +kernel
theorem dX5_plansOne_54 : decode cX5_plansOne 54 = .ok (.istore 6, 2) := by decide +kernel
theorem dX5_plansOne_56 : decode cX5_plansOne 56 = .ok (.iload 6, 2) := by decide +kernel
theorem dX5_plansOne_58 : decode cX5_plansOne 58 = .ok (.ifCond .eq 8, 3) := by decide +kernel
theorem dX5_plansOne_61 : decode cX5_plansOne 61 = .ok (.iload 4, 2) := by decide +kernel
theorem dX5_plansOne_63 : decode cX5_plansOne 63 = .ok (.goto 4, 3) := by decide +kernel
theorem dX5_plansOne_66 : decode cX5_plansOne 66 = .ok (.iload_n 2, 1) := by decide +kernel
theorem dX5_plansOne_67 : decode cX5_plansOne 67 = .ok (.istore_n 2, 1) := by decide +kernel
theorem dX5_plansOne_68 : decode cX5_plansOne 68 = .ok (.iload 6, 2) := by decide +kernel
theorem dX5_plansOne_70 : decode cX5_plansOne 70 = .ok (.ifCond .eq 8, 3) := by decide +kernel
theorem dX5_plansOne_73 : decode cX5_plansOne 73 = .ok (.iload 5, 2) := by decide +kernel
theorem dX5_plansOne_75 : decode cX5_plansOne 75 = .ok (.goto 4, 3) := by decide +kernel
theorem dX5_plansOne_78 : decode cX5_plansOne 78 = .ok (.iload_n 3, 1) := by decide +kernel
theorem dX5_plansOne_79 : decode cX5_plansOne 79 = .ok (.istore_n 3, 1) := by decide +kernel
theorem dX5_plansOne_80 : decode cX5_plansOne 80 = .ok (.iinc 4 1, 3) := by decide +kernel
theorem dX5_plansOne_83 : decode cX5_plansOne 83 = .ok (.goto (-71), 3) := by decide +kernel
theorem dX5_plansOne_86 : decode cX5_plansOne 86 = .ok (.iload_n 2, 1) := by decide +kernel
theorem dX5_plansOne_87 : decode cX5_plansOne 87 = .ok (.iconst (-1), 1) := by decide +kernel
theorem dX5_plansOne_88 : decode cX5_plansOne 88 = .ok (.if_icmp .ne 5, 3) := by decide +kernel
theorem dX5_plansOne_91 : decode cX5_plansOne 91 = .ok (.iconst 0, 1) := by decide +kernel
theorem dX5_plansOne_92 : decode cX5_plansOne 92 = .ok (.ireturn, 1) := by decide +kernel
theorem dX5_plansOne_93 : decode cX5_plansOne 93 = .ok (.aload_n 0, 1) := by decide +kernel
theorem dX5_plansOne_94 : decode cX5_plansOne 94 = .ok (.iload_n 2, 1) := by decide +kernel
theorem dX5_plansOne_95 : decode cX5_plansOne 95 = .ok (.iload_n 1, 1) := by decide +kernel
theorem dX5_plansOne_96 : decode cX5_plansOne 96 = .ok (.invokevirtual 136, 3) := by decide +kernel
theorem dX5_plansOne_99 : decode cX5_plansOne 99 = .ok (.istore 4, 2) := by decide +kernel
theorem dX5_plansOne_101 : decode cX5_plansOne 101 = .ok (.aload_n 0, 1) := by decide +kernel
theorem dX5_plansOne_102 : decode cX5_plansOne 102 = .ok (.iload_n 2, 1) := by decide +kernel
theorem dX5_plansOne_103 : decode cX5_plansOne 103 = .ok (.iload_n 1, 1) := by decide +kernel
theorem dX5_plansOne_104 : decode cX5_plansOne 104 = .ok (.iload 4, 2) := by decide +kernel
theorem dX5_plansOne_106 : decode cX5_plansOne 106 = .ok (.aload_n 0, 1) := by decide +kernel
theorem dX5_plansOne_107 : decode cX5_plansOne 107 = .ok (.iload 4, 2) := by decide +kernel
theorem dX5_plansOne_109 : decode cX5_plansOne 109 = .ok (.invokevirtual 132, 3) := by decide +kernel
theorem dX5_plansOne_112 : decode cX5_plansOne 112 = .ok (.aload_n 0, 1) := by decide +kernel
theorem dX5_plansOne_113 : decode cX5_plansOne 113 = .ok (.iload_n 2, 1) := by decide +kernel
theorem dX5_plansOne_114 : decode cX5_plansOne 114 = .ok (.iload 4, 2) := by decide +kernel
theorem dX5_plansOne_116 : decode cX5_plansOne 116 = .ok (.invokevirtual 129, 3) := by decide +kernel
theorem dX5_plansOne_119 : decode cX5_plansOne 119 = .ok (.invokevirtual 122, 3) := by decide +kernel
theorem dX5_plansOne_122 : decode cX5_plansOne 122 = .ok (.iconst 1, 1) := by decide +kernel
theorem dX5_plansOne_123 : decode cX5_plansOne 123 = .ok (.ireturn, 1) := by decide +kernel
theorem dX5_plans_0 : decode cX5_plans 0 = .ok (.iconst 0, 1) := by decide +kernel
theorem dX5_plans_1 : decode cX5_plans 1 = .ok (.istore_n 2, 1) := by decide +kernel
theorem dX5_plans_2 : decode cX5_plans 2 = .ok (.aload_n 0, 1) := by decide +kernel
theorem dX5_plans_3 : decode cX5_plans 3 = .ok (.iload_n 1, 1) := by decide +kernel
theorem dX5_plans_4 : decode cX5_plans 4 = .ok (.invokevirtual 139, 3) := by decide +kernel
theorem dX5_plans_7 : decode cX5_plans 7 = .ok (.ifCond .eq 9, 3) := by decide +kernel
theorem dX5_plans_10 : decode cX5_plans 10 = .ok (.iinc 2 1, 3) := by decide +kernel
theorem dX5_plans_13 : decode cX5_plans 13 = .ok (.goto (-11), 3) := by decide +kernel
theorem dX5_plans_16 : decode cX5_plans 16 = .ok (.iload_n 2, 1) := by decide +kernel
theorem dX5_plans_17 : decode cX5_plans 17 = .ok (.ireturn, 1) := by decide +kernel
theorem dX5_planWeek_0 : decode cX5_planWeek 0 = .ok (.aload_n 0, 1) := by decide +kernel
theorem dX5_planWeek_1 : decode cX5_planWeek 1 = .ok (.iload_n 1, 1) := by decide +kernel
theorem dX5_planWeek_2 : decode cX5_planWeek 2 = .ok (.invokestatic 112, 3) := by decide +kernel
theorem dX5_planWeek_5 : decode cX5_planWeek 5 = .ok (.iload_n 1, 1) := by decide +kernel
theorem dX5_planWeek_6 : decode cX5_planWeek 6 = .ok (.aload_n 0, 1) := by decide +kernel
theorem dX5_planWeek_7 : decode cX5_planWeek 7 = .ok (.getfield 7, 3) := by decide +kernel
theorem dX5_planWeek_10 : decode cX5_planWeek 10 = .ok (.iconst 0, 1) := by decide +kernel
theorem dX5_planWeek_11 : decode cX5_planWeek 11 = .ok (.iaload, 1) := by decide +kernel
theorem dX5_planWeek_12 : decode cX5_planWeek 12 = .ok (.if_icmp .lt 7, 3) := by decide +kernel
theorem dX5_planWeek_15 : decode cX5_planWeek 15 = .ok (.iconst 1, 1) := by decide +kernel
theorem dX5_planWeek_16 : decode cX5_planWeek 16 = .ok (.goto 4, 3) := by decide +kernel
theorem dX5_planWeek_19 : decode cX5_planWeek 19 = .ok (.iconst 0, 1) := by decide +kernel
theorem dX5_planWeek_20 : decode cX5_planWeek 20 = .ok (.iconst 1, 1) := by decide +kernel
theorem dX5_planWeek_21 : decode cX5_planWeek 21 = .ok (.invokevirtual 58, 3) := by decide +kernel
theorem dX5_planWeek_24 : decode cX5_planWeek 24 = .ok (.ifCond .ne 5, 3) := by decide +kernel
theorem dX5_planWeek_27 : decode cX5_planWeek 27 = .ok (.iconst 0, 1) := by decide +kernel
theorem dX5_planWeek_28 : decode cX5_planWeek 28 = .ok (.ireturn, 1) := by decide +kernel
theorem dX5_planWeek_29 : decode cX5_planWeek 29 = .ok (.aload_n 0, 1) := by decide +kernel
theorem dX5_planWeek_30 : decode cX5_planWeek 30 = .ok (.invokevirtual 62, 3) := by decide +kernel
theorem dX5_planWeek_33 : decode cX5_planWeek 33 = .ok (.aload_n 0, 1) := by decide +kernel
theorem dX5_planWeek_34 : decode cX5_planWeek 34 = .ok (.iload_n 1, 1) := by decide +kernel
theorem dX5_planWeek_35 : decode cX5_planWeek 35 = .ok (.invokevirtual 142, 3) := by decide +kernel
theorem dX5_planWeek_38 : decode cX5_planWeek 38 = .ok (.ireturn, 1) := by decide +kernel
theorem dX5_cancel_0 : decode cX5_cancel 0 = .ok (.aload_n 0, 1) := by decide +kernel
theorem dX5_cancel_1 : decode cX5_cancel 1 = .ok (.iload_n 1, 1) := by decide +kernel
theorem dX5_cancel_2 : decode cX5_cancel 2 = .ok (.invokevirtual 145, 3) := by decide +kernel
theorem dX5_cancel_5 : decode cX5_cancel 5 = .ok (.istore_n 2, 1) := by decide +kernel
theorem dX5_cancel_6 : decode cX5_cancel 6 = .ok (.aload_n 0, 1) := by decide +kernel
theorem dX5_cancel_7 : decode cX5_cancel 7 = .ok (.iload_n 2, 1) := by decide +kernel
theorem dX5_cancel_8 : decode cX5_cancel 8 = .ok (.iconst (-1), 1) := by decide +kernel
theorem dX5_cancel_9 : decode cX5_cancel 9 = .ok (.if_icmp .eq 7, 3) := by decide +kernel
theorem dX5_cancel_12 : decode cX5_cancel 12 = .ok (.iconst 1, 1) := by decide +kernel
theorem dX5_cancel_13 : decode cX5_cancel 13 = .ok (.goto 4, 3) := by decide +kernel
theorem dX5_cancel_16 : decode cX5_cancel 16 = .ok (.iconst 0, 1) := by decide +kernel
theorem dX5_cancel_17 : decode cX5_cancel 17 = .ok (.iload_n 2, 1) := by decide +kernel
theorem dX5_cancel_18 : decode cX5_cancel 18 = .ok (.iconst (-1), 1) := by decide +kernel
theorem dX5_cancel_19 : decode cX5_cancel 19 = .ok (.if_icmp .eq 17, 3) := by decide +kernel
theorem dX5_cancel_22 : decode cX5_cancel 22 = .ok (.aload_n 0, 1) := by decide +kernel
theorem dX5_cancel_23 : decode cX5_cancel 23 = .ok (.iload_n 2, 1) := by decide +kernel
theorem dX5_cancel_24 : decode cX5_cancel 24 = .ok (.bipush 6, 2) := by decide +kernel
theorem dX5_cancel_26 : decode cX5_cancel 26 = .ok (.invokevirtual 89, 3) := by decide +kernel
theorem dX5_cancel_29 : decode cX5_cancel 29 = .ok (.ifCond .ne 7, 3) := by decide +kernel
theorem dX5_cancel_32 : decode cX5_cancel 32 = .ok (.iconst 1, 1) := by decide +kernel
theorem dX5_cancel_33 : decode cX5_cancel 33 = .ok (.goto 4, 3) := by decide +kernel
theorem dX5_cancel_36 : decode cX5_cancel 36 = .ok (.iconst 0, 1) := by decide +kernel
theorem dX5_cancel_37 : decode cX5_cancel 37 = .ok (.iconst 1, 1) := by decide +kernel
theorem dX5_cancel_38 : decode cX5_cancel 38 = .ok (.invokevirtual 58, 3) := by decide +kernel
theorem dX5_cancel_41 : decode cX5_cancel 41 = .ok (.ifCond .ne 5, 3) := by decide +kernel
theorem dX5_cancel_44 : decode cX5_cancel 44 = .ok (.iconst 0, 1) := by decide +kernel
theorem dX5_cancel_45 : decode cX5_cancel 45 = .ok (.ireturn, 1) := by decide +kernel
theorem dX5_cancel_46 : decode cX5_cancel 46 = .ok (.aload_n 0, 1) := by decide +kernel
theorem dX5_cancel_47 : decode cX5_cancel 47 = .ok (.invokevirtual 62, 3) := by decide +kernel
theorem dX5_cancel_50 : decode cX5_cancel 50 = .ok (.aload_n 0, 1) := by decide +kernel
theorem dX5_cancel_51 : decode cX5_cancel 51 = .ok (.iload_n 2, 1) := by decide +kernel
theorem dX5_cancel_52 : decode cX5_cancel 52 = .ok (.iconst 2, 1) := by decide +kernel
theorem dX5_cancel_53 : decode cX5_cancel 53 = .ok (.invokevirtual 89, 3) := by decide +kernel
theorem dX5_cancel_56 : decode cX5_cancel 56 = .ok (.istore_n 3, 1) := by decide +kernel
theorem dX5_cancel_57 : decode cX5_cancel 57 = .ok (.aload_n 0, 1) := by decide +kernel
theorem dX5_cancel_58 : decode cX5_cancel 58 = .ok (.iload_n 2, 1) := by decide +kernel
theorem dX5_cancel_59 : decode cX5_cancel 59 = .ok (.invokevirtual 148, 3) := by decide +kernel
theorem dX5_cancel_62 : decode cX5_cancel 62 = .ok (.iload_n 3, 1) := by decide +kernel
theorem dX5_cancel_63 : decode cX5_cancel 63 = .ok (.ireturn, 1) := by decide +kernel
theorem dX5_holds_0 : decode cX5_holds 0 = .ok (.aload_n 0, 1) := by decide +kernel
theorem dX5_holds_1 : decode cX5_holds 1 = .ok (.getfield 7, 3) := by decide +kernel
theorem dX5_holds_4 : decode cX5_holds 4 = .ok (.sipush 215, 3) := by decide +kernel
theorem dX5_holds_7 : decode cX5_holds 7 = .ok (.bipush 7, 2) := by decide +kernel
theorem dX5_holds_9 : decode cX5_holds 9 = .ok (.iload_n 1, 1) := by decide +kernel
theorem dX5_holds_10 : decode cX5_holds 10 = .ok (.imul, 1) := by decide +kernel
theorem dX5_holds_11 : decode cX5_holds 11 = .ok (.iadd, 1) := by decide +kernel
theorem dX5_holds_12 : decode cX5_holds 12 = .ok (.bipush 6, 2) := by decide +kernel
theorem dX5_holds_14 : decode cX5_holds 14 = .ok (.iadd, 1) := by decide +kernel
theorem dX5_holds_15 : decode cX5_holds 15 = .ok (.iconst 1, 1) := by decide +kernel
theorem dX5_holds_16 : decode cX5_holds 16 = .ok (.iastore, 1) := by decide +kernel
theorem dX5_holds_17 : decode cX5_holds 17 = .ok (.aload_n 0, 1) := by decide +kernel
theorem dX5_holds_18 : decode cX5_holds 18 = .ok (.getfield 7, 3) := by decide +kernel
theorem dX5_holds_21 : decode cX5_holds 21 = .ok (.iconst 2, 1) := by decide +kernel
theorem dX5_holds_22 : decode cX5_holds 22 = .ok (.dup2, 1) := by decide +kernel
theorem dX5_holds_23 : decode cX5_holds 23 = .ok (.iaload, 1) := by decide +kernel
theorem dX5_holds_24 : decode cX5_holds 24 = .ok (.iconst 1, 1) := by decide +kernel
theorem dX5_holds_25 : decode cX5_holds 25 = .ok (.iadd, 1) := by decide +kernel
theorem dX5_holds_26 : decode cX5_holds 26 = .ok (.iastore, 1) := by decide +kernel
theorem dX5_holds_27 : decode cX5_holds 27 = .ok (.aload_n 0, 1) := by decide +kernel
theorem dX5_holds_28 : decode cX5_holds 28 = .ok (.getfield 7, 3) := by decide +kernel
theorem dX5_holds_31 : decode cX5_holds 31 = .ok (.sipush 176, 3) := by decide +kernel
theorem dX5_holds_34 : decode cX5_holds 34 = .ok (.aload_n 0, 1) := by decide +kernel
theorem dX5_holds_35 : decode cX5_holds 35 = .ok (.iload_n 1, 1) := by decide +kernel
theorem dX5_holds_36 : decode cX5_holds 36 = .ok (.iconst 1, 1) := by decide +kernel
theorem dX5_holds_37 : decode cX5_holds 37 = .ok (.invokevirtual 89, 3) := by decide +kernel
theorem dX5_holds_40 : decode cX5_holds 40 = .ok (.iadd, 1) := by decide +kernel
theorem dX5_holds_41 : decode cX5_holds 41 = .ok (.dup2, 1) := by decide +kernel
theorem dX5_holds_42 : decode cX5_holds 42 = .ok (.iaload, 1) := by decide +kernel
theorem dX5_holds_43 : decode cX5_holds 43 = .ok (.iconst 1, 1) := by decide +kernel
theorem dX5_holds_44 : decode cX5_holds 44 = .ok (.iadd, 1) := by decide +kernel
theorem dX5_holds_45 : decode cX5_holds 45 = .ok (.iastore, 1) := by decide +kernel
theorem dX5_holds_46 : decode cX5_holds 46 = .ok (.aload_n 0, 1) := by decide +kernel
theorem dX5_holds_47 : decode cX5_holds 47 = .ok (.getfield 7, 3) := by decide +kernel
theorem dX5_holds_50 : decode cX5_holds 50 = .ok (.sipush 204, 3) := by decide +kernel
theorem dX5_holds_53 : decode cX5_holds 53 = .ok (.aload_n 0, 1) := by decide +kernel
theorem dX5_holds_54 : decode cX5_holds 54 = .ok (.iload_n 1, 1) := by decide +kernel
theorem dX5_holds_55 : decode cX5_holds 55 = .ok (.iconst 4, 1) := by decide +kernel
theorem dX5_holds_56 : decode cX5_holds 56 = .ok (.invokevirtual 89, 3) := by decide +kernel
theorem dX5_holds_59 : decode cX5_holds 59 = .ok (.iadd, 1) := by decide +kernel
theorem dX5_holds_60 : decode cX5_holds 60 = .ok (.dup2, 1) := by decide +kernel
theorem dX5_holds_61 : decode cX5_holds 61 = .ok (.iaload, 1) := by decide +kernel
theorem dX5_holds_62 : decode cX5_holds 62 = .ok (.iconst 1, 1) := by decide +kernel
theorem dX5_holds_63 : decode cX5_holds 63 = .ok (.iadd, 1) := by decide +kernel
theorem dX5_holds_64 : decode cX5_holds 64 = .ok (.iastore, 1) := by decide +kernel
theorem dX5_holds_65 : decode cX5_holds 65 = .ok (.return_, 1) := by decide +kernel
theorem dX5_misses_0 : decode cX5_misses 0 = .ok (.aload_n 0, 1) := by decide +kernel
theorem dX5_misses_1 : decode cX5_misses 1 = .ok (.getfield 7, 3) := by decide +kernel
theorem dX5_misses_4 : decode cX5_misses 4 = .ok (.sipush 215, 3) := by decide +kernel
theorem dX5_misses_7 : decode cX5_misses 7 = .ok (.bipush 7, 2) := by decide +kernel
theorem dX5_misses_9 : decode cX5_misses 9 = .ok (.iload_n 1, 1) := by decide +kernel
theorem dX5_misses_10 : decode cX5_misses 10 = .ok (.imul, 1) := by decide +kernel
theorem dX5_misses_11 : decode cX5_misses 11 = .ok (.iadd, 1) := by decide +kernel
theorem dX5_misses_12 : decode cX5_misses 12 = .ok (.bipush 6, 2) := by decide +kernel
theorem dX5_misses_14 : decode cX5_misses 14 = .ok (.iadd, 1) := by decide +kernel
theorem dX5_misses_15 : decode cX5_misses 15 = .ok (.iconst 2, 1) := by decide +kernel
theorem dX5_misses_16 : decode cX5_misses 16 = .ok (.iastore, 1) := by decide +kernel
theorem dX5_misses_17 : decode cX5_misses 17 = .ok (.aload_n 0, 1) := by decide +kernel
theorem dX5_misses_18 : decode cX5_misses 18 = .ok (.getfield 7, 3) := by decide +kernel
theorem dX5_misses_21 : decode cX5_misses 21 = .ok (.iconst 3, 1) := by decide +kernel
theorem dX5_misses_22 : decode cX5_misses 22 = .ok (.dup2, 1) := by decide +kernel
theorem dX5_misses_23 : decode cX5_misses 23 = .ok (.iaload, 1) := by decide +kernel
theorem dX5_misses_24 : decode cX5_misses 24 = .ok (.iconst 1, 1) := by decide +kernel
theorem dX5_misses_25 : decode cX5_misses 25 = .ok (.iadd, 1) := by decide +kernel
theorem dX5_misses_26 : decode cX5_misses 26 = .ok (.iastore, 1) := by decide +kernel
theorem dX5_misses_27 : decode cX5_misses 27 = .ok (.aload_n 0, 1) := by decide +kernel
theorem dX5_misses_28 : decode cX5_misses 28 = .ok (.getfield 7, 3) := by decide +kernel
theorem dX5_misses_31 : decode cX5_misses 31 = .ok (.sipush 184, 3) := by decide +kernel
theorem dX5_misses_34 : decode cX5_misses 34 = .ok (.aload_n 0, 1) := by decide +kernel
theorem dX5_misses_35 : decode cX5_misses 35 = .ok (.iload_n 1, 1) := by decide +kernel
theorem dX5_misses_36 : decode cX5_misses 36 = .ok (.iconst 1, 1) := by decide +kernel
theorem dX5_misses_37 : decode cX5_misses 37 = .ok (.invokevirtual 89, 3) := by decide +kernel
theorem dX5_misses_40 : decode cX5_misses 40 = .ok (.iadd, 1) := by decide +kernel
theorem dX5_misses_41 : decode cX5_misses 41 = .ok (.dup2, 1) := by decide +kernel
theorem dX5_misses_42 : decode cX5_misses 42 = .ok (.iaload, 1) := by decide +kernel
theorem dX5_misses_43 : decode cX5_misses 43 = .ok (.iconst 1, 1) := by decide +kernel
theorem dX5_misses_44 : decode cX5_misses 44 = .ok (.iadd, 1) := by decide +kernel
theorem dX5_misses_45 : decode cX5_misses 45 = .ok (.iastore, 1) := by decide +kernel
theorem dX5_misses_46 : decode cX5_misses 46 = .ok (.return_, 1) := by decide +kernel
theorem dX5_mayTell_0 : decode cX5_mayTell 0 = .ok (.iload_n 1, 1) := by decide +kernel
theorem dX5_mayTell_1 : decode cX5_mayTell 1 = .ok (.iconst (-1), 1) := by decide +kernel
theorem dX5_mayTell_2 : decode cX5_mayTell 2 = .ok (.if_icmp .eq 32, 3) := by decide +kernel
theorem dX5_mayTell_5 : decode cX5_mayTell 5 = .ok (.aload_n 0, 1) := by decide +kernel
theorem dX5_mayTell_6 : decode cX5_mayTell 6 = .ok (.iload_n 1, 1) := by decide +kernel
theorem dX5_mayTell_7 : decode cX5_mayTell 7 = .ok (.bipush 6, 2) := by decide +kernel
theorem dX5_mayTell_9 : decode cX5_mayTell 9 = .ok (.invokevirtual 89, 3) := by decide +kernel
theorem dX5_mayTell_12 : decode cX5_mayTell 12 = .ok (.ifCond .ne 22, 3) := by decide +kernel
theorem dX5_mayTell_15 : decode cX5_mayTell 15 = .ok (.aload_n 0, 1) := by decide +kernel
theorem dX5_mayTell_16 : decode cX5_mayTell 16 = .ok (.iload_n 1, 1) := by decide +kernel
theorem dX5_mayTell_17 : decode cX5_mayTell 17 = .ok (.iconst 2, 1) := by decide +kernel
theorem dX5_mayTell_18 : decode cX5_mayTell 18 = .ok (.invokevirtual 89, 3) := by decide +kernel
theorem dX5_mayTell_21 : decode cX5_mayTell 21 = .ok (.aload_n 0, 1) := by decide +kernel
theorem dX5_mayTell_22 : decode cX5_mayTell 22 = .ok (.getfield 7, 3) := by decide +kernel
theorem dX5_mayTell_25 : decode cX5_mayTell 25 = .ok (.iconst 0, 1) := by decide +kernel
theorem dX5_mayTell_26 : decode cX5_mayTell 26 = .ok (.iaload, 1) := by decide +kernel
theorem dX5_mayTell_27 : decode cX5_mayTell 27 = .ok (.if_icmp .ne 7, 3) := by decide +kernel
theorem dX5_mayTell_30 : decode cX5_mayTell 30 = .ok (.iconst 1, 1) := by decide +kernel
theorem dX5_mayTell_31 : decode cX5_mayTell 31 = .ok (.goto 4, 3) := by decide +kernel
theorem dX5_mayTell_34 : decode cX5_mayTell 34 = .ok (.iconst 0, 1) := by decide +kernel
theorem dX5_mayTell_35 : decode cX5_mayTell 35 = .ok (.ireturn, 1) := by decide +kernel
theorem dX5_tells_0 : decode cX5_tells 0 = .ok (.iload_n 2, 1) := by decide +kernel
theorem dX5_tells_1 : decode cX5_tells 1 = .ok (.ifCond .eq 11, 3) := by decide +kernel
theorem dX5_tells_4 : decode cX5_tells 4 = .ok (.aload_n 0, 1) := by decide +kernel
theorem dX5_tells_5 : decode cX5_tells 5 = .ok (.iload_n 1, 1) := by decide +kernel
theorem dX5_tells_6 : decode cX5_tells 6 = .ok (.invokevirtual 151, 3) := by decide +kernel
theorem dX5_tells_9 : decode cX5_tells 9 = .ok (.goto 8, 3) := by decide +kernel
theorem dX5_tells_12 : decode cX5_tells 12 = .ok (.aload_n 0, 1) := by decide +kernel
theorem dX5_tells_13 : decode cX5_tells 13 = .ok (.iload_n 1, 1) := by decide +kernel
theorem dX5_tells_14 : decode cX5_tells 14 = .ok (.invokevirtual 154, 3) := by decide +kernel
theorem dX5_tells_17 : decode cX5_tells 17 = .ok (.return_, 1) := by decide +kernel
theorem dX5_tell_0 : decode cX5_tell 0 = .ok (.aload_n 0, 1) := by decide +kernel
theorem dX5_tell_1 : decode cX5_tell 1 = .ok (.iload_n 1, 1) := by decide +kernel
theorem dX5_tell_2 : decode cX5_tell 2 = .ok (.invokevirtual 145, 3) := by decide +kernel
theorem dX5_tell_5 : decode cX5_tell 5 = .ok (.istore_n 3, 1) := by decide +kernel
theorem dX5_tell_6 : decode cX5_tell 6 = .ok (.aload_n 0, 1) := by decide +kernel
theorem dX5_tell_7 : decode cX5_tell 7 = .ok (.iload_n 3, 1) := by decide +kernel
theorem dX5_tell_8 : decode cX5_tell 8 = .ok (.iconst (-1), 1) := by decide +kernel
theorem dX5_tell_9 : decode cX5_tell 9 = .ok (.if_icmp .eq 7, 3) := by decide +kernel
theorem dX5_tell_12 : decode cX5_tell 12 = .ok (.iconst 1, 1) := by decide +kernel
theorem dX5_tell_13 : decode cX5_tell 13 = .ok (.goto 4, 3) := by decide +kernel
theorem dX5_tell_16 : decode cX5_tell 16 = .ok (.iconst 0, 1) := by decide +kernel
theorem dX5_tell_17 : decode cX5_tell 17 = .ok (.aload_n 0, 1) := by decide +kernel
theorem dX5_tell_18 : decode cX5_tell 18 = .ok (.iload_n 3, 1) := by decide +kernel
theorem dX5_tell_19 : decode cX5_tell 19 = .ok (.invokevirtual 157, 3) := by decide +kernel
theorem dX5_tell_22 : decode cX5_tell 22 = .ok (.iconst 1, 1) := by decide +kernel
theorem dX5_tell_23 : decode cX5_tell 23 = .ok (.invokevirtual 58, 3) := by decide +kernel
theorem dX5_tell_26 : decode cX5_tell 26 = .ok (.ifCond .ne 5, 3) := by decide +kernel
theorem dX5_tell_29 : decode cX5_tell 29 = .ok (.iconst 0, 1) := by decide +kernel
theorem dX5_tell_30 : decode cX5_tell 30 = .ok (.ireturn, 1) := by decide +kernel
theorem dX5_tell_31 : decode cX5_tell 31 = .ok (.aload_n 0, 1) := by decide +kernel
theorem dX5_tell_32 : decode cX5_tell 32 = .ok (.invokevirtual 62, 3) := by decide +kernel
theorem dX5_tell_35 : decode cX5_tell 35 = .ok (.aload_n 0, 1) := by decide +kernel
theorem dX5_tell_36 : decode cX5_tell 36 = .ok (.iload_n 3, 1) := by decide +kernel
theorem dX5_tell_37 : decode cX5_tell 37 = .ok (.iload_n 2, 1) := by decide +kernel
theorem dX5_tell_38 : decode cX5_tell 38 = .ok (.invokevirtual 160, 3) := by decide +kernel
theorem dX5_tell_41 : decode cX5_tell 41 = .ok (.aload_n 0, 1) := by decide +kernel
theorem dX5_tell_42 : decode cX5_tell 42 = .ok (.aload_n 0, 1) := by decide +kernel
theorem dX5_tell_43 : decode cX5_tell 43 = .ok (.iload_n 3, 1) := by decide +kernel
theorem dX5_tell_44 : decode cX5_tell 44 = .ok (.iconst 1, 1) := by decide +kernel
theorem dX5_tell_45 : decode cX5_tell 45 = .ok (.invokevirtual 89, 3) := by decide +kernel
theorem dX5_tell_48 : decode cX5_tell 48 = .ok (.aload_n 0, 1) := by decide +kernel
theorem dX5_tell_49 : decode cX5_tell 49 = .ok (.getfield 7, 3) := by decide +kernel
theorem dX5_tell_52 : decode cX5_tell 52 = .ok (.iconst 0, 1) := by decide +kernel
theorem dX5_tell_53 : decode cX5_tell 53 = .ok (.iaload, 1) := by decide +kernel
theorem dX5_tell_54 : decode cX5_tell 54 = .ok (.invokevirtual 126, 3) := by decide +kernel
theorem dX5_tell_57 : decode cX5_tell 57 = .ok (.ireturn, 1) := by decide +kernel
theorem dX5_ends_0 : decode cX5_ends 0 = .ok (.iconst 0, 1) := by decide +kernel
theorem dX5_ends_1 : decode cX5_ends 1 = .ok (.istore_n 1, 1) := by decide +kernel
theorem dX5_ends_2 : decode cX5_ends 2 = .ok (.iconst 0, 1) := by decide +kernel
theorem dX5_ends_3 : decode cX5_ends 3 = .ok (.istore_n 2, 1) := by decide +kernel
theorem dX5_ends_4 : decode cX5_ends 4 = .ok (.iload_n 2, 1) := by decide +kernel
theorem dX5_ends_5 : decode cX5_ends 5 = .ok (.aload_n 0, 1) := by decide +kernel
theorem dX5_ends_6 : decode cX5_ends 6 = .ok (.getfield 7, 3) := by decide +kernel
theorem dX5_ends_9 : decode cX5_ends 9 = .ok (.bipush 7, 2) := by decide +kernel
theorem dX5_ends_11 : decode cX5_ends 11 = .ok (.iaload, 1) := by decide +kernel
theorem dX5_ends_12 : decode cX5_ends 12 = .ok (.if_icmp .ge 42, 3) := by decide +kernel
theorem dX5_ends_15 : decode cX5_ends 15 = .ok (.aload_n 0, 1) := by decide +kernel
theorem dX5_ends_16 : decode cX5_ends 16 = .ok (.iload_n 2, 1) := by decide +kernel
theorem dX5_ends_17 : decode cX5_ends 17 = .ok (.iconst 2, 1) := by decide +kernel
theorem dX5_ends_18 : decode cX5_ends 18 = .ok (.invokevirtual 89, 3) := by decide +kernel
theorem dX5_ends_21 : decode cX5_ends 21 = .ok (.aload_n 0, 1) := by decide +kernel
theorem dX5_ends_22 : decode cX5_ends 22 = .ok (.getfield 7, 3) := by decide +kernel
theorem dX5_ends_25 : decode cX5_ends 25 = .ok (.iconst 0, 1) := by decide +kernel
theorem dX5_ends_26 : decode cX5_ends 26 = .ok (.iaload, 1) := by decide +kernel
theorem dX5_ends_27 : decode cX5_ends 27 = .ok (.if_icmp .ne 21, 3) := by decide +kernel
theorem dX5_ends_30 : decode cX5_ends 30 = .ok (.aload_n 0, 1) := by decide +kernel
theorem dX5_ends_31 : decode cX5_ends 31 = .ok (.iload_n 2, 1) := by decide +kernel
theorem dX5_ends_32 : decode cX5_ends 32 = .ok (.bipush 6, 2) := by decide +kernel
theorem dX5_ends_34 : decode cX5_ends 34 = .ok (.invokevirtual 89, 3) := by decide +kernel
theorem dX5_ends_37 : decode cX5_ends 37 = .ok (.ifCond .ne 11, 3) := by decide +kernel
theorem dX5_ends_40 : decode cX5_ends 40 = .ok (.aload_n 0, 1) := by decide +kernel
theorem dX5_ends_41 : decode cX5_ends 41 = .ok (.iload_n 2, 1) := by decide +kernel
theorem dX5_ends_42 : decode cX5_ends 42 = .ok (.invokevirtual 154, 3) := by decide +kernel
theorem dX5_ends_45 : decode cX5_ends 45 = .ok (.iinc 1 1, 3) := by decide +kernel
theorem dX5_ends_48 : decode cX5_ends 48 = .ok (.iinc 2 1, 3) := by decide +kernel
theorem dX5_ends_51 : decode cX5_ends 51 = .ok (.goto (-47), 3) := by decide +kernel
theorem dX5_ends_54 : decode cX5_ends 54 = .ok (.aload_n 0, 1) := by decide +kernel
theorem dX5_ends_55 : decode cX5_ends 55 = .ok (.getfield 7, 3) := by decide +kernel
theorem dX5_ends_58 : decode cX5_ends 58 = .ok (.iconst 0, 1) := by decide +kernel
theorem dX5_ends_59 : decode cX5_ends 59 = .ok (.dup2, 1) := by decide +kernel
theorem dX5_ends_60 : decode cX5_ends 60 = .ok (.iaload, 1) := by decide +kernel
theorem dX5_ends_61 : decode cX5_ends 61 = .ok (.iconst 1, 1) := by decide +kernel
theorem dX5_ends_62 : decode cX5_ends 62 = .ok (.iadd, 1) := by decide +kernel
theorem dX5_ends_63 : decode cX5_ends 63 = .ok (.iastore, 1) := by decide +kernel
theorem dX5_ends_64 : decode cX5_ends 64 = .ok (.aload_n 0, 1) := by decide +kernel
theorem dX5_ends_65 : decode cX5_ends 65 = .ok (.getfield 7, 3) := by decide +kernel
theorem dX5_ends_68 : decode cX5_ends 68 = .ok (.bipush 7, 2) := by decide +kernel
theorem dX5_ends_70 : decode cX5_ends 70 = .ok (.iaload, 1) := by decide +kernel
theorem dX5_ends_71 : decode cX5_ends 71 = .ok (.iconst 1, 1) := by decide +kernel
theorem dX5_ends_72 : decode cX5_ends 72 = .ok (.isub, 1) := by decide +kernel
theorem dX5_ends_73 : decode cX5_ends 73 = .ok (.istore_n 2, 1) := by decide +kernel
theorem dX5_ends_74 : decode cX5_ends 74 = .ok (.iload_n 2, 1) := by decide +kernel
theorem dX5_ends_75 : decode cX5_ends 75 = .ok (.ifCond .lt 31, 3) := by decide +kernel
theorem dX5_ends_78 : decode cX5_ends 78 = .ok (.aload_n 0, 1) := by decide +kernel
theorem dX5_ends_79 : decode cX5_ends 79 = .ok (.getfield 7, 3) := by decide +kernel
theorem dX5_ends_82 : decode cX5_ends 82 = .ok (.iconst 0, 1) := by decide +kernel
theorem dX5_ends_83 : decode cX5_ends 83 = .ok (.iaload, 1) := by decide +kernel
theorem dX5_ends_84 : decode cX5_ends 84 = .ok (.aload_n 0, 1) := by decide +kernel
theorem dX5_ends_85 : decode cX5_ends 85 = .ok (.iload_n 2, 1) := by decide +kernel
theorem dX5_ends_86 : decode cX5_ends 86 = .ok (.iconst 2, 1) := by decide +kernel
theorem dX5_ends_87 : decode cX5_ends 87 = .ok (.invokevirtual 89, 3) := by decide +kernel
theorem dX5_ends_90 : decode cX5_ends 90 = .ok (.isub, 1) := by decide +kernel
theorem dX5_ends_91 : decode cX5_ends 91 = .ok (.iconst 4, 1) := by decide +kernel
theorem dX5_ends_92 : decode cX5_ends 92 = .ok (.if_icmp .le 8, 3) := by decide +kernel
theorem dX5_ends_95 : decode cX5_ends 95 = .ok (.aload_n 0, 1) := by decide +kernel
theorem dX5_ends_96 : decode cX5_ends 96 = .ok (.iload_n 2, 1) := by decide +kernel
theorem dX5_ends_97 : decode cX5_ends 97 = .ok (.invokevirtual 148, 3) := by decide +kernel
theorem dX5_ends_100 : decode cX5_ends 100 = .ok (.iinc 2 (-1), 3) := by decide +kernel
theorem dX5_ends_103 : decode cX5_ends 103 = .ok (.goto (-29), 3) := by decide +kernel
theorem dX5_ends_106 : decode cX5_ends 106 = .ok (.iload_n 1, 1) := by decide +kernel
theorem dX5_ends_107 : decode cX5_ends 107 = .ok (.ireturn, 1) := by decide +kernel
theorem dX5_endWeek_0 : decode cX5_endWeek 0 = .ok (.aload_n 0, 1) := by decide +kernel
theorem dX5_endWeek_1 : decode cX5_endWeek 1 = .ok (.aload_n 0, 1) := by decide +kernel
theorem dX5_endWeek_2 : decode cX5_endWeek 2 = .ok (.getfield 7, 3) := by decide +kernel
theorem dX5_endWeek_5 : decode cX5_endWeek 5 = .ok (.iconst 0, 1) := by decide +kernel
theorem dX5_endWeek_6 : decode cX5_endWeek 6 = .ok (.iaload, 1) := by decide +kernel
theorem dX5_endWeek_7 : decode cX5_endWeek 7 = .ok (.bipush 19, 2) := by decide +kernel
theorem dX5_endWeek_9 : decode cX5_endWeek 9 = .ok (.if_icmp .ge 7, 3) := by decide +kernel
theorem dX5_endWeek_12 : decode cX5_endWeek 12 = .ok (.iconst 1, 1) := by decide +kernel
theorem dX5_endWeek_13 : decode cX5_endWeek 13 = .ok (.goto 4, 3) := by decide +kernel
theorem dX5_endWeek_16 : decode cX5_endWeek 16 = .ok (.iconst 0, 1) := by decide +kernel
theorem dX5_endWeek_17 : decode cX5_endWeek 17 = .ok (.iconst 1, 1) := by decide +kernel
theorem dX5_endWeek_18 : decode cX5_endWeek 18 = .ok (.iconst 1, 1) := by decide +kernel
theorem dX5_endWeek_19 : decode cX5_endWeek 19 = .ok (.invokevirtual 58, 3) := by decide +kernel
theorem dX5_endWeek_22 : decode cX5_endWeek 22 = .ok (.ifCond .ne 5, 3) := by decide +kernel
theorem dX5_endWeek_25 : decode cX5_endWeek 25 = .ok (.iconst 0, 1) := by decide +kernel
theorem dX5_endWeek_26 : decode cX5_endWeek 26 = .ok (.ireturn, 1) := by decide +kernel
theorem dX5_endWeek_27 : decode cX5_endWeek 27 = .ok (.aload_n 0, 1) := by decide +kernel
theorem dX5_endWeek_28 : decode cX5_endWeek 28 = .ok (.invokevirtual 62, 3) := by decide +kernel
theorem dX5_endWeek_31 : decode cX5_endWeek 31 = .ok (.aload_n 0, 1) := by decide +kernel
theorem dX5_endWeek_32 : decode cX5_endWeek 32 = .ok (.invokevirtual 164, 3) := by decide +kernel
theorem dX5_endWeek_35 : decode cX5_endWeek 35 = .ok (.ireturn, 1) := by decide +kernel
theorem dX5_plannedOf_0 : decode cX5_plannedOf 0 = .ok (.iconst 0, 1) := by decide +kernel
theorem dX5_plannedOf_1 : decode cX5_plannedOf 1 = .ok (.istore_n 2, 1) := by decide +kernel
theorem dX5_plannedOf_2 : decode cX5_plannedOf 2 = .ok (.iconst 0, 1) := by decide +kernel
theorem dX5_plannedOf_3 : decode cX5_plannedOf 3 = .ok (.istore_n 3, 1) := by decide +kernel
theorem dX5_plannedOf_4 : decode cX5_plannedOf 4 = .ok (.iload_n 3, 1) := by decide +kernel
theorem dX5_plannedOf_5 : decode cX5_plannedOf 5 = .ok (.aload_n 0, 1) := by decide +kernel
theorem dX5_plannedOf_6 : decode cX5_plannedOf 6 = .ok (.getfield 7, 3) := by decide +kernel
theorem dX5_plannedOf_9 : decode cX5_plannedOf 9 = .ok (.bipush 7, 2) := by decide +kernel
theorem dX5_plannedOf_11 : decode cX5_plannedOf 11 = .ok (.iaload, 1) := by decide +kernel
theorem dX5_plannedOf_12 : decode cX5_plannedOf 12 = .ok (.if_icmp .ge 37, 3) := by decide +kernel
theorem dX5_plannedOf_15 : decode cX5_plannedOf 15 = .ok (.iload_n 2, 1) := by decide +kernel
theorem dX5_plannedOf_16 : decode cX5_plannedOf 16 = .ok (.aload_n 0, 1) := by decide +kernel
theorem dX5_plannedOf_17 : decode cX5_plannedOf 17 = .ok (.iload_n 3, 1) := by decide +kernel
theorem dX5_plannedOf_18 : decode cX5_plannedOf 18 = .ok (.iconst 1, 1) := by decide +kernel
theorem dX5_plannedOf_19 : decode cX5_plannedOf 19 = .ok (.invokevirtual 89, 3) := by decide +kernel
theorem dX5_plannedOf_22 : decode cX5_plannedOf 22 = .ok (.iload_n 1, 1) := by decide +kernel
theorem dX5_plannedOf_23 : decode cX5_plannedOf 23 = .ok (.if_icmp .ne 17, 3) := by decide +kernel
theorem dX5_plannedOf_26 : decode cX5_plannedOf 26 = .ok (.aload_n 0, 1) := by decide +kernel
theorem dX5_plannedOf_27 : decode cX5_plannedOf 27 = .ok (.iload_n 3, 1) := by decide +kernel
theorem dX5_plannedOf_28 : decode cX5_plannedOf 28 = .ok (.bipush 6, 2) := by decide +kernel
theorem dX5_plannedOf_30 : decode cX5_plannedOf 30 = .ok (.invokevirtual 89, 3) := by decide +kernel
theorem dX5_plannedOf_33 : decode cX5_plannedOf 33 = .ok (.ifCond .ne 7, 3) := by decide +kernel
theorem dX5_plannedOf_36 : decode cX5_plannedOf 36 = .ok (.iconst 1, 1) := by decide +kernel
theorem dX5_plannedOf_37 : decode cX5_plannedOf 37 = .ok (.goto 4, 3) := by decide +kernel
theorem dX5_plannedOf_40 : decode cX5_plannedOf 40 = .ok (.iconst 0, 1) := by decide +kernel
theorem dX5_plannedOf_41 : decode cX5_plannedOf 41 = .ok (.iadd, 1) := by decide +kernel
theorem dX5_plannedOf_42 : decode cX5_plannedOf 42 = .ok (.istore_n 2, 1) := by decide +kernel
theorem dX5_plannedOf_43 : decode cX5_plannedOf 43 = .ok (.iinc 3 1, 3) := by decide +kernel
theorem dX5_plannedOf_46 : decode cX5_plannedOf 46 = .ok (.goto (-42), 3) := by decide +kernel
theorem dX5_plannedOf_49 : decode cX5_plannedOf 49 = .ok (.iload_n 2, 1) := by decide +kernel
theorem dX5_plannedOf_50 : decode cX5_plannedOf 50 = .ok (.ireturn, 1) := by decide +kernel
theorem dX5_hoursOf_0 : decode cX5_hoursOf 0 = .ok (.iconst 0, 1) := by decide +kernel
theorem dX5_hoursOf_1 : decode cX5_hoursOf 1 = .ok (.istore_n 2, 1) := by decide +kernel
theorem dX5_hoursOf_2 : decode cX5_hoursOf 2 = .ok (.iconst 0, 1) := by decide +kernel
theorem dX5_hoursOf_3 : decode cX5_hoursOf 3 = .ok (.istore_n 3, 1) := by decide +kernel
theorem dX5_hoursOf_4 : decode cX5_hoursOf 4 = .ok (.iload_n 3, 1) := by decide +kernel
theorem dX5_hoursOf_5 : decode cX5_hoursOf 5 = .ok (.bipush 20, 2) := by decide +kernel
theorem dX5_hoursOf_7 : decode cX5_hoursOf 7 = .ok (.if_icmp .ge 26, 3) := by decide +kernel
theorem dX5_hoursOf_10 : decode cX5_hoursOf 10 = .ok (.iload_n 2, 1) := by decide +kernel
theorem dX5_hoursOf_11 : decode cX5_hoursOf 11 = .ok (.aload_n 0, 1) := by decide +kernel
theorem dX5_hoursOf_12 : decode cX5_hoursOf 12 = .ok (.getfield 7, 3) := by decide +kernel
theorem dX5_hoursOf_15 : decode cX5_hoursOf 15 = .ok (.bipush 8, 2) := by decide +kernel
theorem dX5_hoursOf_17 : decode cX5_hoursOf 17 = .ok (.bipush 20, 2) := by decide +kernel
theorem dX5_hoursOf_19 : decode cX5_hoursOf 19 = .ok (.iload_n 1, 1) := by decide +kernel
theorem dX5_hoursOf_20 : decode cX5_hoursOf 20 = .ok (.imul, 1) := by decide +kernel
theorem dX5_hoursOf_21 : decode cX5_hoursOf 21 = .ok (.iadd, 1) := by decide +kernel
theorem dX5_hoursOf_22 : decode cX5_hoursOf 22 = .ok (.iload_n 3, 1) := by decide +kernel
theorem dX5_hoursOf_23 : decode cX5_hoursOf 23 = .ok (.iadd, 1) := by decide +kernel
theorem dX5_hoursOf_24 : decode cX5_hoursOf 24 = .ok (.iaload, 1) := by decide +kernel
theorem dX5_hoursOf_25 : decode cX5_hoursOf 25 = .ok (.iadd, 1) := by decide +kernel
theorem dX5_hoursOf_26 : decode cX5_hoursOf 26 = .ok (.istore_n 2, 1) := by decide +kernel
theorem dX5_hoursOf_27 : decode cX5_hoursOf 27 = .ok (.iinc 3 1, 3) := by decide +kernel
theorem dX5_hoursOf_30 : decode cX5_hoursOf 30 = .ok (.goto (-26), 3) := by decide +kernel
theorem dX5_hoursOf_33 : decode cX5_hoursOf 33 = .ok (.iload_n 2, 1) := by decide +kernel
theorem dX5_hoursOf_34 : decode cX5_hoursOf 34 = .ok (.ireturn, 1) := by decide +kernel
theorem dX5_orderValue_0 : decode cX5_orderValue 0 = .ok (.iload_n 2, 1) := by decide +kernel
theorem dX5_orderValue_1 : decode cX5_orderValue 1 = .ok (.tableswitch 110 0 5 #[39, 59, 70, 81, 92, 98], 39) := by decide +kernel
theorem dX5_orderValue_40 : decode cX5_orderValue 40 = .ok (.aload_n 0, 1) := by decide +kernel
theorem dX5_orderValue_41 : decode cX5_orderValue 41 = .ok (.getfield 7, 3) := by decide +kernel
theorem dX5_orderValue_44 : decode cX5_orderValue 44 = .ok (.bipush 8, 2) := by decide +kernel
theorem dX5_orderValue_46 : decode cX5_orderValue 46 = .ok (.bipush 20, 2) := by decide +kernel
theorem dX5_orderValue_48 : decode cX5_orderValue 48 = .ok (.iload_n 1, 1) := by decide +kernel
theorem dX5_orderValue_49 : decode cX5_orderValue 49 = .ok (.imul, 1) := by decide +kernel
theorem dX5_orderValue_50 : decode cX5_orderValue 50 = .ok (.iadd, 1) := by decide +kernel
theorem dX5_orderValue_51 : decode cX5_orderValue 51 = .ok (.aload_n 0, 1) := by decide +kernel
theorem dX5_orderValue_52 : decode cX5_orderValue 52 = .ok (.getfield 7, 3) := by decide +kernel
theorem dX5_orderValue_55 : decode cX5_orderValue 55 = .ok (.iconst 0, 1) := by decide +kernel
theorem dX5_orderValue_56 : decode cX5_orderValue 56 = .ok (.iaload, 1) := by decide +kernel
theorem dX5_orderValue_57 : decode cX5_orderValue 57 = .ok (.iadd, 1) := by decide +kernel
theorem dX5_orderValue_58 : decode cX5_orderValue 58 = .ok (.iaload, 1) := by decide +kernel
theorem dX5_orderValue_59 : decode cX5_orderValue 59 = .ok (.ireturn, 1) := by decide +kernel
theorem dX5_orderValue_60 : decode cX5_orderValue 60 = .ok (.aload_n 0, 1) := by decide +kernel
theorem dX5_orderValue_61 : decode cX5_orderValue 61 = .ok (.getfield 7, 3) := by decide +kernel
theorem dX5_orderValue_64 : decode cX5_orderValue 64 = .ok (.sipush 168, 3) := by decide +kernel
theorem dX5_orderValue_67 : decode cX5_orderValue 67 = .ok (.iload_n 1, 1) := by decide +kernel
theorem dX5_orderValue_68 : decode cX5_orderValue 68 = .ok (.iadd, 1) := by decide +kernel
theorem dX5_orderValue_69 : decode cX5_orderValue 69 = .ok (.iaload, 1) := by decide +kernel
theorem dX5_orderValue_70 : decode cX5_orderValue 70 = .ok (.ireturn, 1) := by decide +kernel
theorem dX5_orderValue_71 : decode cX5_orderValue 71 = .ok (.aload_n 0, 1) := by decide +kernel
theorem dX5_orderValue_72 : decode cX5_orderValue 72 = .ok (.getfield 7, 3) := by decide +kernel
theorem dX5_orderValue_75 : decode cX5_orderValue 75 = .ok (.sipush 176, 3) := by decide +kernel
theorem dX5_orderValue_78 : decode cX5_orderValue 78 = .ok (.iload_n 1, 1) := by decide +kernel
theorem dX5_orderValue_79 : decode cX5_orderValue 79 = .ok (.iadd, 1) := by decide +kernel
theorem dX5_orderValue_80 : decode cX5_orderValue 80 = .ok (.iaload, 1) := by decide +kernel
theorem dX5_orderValue_81 : decode cX5_orderValue 81 = .ok (.ireturn, 1) := by decide +kernel
theorem dX5_orderValue_82 : decode cX5_orderValue 82 = .ok (.aload_n 0, 1) := by decide +kernel
theorem dX5_orderValue_83 : decode cX5_orderValue 83 = .ok (.getfield 7, 3) := by decide +kernel
theorem dX5_orderValue_86 : decode cX5_orderValue 86 = .ok (.sipush 184, 3) := by decide +kernel
theorem dX5_orderValue_89 : decode cX5_orderValue 89 = .ok (.iload_n 1, 1) := by decide +kernel
theorem dX5_orderValue_90 : decode cX5_orderValue 90 = .ok (.iadd, 1) := by decide +kernel
theorem dX5_orderValue_91 : decode cX5_orderValue 91 = .ok (.iaload, 1) := by decide +kernel
theorem dX5_orderValue_92 : decode cX5_orderValue 92 = .ok (.ireturn, 1) := by decide +kernel
theorem dX5_orderValue_93 : decode cX5_orderValue 93 = .ok (.aload_n 0, 1) := by decide +kernel
theorem dX5_orderValue_94 : decode cX5_orderValue 94 = .ok (.iload_n 1, 1) := by decide +kernel
theorem dX5_orderValue_95 : decode cX5_orderValue 95 = .ok (.invokevirtual 168, 3) := by decide +kernel
theorem dX5_orderValue_98 : decode cX5_orderValue 98 = .ok (.ireturn, 1) := by decide +kernel
theorem dX5_orderValue_99 : decode cX5_orderValue 99 = .ok (.aload_n 0, 1) := by decide +kernel
theorem dX5_orderValue_100 : decode cX5_orderValue 100 = .ok (.iload_n 1, 1) := by decide +kernel
theorem dX5_orderValue_101 : decode cX5_orderValue 101 = .ok (.aload_n 0, 1) := by decide +kernel
theorem dX5_orderValue_102 : decode cX5_orderValue 102 = .ok (.getfield 7, 3) := by decide +kernel
theorem dX5_orderValue_105 : decode cX5_orderValue 105 = .ok (.iconst 0, 1) := by decide +kernel
theorem dX5_orderValue_106 : decode cX5_orderValue 106 = .ok (.iaload, 1) := by decide +kernel
theorem dX5_orderValue_107 : decode cX5_orderValue 107 = .ok (.invokevirtual 126, 3) := by decide +kernel
theorem dX5_orderValue_110 : decode cX5_orderValue 110 = .ok (.ireturn, 1) := by decide +kernel
theorem dX5_orderValue_111 : decode cX5_orderValue 111 = .ok (.aload_n 0, 1) := by decide +kernel
theorem dX5_orderValue_112 : decode cX5_orderValue 112 = .ok (.iload_n 1, 1) := by decide +kernel
theorem dX5_orderValue_113 : decode cX5_orderValue 113 = .ok (.invokevirtual 171, 3) := by decide +kernel
theorem dX5_orderValue_116 : decode cX5_orderValue 116 = .ok (.ireturn, 1) := by decide +kernel
theorem dX5_order_0 : decode cX5_order 0 = .ok (.aload_n 0, 1) := by decide +kernel
theorem dX5_order_1 : decode cX5_order 1 = .ok (.aload_n 0, 1) := by decide +kernel
theorem dX5_order_2 : decode cX5_order 2 = .ok (.iload_n 1, 1) := by decide +kernel
theorem dX5_order_3 : decode cX5_order 3 = .ok (.invokevirtual 65, 3) := by decide +kernel
theorem dX5_order_6 : decode cX5_order 6 = .ok (.iload_n 2, 1) := by decide +kernel
theorem dX5_order_7 : decode cX5_order 7 = .ok (.i2l, 1) := by decide +kernel
theorem dX5_order_8 : decode cX5_order 8 = .ok (.lconst 0, 1) := by decide +kernel
theorem dX5_order_9 : decode cX5_order 9 = .ok (.ldc2_w 174, 3) := by decide +kernel
theorem dX5_order_12 : decode cX5_order 12 = .ok (.invokestatic 44, 3) := by decide +kernel
theorem dX5_order_15 : decode cX5_order 15 = .ok (.iconst 1, 1) := by decide +kernel
theorem dX5_order_16 : decode cX5_order 16 = .ok (.invokevirtual 58, 3) := by decide +kernel
theorem dX5_order_19 : decode cX5_order 19 = .ok (.ifCond .eq 12, 3) := by decide +kernel
theorem dX5_order_22 : decode cX5_order 22 = .ok (.aload_n 0, 1) := by decide +kernel
theorem dX5_order_23 : decode cX5_order 23 = .ok (.iload_n 1, 1) := by decide +kernel
theorem dX5_order_24 : decode cX5_order 24 = .ok (.iload_n 2, 1) := by decide +kernel
theorem dX5_order_25 : decode cX5_order 25 = .ok (.invokevirtual 176, 3) := by decide +kernel
theorem dX5_order_28 : decode cX5_order 28 = .ok (.goto 4, 3) := by decide +kernel
theorem dX5_order_31 : decode cX5_order 31 = .ok (.iconst 0, 1) := by decide +kernel
theorem dX5_order_32 : decode cX5_order 32 = .ok (.ireturn, 1) := by decide +kernel
theorem dX5_hours_0 : decode cX5_hours 0 = .ok (.aload_n 0, 1) := by decide +kernel
theorem dX5_hours_1 : decode cX5_hours 1 = .ok (.aload_n 0, 1) := by decide +kernel
theorem dX5_hours_2 : decode cX5_hours 2 = .ok (.iload_n 1, 1) := by decide +kernel
theorem dX5_hours_3 : decode cX5_hours 3 = .ok (.invokevirtual 65, 3) := by decide +kernel
theorem dX5_hours_6 : decode cX5_hours 6 = .ok (.iload_n 2, 1) := by decide +kernel
theorem dX5_hours_7 : decode cX5_hours 7 = .ok (.invokestatic 112, 3) := by decide +kernel
theorem dX5_hours_10 : decode cX5_hours 10 = .ok (.iconst 1, 1) := by decide +kernel
theorem dX5_hours_11 : decode cX5_hours 11 = .ok (.invokevirtual 58, 3) := by decide +kernel
theorem dX5_hours_14 : decode cX5_hours 14 = .ok (.ifCond .eq 20, 3) := by decide +kernel
theorem dX5_hours_17 : decode cX5_hours 17 = .ok (.aload_n 0, 1) := by decide +kernel
theorem dX5_hours_18 : decode cX5_hours 18 = .ok (.getfield 7, 3) := by decide +kernel
theorem dX5_hours_21 : decode cX5_hours 21 = .ok (.bipush 8, 2) := by decide +kernel
theorem dX5_hours_23 : decode cX5_hours 23 = .ok (.bipush 20, 2) := by decide +kernel
theorem dX5_hours_25 : decode cX5_hours 25 = .ok (.iload_n 1, 1) := by decide +kernel
theorem dX5_hours_26 : decode cX5_hours 26 = .ok (.imul, 1) := by decide +kernel
theorem dX5_hours_27 : decode cX5_hours 27 = .ok (.iadd, 1) := by decide +kernel
theorem dX5_hours_28 : decode cX5_hours 28 = .ok (.iload_n 2, 1) := by decide +kernel
theorem dX5_hours_29 : decode cX5_hours 29 = .ok (.iadd, 1) := by decide +kernel
theorem dX5_hours_30 : decode cX5_hours 30 = .ok (.iaload, 1) := by decide +kernel
theorem dX5_hours_31 : decode cX5_hours 31 = .ok (.goto 4, 3) := by decide +kernel
theorem dX5_hours_34 : decode cX5_hours 34 = .ok (.iconst 0, 1) := by decide +kernel
theorem dX5_hours_35 : decode cX5_hours 35 = .ok (.ireturn, 1) := by decide +kernel
theorem dX5_owed_0 : decode cX5_owed 0 = .ok (.aload_n 0, 1) := by decide +kernel
theorem dX5_owed_1 : decode cX5_owed 1 = .ok (.aload_n 0, 1) := by decide +kernel
theorem dX5_owed_2 : decode cX5_owed 2 = .ok (.iload_n 1, 1) := by decide +kernel
theorem dX5_owed_3 : decode cX5_owed 3 = .ok (.invokevirtual 65, 3) := by decide +kernel
theorem dX5_owed_6 : decode cX5_owed 6 = .ok (.iload_n 2, 1) := by decide +kernel
theorem dX5_owed_7 : decode cX5_owed 7 = .ok (.invokestatic 112, 3) := by decide +kernel
theorem dX5_owed_10 : decode cX5_owed 10 = .ok (.iconst 1, 1) := by decide +kernel
theorem dX5_owed_11 : decode cX5_owed 11 = .ok (.invokevirtual 58, 3) := by decide +kernel
theorem dX5_owed_14 : decode cX5_owed 14 = .ok (.ifCond .eq 12, 3) := by decide +kernel
theorem dX5_owed_17 : decode cX5_owed 17 = .ok (.aload_n 0, 1) := by decide +kernel
theorem dX5_owed_18 : decode cX5_owed 18 = .ok (.iload_n 1, 1) := by decide +kernel
theorem dX5_owed_19 : decode cX5_owed 19 = .ok (.iload_n 2, 1) := by decide +kernel
theorem dX5_owed_20 : decode cX5_owed 20 = .ok (.invokevirtual 126, 3) := by decide +kernel
theorem dX5_owed_23 : decode cX5_owed 23 = .ok (.goto 4, 3) := by decide +kernel
theorem dX5_owed_26 : decode cX5_owed 26 = .ok (.iconst 0, 1) := by decide +kernel
theorem dX5_owed_27 : decode cX5_owed 27 = .ok (.ireturn, 1) := by decide +kernel
theorem dX5_meeting_0 : decode cX5_meeting 0 = .ok (.aload_n 0, 1) := by decide +kernel
theorem dX5_meeting_1 : decode cX5_meeting 1 = .ok (.iload_n 1, 1) := by decide +kernel
theorem dX5_meeting_2 : decode cX5_meeting 2 = .ok (.invokevirtual 145, 3) := by decide +kernel
theorem dX5_meeting_5 : decode cX5_meeting 5 = .ok (.istore_n 3, 1) := by decide +kernel
theorem dX5_meeting_6 : decode cX5_meeting 6 = .ok (.aload_n 0, 1) := by decide +kernel
theorem dX5_meeting_7 : decode cX5_meeting 7 = .ok (.iload_n 3, 1) := by decide +kernel
theorem dX5_meeting_8 : decode cX5_meeting 8 = .ok (.iconst (-1), 1) := by decide +kernel
theorem dX5_meeting_9 : decode cX5_meeting 9 = .ok (.if_icmp .eq 7, 3) := by decide +kernel
theorem dX5_meeting_12 : decode cX5_meeting 12 = .ok (.iconst 1, 1) := by decide +kernel
theorem dX5_meeting_13 : decode cX5_meeting 13 = .ok (.goto 4, 3) := by decide +kernel
theorem dX5_meeting_16 : decode cX5_meeting 16 = .ok (.iconst 0, 1) := by decide +kernel
theorem dX5_meeting_17 : decode cX5_meeting 17 = .ok (.iload_n 2, 1) := by decide +kernel
theorem dX5_meeting_18 : decode cX5_meeting 18 = .ok (.i2l, 1) := by decide +kernel
theorem dX5_meeting_19 : decode cX5_meeting 19 = .ok (.lconst 0, 1) := by decide +kernel
theorem dX5_meeting_20 : decode cX5_meeting 20 = .ok (.ldc2_w 179, 3) := by decide +kernel
theorem dX5_meeting_23 : decode cX5_meeting 23 = .ok (.invokestatic 44, 3) := by decide +kernel
theorem dX5_meeting_26 : decode cX5_meeting 26 = .ok (.iconst 1, 1) := by decide +kernel
theorem dX5_meeting_27 : decode cX5_meeting 27 = .ok (.invokevirtual 58, 3) := by decide +kernel
theorem dX5_meeting_30 : decode cX5_meeting 30 = .ok (.ifCond .eq 14, 3) := by decide +kernel
theorem dX5_meeting_33 : decode cX5_meeting 33 = .ok (.aload_n 0, 1) := by decide +kernel
theorem dX5_meeting_34 : decode cX5_meeting 34 = .ok (.iload_n 3, 1) := by decide +kernel
theorem dX5_meeting_35 : decode cX5_meeting 35 = .ok (.iload_n 2, 1) := by decide +kernel
theorem dX5_meeting_36 : decode cX5_meeting 36 = .ok (.iconst 1, 1) := by decide +kernel
theorem dX5_meeting_37 : decode cX5_meeting 37 = .ok (.iadd, 1) := by decide +kernel
theorem dX5_meeting_38 : decode cX5_meeting 38 = .ok (.invokevirtual 89, 3) := by decide +kernel
theorem dX5_meeting_41 : decode cX5_meeting 41 = .ok (.goto 4, 3) := by decide +kernel
theorem dX5_meeting_44 : decode cX5_meeting 44 = .ok (.iconst 0, 1) := by decide +kernel
theorem dX5_meeting_45 : decode cX5_meeting 45 = .ok (.ireturn, 1) := by decide +kernel
theorem dX5_manyNow_0 : decode cX5_manyNow 0 = .ok (.aload_n 0, 1) := by decide +kernel
theorem dX5_manyNow_1 : decode cX5_manyNow 1 = .ok (.aload_n 0, 1) := by decide +kernel
theorem dX5_manyNow_2 : decode cX5_manyNow 2 = .ok (.getfield 7, 3) := by decide +kernel
theorem dX5_manyNow_5 : decode cX5_manyNow 5 = .ok (.iconst 0, 1) := by decide +kernel
theorem dX5_manyNow_6 : decode cX5_manyNow 6 = .ok (.iaload, 1) := by decide +kernel
theorem dX5_manyNow_7 : decode cX5_manyNow 7 = .ok (.invokevirtual 98, 3) := by decide +kernel
theorem dX5_manyNow_10 : decode cX5_manyNow 10 = .ok (.aload_n 0, 1) := by decide +kernel
theorem dX5_manyNow_11 : decode cX5_manyNow 11 = .ok (.getfield 25, 3) := by decide +kernel
theorem dX5_manyNow_14 : decode cX5_manyNow 14 = .ok (.iload_n 1, 1) := by decide +kernel
theorem dX5_manyNow_15 : decode cX5_manyNow 15 = .ok (.iaload, 1) := by decide +kernel
theorem dX5_manyNow_16 : decode cX5_manyNow 16 = .ok (.ireturn, 1) := by decide +kernel
theorem dX5_escortValue_0 : decode cX5_escortValue 0 = .ok (.iload_n 2, 1) := by decide +kernel
theorem dX5_escortValue_1 : decode cX5_escortValue 1 = .ok (.ifCond .ne 16, 3) := by decide +kernel
theorem dX5_escortValue_4 : decode cX5_escortValue 4 = .ok (.aload_n 0, 1) := by decide +kernel
theorem dX5_escortValue_5 : decode cX5_escortValue 5 = .ok (.getfield 7, 3) := by decide +kernel
theorem dX5_escortValue_8 : decode cX5_escortValue 8 = .ok (.sipush 192, 3) := by decide +kernel
theorem dX5_escortValue_11 : decode cX5_escortValue 11 = .ok (.iload_n 1, 1) := by decide +kernel
theorem dX5_escortValue_12 : decode cX5_escortValue 12 = .ok (.iadd, 1) := by decide +kernel
theorem dX5_escortValue_13 : decode cX5_escortValue 13 = .ok (.iaload, 1) := by decide +kernel
theorem dX5_escortValue_14 : decode cX5_escortValue 14 = .ok (.goto 44, 3) := by decide +kernel
theorem dX5_escortValue_17 : decode cX5_escortValue 17 = .ok (.iload_n 2, 1) := by decide +kernel
theorem dX5_escortValue_18 : decode cX5_escortValue 18 = .ok (.iconst 1, 1) := by decide +kernel
theorem dX5_escortValue_19 : decode cX5_escortValue 19 = .ok (.if_icmp .ne 16, 3) := by decide +kernel
theorem dX5_escortValue_22 : decode cX5_escortValue 22 = .ok (.aload_n 0, 1) := by decide +kernel
theorem dX5_escortValue_23 : decode cX5_escortValue 23 = .ok (.getfield 7, 3) := by decide +kernel
theorem dX5_escortValue_26 : decode cX5_escortValue 26 = .ok (.sipush 198, 3) := by decide +kernel
theorem dX5_escortValue_29 : decode cX5_escortValue 29 = .ok (.iload_n 1, 1) := by decide +kernel
theorem dX5_escortValue_30 : decode cX5_escortValue 30 = .ok (.iadd, 1) := by decide +kernel
theorem dX5_escortValue_31 : decode cX5_escortValue 31 = .ok (.iaload, 1) := by decide +kernel
theorem dX5_escortValue_32 : decode cX5_escortValue 32 = .ok (.goto 26, 3) := by decide +kernel
theorem dX5_escortValue_35 : decode cX5_escortValue 35 = .ok (.iload_n 2, 1) := by decide +kernel
theorem dX5_escortValue_36 : decode cX5_escortValue 36 = .ok (.iconst 2, 1) := by decide +kernel
theorem dX5_escortValue_37 : decode cX5_escortValue 37 = .ok (.if_icmp .ne 11, 3) := by decide +kernel
theorem dX5_escortValue_40 : decode cX5_escortValue 40 = .ok (.aload_n 0, 1) := by decide +kernel
theorem dX5_escortValue_41 : decode cX5_escortValue 41 = .ok (.iload_n 1, 1) := by decide +kernel
theorem dX5_escortValue_42 : decode cX5_escortValue 42 = .ok (.invokevirtual 181, 3) := by decide +kernel
theorem dX5_escortValue_45 : decode cX5_escortValue 45 = .ok (.goto 13, 3) := by decide +kernel
theorem dX5_escortValue_48 : decode cX5_escortValue 48 = .ok (.aload_n 0, 1) := by decide +kernel
theorem dX5_escortValue_49 : decode cX5_escortValue 49 = .ok (.getfield 7, 3) := by decide +kernel
theorem dX5_escortValue_52 : decode cX5_escortValue 52 = .ok (.sipush 204, 3) := by decide +kernel
theorem dX5_escortValue_55 : decode cX5_escortValue 55 = .ok (.iload_n 1, 1) := by decide +kernel
theorem dX5_escortValue_56 : decode cX5_escortValue 56 = .ok (.iadd, 1) := by decide +kernel
theorem dX5_escortValue_57 : decode cX5_escortValue 57 = .ok (.iaload, 1) := by decide +kernel
theorem dX5_escortValue_58 : decode cX5_escortValue 58 = .ok (.ireturn, 1) := by decide +kernel
theorem dX5_escort_0 : decode cX5_escort 0 = .ok (.aload_n 0, 1) := by decide +kernel
theorem dX5_escort_1 : decode cX5_escort 1 = .ok (.aload_n 0, 1) := by decide +kernel
theorem dX5_escort_2 : decode cX5_escort 2 = .ok (.iload_n 1, 1) := by decide +kernel
theorem dX5_escort_3 : decode cX5_escort 3 = .ok (.invokevirtual 84, 3) := by decide +kernel
theorem dX5_escort_6 : decode cX5_escort 6 = .ok (.iload_n 2, 1) := by decide +kernel
theorem dX5_escort_7 : decode cX5_escort 7 = .ok (.i2l, 1) := by decide +kernel
theorem dX5_escort_8 : decode cX5_escort 8 = .ok (.lconst 0, 1) := by decide +kernel
theorem dX5_escort_9 : decode cX5_escort 9 = .ok (.ldc2_w 184, 3) := by decide +kernel
theorem dX5_escort_12 : decode cX5_escort 12 = .ok (.invokestatic 44, 3) := by decide +kernel
theorem dX5_escort_15 : decode cX5_escort 15 = .ok (.iconst 1, 1) := by decide +kernel
theorem dX5_escort_16 : decode cX5_escort 16 = .ok (.invokevirtual 58, 3) := by decide +kernel
theorem dX5_escort_19 : decode cX5_escort 19 = .ok (.ifCond .eq 12, 3) := by decide +kernel
theorem dX5_escort_22 : decode cX5_escort 22 = .ok (.aload_n 0, 1) := by decide +kernel
theorem dX5_escort_23 : decode cX5_escort 23 = .ok (.iload_n 1, 1) := by decide +kernel
theorem dX5_escort_24 : decode cX5_escort 24 = .ok (.iload_n 2, 1) := by decide +kernel
theorem dX5_escort_25 : decode cX5_escort 25 = .ok (.invokevirtual 186, 3) := by decide +kernel
theorem dX5_escort_28 : decode cX5_escort 28 = .ok (.goto 4, 3) := by decide +kernel
theorem dX5_escort_31 : decode cX5_escort 31 = .ok (.iconst 0, 1) := by decide +kernel
theorem dX5_escort_32 : decode cX5_escort 32 = .ok (.ireturn, 1) := by decide +kernel
theorem dX5_freeRooms_0 : decode cX5_freeRooms 0 = .ok (.aload_n 0, 1) := by decide +kernel
theorem dX5_freeRooms_1 : decode cX5_freeRooms 1 = .ok (.aload_n 0, 1) := by decide +kernel
theorem dX5_freeRooms_2 : decode cX5_freeRooms 2 = .ok (.iload_n 1, 1) := by decide +kernel
theorem dX5_freeRooms_3 : decode cX5_freeRooms 3 = .ok (.invokevirtual 105, 3) := by decide +kernel
theorem dX5_freeRooms_6 : decode cX5_freeRooms 6 = .ok (.iload_n 2, 1) := by decide +kernel
theorem dX5_freeRooms_7 : decode cX5_freeRooms 7 = .ok (.invokestatic 112, 3) := by decide +kernel
theorem dX5_freeRooms_10 : decode cX5_freeRooms 10 = .ok (.ifCond .eq 14, 3) := by decide +kernel
theorem dX5_freeRooms_13 : decode cX5_freeRooms 13 = .ok (.iload_n 3, 1) := by decide +kernel
theorem dX5_freeRooms_14 : decode cX5_freeRooms 14 = .ok (.invokestatic 115, 3) := by decide +kernel
theorem dX5_freeRooms_17 : decode cX5_freeRooms 17 = .ok (.ifCond .eq 7, 3) := by decide +kernel
theorem dX5_freeRooms_20 : decode cX5_freeRooms 20 = .ok (.iconst 1, 1) := by decide +kernel
theorem dX5_freeRooms_21 : decode cX5_freeRooms 21 = .ok (.goto 4, 3) := by decide +kernel
theorem dX5_freeRooms_24 : decode cX5_freeRooms 24 = .ok (.iconst 0, 1) := by decide +kernel
theorem dX5_freeRooms_25 : decode cX5_freeRooms 25 = .ok (.iconst 1, 1) := by decide +kernel
theorem dX5_freeRooms_26 : decode cX5_freeRooms 26 = .ok (.invokevirtual 58, 3) := by decide +kernel
theorem dX5_freeRooms_29 : decode cX5_freeRooms 29 = .ok (.ifCond .ne 5, 3) := by decide +kernel
theorem dX5_freeRooms_32 : decode cX5_freeRooms 32 = .ok (.iconst 0, 1) := by decide +kernel
theorem dX5_freeRooms_33 : decode cX5_freeRooms 33 = .ok (.ireturn, 1) := by decide +kernel
theorem dX5_freeRooms_34 : decode cX5_freeRooms 34 = .ok (.aload_n 0, 1) := by decide +kernel
theorem dX5_freeRooms_35 : decode cX5_freeRooms 35 = .ok (.iload_n 2, 1) := by decide +kernel
theorem dX5_freeRooms_36 : decode cX5_freeRooms 36 = .ok (.invokevirtual 98, 3) := by decide +kernel
theorem dX5_freeRooms_39 : decode cX5_freeRooms 39 = .ok (.aload_n 0, 1) := by decide +kernel
theorem dX5_freeRooms_40 : decode cX5_freeRooms 40 = .ok (.getfield 19, 3) := by decide +kernel
theorem dX5_freeRooms_43 : decode cX5_freeRooms 43 = .ok (.bipush 28, 2) := by decide +kernel
theorem dX5_freeRooms_45 : decode cX5_freeRooms 45 = .ok (.iload_n 1, 1) := by decide +kernel
theorem dX5_freeRooms_46 : decode cX5_freeRooms 46 = .ok (.imul, 1) := by decide +kernel
theorem dX5_freeRooms_47 : decode cX5_freeRooms 47 = .ok (.iload_n 3, 1) := by decide +kernel
theorem dX5_freeRooms_48 : decode cX5_freeRooms 48 = .ok (.iadd, 1) := by decide +kernel
theorem dX5_freeRooms_49 : decode cX5_freeRooms 49 = .ok (.iaload, 1) := by decide +kernel
theorem dX5_freeRooms_50 : decode cX5_freeRooms 50 = .ok (.ireturn, 1) := by decide +kernel
theorem dX5_numberOf_0 : decode cX5_numberOf 0 = .ok (.iload_n 1, 1) := by decide +kernel
theorem dX5_numberOf_1 : decode cX5_numberOf 1 = .ok (.tableswitch 92 0 9 #[55, 55, 55, 55, 64, 71, 78, 85, 92, 71], 55) := by decide +kernel
theorem dX5_numberOf_56 : decode cX5_numberOf 56 = .ok (.aload_n 0, 1) := by decide +kernel
theorem dX5_numberOf_57 : decode cX5_numberOf 57 = .ok (.getfield 7, 3) := by decide +kernel
theorem dX5_numberOf_60 : decode cX5_numberOf 60 = .ok (.iconst 4, 1) := by decide +kernel
theorem dX5_numberOf_61 : decode cX5_numberOf 61 = .ok (.iload_n 1, 1) := by decide +kernel
theorem dX5_numberOf_62 : decode cX5_numberOf 62 = .ok (.iadd, 1) := by decide +kernel
theorem dX5_numberOf_63 : decode cX5_numberOf 63 = .ok (.iaload, 1) := by decide +kernel
theorem dX5_numberOf_64 : decode cX5_numberOf 64 = .ok (.ireturn, 1) := by decide +kernel
theorem dX5_numberOf_65 : decode cX5_numberOf 65 = .ok (.aload_n 0, 1) := by decide +kernel
theorem dX5_numberOf_66 : decode cX5_numberOf 66 = .ok (.getfield 7, 3) := by decide +kernel
theorem dX5_numberOf_69 : decode cX5_numberOf 69 = .ok (.iconst 0, 1) := by decide +kernel
theorem dX5_numberOf_70 : decode cX5_numberOf 70 = .ok (.iaload, 1) := by decide +kernel
theorem dX5_numberOf_71 : decode cX5_numberOf 71 = .ok (.ireturn, 1) := by decide +kernel
theorem dX5_numberOf_72 : decode cX5_numberOf 72 = .ok (.aload_n 0, 1) := by decide +kernel
theorem dX5_numberOf_73 : decode cX5_numberOf 73 = .ok (.getfield 7, 3) := by decide +kernel
theorem dX5_numberOf_76 : decode cX5_numberOf 76 = .ok (.iconst 1, 1) := by decide +kernel
theorem dX5_numberOf_77 : decode cX5_numberOf 77 = .ok (.iaload, 1) := by decide +kernel
theorem dX5_numberOf_78 : decode cX5_numberOf 78 = .ok (.ireturn, 1) := by decide +kernel
theorem dX5_numberOf_79 : decode cX5_numberOf 79 = .ok (.aload_n 0, 1) := by decide +kernel
theorem dX5_numberOf_80 : decode cX5_numberOf 80 = .ok (.getfield 7, 3) := by decide +kernel
theorem dX5_numberOf_83 : decode cX5_numberOf 83 = .ok (.iconst 2, 1) := by decide +kernel
theorem dX5_numberOf_84 : decode cX5_numberOf 84 = .ok (.iaload, 1) := by decide +kernel
theorem dX5_numberOf_85 : decode cX5_numberOf 85 = .ok (.ireturn, 1) := by decide +kernel
theorem dX5_numberOf_86 : decode cX5_numberOf 86 = .ok (.aload_n 0, 1) := by decide +kernel
theorem dX5_numberOf_87 : decode cX5_numberOf 87 = .ok (.getfield 7, 3) := by decide +kernel
theorem dX5_numberOf_90 : decode cX5_numberOf 90 = .ok (.iconst 3, 1) := by decide +kernel
theorem dX5_numberOf_91 : decode cX5_numberOf 91 = .ok (.iaload, 1) := by decide +kernel
theorem dX5_numberOf_92 : decode cX5_numberOf 92 = .ok (.ireturn, 1) := by decide +kernel
theorem dX5_numberOf_93 : decode cX5_numberOf 93 = .ok (.aload_n 0, 1) := by decide +kernel
theorem dX5_numberOf_94 : decode cX5_numberOf 94 = .ok (.aload_n 0, 1) := by decide +kernel
theorem dX5_numberOf_95 : decode cX5_numberOf 95 = .ok (.getfield 7, 3) := by decide +kernel
theorem dX5_numberOf_98 : decode cX5_numberOf 98 = .ok (.iconst 0, 1) := by decide +kernel
theorem dX5_numberOf_99 : decode cX5_numberOf 99 = .ok (.iaload, 1) := by decide +kernel
theorem dX5_numberOf_100 : decode cX5_numberOf 100 = .ok (.invokevirtual 189, 3) := by decide +kernel
theorem dX5_numberOf_103 : decode cX5_numberOf 103 = .ok (.ireturn, 1) := by decide +kernel
theorem dX5_value_0 : decode cX5_value 0 = .ok (.aload_n 0, 1) := by decide +kernel
theorem dX5_value_1 : decode cX5_value 1 = .ok (.iload_n 1, 1) := by decide +kernel
theorem dX5_value_2 : decode cX5_value 2 = .ok (.i2l, 1) := by decide +kernel
theorem dX5_value_3 : decode cX5_value 3 = .ok (.lconst 0, 1) := by decide +kernel
theorem dX5_value_4 : decode cX5_value 4 = .ok (.ldc2_w 192, 3) := by decide +kernel
theorem dX5_value_7 : decode cX5_value 7 = .ok (.invokestatic 44, 3) := by decide +kernel
theorem dX5_value_10 : decode cX5_value 10 = .ok (.iconst 1, 1) := by decide +kernel
theorem dX5_value_11 : decode cX5_value 11 = .ok (.iconst 1, 1) := by decide +kernel
theorem dX5_value_12 : decode cX5_value 12 = .ok (.invokevirtual 58, 3) := by decide +kernel
theorem dX5_value_15 : decode cX5_value 15 = .ok (.ifCond .eq 11, 3) := by decide +kernel
theorem dX5_value_18 : decode cX5_value 18 = .ok (.aload_n 0, 1) := by decide +kernel
theorem dX5_value_19 : decode cX5_value 19 = .ok (.iload_n 1, 1) := by decide +kernel
theorem dX5_value_20 : decode cX5_value 20 = .ok (.invokevirtual 194, 3) := by decide +kernel
theorem dX5_value_23 : decode cX5_value 23 = .ok (.goto 4, 3) := by decide +kernel
theorem dX5_value_26 : decode cX5_value 26 = .ok (.iconst 0, 1) := by decide +kernel
theorem dX5_value_27 : decode cX5_value 27 = .ok (.ireturn, 1) := by decide +kernel
theorem dX5_why_0 : decode cX5_why 0 = .ok (.aload_n 0, 1) := by decide +kernel
theorem dX5_why_1 : decode cX5_why 1 = .ok (.iload_n 1, 1) := by decide +kernel
theorem dX5_why_2 : decode cX5_why 2 = .ok (.iload 4, 2) := by decide +kernel
theorem dX5_why_4 : decode cX5_why 4 = .ok (.iload 5, 2) := by decide +kernel
theorem dX5_why_6 : decode cX5_why 6 = .ok (.invokevirtual 108, 3) := by decide +kernel
theorem dX5_why_9 : decode cX5_why 9 = .ok (.istore 6, 2) := by decide +kernel
theorem dX5_why_11 : decode cX5_why 11 = .ok (.aload_n 0, 1) := by decide +kernel
theorem dX5_why_12 : decode cX5_why 12 = .ok (.iload 6, 2) := by decide +kernel
theorem dX5_why_14 : decode cX5_why 14 = .ok (.iload_n 2, 1) := by decide +kernel
theorem dX5_why_15 : decode cX5_why 15 = .ok (.invokestatic 112, 3) := by decide +kernel
theorem dX5_why_18 : decode cX5_why 18 = .ok (.ifCond .eq 14, 3) := by decide +kernel
theorem dX5_why_21 : decode cX5_why 21 = .ok (.iload_n 3, 1) := by decide +kernel
theorem dX5_why_22 : decode cX5_why 22 = .ok (.invokestatic 115, 3) := by decide +kernel
theorem dX5_why_25 : decode cX5_why 25 = .ok (.ifCond .eq 7, 3) := by decide +kernel
theorem dX5_why_28 : decode cX5_why 28 = .ok (.iconst 1, 1) := by decide +kernel
theorem dX5_why_29 : decode cX5_why 29 = .ok (.goto 4, 3) := by decide +kernel
theorem dX5_why_32 : decode cX5_why 32 = .ok (.iconst 0, 1) := by decide +kernel
theorem dX5_why_33 : decode cX5_why 33 = .ok (.iconst 1, 1) := by decide +kernel
theorem dX5_why_34 : decode cX5_why 34 = .ok (.invokevirtual 58, 3) := by decide +kernel
theorem dX5_why_37 : decode cX5_why 37 = .ok (.ifCond .eq 17, 3) := by decide +kernel
theorem dX5_why_40 : decode cX5_why 40 = .ok (.aload_n 0, 1) := by decide +kernel
theorem dX5_why_41 : decode cX5_why 41 = .ok (.iload_n 1, 1) := by decide +kernel
theorem dX5_why_42 : decode cX5_why 42 = .ok (.iload_n 2, 1) := by decide +kernel
theorem dX5_why_43 : decode cX5_why 43 = .ok (.iload_n 3, 1) := by decide +kernel
theorem dX5_why_44 : decode cX5_why 44 = .ok (.iload 4, 2) := by decide +kernel
theorem dX5_why_46 : decode cX5_why 46 = .ok (.iload 5, 2) := by decide +kernel
theorem dX5_why_48 : decode cX5_why 48 = .ok (.invokevirtual 118, 3) := by decide +kernel
theorem dX5_why_51 : decode cX5_why 51 = .ok (.goto 4, 3) := by decide +kernel
theorem dX5_why_54 : decode cX5_why 54 = .ok (.iconst 0, 1) := by decide +kernel
theorem dX5_why_55 : decode cX5_why 55 = .ok (.ireturn, 1) := by decide +kernel
theorem dX5_firstSlot_0 : decode cX5_firstSlot 0 = .ok (.aload_n 0, 1) := by decide +kernel
theorem dX5_firstSlot_1 : decode cX5_firstSlot 1 = .ok (.aload_n 0, 1) := by decide +kernel
theorem dX5_firstSlot_2 : decode cX5_firstSlot 2 = .ok (.iload_n 1, 1) := by decide +kernel
theorem dX5_firstSlot_3 : decode cX5_firstSlot 3 = .ok (.invokevirtual 65, 3) := by decide +kernel
theorem dX5_firstSlot_6 : decode cX5_firstSlot 6 = .ok (.iload_n 2, 1) := by decide +kernel
theorem dX5_firstSlot_7 : decode cX5_firstSlot 7 = .ok (.invokestatic 112, 3) := by decide +kernel
theorem dX5_firstSlot_10 : decode cX5_firstSlot 10 = .ok (.iconst 1, 1) := by decide +kernel
theorem dX5_firstSlot_11 : decode cX5_firstSlot 11 = .ok (.invokevirtual 58, 3) := by decide +kernel
theorem dX5_firstSlot_14 : decode cX5_firstSlot 14 = .ok (.ifCond .ne 5, 3) := by decide +kernel
theorem dX5_firstSlot_17 : decode cX5_firstSlot 17 = .ok (.iconst 0, 1) := by decide +kernel
theorem dX5_firstSlot_18 : decode cX5_firstSlot 18 = .ok (.ireturn, 1) := by decide +kernel
theorem dX5_firstSlot_19 : decode cX5_firstSlot 19 = .ok (.aload_n 0, 1) := by decide +kernel
theorem dX5_firstSlot_20 : decode cX5_firstSlot 20 = .ok (.iload_n 2, 1) := by decide +kernel
theorem dX5_firstSlot_21 : decode cX5_firstSlot 21 = .ok (.invokevirtual 98, 3) := by decide +kernel
theorem dX5_firstSlot_24 : decode cX5_firstSlot 24 = .ok (.aload_n 0, 1) := by decide +kernel
theorem dX5_firstSlot_25 : decode cX5_firstSlot 25 = .ok (.iload_n 1, 1) := by decide +kernel
theorem dX5_firstSlot_26 : decode cX5_firstSlot 26 = .ok (.iload_n 2, 1) := by decide +kernel
theorem dX5_firstSlot_27 : decode cX5_firstSlot 27 = .ok (.invokevirtual 136, 3) := by decide +kernel
theorem dX5_firstSlot_30 : decode cX5_firstSlot 30 = .ok (.ireturn, 1) := by decide +kernel
theorem dX5_owedBehind_0 : decode cX5_owedBehind 0 = .ok (.aload_n 0, 1) := by decide +kernel
theorem dX5_owedBehind_1 : decode cX5_owedBehind 1 = .ok (.iload_n 1, 1) := by decide +kernel
theorem dX5_owedBehind_2 : decode cX5_owedBehind 2 = .ok (.invokestatic 112, 3) := by decide +kernel
theorem dX5_owedBehind_5 : decode cX5_owedBehind 5 = .ok (.iload_n 1, 1) := by decide +kernel
theorem dX5_owedBehind_6 : decode cX5_owedBehind 6 = .ok (.aload_n 0, 1) := by decide +kernel
theorem dX5_owedBehind_7 : decode cX5_owedBehind 7 = .ok (.getfield 7, 3) := by decide +kernel
theorem dX5_owedBehind_10 : decode cX5_owedBehind 10 = .ok (.iconst 0, 1) := by decide +kernel
theorem dX5_owedBehind_11 : decode cX5_owedBehind 11 = .ok (.iaload, 1) := by decide +kernel
theorem dX5_owedBehind_12 : decode cX5_owedBehind 12 = .ok (.if_icmp .lt 7, 3) := by decide +kernel
theorem dX5_owedBehind_15 : decode cX5_owedBehind 15 = .ok (.iconst 1, 1) := by decide +kernel
theorem dX5_owedBehind_16 : decode cX5_owedBehind 16 = .ok (.goto 4, 3) := by decide +kernel
theorem dX5_owedBehind_19 : decode cX5_owedBehind 19 = .ok (.iconst 0, 1) := by decide +kernel
theorem dX5_owedBehind_20 : decode cX5_owedBehind 20 = .ok (.iconst 1, 1) := by decide +kernel
theorem dX5_owedBehind_21 : decode cX5_owedBehind 21 = .ok (.invokevirtual 58, 3) := by decide +kernel
theorem dX5_owedBehind_24 : decode cX5_owedBehind 24 = .ok (.ifCond .ne 5, 3) := by decide +kernel
theorem dX5_owedBehind_27 : decode cX5_owedBehind 27 = .ok (.iconst 0, 1) := by decide +kernel
theorem dX5_owedBehind_28 : decode cX5_owedBehind 28 = .ok (.ireturn, 1) := by decide +kernel
theorem dX5_owedBehind_29 : decode cX5_owedBehind 29 = .ok (.aload_n 0, 1) := by decide +kernel
theorem dX5_owedBehind_30 : decode cX5_owedBehind 30 = .ok (.invokevirtual 197, 3) := by decide +kernel
theorem dX5_owedBehind_33 : decode cX5_owedBehind 33 = .ok (.aload_n 0, 1) := by decide +kernel
theorem dX5_owedBehind_34 : decode cX5_owedBehind 34 = .ok (.iload_n 1, 1) := by decide +kernel
theorem dX5_owedBehind_35 : decode cX5_owedBehind 35 = .ok (.invokevirtual 142, 3) := by decide +kernel
theorem dX5_owedBehind_38 : decode cX5_owedBehind 38 = .ok (.istore_n 2, 1) := by decide +kernel
theorem dX5_owedBehind_39 : decode cX5_owedBehind 39 = .ok (.aload_n 0, 1) := by decide +kernel
theorem dX5_owedBehind_40 : decode cX5_owedBehind 40 = .ok (.iload_n 1, 1) := by decide +kernel
theorem dX5_owedBehind_41 : decode cX5_owedBehind 41 = .ok (.invokevirtual 189, 3) := by decide +kernel
theorem dX5_owedBehind_44 : decode cX5_owedBehind 44 = .ok (.istore_n 3, 1) := by decide +kernel
theorem dX5_owedBehind_45 : decode cX5_owedBehind 45 = .ok (.aload_n 0, 1) := by decide +kernel
theorem dX5_owedBehind_46 : decode cX5_owedBehind 46 = .ok (.invokevirtual 200, 3) := by decide +kernel
theorem dX5_owedBehind_49 : decode cX5_owedBehind 49 = .ok (.iload_n 3, 1) := by decide +kernel
theorem dX5_owedBehind_50 : decode cX5_owedBehind 50 = .ok (.ireturn, 1) := by decide +kernel
theorem dX5_holdsAll_0 : decode cX5_holdsAll 0 = .ok (.iconst 0, 1) := by decide +kernel
theorem dX5_holdsAll_1 : decode cX5_holdsAll 1 = .ok (.istore_n 1, 1) := by decide +kernel
theorem dX5_holdsAll_2 : decode cX5_holdsAll 2 = .ok (.iload_n 1, 1) := by decide +kernel
theorem dX5_holdsAll_3 : decode cX5_holdsAll 3 = .ok (.aload_n 0, 1) := by decide +kernel
theorem dX5_holdsAll_4 : decode cX5_holdsAll 4 = .ok (.getfield 7, 3) := by decide +kernel
theorem dX5_holdsAll_7 : decode cX5_holdsAll 7 = .ok (.bipush 7, 2) := by decide +kernel
theorem dX5_holdsAll_9 : decode cX5_holdsAll 9 = .ok (.iaload, 1) := by decide +kernel
theorem dX5_holdsAll_10 : decode cX5_holdsAll 10 = .ok (.if_icmp .ge 22, 3) := by decide +kernel
theorem dX5_holdsAll_13 : decode cX5_holdsAll 13 = .ok (.aload_n 0, 1) := by decide +kernel
theorem dX5_holdsAll_14 : decode cX5_holdsAll 14 = .ok (.iload_n 1, 1) := by decide +kernel
theorem dX5_holdsAll_15 : decode cX5_holdsAll 15 = .ok (.invokevirtual 157, 3) := by decide +kernel
theorem dX5_holdsAll_18 : decode cX5_holdsAll 18 = .ok (.ifCond .eq 8, 3) := by decide +kernel
theorem dX5_holdsAll_21 : decode cX5_holdsAll 21 = .ok (.aload_n 0, 1) := by decide +kernel
theorem dX5_holdsAll_22 : decode cX5_holdsAll 22 = .ok (.iload_n 1, 1) := by decide +kernel
theorem dX5_holdsAll_23 : decode cX5_holdsAll 23 = .ok (.invokevirtual 151, 3) := by decide +kernel
theorem dX5_holdsAll_26 : decode cX5_holdsAll 26 = .ok (.iinc 1 1, 3) := by decide +kernel
theorem dX5_holdsAll_29 : decode cX5_holdsAll 29 = .ok (.goto (-27), 3) := by decide +kernel
theorem dX5_holdsAll_32 : decode cX5_holdsAll 32 = .ok (.return_, 1) := by decide +kernel
theorem dX5_settled_0 : decode cX5_settled 0 = .ok (.aload_n 0, 1) := by decide +kernel
theorem dX5_settled_1 : decode cX5_settled 1 = .ok (.invokevirtual 197, 3) := by decide +kernel
theorem dX5_settled_4 : decode cX5_settled 4 = .ok (.iconst (-1), 1) := by decide +kernel
theorem dX5_settled_5 : decode cX5_settled 5 = .ok (.istore_n 1, 1) := by decide +kernel
theorem dX5_settled_6 : decode cX5_settled 6 = .ok (.iconst 1, 1) := by decide +kernel
theorem dX5_settled_7 : decode cX5_settled 7 = .ok (.istore_n 2, 1) := by decide +kernel
theorem dX5_settled_8 : decode cX5_settled 8 = .ok (.iload_n 2, 1) := by decide +kernel
theorem dX5_settled_9 : decode cX5_settled 9 = .ok (.ifCond .eq 77, 3) := by decide +kernel
theorem dX5_settled_12 : decode cX5_settled 12 = .ok (.aload_n 0, 1) := by decide +kernel
theorem dX5_settled_13 : decode cX5_settled 13 = .ok (.aload_n 0, 1) := by decide +kernel
theorem dX5_settled_14 : decode cX5_settled 14 = .ok (.getfield 7, 3) := by decide +kernel
theorem dX5_settled_17 : decode cX5_settled 17 = .ok (.iconst 0, 1) := by decide +kernel
theorem dX5_settled_18 : decode cX5_settled 18 = .ok (.iaload, 1) := by decide +kernel
theorem dX5_settled_19 : decode cX5_settled 19 = .ok (.invokevirtual 142, 3) := by decide +kernel
theorem dX5_settled_22 : decode cX5_settled 22 = .ok (.istore_n 3, 1) := by decide +kernel
theorem dX5_settled_23 : decode cX5_settled 23 = .ok (.aload_n 0, 1) := by decide +kernel
theorem dX5_settled_24 : decode cX5_settled 24 = .ok (.invokevirtual 203, 3) := by decide +kernel
theorem dX5_settled_27 : decode cX5_settled 27 = .ok (.aload_n 0, 1) := by decide +kernel
theorem dX5_settled_28 : decode cX5_settled 28 = .ok (.aload_n 0, 1) := by decide +kernel
theorem dX5_settled_29 : decode cX5_settled 29 = .ok (.getfield 7, 3) := by decide +kernel
theorem dX5_settled_32 : decode cX5_settled 32 = .ok (.iconst 0, 1) := by decide +kernel
theorem dX5_settled_33 : decode cX5_settled 33 = .ok (.iaload, 1) := by decide +kernel
theorem dX5_settled_34 : decode cX5_settled 34 = .ok (.invokevirtual 189, 3) := by decide +kernel
theorem dX5_settled_37 : decode cX5_settled 37 = .ok (.ifCond .ne 12, 3) := by decide +kernel
theorem dX5_settled_40 : decode cX5_settled 40 = .ok (.aload_n 0, 1) := by decide +kernel
theorem dX5_settled_41 : decode cX5_settled 41 = .ok (.getfield 7, 3) := by decide +kernel
theorem dX5_settled_44 : decode cX5_settled 44 = .ok (.iconst 0, 1) := by decide +kernel
theorem dX5_settled_45 : decode cX5_settled 45 = .ok (.iaload, 1) := by decide +kernel
theorem dX5_settled_46 : decode cX5_settled 46 = .ok (.goto 4, 3) := by decide +kernel
theorem dX5_settled_49 : decode cX5_settled 49 = .ok (.iconst (-1), 1) := by decide +kernel
theorem dX5_settled_50 : decode cX5_settled 50 = .ok (.istore_n 1, 1) := by decide +kernel
theorem dX5_settled_51 : decode cX5_settled 51 = .ok (.iload_n 1, 1) := by decide +kernel
theorem dX5_settled_52 : decode cX5_settled 52 = .ok (.iconst (-1), 1) := by decide +kernel
theorem dX5_settled_53 : decode cX5_settled 53 = .ok (.if_icmp .ne 18, 3) := by decide +kernel
theorem dX5_settled_56 : decode cX5_settled 56 = .ok (.aload_n 0, 1) := by decide +kernel
theorem dX5_settled_57 : decode cX5_settled 57 = .ok (.getfield 7, 3) := by decide +kernel
theorem dX5_settled_60 : decode cX5_settled 60 = .ok (.iconst 0, 1) := by decide +kernel
theorem dX5_settled_61 : decode cX5_settled 61 = .ok (.iaload, 1) := by decide +kernel
theorem dX5_settled_62 : decode cX5_settled 62 = .ok (.bipush 19, 2) := by decide +kernel
theorem dX5_settled_64 : decode cX5_settled 64 = .ok (.if_icmp .ge 7, 3) := by decide +kernel
theorem dX5_settled_67 : decode cX5_settled 67 = .ok (.iconst 1, 1) := by decide +kernel
theorem dX5_settled_68 : decode cX5_settled 68 = .ok (.goto 4, 3) := by decide +kernel
theorem dX5_settled_71 : decode cX5_settled 71 = .ok (.iconst 0, 1) := by decide +kernel
theorem dX5_settled_72 : decode cX5_settled 72 = .ok (.istore_n 2, 1) := by decide +kernel
theorem dX5_settled_73 : decode cX5_settled 73 = .ok (.iload_n 2, 1) := by decide +kernel
theorem dX5_settled_74 : decode cX5_settled 74 = .ok (.ifCond .eq 9, 3) := by decide +kernel
theorem dX5_settled_77 : decode cX5_settled 77 = .ok (.aload_n 0, 1) := by decide +kernel
theorem dX5_settled_78 : decode cX5_settled 78 = .ok (.invokevirtual 164, 3) := by decide +kernel
theorem dX5_settled_81 : decode cX5_settled 81 = .ok (.istore 4, 2) := by decide +kernel
theorem dX5_settled_83 : decode cX5_settled 83 = .ok (.goto (-75), 3) := by decide +kernel
theorem dX5_settled_86 : decode cX5_settled 86 = .ok (.aload_n 0, 1) := by decide +kernel
theorem dX5_settled_87 : decode cX5_settled 87 = .ok (.invokevirtual 200, 3) := by decide +kernel
theorem dX5_settled_90 : decode cX5_settled 90 = .ok (.iload_n 1, 1) := by decide +kernel
theorem dX5_settled_91 : decode cX5_settled 91 = .ok (.ireturn, 1) := by decide +kernel
theorem dX5_settledIn_0 : decode cX5_settledIn 0 = .ok (.aload_n 0, 1) := by decide +kernel
theorem dX5_settledIn_1 : decode cX5_settledIn 1 = .ok (.iconst 0, 1) := by decide +kernel
theorem dX5_settledIn_2 : decode cX5_settledIn 2 = .ok (.putfield 37, 3) := by decide +kernel
theorem dX5_settledIn_5 : decode cX5_settledIn 5 = .ok (.aload_n 0, 1) := by decide +kernel
theorem dX5_settledIn_6 : decode cX5_settledIn 6 = .ok (.invokevirtual 206, 3) := by decide +kernel
theorem dX5_settledIn_9 : decode cX5_settledIn 9 = .ok (.ireturn, 1) := by decide +kernel
theorem dX5_gainBy_0 : decode cX5_gainBy 0 = .ok (.aload_n 0, 1) := by decide +kernel
theorem dX5_gainBy_1 : decode cX5_gainBy 1 = .ok (.iload_n 1, 1) := by decide +kernel
theorem dX5_gainBy_2 : decode cX5_gainBy 2 = .ok (.invokevirtual 84, 3) := by decide +kernel
theorem dX5_gainBy_5 : decode cX5_gainBy 5 = .ok (.istore_n 3, 1) := by decide +kernel
theorem dX5_gainBy_6 : decode cX5_gainBy 6 = .ok (.aload_n 0, 1) := by decide +kernel
theorem dX5_gainBy_7 : decode cX5_gainBy 7 = .ok (.iload_n 3, 1) := by decide +kernel
theorem dX5_gainBy_8 : decode cX5_gainBy 8 = .ok (.iload_n 2, 1) := by decide +kernel
theorem dX5_gainBy_9 : decode cX5_gainBy 9 = .ok (.invokestatic 112, 3) := by decide +kernel
theorem dX5_gainBy_12 : decode cX5_gainBy 12 = .ok (.iload_n 2, 1) := by decide +kernel
theorem dX5_gainBy_13 : decode cX5_gainBy 13 = .ok (.aload_n 0, 1) := by decide +kernel
theorem dX5_gainBy_14 : decode cX5_gainBy 14 = .ok (.getfield 7, 3) := by decide +kernel
theorem dX5_gainBy_17 : decode cX5_gainBy 17 = .ok (.iconst 0, 1) := by decide +kernel
theorem dX5_gainBy_18 : decode cX5_gainBy 18 = .ok (.iaload, 1) := by decide +kernel
theorem dX5_gainBy_19 : decode cX5_gainBy 19 = .ok (.if_icmp .lt 7, 3) := by decide +kernel
theorem dX5_gainBy_22 : decode cX5_gainBy 22 = .ok (.iconst 1, 1) := by decide +kernel
theorem dX5_gainBy_23 : decode cX5_gainBy 23 = .ok (.goto 4, 3) := by decide +kernel
theorem dX5_gainBy_26 : decode cX5_gainBy 26 = .ok (.iconst 0, 1) := by decide +kernel
theorem dX5_gainBy_27 : decode cX5_gainBy 27 = .ok (.invokevirtual 58, 3) := by decide +kernel
theorem dX5_gainBy_30 : decode cX5_gainBy 30 = .ok (.ifCond .ne 5, 3) := by decide +kernel
theorem dX5_gainBy_33 : decode cX5_gainBy 33 = .ok (.iconst 0, 1) := by decide +kernel
theorem dX5_gainBy_34 : decode cX5_gainBy 34 = .ok (.ireturn, 1) := by decide +kernel
theorem dX5_gainBy_35 : decode cX5_gainBy 35 = .ok (.aload_n 0, 1) := by decide +kernel
theorem dX5_gainBy_36 : decode cX5_gainBy 36 = .ok (.invokevirtual 197, 3) := by decide +kernel
theorem dX5_gainBy_39 : decode cX5_gainBy 39 = .ok (.aload_n 0, 1) := by decide +kernel
theorem dX5_gainBy_40 : decode cX5_gainBy 40 = .ok (.iload_n 2, 1) := by decide +kernel
theorem dX5_gainBy_41 : decode cX5_gainBy 41 = .ok (.invokevirtual 142, 3) := by decide +kernel
theorem dX5_gainBy_44 : decode cX5_gainBy 44 = .ok (.istore 4, 2) := by decide +kernel
theorem dX5_gainBy_46 : decode cX5_gainBy 46 = .ok (.aload_n 0, 1) := by decide +kernel
theorem dX5_gainBy_47 : decode cX5_gainBy 47 = .ok (.invokevirtual 200, 3) := by decide +kernel
theorem dX5_gainBy_50 : decode cX5_gainBy 50 = .ok (.aload_n 0, 1) := by decide +kernel
theorem dX5_gainBy_51 : decode cX5_gainBy 51 = .ok (.getfield 7, 3) := by decide +kernel
theorem dX5_gainBy_54 : decode cX5_gainBy 54 = .ok (.sipush 198, 3) := by decide +kernel
theorem dX5_gainBy_57 : decode cX5_gainBy 57 = .ok (.iload_n 1, 1) := by decide +kernel
theorem dX5_gainBy_58 : decode cX5_gainBy 58 = .ok (.iadd, 1) := by decide +kernel
theorem dX5_gainBy_59 : decode cX5_gainBy 59 = .ok (.bipush 20, 2) := by decide +kernel
theorem dX5_gainBy_61 : decode cX5_gainBy 61 = .ok (.iastore, 1) := by decide +kernel
theorem dX5_gainBy_62 : decode cX5_gainBy 62 = .ok (.aload_n 0, 1) := by decide +kernel
theorem dX5_gainBy_63 : decode cX5_gainBy 63 = .ok (.iload_n 2, 1) := by decide +kernel
theorem dX5_gainBy_64 : decode cX5_gainBy 64 = .ok (.invokevirtual 142, 3) := by decide +kernel
theorem dX5_gainBy_67 : decode cX5_gainBy 67 = .ok (.istore 5, 2) := by decide +kernel
theorem dX5_gainBy_69 : decode cX5_gainBy 69 = .ok (.aload_n 0, 1) := by decide +kernel
theorem dX5_gainBy_70 : decode cX5_gainBy 70 = .ok (.invokevirtual 200, 3) := by decide +kernel
theorem dX5_gainBy_73 : decode cX5_gainBy 73 = .ok (.iload 5, 2) := by decide +kernel
theorem dX5_gainBy_75 : decode cX5_gainBy 75 = .ok (.iload 4, 2) := by decide +kernel
theorem dX5_gainBy_77 : decode cX5_gainBy 77 = .ok (.isub, 1) := by decide +kernel
theorem dX5_gainBy_78 : decode cX5_gainBy 78 = .ok (.ireturn, 1) := by decide +kernel
theorem dX5_kept_0 : decode cX5_kept 0 = .ok (.aload_n 0, 1) := by decide +kernel
theorem dX5_kept_1 : decode cX5_kept 1 = .ok (.iconst 0, 1) := by decide +kernel
theorem dX5_kept_2 : decode cX5_kept 2 = .ok (.putfield 37, 3) := by decide +kernel
theorem dX5_kept_5 : decode cX5_kept 5 = .ok (.aload_n 0, 1) := by decide +kernel
theorem dX5_kept_6 : decode cX5_kept 6 = .ok (.getfield 7, 3) := by decide +kernel
theorem dX5_kept_9 : decode cX5_kept 9 = .ok (.iconst 2, 1) := by decide +kernel
theorem dX5_kept_10 : decode cX5_kept 10 = .ok (.iaload, 1) := by decide +kernel
theorem dX5_kept_11 : decode cX5_kept 11 = .ok (.aload_n 0, 1) := by decide +kernel
theorem dX5_kept_12 : decode cX5_kept 12 = .ok (.getfield 7, 3) := by decide +kernel
theorem dX5_kept_15 : decode cX5_kept 15 = .ok (.iconst 3, 1) := by decide +kernel
theorem dX5_kept_16 : decode cX5_kept 16 = .ok (.iaload, 1) := by decide +kernel
theorem dX5_kept_17 : decode cX5_kept 17 = .ok (.iadd, 1) := by decide +kernel
theorem dX5_kept_18 : decode cX5_kept 18 = .ok (.istore_n 1, 1) := by decide +kernel
theorem dX5_kept_19 : decode cX5_kept 19 = .ok (.iload_n 1, 1) := by decide +kernel
theorem dX5_kept_20 : decode cX5_kept 20 = .ok (.ifCond .ne 7, 3) := by decide +kernel
theorem dX5_kept_23 : decode cX5_kept 23 = .ok (.dconst 1, 1) := by decide +kernel
theorem dX5_kept_24 : decode cX5_kept 24 = .ok (.goto 13, 3) := by decide +kernel
theorem dX5_kept_27 : decode cX5_kept 27 = .ok (.aload_n 0, 1) := by decide +kernel
theorem dX5_kept_28 : decode cX5_kept 28 = .ok (.getfield 7, 3) := by decide +kernel
theorem dX5_kept_31 : decode cX5_kept 31 = .ok (.iconst 2, 1) := by decide +kernel
theorem dX5_kept_32 : decode cX5_kept 32 = .ok (.iaload, 1) := by decide +kernel
theorem dX5_kept_33 : decode cX5_kept 33 = .ok (.i2d, 1) := by decide +kernel
theorem dX5_kept_34 : decode cX5_kept 34 = .ok (.iload_n 1, 1) := by decide +kernel
theorem dX5_kept_35 : decode cX5_kept 35 = .ok (.i2d, 1) := by decide +kernel
theorem dX5_kept_36 : decode cX5_kept 36 = .ok (.ddiv, 1) := by decide +kernel
theorem dX5_kept_37 : decode cX5_kept 37 = .ok (.dreturn, 1) := by decide +kernel
theorem dX5_append_0 : decode cX5_append 0 = .ok (.aload_n 0, 1) := by decide +kernel
theorem dX5_append_1 : decode cX5_append 1 = .ok (.iload_n 1, 1) := by decide +kernel
theorem dX5_append_2 : decode cX5_append 2 = .ok (.i2l, 1) := by decide +kernel
theorem dX5_append_3 : decode cX5_append 3 = .ok (.lconst 0, 1) := by decide +kernel
theorem dX5_append_4 : decode cX5_append 4 = .ok (.ldc2_w 209, 3) := by decide +kernel
theorem dX5_append_7 : decode cX5_append 7 = .ok (.invokestatic 44, 3) := by decide +kernel
theorem dX5_append_10 : decode cX5_append 10 = .ok (.aload_n 0, 1) := by decide +kernel
theorem dX5_append_11 : decode cX5_append 11 = .ok (.getfield 211, 3) := by decide +kernel
theorem dX5_append_14 : decode cX5_append 14 = .ok (.bipush 100, 2) := by decide +kernel
theorem dX5_append_16 : decode cX5_append 16 = .ok (.if_icmp .ge 7, 3) := by decide +kernel
theorem dX5_append_19 : decode cX5_append 19 = .ok (.iconst 1, 1) := by decide +kernel
theorem dX5_append_20 : decode cX5_append 20 = .ok (.goto 4, 3) := by decide +kernel
theorem dX5_append_23 : decode cX5_append 23 = .ok (.iconst 0, 1) := by decide +kernel
theorem dX5_append_24 : decode cX5_append 24 = .ok (.iconst 1, 1) := by decide +kernel
theorem dX5_append_25 : decode cX5_append 25 = .ok (.invokevirtual 58, 3) := by decide +kernel
theorem dX5_append_28 : decode cX5_append 28 = .ok (.ifCond .ne 5, 3) := by decide +kernel
theorem dX5_append_31 : decode cX5_append 31 = .ok (.iconst 0, 1) := by decide +kernel
theorem dX5_append_32 : decode cX5_append 32 = .ok (.ireturn, 1) := by decide +kernel
theorem dX5_append_33 : decode cX5_append 33 = .ok (.aload_n 0, 1) := by decide +kernel
theorem dX5_append_34 : decode cX5_append 34 = .ok (.getfield 31, 3) := by decide +kernel
theorem dX5_append_37 : decode cX5_append 37 = .ok (.aload_n 0, 1) := by decide +kernel
theorem dX5_append_38 : decode cX5_append 38 = .ok (.getfield 211, 3) := by decide +kernel
theorem dX5_append_41 : decode cX5_append 41 = .ok (.iload_n 1, 1) := by decide +kernel
theorem dX5_append_42 : decode cX5_append 42 = .ok (.iastore, 1) := by decide +kernel
theorem dX5_append_43 : decode cX5_append 43 = .ok (.aload_n 0, 1) := by decide +kernel
theorem dX5_append_44 : decode cX5_append 44 = .ok (.dup, 1) := by decide +kernel
theorem dX5_append_45 : decode cX5_append 45 = .ok (.getfield 211, 3) := by decide +kernel
theorem dX5_append_48 : decode cX5_append 48 = .ok (.iconst 1, 1) := by decide +kernel
theorem dX5_append_49 : decode cX5_append 49 = .ok (.iadd, 1) := by decide +kernel
theorem dX5_append_50 : decode cX5_append 50 = .ok (.putfield 211, 3) := by decide +kernel
theorem dX5_append_53 : decode cX5_append 53 = .ok (.aload_n 0, 1) := by decide +kernel
theorem dX5_append_54 : decode cX5_append 54 = .ok (.getfield 211, 3) := by decide +kernel
theorem dX5_append_57 : decode cX5_append 57 = .ok (.ireturn, 1) := by decide +kernel
theorem dX5_clearText_0 : decode cX5_clearText 0 = .ok (.aload_n 0, 1) := by decide +kernel
theorem dX5_clearText_1 : decode cX5_clearText 1 = .ok (.iconst 0, 1) := by decide +kernel
theorem dX5_clearText_2 : decode cX5_clearText 2 = .ok (.putfield 37, 3) := by decide +kernel
theorem dX5_clearText_5 : decode cX5_clearText 5 = .ok (.aload_n 0, 1) := by decide +kernel
theorem dX5_clearText_6 : decode cX5_clearText 6 = .ok (.getfield 211, 3) := by decide +kernel
theorem dX5_clearText_9 : decode cX5_clearText 9 = .ok (.istore_n 1, 1) := by decide +kernel
theorem dX5_clearText_10 : decode cX5_clearText 10 = .ok (.aload_n 0, 1) := by decide +kernel
theorem dX5_clearText_11 : decode cX5_clearText 11 = .ok (.iconst 0, 1) := by decide +kernel
theorem dX5_clearText_12 : decode cX5_clearText 12 = .ok (.putfield 211, 3) := by decide +kernel
theorem dX5_clearText_15 : decode cX5_clearText 15 = .ok (.iload_n 1, 1) := by decide +kernel
theorem dX5_clearText_16 : decode cX5_clearText 16 = .ok (.ireturn, 1) := by decide +kernel
theorem dX5_here_0 : decode cX5_here 0 = .ok (.aload_n 0, 1) := by decide +kernel
theorem dX5_here_1 : decode cX5_here 1 = .ok (.getfield 214, 3) := by decide +kernel
theorem dX5_here_4 : decode cX5_here 4 = .ok (.aload_n 0, 1) := by decide +kernel
theorem dX5_here_5 : decode cX5_here 5 = .ok (.getfield 211, 3) := by decide +kernel
theorem dX5_here_8 : decode cX5_here 8 = .ok (.if_icmp .ge 15, 3) := by decide +kernel
theorem dX5_here_11 : decode cX5_here 11 = .ok (.aload_n 0, 1) := by decide +kernel
theorem dX5_here_12 : decode cX5_here 12 = .ok (.getfield 31, 3) := by decide +kernel
theorem dX5_here_15 : decode cX5_here 15 = .ok (.aload_n 0, 1) := by decide +kernel
theorem dX5_here_16 : decode cX5_here 16 = .ok (.getfield 214, 3) := by decide +kernel
theorem dX5_here_19 : decode cX5_here 19 = .ok (.iaload, 1) := by decide +kernel
theorem dX5_here_20 : decode cX5_here 20 = .ok (.goto 4, 3) := by decide +kernel
theorem dX5_here_23 : decode cX5_here 23 = .ok (.iconst (-1), 1) := by decide +kernel
theorem dX5_here_24 : decode cX5_here 24 = .ok (.ireturn, 1) := by decide +kernel
theorem dX5_takesByte_0 : decode cX5_takesByte 0 = .ok (.aload_n 0, 1) := by decide +kernel
theorem dX5_takesByte_1 : decode cX5_takesByte 1 = .ok (.invokevirtual 217, 3) := by decide +kernel
theorem dX5_takesByte_4 : decode cX5_takesByte 4 = .ok (.iload_n 1, 1) := by decide +kernel
theorem dX5_takesByte_5 : decode cX5_takesByte 5 = .ok (.if_icmp .ne 7, 3) := by decide +kernel
theorem dX5_takesByte_8 : decode cX5_takesByte 8 = .ok (.iconst 1, 1) := by decide +kernel
theorem dX5_takesByte_9 : decode cX5_takesByte 9 = .ok (.goto 4, 3) := by decide +kernel
theorem dX5_takesByte_12 : decode cX5_takesByte 12 = .ok (.iconst 0, 1) := by decide +kernel
theorem dX5_takesByte_13 : decode cX5_takesByte 13 = .ok (.istore_n 2, 1) := by decide +kernel
theorem dX5_takesByte_14 : decode cX5_takesByte 14 = .ok (.aload_n 0, 1) := by decide +kernel
theorem dX5_takesByte_15 : decode cX5_takesByte 15 = .ok (.dup, 1) := by decide +kernel
theorem dX5_takesByte_16 : decode cX5_takesByte 16 = .ok (.getfield 214, 3) := by decide +kernel
theorem dX5_takesByte_19 : decode cX5_takesByte 19 = .ok (.iload_n 2, 1) := by decide +kernel
theorem dX5_takesByte_20 : decode cX5_takesByte 20 = .ok (.ifCond .eq 7, 3) := by decide +kernel
theorem dX5_takesByte_23 : decode cX5_takesByte 23 = .ok (.iconst 1, 1) := by decide +kernel
theorem dX5_takesByte_24 : decode cX5_takesByte 24 = .ok (.goto 4, 3) := by decide +kernel
theorem dX5_takesByte_27 : decode cX5_takesByte 27 = .ok (.iconst 0, 1) := by decide +kernel
theorem dX5_takesByte_28 : decode cX5_takesByte 28 = .ok (.iadd, 1) := by decide +kernel
theorem dX5_takesByte_29 : decode cX5_takesByte 29 = .ok (.putfield 214, 3) := by decide +kernel
theorem dX5_takesByte_32 : decode cX5_takesByte 32 = .ok (.iload_n 2, 1) := by decide +kernel
theorem dX5_takesByte_33 : decode cX5_takesByte 33 = .ok (.ireturn, 1) := by decide +kernel
theorem dX5_takesDigit_0 : decode cX5_takesDigit 0 = .ok (.aload_n 0, 1) := by decide +kernel
theorem dX5_takesDigit_1 : decode cX5_takesDigit 1 = .ok (.invokevirtual 217, 3) := by decide +kernel
theorem dX5_takesDigit_4 : decode cX5_takesDigit 4 = .ok (.i2l, 1) := by decide +kernel
theorem dX5_takesDigit_5 : decode cX5_takesDigit 5 = .ok (.ldc2_w 220, 3) := by decide +kernel
theorem dX5_takesDigit_8 : decode cX5_takesDigit 8 = .ok (.ldc2_w 222, 3) := by decide +kernel
theorem dX5_takesDigit_11 : decode cX5_takesDigit 11 = .ok (.invokestatic 44, 3) := by decide +kernel
theorem dX5_takesDigit_14 : decode cX5_takesDigit 14 = .ok (.ifCond .ne 5, 3) := by decide +kernel
theorem dX5_takesDigit_17 : decode cX5_takesDigit 17 = .ok (.iconst 0, 1) := by decide +kernel
theorem dX5_takesDigit_18 : decode cX5_takesDigit 18 = .ok (.ireturn, 1) := by decide +kernel
theorem dX5_takesDigit_19 : decode cX5_takesDigit 19 = .ok (.aload_n 0, 1) := by decide +kernel
theorem dX5_takesDigit_20 : decode cX5_takesDigit 20 = .ok (.getfield 34, 3) := by decide +kernel
theorem dX5_takesDigit_23 : decode cX5_takesDigit 23 = .ok (.iload_n 1, 1) := by decide +kernel
theorem dX5_takesDigit_24 : decode cX5_takesDigit 24 = .ok (.aload_n 0, 1) := by decide +kernel
theorem dX5_takesDigit_25 : decode cX5_takesDigit 25 = .ok (.invokevirtual 217, 3) := by decide +kernel
theorem dX5_takesDigit_28 : decode cX5_takesDigit 28 = .ok (.bipush 48, 2) := by decide +kernel
theorem dX5_takesDigit_30 : decode cX5_takesDigit 30 = .ok (.isub, 1) := by decide +kernel
theorem dX5_takesDigit_31 : decode cX5_takesDigit 31 = .ok (.iastore, 1) := by decide +kernel
theorem dX5_takesDigit_32 : decode cX5_takesDigit 32 = .ok (.aload_n 0, 1) := by decide +kernel
theorem dX5_takesDigit_33 : decode cX5_takesDigit 33 = .ok (.dup, 1) := by decide +kernel
theorem dX5_takesDigit_34 : decode cX5_takesDigit 34 = .ok (.getfield 214, 3) := by decide +kernel
theorem dX5_takesDigit_37 : decode cX5_takesDigit 37 = .ok (.iconst 1, 1) := by decide +kernel
theorem dX5_takesDigit_38 : decode cX5_takesDigit 38 = .ok (.iadd, 1) := by decide +kernel
theorem dX5_takesDigit_39 : decode cX5_takesDigit 39 = .ok (.putfield 214, 3) := by decide +kernel
theorem dX5_takesDigit_42 : decode cX5_takesDigit 42 = .ok (.iconst 1, 1) := by decide +kernel
theorem dX5_takesDigit_43 : decode cX5_takesDigit 43 = .ok (.ireturn, 1) := by decide +kernel
theorem dX5_takesNumber_0 : decode cX5_takesNumber 0 = .ok (.aload_n 0, 1) := by decide +kernel
theorem dX5_takesNumber_1 : decode cX5_takesNumber 1 = .ok (.getfield 214, 3) := by decide +kernel
theorem dX5_takesNumber_4 : decode cX5_takesNumber 4 = .ok (.istore_n 3, 1) := by decide +kernel
theorem dX5_takesNumber_5 : decode cX5_takesNumber 5 = .ok (.iconst 0, 1) := by decide +kernel
theorem dX5_takesNumber_6 : decode cX5_takesNumber 6 = .ok (.istore 4, 2) := by decide +kernel
theorem dX5_takesNumber_8 : decode cX5_takesNumber 8 = .ok (.aload_n 0, 1) := by decide +kernel
theorem dX5_takesNumber_9 : decode cX5_takesNumber 9 = .ok (.invokevirtual 217, 3) := by decide +kernel
theorem dX5_takesNumber_12 : decode cX5_takesNumber 12 = .ok (.i2l, 1) := by decide +kernel
theorem dX5_takesNumber_13 : decode cX5_takesNumber 13 = .ok (.ldc2_w 220, 3) := by decide +kernel
theorem dX5_takesNumber_16 : decode cX5_takesNumber 16 = .ok (.ldc2_w 224, 3) := by decide +kernel
theorem dX5_takesNumber_19 : decode cX5_takesNumber 19 = .ok (.invokestatic 44, 3) := by decide +kernel
theorem dX5_takesNumber_22 : decode cX5_takesNumber 22 = .ok (.ifCond .eq 41, 3) := by decide +kernel
theorem dX5_takesNumber_25 : decode cX5_takesNumber 25 = .ok (.aload_n 0, 1) := by decide +kernel
theorem dX5_takesNumber_26 : decode cX5_takesNumber 26 = .ok (.getfield 214, 3) := by decide +kernel
theorem dX5_takesNumber_29 : decode cX5_takesNumber 29 = .ok (.iload_n 3, 1) := by decide +kernel
theorem dX5_takesNumber_30 : decode cX5_takesNumber 30 = .ok (.iconst 2, 1) := by decide +kernel
theorem dX5_takesNumber_31 : decode cX5_takesNumber 31 = .ok (.iadd, 1) := by decide +kernel
theorem dX5_takesNumber_32 : decode cX5_takesNumber 32 = .ok (.if_icmp .ge 31, 3) := by decide +kernel
theorem dX5_takesNumber_35 : decode cX5_takesNumber 35 = .ok (.bipush 10, 2) := by decide +kernel
theorem dX5_takesNumber_37 : decode cX5_takesNumber 37 = .ok (.iload 4, 2) := by decide +kernel
theorem dX5_takesNumber_39 : decode cX5_takesNumber 39 = .ok (.imul, 1) := by decide +kernel
theorem dX5_takesNumber_40 : decode cX5_takesNumber 40 = .ok (.aload_n 0, 1) := by decide +kernel
theorem dX5_takesNumber_41 : decode cX5_takesNumber 41 = .ok (.invokevirtual 217, 3) := by decide +kernel
theorem dX5_takesNumber_44 : decode cX5_takesNumber 44 = .ok (.iadd, 1) := by decide +kernel
theorem dX5_takesNumber_45 : decode cX5_takesNumber 45 = .ok (.bipush 48, 2) := by decide +kernel
theorem dX5_takesNumber_47 : decode cX5_takesNumber 47 = .ok (.isub, 1) := by decide +kernel
theorem dX5_takesNumber_48 : decode cX5_takesNumber 48 = .ok (.istore 4, 2) := by decide +kernel
theorem dX5_takesNumber_50 : decode cX5_takesNumber 50 = .ok (.aload_n 0, 1) := by decide +kernel
theorem dX5_takesNumber_51 : decode cX5_takesNumber 51 = .ok (.dup, 1) := by decide +kernel
theorem dX5_takesNumber_52 : decode cX5_takesNumber 52 = .ok (.getfield 214, 3) := by decide +kernel
theorem dX5_takesNumber_55 : decode cX5_takesNumber 55 = .ok (.iconst 1, 1) := by decide +kernel
theorem dX5_takesNumber_56 : decode cX5_takesNumber 56 = .ok (.iadd, 1) := by decide +kernel
theorem dX5_takesNumber_57 : decode cX5_takesNumber 57 = .ok (.putfield 214, 3) := by decide +kernel
theorem dX5_takesNumber_60 : decode cX5_takesNumber 60 = .ok (.goto (-52), 3) := by decide +kernel
theorem dX5_takesNumber_63 : decode cX5_takesNumber 63 = .ok (.aload_n 0, 1) := by decide +kernel
theorem dX5_takesNumber_64 : decode cX5_takesNumber 64 = .ok (.getfield 214, 3) := by decide +kernel
theorem dX5_takesNumber_67 : decode cX5_takesNumber 67 = .ok (.iload_n 3, 1) := by decide +kernel
theorem dX5_takesNumber_68 : decode cX5_takesNumber 68 = .ok (.if_icmp .eq 20, 3) := by decide +kernel
theorem dX5_takesNumber_71 : decode cX5_takesNumber 71 = .ok (.aload_n 0, 1) := by decide +kernel
theorem dX5_takesNumber_72 : decode cX5_takesNumber 72 = .ok (.invokevirtual 217, 3) := by decide +kernel
theorem dX5_takesNumber_75 : decode cX5_takesNumber 75 = .ok (.i2l, 1) := by decide +kernel
theorem dX5_takesNumber_76 : decode cX5_takesNumber 76 = .ok (.ldc2_w 220, 3) := by decide +kernel
theorem dX5_takesNumber_79 : decode cX5_takesNumber 79 = .ok (.ldc2_w 224, 3) := by decide +kernel
theorem dX5_takesNumber_82 : decode cX5_takesNumber 82 = .ok (.invokestatic 44, 3) := by decide +kernel
theorem dX5_takesNumber_85 : decode cX5_takesNumber 85 = .ok (.ifCond .eq 5, 3) := by decide +kernel
theorem dX5_takesNumber_88 : decode cX5_takesNumber 88 = .ok (.iconst 0, 1) := by decide +kernel
theorem dX5_takesNumber_89 : decode cX5_takesNumber 89 = .ok (.ireturn, 1) := by decide +kernel
theorem dX5_takesNumber_90 : decode cX5_takesNumber 90 = .ok (.aload_n 0, 1) := by decide +kernel
theorem dX5_takesNumber_91 : decode cX5_takesNumber 91 = .ok (.getfield 34, 3) := by decide +kernel
theorem dX5_takesNumber_94 : decode cX5_takesNumber 94 = .ok (.iload_n 1, 1) := by decide +kernel
theorem dX5_takesNumber_95 : decode cX5_takesNumber 95 = .ok (.iload 4, 2) := by decide +kernel
theorem dX5_takesNumber_97 : decode cX5_takesNumber 97 = .ok (.iastore, 1) := by decide +kernel
theorem dX5_takesNumber_98 : decode cX5_takesNumber 98 = .ok (.aload_n 0, 1) := by decide +kernel
theorem dX5_takesNumber_99 : decode cX5_takesNumber 99 = .ok (.iload 4, 2) := by decide +kernel
theorem dX5_takesNumber_101 : decode cX5_takesNumber 101 = .ok (.iload_n 2, 1) := by decide +kernel
theorem dX5_takesNumber_102 : decode cX5_takesNumber 102 = .ok (.if_icmp .gt 10, 3) := by decide +kernel
theorem dX5_takesNumber_105 : decode cX5_takesNumber 105 = .ok (.aload_n 0, 1) := by decide +kernel
theorem dX5_takesNumber_106 : decode cX5_takesNumber 106 = .ok (.getfield 214, 3) := by decide +kernel
theorem dX5_takesNumber_109 : decode cX5_takesNumber 109 = .ok (.goto 4, 3) := by decide +kernel
theorem dX5_takesNumber_112 : decode cX5_takesNumber 112 = .ok (.iload_n 3, 1) := by decide +kernel
theorem dX5_takesNumber_113 : decode cX5_takesNumber 113 = .ok (.putfield 214, 3) := by decide +kernel
theorem dX5_takesNumber_116 : decode cX5_takesNumber 116 = .ok (.aload_n 0, 1) := by decide +kernel
theorem dX5_takesNumber_117 : decode cX5_takesNumber 117 = .ok (.getfield 214, 3) := by decide +kernel
theorem dX5_takesNumber_120 : decode cX5_takesNumber 120 = .ok (.iload_n 3, 1) := by decide +kernel
theorem dX5_takesNumber_121 : decode cX5_takesNumber 121 = .ok (.if_icmp .le 7, 3) := by decide +kernel
theorem dX5_takesNumber_124 : decode cX5_takesNumber 124 = .ok (.iconst 1, 1) := by decide +kernel
theorem dX5_takesNumber_125 : decode cX5_takesNumber 125 = .ok (.goto 4, 3) := by decide +kernel
theorem dX5_takesNumber_128 : decode cX5_takesNumber 128 = .ok (.iconst 0, 1) := by decide +kernel
theorem dX5_takesNumber_129 : decode cX5_takesNumber 129 = .ok (.ireturn, 1) := by decide +kernel
theorem dX5_takesParts_0 : decode cX5_takesParts 0 = .ok (.aload_n 0, 1) := by decide +kernel
theorem dX5_takesParts_1 : decode cX5_takesParts 1 = .ok (.getfield 226, 3) := by decide +kernel
theorem dX5_takesParts_4 : decode cX5_takesParts 4 = .ok (.lookupswitch 101 #[(99, 44), (104, 93), (109, 93), (112, 85)], 44) := by decide +kernel
theorem dX5_takesParts_48 : decode cX5_takesParts 48 = .ok (.aload_n 0, 1) := by decide +kernel
theorem dX5_takesParts_49 : decode cX5_takesParts 49 = .ok (.iconst 0, 1) := by decide +kernel
theorem dX5_takesParts_50 : decode cX5_takesParts 50 = .ok (.invokevirtual 229, 3) := by decide +kernel
theorem dX5_takesParts_53 : decode cX5_takesParts 53 = .ok (.ifCond .eq 34, 3) := by decide +kernel
theorem dX5_takesParts_56 : decode cX5_takesParts 56 = .ok (.aload_n 0, 1) := by decide +kernel
theorem dX5_takesParts_57 : decode cX5_takesParts 57 = .ok (.iconst 1, 1) := by decide +kernel
theorem dX5_takesParts_58 : decode cX5_takesParts 58 = .ok (.bipush 19, 2) := by decide +kernel
theorem dX5_takesParts_60 : decode cX5_takesParts 60 = .ok (.invokevirtual 232, 3) := by decide +kernel
theorem dX5_takesParts_63 : decode cX5_takesParts 63 = .ok (.ifCond .eq 24, 3) := by decide +kernel
theorem dX5_takesParts_66 : decode cX5_takesParts 66 = .ok (.aload_n 0, 1) := by decide +kernel
theorem dX5_takesParts_67 : decode cX5_takesParts 67 = .ok (.bipush 58, 2) := by decide +kernel
theorem dX5_takesParts_69 : decode cX5_takesParts 69 = .ok (.invokevirtual 235, 3) := by decide +kernel
theorem dX5_takesParts_72 : decode cX5_takesParts 72 = .ok (.ifCond .eq 15, 3) := by decide +kernel
theorem dX5_takesParts_75 : decode cX5_takesParts 75 = .ok (.aload_n 0, 1) := by decide +kernel
theorem dX5_takesParts_76 : decode cX5_takesParts 76 = .ok (.iconst 2, 1) := by decide +kernel
theorem dX5_takesParts_77 : decode cX5_takesParts 77 = .ok (.invokevirtual 229, 3) := by decide +kernel
theorem dX5_takesParts_80 : decode cX5_takesParts 80 = .ok (.ifCond .eq 7, 3) := by decide +kernel
theorem dX5_takesParts_83 : decode cX5_takesParts 83 = .ok (.iconst 1, 1) := by decide +kernel
theorem dX5_takesParts_84 : decode cX5_takesParts 84 = .ok (.goto 4, 3) := by decide +kernel
theorem dX5_takesParts_87 : decode cX5_takesParts 87 = .ok (.iconst 0, 1) := by decide +kernel
theorem dX5_takesParts_88 : decode cX5_takesParts 88 = .ok (.ireturn, 1) := by decide +kernel
theorem dX5_takesParts_89 : decode cX5_takesParts 89 = .ok (.aload_n 0, 1) := by decide +kernel
theorem dX5_takesParts_90 : decode cX5_takesParts 90 = .ok (.iconst 0, 1) := by decide +kernel
theorem dX5_takesParts_91 : decode cX5_takesParts 91 = .ok (.bipush 19, 2) := by decide +kernel
theorem dX5_takesParts_93 : decode cX5_takesParts 93 = .ok (.invokevirtual 232, 3) := by decide +kernel
theorem dX5_takesParts_96 : decode cX5_takesParts 96 = .ok (.ireturn, 1) := by decide +kernel
theorem dX5_takesParts_97 : decode cX5_takesParts 97 = .ok (.aload_n 0, 1) := by decide +kernel
theorem dX5_takesParts_98 : decode cX5_takesParts 98 = .ok (.iconst 0, 1) := by decide +kernel
theorem dX5_takesParts_99 : decode cX5_takesParts 99 = .ok (.bipush 99, 2) := by decide +kernel
theorem dX5_takesParts_101 : decode cX5_takesParts 101 = .ok (.invokevirtual 232, 3) := by decide +kernel
theorem dX5_takesParts_104 : decode cX5_takesParts 104 = .ok (.ireturn, 1) := by decide +kernel
theorem dX5_takesParts_105 : decode cX5_takesParts 105 = .ok (.iconst 1, 1) := by decide +kernel
theorem dX5_takesParts_106 : decode cX5_takesParts 106 = .ok (.ireturn, 1) := by decide +kernel
theorem dX5_takesOrder_0 : decode cX5_takesOrder 0 = .ok (.aload_n 0, 1) := by decide +kernel
theorem dX5_takesOrder_1 : decode cX5_takesOrder 1 = .ok (.aload_n 0, 1) := by decide +kernel
theorem dX5_takesOrder_2 : decode cX5_takesOrder 2 = .ok (.invokevirtual 217, 3) := by decide +kernel
theorem dX5_takesOrder_5 : decode cX5_takesOrder 5 = .ok (.putfield 226, 3) := by decide +kernel
theorem dX5_takesOrder_8 : decode cX5_takesOrder 8 = .ok (.aload_n 0, 1) := by decide +kernel
theorem dX5_takesOrder_9 : decode cX5_takesOrder 9 = .ok (.getfield 226, 3) := by decide +kernel
theorem dX5_takesOrder_12 : decode cX5_takesOrder 12 = .ok (.bipush 99, 2) := by decide +kernel
theorem dX5_takesOrder_14 : decode cX5_takesOrder 14 = .ok (.if_icmp .eq 41, 3) := by decide +kernel
theorem dX5_takesOrder_17 : decode cX5_takesOrder 17 = .ok (.aload_n 0, 1) := by decide +kernel
theorem dX5_takesOrder_18 : decode cX5_takesOrder 18 = .ok (.getfield 226, 3) := by decide +kernel
theorem dX5_takesOrder_21 : decode cX5_takesOrder 21 = .ok (.bipush 112, 2) := by decide +kernel
theorem dX5_takesOrder_23 : decode cX5_takesOrder 23 = .ok (.if_icmp .eq 32, 3) := by decide +kernel
theorem dX5_takesOrder_26 : decode cX5_takesOrder 26 = .ok (.aload_n 0, 1) := by decide +kernel
theorem dX5_takesOrder_27 : decode cX5_takesOrder 27 = .ok (.getfield 226, 3) := by decide +kernel
theorem dX5_takesOrder_30 : decode cX5_takesOrder 30 = .ok (.bipush 104, 2) := by decide +kernel
theorem dX5_takesOrder_32 : decode cX5_takesOrder 32 = .ok (.if_icmp .eq 23, 3) := by decide +kernel
theorem dX5_takesOrder_35 : decode cX5_takesOrder 35 = .ok (.aload_n 0, 1) := by decide +kernel
theorem dX5_takesOrder_36 : decode cX5_takesOrder 36 = .ok (.getfield 226, 3) := by decide +kernel
theorem dX5_takesOrder_39 : decode cX5_takesOrder 39 = .ok (.bipush 109, 2) := by decide +kernel
theorem dX5_takesOrder_41 : decode cX5_takesOrder 41 = .ok (.if_icmp .eq 14, 3) := by decide +kernel
theorem dX5_takesOrder_44 : decode cX5_takesOrder 44 = .ok (.aload_n 0, 1) := by decide +kernel
theorem dX5_takesOrder_45 : decode cX5_takesOrder 45 = .ok (.getfield 226, 3) := by decide +kernel
theorem dX5_takesOrder_48 : decode cX5_takesOrder 48 = .ok (.bipush 119, 2) := by decide +kernel
theorem dX5_takesOrder_50 : decode cX5_takesOrder 50 = .ok (.if_icmp .eq 5, 3) := by decide +kernel
theorem dX5_takesOrder_53 : decode cX5_takesOrder 53 = .ok (.iconst 0, 1) := by decide +kernel
theorem dX5_takesOrder_54 : decode cX5_takesOrder 54 = .ok (.ireturn, 1) := by decide +kernel
theorem dX5_takesOrder_55 : decode cX5_takesOrder 55 = .ok (.aload_n 0, 1) := by decide +kernel
theorem dX5_takesOrder_56 : decode cX5_takesOrder 56 = .ok (.dup, 1) := by decide +kernel
theorem dX5_takesOrder_57 : decode cX5_takesOrder 57 = .ok (.getfield 214, 3) := by decide +kernel
theorem dX5_takesOrder_60 : decode cX5_takesOrder 60 = .ok (.iconst 1, 1) := by decide +kernel
theorem dX5_takesOrder_61 : decode cX5_takesOrder 61 = .ok (.iadd, 1) := by decide +kernel
theorem dX5_takesOrder_62 : decode cX5_takesOrder 62 = .ok (.putfield 214, 3) := by decide +kernel
theorem dX5_takesOrder_65 : decode cX5_takesOrder 65 = .ok (.aload_n 0, 1) := by decide +kernel
theorem dX5_takesOrder_66 : decode cX5_takesOrder 66 = .ok (.invokevirtual 238, 3) := by decide +kernel
theorem dX5_takesOrder_69 : decode cX5_takesOrder 69 = .ok (.ifCond .eq 16, 3) := by decide +kernel
theorem dX5_takesOrder_72 : decode cX5_takesOrder 72 = .ok (.aload_n 0, 1) := by decide +kernel
theorem dX5_takesOrder_73 : decode cX5_takesOrder 73 = .ok (.bipush 59, 2) := by decide +kernel
theorem dX5_takesOrder_75 : decode cX5_takesOrder 75 = .ok (.invokevirtual 235, 3) := by decide +kernel
theorem dX5_takesOrder_78 : decode cX5_takesOrder 78 = .ok (.ifCond .eq 7, 3) := by decide +kernel
theorem dX5_takesOrder_81 : decode cX5_takesOrder 81 = .ok (.iconst 1, 1) := by decide +kernel
theorem dX5_takesOrder_82 : decode cX5_takesOrder 82 = .ok (.goto 4, 3) := by decide +kernel
theorem dX5_takesOrder_85 : decode cX5_takesOrder 85 = .ok (.iconst 0, 1) := by decide +kernel
theorem dX5_takesOrder_86 : decode cX5_takesOrder 86 = .ok (.ireturn, 1) := by decide +kernel
theorem dX5_changesOrder_0 : decode cX5_changesOrder 0 = .ok (.aload_n 0, 1) := by decide +kernel
theorem dX5_changesOrder_1 : decode cX5_changesOrder 1 = .ok (.aload_n 0, 1) := by decide +kernel
theorem dX5_changesOrder_2 : decode cX5_changesOrder 2 = .ok (.getfield 34, 3) := by decide +kernel
theorem dX5_changesOrder_5 : decode cX5_changesOrder 5 = .ok (.iconst 0, 1) := by decide +kernel
theorem dX5_changesOrder_6 : decode cX5_changesOrder 6 = .ok (.iaload, 1) := by decide +kernel
theorem dX5_changesOrder_7 : decode cX5_changesOrder 7 = .ok (.invokevirtual 65, 3) := by decide +kernel
theorem dX5_changesOrder_10 : decode cX5_changesOrder 10 = .ok (.ifCond .eq 22, 3) := by decide +kernel
theorem dX5_changesOrder_13 : decode cX5_changesOrder 13 = .ok (.aload_n 0, 1) := by decide +kernel
theorem dX5_changesOrder_14 : decode cX5_changesOrder 14 = .ok (.aload_n 0, 1) := by decide +kernel
theorem dX5_changesOrder_15 : decode cX5_changesOrder 15 = .ok (.getfield 34, 3) := by decide +kernel
theorem dX5_changesOrder_18 : decode cX5_changesOrder 18 = .ok (.iconst 1, 1) := by decide +kernel
theorem dX5_changesOrder_19 : decode cX5_changesOrder 19 = .ok (.iaload, 1) := by decide +kernel
theorem dX5_changesOrder_20 : decode cX5_changesOrder 20 = .ok (.aload_n 0, 1) := by decide +kernel
theorem dX5_changesOrder_21 : decode cX5_changesOrder 21 = .ok (.getfield 34, 3) := by decide +kernel
theorem dX5_changesOrder_24 : decode cX5_changesOrder 24 = .ok (.iconst 2, 1) := by decide +kernel
theorem dX5_changesOrder_25 : decode cX5_changesOrder 25 = .ok (.iaload, 1) := by decide +kernel
theorem dX5_changesOrder_26 : decode cX5_changesOrder 26 = .ok (.invokevirtual 68, 3) := by decide +kernel
theorem dX5_changesOrder_29 : decode cX5_changesOrder 29 = .ok (.ifCond .ne 5, 3) := by decide +kernel
theorem dX5_changesOrder_32 : decode cX5_changesOrder 32 = .ok (.iconst 0, 1) := by decide +kernel
theorem dX5_changesOrder_33 : decode cX5_changesOrder 33 = .ok (.ireturn, 1) := by decide +kernel
theorem dX5_changesOrder_34 : decode cX5_changesOrder 34 = .ok (.aload_n 0, 1) := by decide +kernel
theorem dX5_changesOrder_35 : decode cX5_changesOrder 35 = .ok (.aload_n 0, 1) := by decide +kernel
theorem dX5_changesOrder_36 : decode cX5_changesOrder 36 = .ok (.getfield 34, 3) := by decide +kernel
theorem dX5_changesOrder_39 : decode cX5_changesOrder 39 = .ok (.iconst 0, 1) := by decide +kernel
theorem dX5_changesOrder_40 : decode cX5_changesOrder 40 = .ok (.iaload, 1) := by decide +kernel
theorem dX5_changesOrder_41 : decode cX5_changesOrder 41 = .ok (.aload_n 0, 1) := by decide +kernel
theorem dX5_changesOrder_42 : decode cX5_changesOrder 42 = .ok (.getfield 34, 3) := by decide +kernel
theorem dX5_changesOrder_45 : decode cX5_changesOrder 45 = .ok (.iconst 1, 1) := by decide +kernel
theorem dX5_changesOrder_46 : decode cX5_changesOrder 46 = .ok (.iaload, 1) := by decide +kernel
theorem dX5_changesOrder_47 : decode cX5_changesOrder 47 = .ok (.aload_n 0, 1) := by decide +kernel
theorem dX5_changesOrder_48 : decode cX5_changesOrder 48 = .ok (.getfield 34, 3) := by decide +kernel
theorem dX5_changesOrder_51 : decode cX5_changesOrder 51 = .ok (.iconst 2, 1) := by decide +kernel
theorem dX5_changesOrder_52 : decode cX5_changesOrder 52 = .ok (.iaload, 1) := by decide +kernel
theorem dX5_changesOrder_53 : decode cX5_changesOrder 53 = .ok (.invokevirtual 72, 3) := by decide +kernel
theorem dX5_changesOrder_56 : decode cX5_changesOrder 56 = .ok (.iconst 1, 1) := by decide +kernel
theorem dX5_changesOrder_57 : decode cX5_changesOrder 57 = .ok (.ireturn, 1) := by decide +kernel
theorem dX5_does_0 : decode cX5_does 0 = .ok (.iconst 0, 1) := by decide +kernel
theorem dX5_does_1 : decode cX5_does 1 = .ok (.istore_n 1, 1) := by decide +kernel
theorem dX5_does_2 : decode cX5_does 2 = .ok (.aload_n 0, 1) := by decide +kernel
theorem dX5_does_3 : decode cX5_does 3 = .ok (.getfield 226, 3) := by decide +kernel
theorem dX5_does_6 : decode cX5_does 6 = .ok (.bipush 99, 2) := by decide +kernel
theorem dX5_does_8 : decode cX5_does 8 = .ok (.if_icmp .ne 8, 3) := by decide +kernel
theorem dX5_does_11 : decode cX5_does 11 = .ok (.aload_n 0, 1) := by decide +kernel
theorem dX5_does_12 : decode cX5_does 12 = .ok (.invokevirtual 242, 3) := by decide +kernel
theorem dX5_does_15 : decode cX5_does 15 = .ok (.ireturn, 1) := by decide +kernel
theorem dX5_does_16 : decode cX5_does 16 = .ok (.aload_n 0, 1) := by decide +kernel
theorem dX5_does_17 : decode cX5_does 17 = .ok (.getfield 226, 3) := by decide +kernel
theorem dX5_does_20 : decode cX5_does 20 = .ok (.bipush 112, 2) := by decide +kernel
theorem dX5_does_22 : decode cX5_does 22 = .ok (.if_icmp .ne 33, 3) := by decide +kernel
theorem dX5_does_25 : decode cX5_does 25 = .ok (.aload_n 0, 1) := by decide +kernel
theorem dX5_does_26 : decode cX5_does 26 = .ok (.getfield 34, 3) := by decide +kernel
theorem dX5_does_29 : decode cX5_does 29 = .ok (.iconst 0, 1) := by decide +kernel
theorem dX5_does_30 : decode cX5_does 30 = .ok (.iaload, 1) := by decide +kernel
theorem dX5_does_31 : decode cX5_does 31 = .ok (.aload_n 0, 1) := by decide +kernel
theorem dX5_does_32 : decode cX5_does 32 = .ok (.getfield 7, 3) := by decide +kernel
theorem dX5_does_35 : decode cX5_does 35 = .ok (.iconst 0, 1) := by decide +kernel
theorem dX5_does_36 : decode cX5_does 36 = .ok (.iaload, 1) := by decide +kernel
theorem dX5_does_37 : decode cX5_does 37 = .ok (.if_icmp .ge 5, 3) := by decide +kernel
theorem dX5_does_40 : decode cX5_does 40 = .ok (.iconst 0, 1) := by decide +kernel
theorem dX5_does_41 : decode cX5_does 41 = .ok (.ireturn, 1) := by decide +kernel
theorem dX5_does_42 : decode cX5_does 42 = .ok (.aload_n 0, 1) := by decide +kernel
theorem dX5_does_43 : decode cX5_does 43 = .ok (.aload_n 0, 1) := by decide +kernel
theorem dX5_does_44 : decode cX5_does 44 = .ok (.getfield 34, 3) := by decide +kernel
theorem dX5_does_47 : decode cX5_does 47 = .ok (.iconst 0, 1) := by decide +kernel
theorem dX5_does_48 : decode cX5_does 48 = .ok (.iaload, 1) := by decide +kernel
theorem dX5_does_49 : decode cX5_does 49 = .ok (.invokevirtual 142, 3) := by decide +kernel
theorem dX5_does_52 : decode cX5_does 52 = .ok (.istore_n 1, 1) := by decide +kernel
theorem dX5_does_53 : decode cX5_does 53 = .ok (.iconst 1, 1) := by decide +kernel
theorem dX5_does_54 : decode cX5_does 54 = .ok (.ireturn, 1) := by decide +kernel
theorem dX5_does_55 : decode cX5_does 55 = .ok (.aload_n 0, 1) := by decide +kernel
theorem dX5_does_56 : decode cX5_does 56 = .ok (.getfield 226, 3) := by decide +kernel
theorem dX5_does_59 : decode cX5_does 59 = .ok (.bipush 119, 2) := by decide +kernel
theorem dX5_does_61 : decode cX5_does 61 = .ok (.if_icmp .ne 23, 3) := by decide +kernel
theorem dX5_does_64 : decode cX5_does 64 = .ok (.aload_n 0, 1) := by decide +kernel
theorem dX5_does_65 : decode cX5_does 65 = .ok (.getfield 7, 3) := by decide +kernel
theorem dX5_does_68 : decode cX5_does 68 = .ok (.iconst 0, 1) := by decide +kernel
theorem dX5_does_69 : decode cX5_does 69 = .ok (.iaload, 1) := by decide +kernel
theorem dX5_does_70 : decode cX5_does 70 = .ok (.bipush 19, 2) := by decide +kernel
theorem dX5_does_72 : decode cX5_does 72 = .ok (.if_icmp .ne 5, 3) := by decide +kernel
theorem dX5_does_75 : decode cX5_does 75 = .ok (.iconst 0, 1) := by decide +kernel
theorem dX5_does_76 : decode cX5_does 76 = .ok (.ireturn, 1) := by decide +kernel
theorem dX5_does_77 : decode cX5_does 77 = .ok (.aload_n 0, 1) := by decide +kernel
theorem dX5_does_78 : decode cX5_does 78 = .ok (.invokevirtual 164, 3) := by decide +kernel
theorem dX5_does_81 : decode cX5_does 81 = .ok (.istore_n 1, 1) := by decide +kernel
theorem dX5_does_82 : decode cX5_does 82 = .ok (.iconst 1, 1) := by decide +kernel
theorem dX5_does_83 : decode cX5_does 83 = .ok (.ireturn, 1) := by decide +kernel
theorem dX5_does_84 : decode cX5_does 84 = .ok (.aload_n 0, 1) := by decide +kernel
theorem dX5_does_85 : decode cX5_does 85 = .ok (.aload_n 0, 1) := by decide +kernel
theorem dX5_does_86 : decode cX5_does 86 = .ok (.getfield 34, 3) := by decide +kernel
theorem dX5_does_89 : decode cX5_does 89 = .ok (.iconst 0, 1) := by decide +kernel
theorem dX5_does_90 : decode cX5_does 90 = .ok (.iaload, 1) := by decide +kernel
theorem dX5_does_91 : decode cX5_does 91 = .ok (.invokevirtual 145, 3) := by decide +kernel
theorem dX5_does_94 : decode cX5_does 94 = .ok (.istore_n 2, 1) := by decide +kernel
theorem dX5_does_95 : decode cX5_does 95 = .ok (.aload_n 0, 1) := by decide +kernel
theorem dX5_does_96 : decode cX5_does 96 = .ok (.iload_n 2, 1) := by decide +kernel
theorem dX5_does_97 : decode cX5_does 97 = .ok (.invokevirtual 157, 3) := by decide +kernel
theorem dX5_does_100 : decode cX5_does 100 = .ok (.ifCond .ne 5, 3) := by decide +kernel
theorem dX5_does_103 : decode cX5_does 103 = .ok (.iconst 0, 1) := by decide +kernel
theorem dX5_does_104 : decode cX5_does 104 = .ok (.ireturn, 1) := by decide +kernel
theorem dX5_does_105 : decode cX5_does 105 = .ok (.aload_n 0, 1) := by decide +kernel
theorem dX5_does_106 : decode cX5_does 106 = .ok (.iload_n 2, 1) := by decide +kernel
theorem dX5_does_107 : decode cX5_does 107 = .ok (.aload_n 0, 1) := by decide +kernel
theorem dX5_does_108 : decode cX5_does 108 = .ok (.getfield 226, 3) := by decide +kernel
theorem dX5_does_111 : decode cX5_does 111 = .ok (.bipush 104, 2) := by decide +kernel
theorem dX5_does_113 : decode cX5_does 113 = .ok (.if_icmp .ne 7, 3) := by decide +kernel
theorem dX5_does_116 : decode cX5_does 116 = .ok (.iconst 1, 1) := by decide +kernel
theorem dX5_does_117 : decode cX5_does 117 = .ok (.goto 4, 3) := by decide +kernel
theorem dX5_does_120 : decode cX5_does 120 = .ok (.iconst 0, 1) := by decide +kernel
theorem dX5_does_121 : decode cX5_does 121 = .ok (.invokevirtual 160, 3) := by decide +kernel
theorem dX5_does_124 : decode cX5_does 124 = .ok (.iconst 1, 1) := by decide +kernel
theorem dX5_does_125 : decode cX5_does 125 = .ok (.ireturn, 1) := by decide +kernel
theorem dX5_carryOut_0 : decode cX5_carryOut 0 = .ok (.aload_n 0, 1) := by decide +kernel
theorem dX5_carryOut_1 : decode cX5_carryOut 1 = .ok (.iconst 0, 1) := by decide +kernel
theorem dX5_carryOut_2 : decode cX5_carryOut 2 = .ok (.putfield 37, 3) := by decide +kernel
theorem dX5_carryOut_5 : decode cX5_carryOut 5 = .ok (.aload_n 0, 1) := by decide +kernel
theorem dX5_carryOut_6 : decode cX5_carryOut 6 = .ok (.iconst 0, 1) := by decide +kernel
theorem dX5_carryOut_7 : decode cX5_carryOut 7 = .ok (.putfield 214, 3) := by decide +kernel
theorem dX5_carryOut_10 : decode cX5_carryOut 10 = .ok (.aload_n 0, 1) := by decide +kernel
theorem dX5_carryOut_11 : decode cX5_carryOut 11 = .ok (.getfield 214, 3) := by decide +kernel
theorem dX5_carryOut_14 : decode cX5_carryOut 14 = .ok (.aload_n 0, 1) := by decide +kernel
theorem dX5_carryOut_15 : decode cX5_carryOut 15 = .ok (.getfield 211, 3) := by decide +kernel
theorem dX5_carryOut_18 : decode cX5_carryOut 18 = .ok (.if_icmp .ge 18, 3) := by decide +kernel
theorem dX5_carryOut_21 : decode cX5_carryOut 21 = .ok (.aload_n 0, 1) := by decide +kernel
theorem dX5_carryOut_22 : decode cX5_carryOut 22 = .ok (.invokevirtual 245, 3) := by decide +kernel
theorem dX5_carryOut_25 : decode cX5_carryOut 25 = .ok (.ifCond .ne (-15), 3) := by decide +kernel
theorem dX5_carryOut_28 : decode cX5_carryOut 28 = .ok (.bipush (-10), 2) := by decide +kernel
theorem dX5_carryOut_30 : decode cX5_carryOut 30 = .ok (.aload_n 0, 1) := by decide +kernel
theorem dX5_carryOut_31 : decode cX5_carryOut 31 = .ok (.getfield 214, 3) := by decide +kernel
theorem dX5_carryOut_34 : decode cX5_carryOut 34 = .ok (.isub, 1) := by decide +kernel
theorem dX5_carryOut_35 : decode cX5_carryOut 35 = .ok (.ireturn, 1) := by decide +kernel
theorem dX5_carryOut_36 : decode cX5_carryOut 36 = .ok (.aload_n 0, 1) := by decide +kernel
theorem dX5_carryOut_37 : decode cX5_carryOut 37 = .ok (.invokevirtual 62, 3) := by decide +kernel
theorem dX5_carryOut_40 : decode cX5_carryOut 40 = .ok (.aload_n 0, 1) := by decide +kernel
theorem dX5_carryOut_41 : decode cX5_carryOut 41 = .ok (.iconst 0, 1) := by decide +kernel
theorem dX5_carryOut_42 : decode cX5_carryOut 42 = .ok (.putfield 214, 3) := by decide +kernel
theorem dX5_carryOut_45 : decode cX5_carryOut 45 = .ok (.iconst 0, 1) := by decide +kernel
theorem dX5_carryOut_46 : decode cX5_carryOut 46 = .ok (.istore_n 1, 1) := by decide +kernel
theorem dX5_carryOut_47 : decode cX5_carryOut 47 = .ok (.aload_n 0, 1) := by decide +kernel
theorem dX5_carryOut_48 : decode cX5_carryOut 48 = .ok (.getfield 214, 3) := by decide +kernel
theorem dX5_carryOut_51 : decode cX5_carryOut 51 = .ok (.aload_n 0, 1) := by decide +kernel
theorem dX5_carryOut_52 : decode cX5_carryOut 52 = .ok (.getfield 211, 3) := by decide +kernel
theorem dX5_carryOut_55 : decode cX5_carryOut 55 = .ok (.if_icmp .ge 23, 3) := by decide +kernel
theorem dX5_carryOut_58 : decode cX5_carryOut 58 = .ok (.aload_n 0, 1) := by decide +kernel
theorem dX5_carryOut_59 : decode cX5_carryOut 59 = .ok (.invokevirtual 245, 3) := by decide +kernel
theorem dX5_carryOut_62 : decode cX5_carryOut 62 = .ok (.ifCond .eq 16, 3) := by decide +kernel
theorem dX5_carryOut_65 : decode cX5_carryOut 65 = .ok (.aload_n 0, 1) := by decide +kernel
theorem dX5_carryOut_66 : decode cX5_carryOut 66 = .ok (.invokevirtual 248, 3) := by decide +kernel
theorem dX5_carryOut_69 : decode cX5_carryOut 69 = .ok (.ifCond .eq 9, 3) := by decide +kernel
theorem dX5_carryOut_72 : decode cX5_carryOut 72 = .ok (.iinc 1 1, 3) := by decide +kernel
theorem dX5_carryOut_75 : decode cX5_carryOut 75 = .ok (.goto (-28), 3) := by decide +kernel
theorem dX5_carryOut_78 : decode cX5_carryOut 78 = .ok (.iload_n 1, 1) := by decide +kernel
theorem dX5_carryOut_79 : decode cX5_carryOut 79 = .ok (.ireturn, 1) := by decide +kernel
theorem dX5_undo_0 : decode cX5_undo 0 = .ok (.aload_n 0, 1) := by decide +kernel
theorem dX5_undo_1 : decode cX5_undo 1 = .ok (.aload_n 0, 1) := by decide +kernel
theorem dX5_undo_2 : decode cX5_undo 2 = .ok (.getfield 41, 3) := by decide +kernel
theorem dX5_undo_5 : decode cX5_undo 5 = .ok (.ifCond .le 7, 3) := by decide +kernel
theorem dX5_undo_8 : decode cX5_undo 8 = .ok (.iconst 1, 1) := by decide +kernel
theorem dX5_undo_9 : decode cX5_undo 9 = .ok (.goto 4, 3) := by decide +kernel
theorem dX5_undo_12 : decode cX5_undo 12 = .ok (.iconst 0, 1) := by decide +kernel
theorem dX5_undo_13 : decode cX5_undo 13 = .ok (.iconst 1, 1) := by decide +kernel
theorem dX5_undo_14 : decode cX5_undo 14 = .ok (.iconst 1, 1) := by decide +kernel
theorem dX5_undo_15 : decode cX5_undo 15 = .ok (.invokevirtual 58, 3) := by decide +kernel
theorem dX5_undo_18 : decode cX5_undo 18 = .ok (.ifCond .ne 5, 3) := by decide +kernel
theorem dX5_undo_21 : decode cX5_undo 21 = .ok (.iconst 0, 1) := by decide +kernel
theorem dX5_undo_22 : decode cX5_undo 22 = .ok (.ireturn, 1) := by decide +kernel
theorem dX5_undo_23 : decode cX5_undo 23 = .ok (.aload_n 0, 1) := by decide +kernel
theorem dX5_undo_24 : decode cX5_undo 24 = .ok (.dup, 1) := by decide +kernel
theorem dX5_undo_25 : decode cX5_undo 25 = .ok (.getfield 41, 3) := by decide +kernel
theorem dX5_undo_28 : decode cX5_undo 28 = .ok (.iconst 1, 1) := by decide +kernel
theorem dX5_undo_29 : decode cX5_undo 29 = .ok (.isub, 1) := by decide +kernel
theorem dX5_undo_30 : decode cX5_undo 30 = .ok (.putfield 41, 3) := by decide +kernel
theorem dX5_undo_33 : decode cX5_undo 33 = .ok (.iconst 0, 1) := by decide +kernel
theorem dX5_undo_34 : decode cX5_undo 34 = .ok (.istore_n 1, 1) := by decide +kernel
theorem dX5_undo_35 : decode cX5_undo 35 = .ok (.iload_n 1, 1) := by decide +kernel
theorem dX5_undo_36 : decode cX5_undo 36 = .ok (.sipush 640, 3) := by decide +kernel
theorem dX5_undo_39 : decode cX5_undo 39 = .ok (.if_icmp .ge 30, 3) := by decide +kernel
theorem dX5_undo_42 : decode cX5_undo 42 = .ok (.aload_n 0, 1) := by decide +kernel
theorem dX5_undo_43 : decode cX5_undo 43 = .ok (.getfield 7, 3) := by decide +kernel
theorem dX5_undo_46 : decode cX5_undo 46 = .ok (.iload_n 1, 1) := by decide +kernel
theorem dX5_undo_47 : decode cX5_undo 47 = .ok (.aload_n 0, 1) := by decide +kernel
theorem dX5_undo_48 : decode cX5_undo 48 = .ok (.getfield 13, 3) := by decide +kernel
theorem dX5_undo_51 : decode cX5_undo 51 = .ok (.sipush 640, 3) := by decide +kernel
theorem dX5_undo_54 : decode cX5_undo 54 = .ok (.aload_n 0, 1) := by decide +kernel
theorem dX5_undo_55 : decode cX5_undo 55 = .ok (.getfield 41, 3) := by decide +kernel
theorem dX5_undo_58 : decode cX5_undo 58 = .ok (.imul, 1) := by decide +kernel
theorem dX5_undo_59 : decode cX5_undo 59 = .ok (.iload_n 1, 1) := by decide +kernel
theorem dX5_undo_60 : decode cX5_undo 60 = .ok (.iadd, 1) := by decide +kernel
theorem dX5_undo_61 : decode cX5_undo 61 = .ok (.iaload, 1) := by decide +kernel
theorem dX5_undo_62 : decode cX5_undo 62 = .ok (.iastore, 1) := by decide +kernel
theorem dX5_undo_63 : decode cX5_undo 63 = .ok (.iinc 1 1, 3) := by decide +kernel
theorem dX5_undo_66 : decode cX5_undo 66 = .ok (.goto (-31), 3) := by decide +kernel
theorem dX5_undo_69 : decode cX5_undo 69 = .ok (.aload_n 0, 1) := by decide +kernel
theorem dX5_undo_70 : decode cX5_undo 70 = .ok (.getfield 41, 3) := by decide +kernel
theorem dX5_undo_73 : decode cX5_undo 73 = .ok (.ireturn, 1) := by decide +kernel
theorem dX5_adds_0 : decode cX5_adds 0 = .ok (.aload_n 0, 1) := by decide +kernel
theorem dX5_adds_1 : decode cX5_adds 1 = .ok (.ldc2_w 251, 3) := by decide +kernel
theorem dX5_adds_4 : decode cX5_adds 4 = .ok (.aload_n 0, 1) := by decide +kernel
theorem dX5_adds_5 : decode cX5_adds 5 = .ok (.getfield 253, 3) := by decide +kernel
theorem dX5_adds_8 : decode cX5_adds 8 = .ok (.lmul, 1) := by decide +kernel
theorem dX5_adds_9 : decode cX5_adds 9 = .ok (.iload_n 1, 1) := by decide +kernel
theorem dX5_adds_10 : decode cX5_adds 10 = .ok (.i2l, 1) := by decide +kernel
theorem dX5_adds_11 : decode cX5_adds 11 = .ok (.ladd, 1) := by decide +kernel
theorem dX5_adds_12 : decode cX5_adds 12 = .ok (.putfield 253, 3) := by decide +kernel
theorem dX5_adds_15 : decode cX5_adds 15 = .ok (.return_, 1) := by decide +kernel
theorem dX5_addsOrder_0 : decode cX5_addsOrder 0 = .ok (.iconst 0, 1) := by decide +kernel
theorem dX5_addsOrder_1 : decode cX5_addsOrder 1 = .ok (.istore_n 2, 1) := by decide +kernel
theorem dX5_addsOrder_2 : decode cX5_addsOrder 2 = .ok (.iload_n 2, 1) := by decide +kernel
theorem dX5_addsOrder_3 : decode cX5_addsOrder 3 = .ok (.bipush 7, 2) := by decide +kernel
theorem dX5_addsOrder_5 : decode cX5_addsOrder 5 = .ok (.if_icmp .ge 19, 3) := by decide +kernel
theorem dX5_addsOrder_8 : decode cX5_addsOrder 8 = .ok (.aload_n 0, 1) := by decide +kernel
theorem dX5_addsOrder_9 : decode cX5_addsOrder 9 = .ok (.aload_n 0, 1) := by decide +kernel
theorem dX5_addsOrder_10 : decode cX5_addsOrder 10 = .ok (.iload_n 1, 1) := by decide +kernel
theorem dX5_addsOrder_11 : decode cX5_addsOrder 11 = .ok (.iload_n 2, 1) := by decide +kernel
theorem dX5_addsOrder_12 : decode cX5_addsOrder 12 = .ok (.invokevirtual 176, 3) := by decide +kernel
theorem dX5_addsOrder_15 : decode cX5_addsOrder 15 = .ok (.invokevirtual 257, 3) := by decide +kernel
theorem dX5_addsOrder_18 : decode cX5_addsOrder 18 = .ok (.iinc 2 1, 3) := by decide +kernel
theorem dX5_addsOrder_21 : decode cX5_addsOrder 21 = .ok (.goto (-19), 3) := by decide +kernel
theorem dX5_addsOrder_24 : decode cX5_addsOrder 24 = .ok (.iconst 0, 1) := by decide +kernel
theorem dX5_addsOrder_25 : decode cX5_addsOrder 25 = .ok (.istore_n 2, 1) := by decide +kernel
theorem dX5_addsOrder_26 : decode cX5_addsOrder 26 = .ok (.iload_n 2, 1) := by decide +kernel
theorem dX5_addsOrder_27 : decode cX5_addsOrder 27 = .ok (.bipush 20, 2) := by decide +kernel
theorem dX5_addsOrder_29 : decode cX5_addsOrder 29 = .ok (.if_icmp .ge 27, 3) := by decide +kernel
theorem dX5_addsOrder_32 : decode cX5_addsOrder 32 = .ok (.aload_n 0, 1) := by decide +kernel
theorem dX5_addsOrder_33 : decode cX5_addsOrder 33 = .ok (.aload_n 0, 1) := by decide +kernel
theorem dX5_addsOrder_34 : decode cX5_addsOrder 34 = .ok (.getfield 7, 3) := by decide +kernel
theorem dX5_addsOrder_37 : decode cX5_addsOrder 37 = .ok (.bipush 8, 2) := by decide +kernel
theorem dX5_addsOrder_39 : decode cX5_addsOrder 39 = .ok (.bipush 20, 2) := by decide +kernel
theorem dX5_addsOrder_41 : decode cX5_addsOrder 41 = .ok (.iload_n 1, 1) := by decide +kernel
theorem dX5_addsOrder_42 : decode cX5_addsOrder 42 = .ok (.imul, 1) := by decide +kernel
theorem dX5_addsOrder_43 : decode cX5_addsOrder 43 = .ok (.iadd, 1) := by decide +kernel
theorem dX5_addsOrder_44 : decode cX5_addsOrder 44 = .ok (.iload_n 2, 1) := by decide +kernel
theorem dX5_addsOrder_45 : decode cX5_addsOrder 45 = .ok (.iadd, 1) := by decide +kernel
theorem dX5_addsOrder_46 : decode cX5_addsOrder 46 = .ok (.iaload, 1) := by decide +kernel
theorem dX5_addsOrder_47 : decode cX5_addsOrder 47 = .ok (.invokevirtual 257, 3) := by decide +kernel
theorem dX5_addsOrder_50 : decode cX5_addsOrder 50 = .ok (.iinc 2 1, 3) := by decide +kernel
theorem dX5_addsOrder_53 : decode cX5_addsOrder 53 = .ok (.goto (-27), 3) := by decide +kernel
theorem dX5_addsOrder_56 : decode cX5_addsOrder 56 = .ok (.return_, 1) := by decide +kernel
theorem dX5_digest_0 : decode cX5_digest 0 = .ok (.aload_n 0, 1) := by decide +kernel
theorem dX5_digest_1 : decode cX5_digest 1 = .ok (.iconst 0, 1) := by decide +kernel
theorem dX5_digest_2 : decode cX5_digest 2 = .ok (.putfield 37, 3) := by decide +kernel
theorem dX5_digest_5 : decode cX5_digest 5 = .ok (.aload_n 0, 1) := by decide +kernel
theorem dX5_digest_6 : decode cX5_digest 6 = .ok (.ldc2_w 260, 3) := by decide +kernel
theorem dX5_digest_9 : decode cX5_digest 9 = .ok (.putfield 253, 3) := by decide +kernel
theorem dX5_digest_12 : decode cX5_digest 12 = .ok (.aload_n 0, 1) := by decide +kernel
theorem dX5_digest_13 : decode cX5_digest 13 = .ok (.aload_n 0, 1) := by decide +kernel
theorem dX5_digest_14 : decode cX5_digest 14 = .ok (.getfield 211, 3) := by decide +kernel
theorem dX5_digest_17 : decode cX5_digest 17 = .ok (.invokevirtual 257, 3) := by decide +kernel
theorem dX5_digest_20 : decode cX5_digest 20 = .ok (.iconst 0, 1) := by decide +kernel
theorem dX5_digest_21 : decode cX5_digest 21 = .ok (.istore_n 1, 1) := by decide +kernel
theorem dX5_digest_22 : decode cX5_digest 22 = .ok (.iload_n 1, 1) := by decide +kernel
theorem dX5_digest_23 : decode cX5_digest 23 = .ok (.bipush 10, 2) := by decide +kernel
theorem dX5_digest_25 : decode cX5_digest 25 = .ok (.if_icmp .ge 18, 3) := by decide +kernel
theorem dX5_digest_28 : decode cX5_digest 28 = .ok (.aload_n 0, 1) := by decide +kernel
theorem dX5_digest_29 : decode cX5_digest 29 = .ok (.aload_n 0, 1) := by decide +kernel
theorem dX5_digest_30 : decode cX5_digest 30 = .ok (.iload_n 1, 1) := by decide +kernel
theorem dX5_digest_31 : decode cX5_digest 31 = .ok (.invokevirtual 194, 3) := by decide +kernel
theorem dX5_digest_34 : decode cX5_digest 34 = .ok (.invokevirtual 257, 3) := by decide +kernel
theorem dX5_digest_37 : decode cX5_digest 37 = .ok (.iinc 1 1, 3) := by decide +kernel
theorem dX5_digest_40 : decode cX5_digest 40 = .ok (.goto (-18), 3) := by decide +kernel
theorem dX5_digest_43 : decode cX5_digest 43 = .ok (.iconst 0, 1) := by decide +kernel
theorem dX5_digest_44 : decode cX5_digest 44 = .ok (.istore_n 1, 1) := by decide +kernel
theorem dX5_digest_45 : decode cX5_digest 45 = .ok (.iload_n 1, 1) := by decide +kernel
theorem dX5_digest_46 : decode cX5_digest 46 = .ok (.aload_n 0, 1) := by decide +kernel
theorem dX5_digest_47 : decode cX5_digest 47 = .ok (.getfield 7, 3) := by decide +kernel
theorem dX5_digest_50 : decode cX5_digest 50 = .ok (.iconst 4, 1) := by decide +kernel
theorem dX5_digest_51 : decode cX5_digest 51 = .ok (.iaload, 1) := by decide +kernel
theorem dX5_digest_52 : decode cX5_digest 52 = .ok (.if_icmp .ge 14, 3) := by decide +kernel
theorem dX5_digest_55 : decode cX5_digest 55 = .ok (.aload_n 0, 1) := by decide +kernel
theorem dX5_digest_56 : decode cX5_digest 56 = .ok (.iload_n 1, 1) := by decide +kernel
theorem dX5_digest_57 : decode cX5_digest 57 = .ok (.invokevirtual 262, 3) := by decide +kernel
theorem dX5_digest_60 : decode cX5_digest 60 = .ok (.iinc 1 1, 3) := by decide +kernel
theorem dX5_digest_63 : decode cX5_digest 63 = .ok (.goto (-18), 3) := by decide +kernel
theorem dX5_digest_66 : decode cX5_digest 66 = .ok (.iconst 0, 1) := by decide +kernel
theorem dX5_digest_67 : decode cX5_digest 67 = .ok (.istore_n 1, 1) := by decide +kernel
theorem dX5_digest_68 : decode cX5_digest 68 = .ok (.iload_n 1, 1) := by decide +kernel
theorem dX5_digest_69 : decode cX5_digest 69 = .ok (.iconst 4, 1) := by decide +kernel
theorem dX5_digest_70 : decode cX5_digest 70 = .ok (.aload_n 0, 1) := by decide +kernel
theorem dX5_digest_71 : decode cX5_digest 71 = .ok (.getfield 7, 3) := by decide +kernel
theorem dX5_digest_74 : decode cX5_digest 74 = .ok (.iconst 5, 1) := by decide +kernel
theorem dX5_digest_75 : decode cX5_digest 75 = .ok (.iaload, 1) := by decide +kernel
theorem dX5_digest_76 : decode cX5_digest 76 = .ok (.imul, 1) := by decide +kernel
theorem dX5_digest_77 : decode cX5_digest 77 = .ok (.if_icmp .ge 23, 3) := by decide +kernel
theorem dX5_digest_80 : decode cX5_digest 80 = .ok (.aload_n 0, 1) := by decide +kernel
theorem dX5_digest_81 : decode cX5_digest 81 = .ok (.aload_n 0, 1) := by decide +kernel
theorem dX5_digest_82 : decode cX5_digest 82 = .ok (.iload_n 1, 1) := by decide +kernel
theorem dX5_digest_83 : decode cX5_digest 83 = .ok (.iconst 4, 1) := by decide +kernel
theorem dX5_digest_84 : decode cX5_digest 84 = .ok (.idiv, 1) := by decide +kernel
theorem dX5_digest_85 : decode cX5_digest 85 = .ok (.iload_n 1, 1) := by decide +kernel
theorem dX5_digest_86 : decode cX5_digest 86 = .ok (.iconst 4, 1) := by decide +kernel
theorem dX5_digest_87 : decode cX5_digest 87 = .ok (.irem, 1) := by decide +kernel
theorem dX5_digest_88 : decode cX5_digest 88 = .ok (.invokevirtual 186, 3) := by decide +kernel
theorem dX5_digest_91 : decode cX5_digest 91 = .ok (.invokevirtual 257, 3) := by decide +kernel
theorem dX5_digest_94 : decode cX5_digest 94 = .ok (.iinc 1 1, 3) := by decide +kernel
theorem dX5_digest_97 : decode cX5_digest 97 = .ok (.goto (-29), 3) := by decide +kernel
theorem dX5_digest_100 : decode cX5_digest 100 = .ok (.iconst 0, 1) := by decide +kernel
theorem dX5_digest_101 : decode cX5_digest 101 = .ok (.istore_n 1, 1) := by decide +kernel
theorem dX5_digest_102 : decode cX5_digest 102 = .ok (.iload_n 1, 1) := by decide +kernel
theorem dX5_digest_103 : decode cX5_digest 103 = .ok (.aload_n 0, 1) := by decide +kernel
theorem dX5_digest_104 : decode cX5_digest 104 = .ok (.getfield 7, 3) := by decide +kernel
theorem dX5_digest_107 : decode cX5_digest 107 = .ok (.bipush 6, 2) := by decide +kernel
theorem dX5_digest_109 : decode cX5_digest 109 = .ok (.iaload, 1) := by decide +kernel
theorem dX5_digest_110 : decode cX5_digest 110 = .ok (.if_icmp .ge 23, 3) := by decide +kernel
theorem dX5_digest_113 : decode cX5_digest 113 = .ok (.aload_n 0, 1) := by decide +kernel
theorem dX5_digest_114 : decode cX5_digest 114 = .ok (.aload_n 0, 1) := by decide +kernel
theorem dX5_digest_115 : decode cX5_digest 115 = .ok (.getfield 7, 3) := by decide +kernel
theorem dX5_digest_118 : decode cX5_digest 118 = .ok (.sipush 210, 3) := by decide +kernel
theorem dX5_digest_121 : decode cX5_digest 121 = .ok (.iload_n 1, 1) := by decide +kernel
theorem dX5_digest_122 : decode cX5_digest 122 = .ok (.iadd, 1) := by decide +kernel
theorem dX5_digest_123 : decode cX5_digest 123 = .ok (.iaload, 1) := by decide +kernel
theorem dX5_digest_124 : decode cX5_digest 124 = .ok (.invokevirtual 257, 3) := by decide +kernel
theorem dX5_digest_127 : decode cX5_digest 127 = .ok (.iinc 1 1, 3) := by decide +kernel
theorem dX5_digest_130 : decode cX5_digest 130 = .ok (.goto (-28), 3) := by decide +kernel
theorem dX5_digest_133 : decode cX5_digest 133 = .ok (.iconst 0, 1) := by decide +kernel
theorem dX5_digest_134 : decode cX5_digest 134 = .ok (.istore_n 1, 1) := by decide +kernel
theorem dX5_digest_135 : decode cX5_digest 135 = .ok (.iload_n 1, 1) := by decide +kernel
theorem dX5_digest_136 : decode cX5_digest 136 = .ok (.bipush 7, 2) := by decide +kernel
theorem dX5_digest_138 : decode cX5_digest 138 = .ok (.aload_n 0, 1) := by decide +kernel
theorem dX5_digest_139 : decode cX5_digest 139 = .ok (.getfield 7, 3) := by decide +kernel
theorem dX5_digest_142 : decode cX5_digest 142 = .ok (.bipush 7, 2) := by decide +kernel
theorem dX5_digest_144 : decode cX5_digest 144 = .ok (.iaload, 1) := by decide +kernel
theorem dX5_digest_145 : decode cX5_digest 145 = .ok (.imul, 1) := by decide +kernel
theorem dX5_digest_146 : decode cX5_digest 146 = .ok (.if_icmp .ge 23, 3) := by decide +kernel
theorem dX5_digest_149 : decode cX5_digest 149 = .ok (.aload_n 0, 1) := by decide +kernel
theorem dX5_digest_150 : decode cX5_digest 150 = .ok (.aload_n 0, 1) := by decide +kernel
theorem dX5_digest_151 : decode cX5_digest 151 = .ok (.getfield 7, 3) := by decide +kernel
theorem dX5_digest_154 : decode cX5_digest 154 = .ok (.sipush 215, 3) := by decide +kernel
theorem dX5_digest_157 : decode cX5_digest 157 = .ok (.iload_n 1, 1) := by decide +kernel
theorem dX5_digest_158 : decode cX5_digest 158 = .ok (.iadd, 1) := by decide +kernel
theorem dX5_digest_159 : decode cX5_digest 159 = .ok (.iaload, 1) := by decide +kernel
theorem dX5_digest_160 : decode cX5_digest 160 = .ok (.invokevirtual 257, 3) := by decide +kernel
theorem dX5_digest_163 : decode cX5_digest 163 = .ok (.iinc 1 1, 3) := by decide +kernel
theorem dX5_digest_166 : decode cX5_digest 166 = .ok (.goto (-31), 3) := by decide +kernel
theorem dX5_digest_169 : decode cX5_digest 169 = .ok (.aload_n 0, 1) := by decide +kernel
theorem dX5_digest_170 : decode cX5_digest 170 = .ok (.aload_n 0, 1) := by decide +kernel
theorem dX5_digest_171 : decode cX5_digest 171 = .ok (.invokevirtual 206, 3) := by decide +kernel
theorem dX5_digest_174 : decode cX5_digest 174 = .ok (.invokevirtual 257, 3) := by decide +kernel
theorem dX5_digest_177 : decode cX5_digest 177 = .ok (.aload_n 0, 1) := by decide +kernel
theorem dX5_digest_178 : decode cX5_digest 178 = .ok (.aload_n 0, 1) := by decide +kernel
theorem dX5_digest_179 : decode cX5_digest 179 = .ok (.getfield 41, 3) := by decide +kernel
theorem dX5_digest_182 : decode cX5_digest 182 = .ok (.invokevirtual 257, 3) := by decide +kernel
theorem dX5_digest_185 : decode cX5_digest 185 = .ok (.aload_n 0, 1) := by decide +kernel
theorem dX5_digest_186 : decode cX5_digest 186 = .ok (.getfield 253, 3) := by decide +kernel
theorem dX5_digest_189 : decode cX5_digest 189 = .ok (.lreturn, 1) := by decide +kernel
