theorem dL_addOrder_0 : decode cL_addOrder 0 = .ok (.aload_n 3, 1) := by decide +kernel
theorem dL_addOrder_1 : decode cL_addOrder 1 = .ok (.iconst 0, 1) := by decide +kernel
theorem dL_addOrder_2 : decode cL_addOrder 2 = .ok (.aload_n 0, 1) := by decide +kernel
theorem dL_addOrder_3 : decode cL_addOrder 3 = .ok (.iload_n 1, 1) := by decide +kernel
theorem dL_addOrder_4 : decode cL_addOrder 4 = .ok (.iload_n 2, 1) := by decide +kernel
theorem dL_addOrder_5 : decode cL_addOrder 5 = .ok (.invokevirtual 7, 3) := by decide +kernel
theorem dL_addOrder_8 : decode cL_addOrder 8 = .ok (.i2l, 1) := by decide +kernel
theorem dL_addOrder_9 : decode cL_addOrder 9 = .ok (.lastore, 1) := by decide +kernel
theorem dL_addOrder_10 : decode cL_addOrder 10 = .ok (.goto 11, 3) := by decide +kernel
theorem dL_addOrder_13 : decode cL_addOrder 13 = .ok (.astore 4, 2) := by decide +kernel
theorem dL_addOrder_15 : decode cL_addOrder 15 = .ok (.iconst 1, 1) := by decide +kernel
theorem dL_addOrder_16 : decode cL_addOrder 16 = .ok (.ireturn, 1) := by decide +kernel
theorem dL_addOrder_17 : decode cL_addOrder 17 = .ok (.astore 4, 2) := by decide +kernel
theorem dL_addOrder_19 : decode cL_addOrder 19 = .ok (.iconst 2, 1) := by decide +kernel
theorem dL_addOrder_20 : decode cL_addOrder 20 = .ok (.ireturn, 1) := by decide +kernel
theorem dL_addOrder_21 : decode cL_addOrder 21 = .ok (.iconst 0, 1) := by decide +kernel
theorem dL_addOrder_22 : decode cL_addOrder 22 = .ok (.ireturn, 1) := by decide +kernel
theorem dL_change_0 : decode cL_change 0 = .ok (.aload 4, 2) := by decide +kernel
theorem dL_change_2 : decode cL_change 2 = .ok (.iconst 0, 1) := by decide +kernel
theorem dL_change_3 : decode cL_change 3 = .ok (.aload_n 0, 1) := by decide +kernel
theorem dL_change_4 : decode cL_change 4 = .ok (.iload_n 1, 1) := by decide +kernel
theorem dL_change_5 : decode cL_change 5 = .ok (.iload_n 2, 1) := by decide +kernel
theorem dL_change_6 : decode cL_change 6 = .ok (.iload_n 3, 1) := by decide +kernel
theorem dL_change_7 : decode cL_change 7 = .ok (.invokevirtual 17, 3) := by decide +kernel
theorem dL_change_10 : decode cL_change 10 = .ok (.i2l, 1) := by decide +kernel
theorem dL_change_11 : decode cL_change 11 = .ok (.lastore, 1) := by decide +kernel
theorem dL_change_12 : decode cL_change 12 = .ok (.goto 11, 3) := by decide +kernel
theorem dL_change_15 : decode cL_change 15 = .ok (.astore 5, 2) := by decide +kernel
theorem dL_change_17 : decode cL_change 17 = .ok (.iconst 1, 1) := by decide +kernel
theorem dL_change_18 : decode cL_change 18 = .ok (.ireturn, 1) := by decide +kernel
theorem dL_change_19 : decode cL_change 19 = .ok (.astore 5, 2) := by decide +kernel
theorem dL_change_21 : decode cL_change 21 = .ok (.iconst 2, 1) := by decide +kernel
theorem dL_change_22 : decode cL_change 22 = .ok (.ireturn, 1) := by decide +kernel
theorem dL_change_23 : decode cL_change 23 = .ok (.iconst 0, 1) := by decide +kernel
theorem dL_change_24 : decode cL_change 24 = .ok (.ireturn, 1) := by decide +kernel
theorem dL_allow_0 : decode cL_allow 0 = .ok (.aload_n 3, 1) := by decide +kernel
theorem dL_allow_1 : decode cL_allow 1 = .ok (.iconst 0, 1) := by decide +kernel
theorem dL_allow_2 : decode cL_allow 2 = .ok (.aload_n 0, 1) := by decide +kernel
theorem dL_allow_3 : decode cL_allow 3 = .ok (.iload_n 1, 1) := by decide +kernel
theorem dL_allow_4 : decode cL_allow 4 = .ok (.iload_n 2, 1) := by decide +kernel
theorem dL_allow_5 : decode cL_allow 5 = .ok (.invokevirtual 23, 3) := by decide +kernel
theorem dL_allow_8 : decode cL_allow 8 = .ok (.i2l, 1) := by decide +kernel
theorem dL_allow_9 : decode cL_allow 9 = .ok (.lastore, 1) := by decide +kernel
theorem dL_allow_10 : decode cL_allow 10 = .ok (.goto 11, 3) := by decide +kernel
theorem dL_allow_13 : decode cL_allow 13 = .ok (.astore 4, 2) := by decide +kernel
theorem dL_allow_15 : decode cL_allow 15 = .ok (.iconst 1, 1) := by decide +kernel
theorem dL_allow_16 : decode cL_allow 16 = .ok (.ireturn, 1) := by decide +kernel
theorem dL_allow_17 : decode cL_allow 17 = .ok (.astore 4, 2) := by decide +kernel
theorem dL_allow_19 : decode cL_allow 19 = .ok (.iconst 2, 1) := by decide +kernel
theorem dL_allow_20 : decode cL_allow 20 = .ok (.ireturn, 1) := by decide +kernel
theorem dL_allow_21 : decode cL_allow 21 = .ok (.iconst 0, 1) := by decide +kernel
theorem dL_allow_22 : decode cL_allow 22 = .ok (.ireturn, 1) := by decide +kernel
theorem dL_addEscort_0 : decode cL_addEscort 0 = .ok (.aload_n 3, 1) := by decide +kernel
theorem dL_addEscort_1 : decode cL_addEscort 1 = .ok (.iconst 0, 1) := by decide +kernel
theorem dL_addEscort_2 : decode cL_addEscort 2 = .ok (.aload_n 0, 1) := by decide +kernel
theorem dL_addEscort_3 : decode cL_addEscort 3 = .ok (.iload_n 1, 1) := by decide +kernel
theorem dL_addEscort_4 : decode cL_addEscort 4 = .ok (.iload_n 2, 1) := by decide +kernel
theorem dL_addEscort_5 : decode cL_addEscort 5 = .ok (.invokevirtual 26, 3) := by decide +kernel
theorem dL_addEscort_8 : decode cL_addEscort 8 = .ok (.i2l, 1) := by decide +kernel
theorem dL_addEscort_9 : decode cL_addEscort 9 = .ok (.lastore, 1) := by decide +kernel
theorem dL_addEscort_10 : decode cL_addEscort 10 = .ok (.goto 11, 3) := by decide +kernel
theorem dL_addEscort_13 : decode cL_addEscort 13 = .ok (.astore 4, 2) := by decide +kernel
theorem dL_addEscort_15 : decode cL_addEscort 15 = .ok (.iconst 1, 1) := by decide +kernel
theorem dL_addEscort_16 : decode cL_addEscort 16 = .ok (.ireturn, 1) := by decide +kernel
theorem dL_addEscort_17 : decode cL_addEscort 17 = .ok (.astore 4, 2) := by decide +kernel
theorem dL_addEscort_19 : decode cL_addEscort 19 = .ok (.iconst 2, 1) := by decide +kernel
theorem dL_addEscort_20 : decode cL_addEscort 20 = .ok (.ireturn, 1) := by decide +kernel
theorem dL_addEscort_21 : decode cL_addEscort 21 = .ok (.iconst 0, 1) := by decide +kernel
theorem dL_addEscort_22 : decode cL_addEscort 22 = .ok (.ireturn, 1) := by decide +kernel
theorem dL_setSlots_0 : decode cL_setSlots 0 = .ok (.aload_n 3, 1) := by decide +kernel
theorem dL_setSlots_1 : decode cL_setSlots 1 = .ok (.iconst 0, 1) := by decide +kernel
theorem dL_setSlots_2 : decode cL_setSlots 2 = .ok (.aload_n 0, 1) := by decide +kernel
theorem dL_setSlots_3 : decode cL_setSlots 3 = .ok (.iload_n 1, 1) := by decide +kernel
theorem dL_setSlots_4 : decode cL_setSlots 4 = .ok (.iload_n 2, 1) := by decide +kernel
theorem dL_setSlots_5 : decode cL_setSlots 5 = .ok (.invokevirtual 29, 3) := by decide +kernel
theorem dL_setSlots_8 : decode cL_setSlots 8 = .ok (.i2l, 1) := by decide +kernel
theorem dL_setSlots_9 : decode cL_setSlots 9 = .ok (.lastore, 1) := by decide +kernel
theorem dL_setSlots_10 : decode cL_setSlots 10 = .ok (.goto 11, 3) := by decide +kernel
theorem dL_setSlots_13 : decode cL_setSlots 13 = .ok (.astore 4, 2) := by decide +kernel
theorem dL_setSlots_15 : decode cL_setSlots 15 = .ok (.iconst 1, 1) := by decide +kernel
theorem dL_setSlots_16 : decode cL_setSlots 16 = .ok (.ireturn, 1) := by decide +kernel
theorem dL_setSlots_17 : decode cL_setSlots 17 = .ok (.astore 4, 2) := by decide +kernel
theorem dL_setSlots_19 : decode cL_setSlots 19 = .ok (.iconst 2, 1) := by decide +kernel
theorem dL_setSlots_20 : decode cL_setSlots 20 = .ok (.ireturn, 1) := by decide +kernel
theorem dL_setSlots_21 : decode cL_setSlots 21 = .ok (.iconst 0, 1) := by decide +kernel
theorem dL_setSlots_22 : decode cL_setSlots 22 = .ok (.ireturn, 1) := by decide +kernel
theorem dL_addVenue_0 : decode cL_addVenue 0 = .ok (.aload_n 2, 1) := by decide +kernel
theorem dL_addVenue_1 : decode cL_addVenue 1 = .ok (.iconst 0, 1) := by decide +kernel
theorem dL_addVenue_2 : decode cL_addVenue 2 = .ok (.aload_n 0, 1) := by decide +kernel
theorem dL_addVenue_3 : decode cL_addVenue 3 = .ok (.iload_n 1, 1) := by decide +kernel
theorem dL_addVenue_4 : decode cL_addVenue 4 = .ok (.invokevirtual 32, 3) := by decide +kernel
theorem dL_addVenue_7 : decode cL_addVenue 7 = .ok (.i2l, 1) := by decide +kernel
theorem dL_addVenue_8 : decode cL_addVenue 8 = .ok (.lastore, 1) := by decide +kernel
theorem dL_addVenue_9 : decode cL_addVenue 9 = .ok (.goto 9, 3) := by decide +kernel
theorem dL_addVenue_12 : decode cL_addVenue 12 = .ok (.astore_n 3, 1) := by decide +kernel
theorem dL_addVenue_13 : decode cL_addVenue 13 = .ok (.iconst 1, 1) := by decide +kernel
theorem dL_addVenue_14 : decode cL_addVenue 14 = .ok (.ireturn, 1) := by decide +kernel
theorem dL_addVenue_15 : decode cL_addVenue 15 = .ok (.astore_n 3, 1) := by decide +kernel
theorem dL_addVenue_16 : decode cL_addVenue 16 = .ok (.iconst 2, 1) := by decide +kernel
theorem dL_addVenue_17 : decode cL_addVenue 17 = .ok (.ireturn, 1) := by decide +kernel
theorem dL_addVenue_18 : decode cL_addVenue 18 = .ok (.iconst 0, 1) := by decide +kernel
theorem dL_addVenue_19 : decode cL_addVenue 19 = .ok (.ireturn, 1) := by decide +kernel
theorem dL_plan_0 : decode cL_plan 0 = .ok (.aload 6, 2) := by decide +kernel
theorem dL_plan_2 : decode cL_plan 2 = .ok (.iconst 0, 1) := by decide +kernel
theorem dL_plan_3 : decode cL_plan 3 = .ok (.aload_n 0, 1) := by decide +kernel
theorem dL_plan_4 : decode cL_plan 4 = .ok (.iload_n 1, 1) := by decide +kernel
theorem dL_plan_5 : decode cL_plan 5 = .ok (.iload_n 2, 1) := by decide +kernel
theorem dL_plan_6 : decode cL_plan 6 = .ok (.iload_n 3, 1) := by decide +kernel
theorem dL_plan_7 : decode cL_plan 7 = .ok (.iload 4, 2) := by decide +kernel
theorem dL_plan_9 : decode cL_plan 9 = .ok (.iload 5, 2) := by decide +kernel
theorem dL_plan_11 : decode cL_plan 11 = .ok (.invokevirtual 36, 3) := by decide +kernel
theorem dL_plan_14 : decode cL_plan 14 = .ok (.i2l, 1) := by decide +kernel
theorem dL_plan_15 : decode cL_plan 15 = .ok (.lastore, 1) := by decide +kernel
theorem dL_plan_16 : decode cL_plan 16 = .ok (.goto 15, 3) := by decide +kernel
theorem dL_plan_19 : decode cL_plan 19 = .ok (.astore 7, 2) := by decide +kernel
theorem dL_plan_21 : decode cL_plan 21 = .ok (.iconst 1, 1) := by decide +kernel
theorem dL_plan_22 : decode cL_plan 22 = .ok (.ireturn, 1) := by decide +kernel
theorem dL_plan_23 : decode cL_plan 23 = .ok (.astore 7, 2) := by decide +kernel
theorem dL_plan_25 : decode cL_plan 25 = .ok (.iconst 2, 1) := by decide +kernel
theorem dL_plan_26 : decode cL_plan 26 = .ok (.ireturn, 1) := by decide +kernel
theorem dL_plan_27 : decode cL_plan 27 = .ok (.astore 7, 2) := by decide +kernel
theorem dL_plan_29 : decode cL_plan 29 = .ok (.iconst 3, 1) := by decide +kernel
theorem dL_plan_30 : decode cL_plan 30 = .ok (.ireturn, 1) := by decide +kernel
theorem dL_plan_31 : decode cL_plan 31 = .ok (.iconst 0, 1) := by decide +kernel
theorem dL_plan_32 : decode cL_plan 32 = .ok (.ireturn, 1) := by decide +kernel
theorem dL_planWeek_0 : decode cL_planWeek 0 = .ok (.aload_n 2, 1) := by decide +kernel
theorem dL_planWeek_1 : decode cL_planWeek 1 = .ok (.iconst 0, 1) := by decide +kernel
theorem dL_planWeek_2 : decode cL_planWeek 2 = .ok (.aload_n 0, 1) := by decide +kernel
theorem dL_planWeek_3 : decode cL_planWeek 3 = .ok (.iload_n 1, 1) := by decide +kernel
theorem dL_planWeek_4 : decode cL_planWeek 4 = .ok (.invokevirtual 40, 3) := by decide +kernel
theorem dL_planWeek_7 : decode cL_planWeek 7 = .ok (.i2l, 1) := by decide +kernel
theorem dL_planWeek_8 : decode cL_planWeek 8 = .ok (.lastore, 1) := by decide +kernel
theorem dL_planWeek_9 : decode cL_planWeek 9 = .ok (.goto 9, 3) := by decide +kernel
theorem dL_planWeek_12 : decode cL_planWeek 12 = .ok (.astore_n 3, 1) := by decide +kernel
theorem dL_planWeek_13 : decode cL_planWeek 13 = .ok (.iconst 1, 1) := by decide +kernel
theorem dL_planWeek_14 : decode cL_planWeek 14 = .ok (.ireturn, 1) := by decide +kernel
theorem dL_planWeek_15 : decode cL_planWeek 15 = .ok (.astore_n 3, 1) := by decide +kernel
theorem dL_planWeek_16 : decode cL_planWeek 16 = .ok (.iconst 2, 1) := by decide +kernel
theorem dL_planWeek_17 : decode cL_planWeek 17 = .ok (.ireturn, 1) := by decide +kernel
theorem dL_planWeek_18 : decode cL_planWeek 18 = .ok (.iconst 0, 1) := by decide +kernel
theorem dL_planWeek_19 : decode cL_planWeek 19 = .ok (.ireturn, 1) := by decide +kernel
theorem dL_cancel_0 : decode cL_cancel 0 = .ok (.aload_n 2, 1) := by decide +kernel
theorem dL_cancel_1 : decode cL_cancel 1 = .ok (.iconst 0, 1) := by decide +kernel
theorem dL_cancel_2 : decode cL_cancel 2 = .ok (.aload_n 0, 1) := by decide +kernel
theorem dL_cancel_3 : decode cL_cancel 3 = .ok (.iload_n 1, 1) := by decide +kernel
theorem dL_cancel_4 : decode cL_cancel 4 = .ok (.invokevirtual 43, 3) := by decide +kernel
theorem dL_cancel_7 : decode cL_cancel 7 = .ok (.i2l, 1) := by decide +kernel
theorem dL_cancel_8 : decode cL_cancel 8 = .ok (.lastore, 1) := by decide +kernel
theorem dL_cancel_9 : decode cL_cancel 9 = .ok (.goto 9, 3) := by decide +kernel
theorem dL_cancel_12 : decode cL_cancel 12 = .ok (.astore_n 3, 1) := by decide +kernel
theorem dL_cancel_13 : decode cL_cancel 13 = .ok (.iconst 1, 1) := by decide +kernel
theorem dL_cancel_14 : decode cL_cancel 14 = .ok (.ireturn, 1) := by decide +kernel
theorem dL_cancel_15 : decode cL_cancel 15 = .ok (.astore_n 3, 1) := by decide +kernel
theorem dL_cancel_16 : decode cL_cancel 16 = .ok (.iconst 2, 1) := by decide +kernel
theorem dL_cancel_17 : decode cL_cancel 17 = .ok (.ireturn, 1) := by decide +kernel
theorem dL_cancel_18 : decode cL_cancel 18 = .ok (.iconst 0, 1) := by decide +kernel
theorem dL_cancel_19 : decode cL_cancel 19 = .ok (.ireturn, 1) := by decide +kernel
theorem dL_tell_0 : decode cL_tell 0 = .ok (.aload_n 3, 1) := by decide +kernel
theorem dL_tell_1 : decode cL_tell 1 = .ok (.iconst 0, 1) := by decide +kernel
theorem dL_tell_2 : decode cL_tell 2 = .ok (.aload_n 0, 1) := by decide +kernel
theorem dL_tell_3 : decode cL_tell 3 = .ok (.iload_n 1, 1) := by decide +kernel
theorem dL_tell_4 : decode cL_tell 4 = .ok (.iload_n 2, 1) := by decide +kernel
theorem dL_tell_5 : decode cL_tell 5 = .ok (.invokevirtual 46, 3) := by decide +kernel
theorem dL_tell_8 : decode cL_tell 8 = .ok (.i2l, 1) := by decide +kernel
theorem dL_tell_9 : decode cL_tell 9 = .ok (.lastore, 1) := by decide +kernel
theorem dL_tell_10 : decode cL_tell 10 = .ok (.goto 11, 3) := by decide +kernel
theorem dL_tell_13 : decode cL_tell 13 = .ok (.astore 4, 2) := by decide +kernel
theorem dL_tell_15 : decode cL_tell 15 = .ok (.iconst 1, 1) := by decide +kernel
theorem dL_tell_16 : decode cL_tell 16 = .ok (.ireturn, 1) := by decide +kernel
theorem dL_tell_17 : decode cL_tell 17 = .ok (.astore 4, 2) := by decide +kernel
theorem dL_tell_19 : decode cL_tell 19 = .ok (.iconst 2, 1) := by decide +kernel
theorem dL_tell_20 : decode cL_tell 20 = .ok (.ireturn, 1) := by decide +kernel
theorem dL_tell_21 : decode cL_tell 21 = .ok (.iconst 0, 1) := by decide +kernel
theorem dL_tell_22 : decode cL_tell 22 = .ok (.ireturn, 1) := by decide +kernel
theorem dL_endWeek_0 : decode cL_endWeek 0 = .ok (.aload_n 1, 1) := by decide +kernel
theorem dL_endWeek_1 : decode cL_endWeek 1 = .ok (.iconst 0, 1) := by decide +kernel
theorem dL_endWeek_2 : decode cL_endWeek 2 = .ok (.aload_n 0, 1) := by decide +kernel
theorem dL_endWeek_3 : decode cL_endWeek 3 = .ok (.invokevirtual 50, 3) := by decide +kernel
theorem dL_endWeek_6 : decode cL_endWeek 6 = .ok (.i2l, 1) := by decide +kernel
theorem dL_endWeek_7 : decode cL_endWeek 7 = .ok (.lastore, 1) := by decide +kernel
theorem dL_endWeek_8 : decode cL_endWeek 8 = .ok (.goto 6, 3) := by decide +kernel
theorem dL_endWeek_11 : decode cL_endWeek 11 = .ok (.astore_n 2, 1) := by decide +kernel
theorem dL_endWeek_12 : decode cL_endWeek 12 = .ok (.iconst 1, 1) := by decide +kernel
theorem dL_endWeek_13 : decode cL_endWeek 13 = .ok (.ireturn, 1) := by decide +kernel
theorem dL_endWeek_14 : decode cL_endWeek 14 = .ok (.iconst 0, 1) := by decide +kernel
theorem dL_endWeek_15 : decode cL_endWeek 15 = .ok (.ireturn, 1) := by decide +kernel
theorem dL_order_0 : decode cL_order 0 = .ok (.aload_n 3, 1) := by decide +kernel
theorem dL_order_1 : decode cL_order 1 = .ok (.iconst 0, 1) := by decide +kernel
theorem dL_order_2 : decode cL_order 2 = .ok (.aload_n 0, 1) := by decide +kernel
theorem dL_order_3 : decode cL_order 3 = .ok (.iload_n 1, 1) := by decide +kernel
theorem dL_order_4 : decode cL_order 4 = .ok (.iload_n 2, 1) := by decide +kernel
theorem dL_order_5 : decode cL_order 5 = .ok (.invokevirtual 54, 3) := by decide +kernel
theorem dL_order_8 : decode cL_order 8 = .ok (.i2l, 1) := by decide +kernel
theorem dL_order_9 : decode cL_order 9 = .ok (.lastore, 1) := by decide +kernel
theorem dL_order_10 : decode cL_order 10 = .ok (.goto 11, 3) := by decide +kernel
theorem dL_order_13 : decode cL_order 13 = .ok (.astore 4, 2) := by decide +kernel
theorem dL_order_15 : decode cL_order 15 = .ok (.iconst 1, 1) := by decide +kernel
theorem dL_order_16 : decode cL_order 16 = .ok (.ireturn, 1) := by decide +kernel
theorem dL_order_17 : decode cL_order 17 = .ok (.astore 4, 2) := by decide +kernel
theorem dL_order_19 : decode cL_order 19 = .ok (.iconst 2, 1) := by decide +kernel
theorem dL_order_20 : decode cL_order 20 = .ok (.ireturn, 1) := by decide +kernel
theorem dL_order_21 : decode cL_order 21 = .ok (.iconst 0, 1) := by decide +kernel
theorem dL_order_22 : decode cL_order 22 = .ok (.ireturn, 1) := by decide +kernel
theorem dL_hours_0 : decode cL_hours 0 = .ok (.aload_n 3, 1) := by decide +kernel
theorem dL_hours_1 : decode cL_hours 1 = .ok (.iconst 0, 1) := by decide +kernel
theorem dL_hours_2 : decode cL_hours 2 = .ok (.aload_n 0, 1) := by decide +kernel
theorem dL_hours_3 : decode cL_hours 3 = .ok (.iload_n 1, 1) := by decide +kernel
theorem dL_hours_4 : decode cL_hours 4 = .ok (.iload_n 2, 1) := by decide +kernel
theorem dL_hours_5 : decode cL_hours 5 = .ok (.invokevirtual 57, 3) := by decide +kernel
theorem dL_hours_8 : decode cL_hours 8 = .ok (.i2l, 1) := by decide +kernel
theorem dL_hours_9 : decode cL_hours 9 = .ok (.lastore, 1) := by decide +kernel
theorem dL_hours_10 : decode cL_hours 10 = .ok (.goto 11, 3) := by decide +kernel
theorem dL_hours_13 : decode cL_hours 13 = .ok (.astore 4, 2) := by decide +kernel
theorem dL_hours_15 : decode cL_hours 15 = .ok (.iconst 1, 1) := by decide +kernel
theorem dL_hours_16 : decode cL_hours 16 = .ok (.ireturn, 1) := by decide +kernel
theorem dL_hours_17 : decode cL_hours 17 = .ok (.astore 4, 2) := by decide +kernel
theorem dL_hours_19 : decode cL_hours 19 = .ok (.iconst 2, 1) := by decide +kernel
theorem dL_hours_20 : decode cL_hours 20 = .ok (.ireturn, 1) := by decide +kernel
theorem dL_hours_21 : decode cL_hours 21 = .ok (.iconst 0, 1) := by decide +kernel
theorem dL_hours_22 : decode cL_hours 22 = .ok (.ireturn, 1) := by decide +kernel
theorem dL_owed_0 : decode cL_owed 0 = .ok (.aload_n 3, 1) := by decide +kernel
theorem dL_owed_1 : decode cL_owed 1 = .ok (.iconst 0, 1) := by decide +kernel
theorem dL_owed_2 : decode cL_owed 2 = .ok (.aload_n 0, 1) := by decide +kernel
theorem dL_owed_3 : decode cL_owed 3 = .ok (.iload_n 1, 1) := by decide +kernel
theorem dL_owed_4 : decode cL_owed 4 = .ok (.iload_n 2, 1) := by decide +kernel
theorem dL_owed_5 : decode cL_owed 5 = .ok (.invokevirtual 60, 3) := by decide +kernel
theorem dL_owed_8 : decode cL_owed 8 = .ok (.i2l, 1) := by decide +kernel
theorem dL_owed_9 : decode cL_owed 9 = .ok (.lastore, 1) := by decide +kernel
theorem dL_owed_10 : decode cL_owed 10 = .ok (.goto 11, 3) := by decide +kernel
theorem dL_owed_13 : decode cL_owed 13 = .ok (.astore 4, 2) := by decide +kernel
theorem dL_owed_15 : decode cL_owed 15 = .ok (.iconst 1, 1) := by decide +kernel
theorem dL_owed_16 : decode cL_owed 16 = .ok (.ireturn, 1) := by decide +kernel
theorem dL_owed_17 : decode cL_owed 17 = .ok (.astore 4, 2) := by decide +kernel
theorem dL_owed_19 : decode cL_owed 19 = .ok (.iconst 2, 1) := by decide +kernel
theorem dL_owed_20 : decode cL_owed 20 = .ok (.ireturn, 1) := by decide +kernel
theorem dL_owed_21 : decode cL_owed 21 = .ok (.iconst 0, 1) := by decide +kernel
theorem dL_owed_22 : decode cL_owed 22 = .ok (.ireturn, 1) := by decide +kernel
theorem dL_meeting_0 : decode cL_meeting 0 = .ok (.aload_n 3, 1) := by decide +kernel
theorem dL_meeting_1 : decode cL_meeting 1 = .ok (.iconst 0, 1) := by decide +kernel
theorem dL_meeting_2 : decode cL_meeting 2 = .ok (.aload_n 0, 1) := by decide +kernel
theorem dL_meeting_3 : decode cL_meeting 3 = .ok (.iload_n 1, 1) := by decide +kernel
theorem dL_meeting_4 : decode cL_meeting 4 = .ok (.iload_n 2, 1) := by decide +kernel
theorem dL_meeting_5 : decode cL_meeting 5 = .ok (.invokevirtual 63, 3) := by decide +kernel
theorem dL_meeting_8 : decode cL_meeting 8 = .ok (.i2l, 1) := by decide +kernel
theorem dL_meeting_9 : decode cL_meeting 9 = .ok (.lastore, 1) := by decide +kernel
theorem dL_meeting_10 : decode cL_meeting 10 = .ok (.goto 11, 3) := by decide +kernel
theorem dL_meeting_13 : decode cL_meeting 13 = .ok (.astore 4, 2) := by decide +kernel
theorem dL_meeting_15 : decode cL_meeting 15 = .ok (.iconst 1, 1) := by decide +kernel
theorem dL_meeting_16 : decode cL_meeting 16 = .ok (.ireturn, 1) := by decide +kernel
theorem dL_meeting_17 : decode cL_meeting 17 = .ok (.astore 4, 2) := by decide +kernel
theorem dL_meeting_19 : decode cL_meeting 19 = .ok (.iconst 2, 1) := by decide +kernel
theorem dL_meeting_20 : decode cL_meeting 20 = .ok (.ireturn, 1) := by decide +kernel
theorem dL_meeting_21 : decode cL_meeting 21 = .ok (.iconst 0, 1) := by decide +kernel
theorem dL_meeting_22 : decode cL_meeting 22 = .ok (.ireturn, 1) := by decide +kernel
theorem dL_escort_0 : decode cL_escort 0 = .ok (.aload_n 3, 1) := by decide +kernel
theorem dL_escort_1 : decode cL_escort 1 = .ok (.iconst 0, 1) := by decide +kernel
theorem dL_escort_2 : decode cL_escort 2 = .ok (.aload_n 0, 1) := by decide +kernel
theorem dL_escort_3 : decode cL_escort 3 = .ok (.iload_n 1, 1) := by decide +kernel
theorem dL_escort_4 : decode cL_escort 4 = .ok (.iload_n 2, 1) := by decide +kernel
theorem dL_escort_5 : decode cL_escort 5 = .ok (.invokevirtual 66, 3) := by decide +kernel
theorem dL_escort_8 : decode cL_escort 8 = .ok (.i2l, 1) := by decide +kernel
theorem dL_escort_9 : decode cL_escort 9 = .ok (.lastore, 1) := by decide +kernel
theorem dL_escort_10 : decode cL_escort 10 = .ok (.goto 11, 3) := by decide +kernel
theorem dL_escort_13 : decode cL_escort 13 = .ok (.astore 4, 2) := by decide +kernel
theorem dL_escort_15 : decode cL_escort 15 = .ok (.iconst 1, 1) := by decide +kernel
theorem dL_escort_16 : decode cL_escort 16 = .ok (.ireturn, 1) := by decide +kernel
theorem dL_escort_17 : decode cL_escort 17 = .ok (.astore 4, 2) := by decide +kernel
theorem dL_escort_19 : decode cL_escort 19 = .ok (.iconst 2, 1) := by decide +kernel
theorem dL_escort_20 : decode cL_escort 20 = .ok (.ireturn, 1) := by decide +kernel
theorem dL_escort_21 : decode cL_escort 21 = .ok (.iconst 0, 1) := by decide +kernel
theorem dL_escort_22 : decode cL_escort 22 = .ok (.ireturn, 1) := by decide +kernel
theorem dL_freeRooms_0 : decode cL_freeRooms 0 = .ok (.aload 4, 2) := by decide +kernel
theorem dL_freeRooms_2 : decode cL_freeRooms 2 = .ok (.iconst 0, 1) := by decide +kernel
theorem dL_freeRooms_3 : decode cL_freeRooms 3 = .ok (.aload_n 0, 1) := by decide +kernel
theorem dL_freeRooms_4 : decode cL_freeRooms 4 = .ok (.iload_n 1, 1) := by decide +kernel
theorem dL_freeRooms_5 : decode cL_freeRooms 5 = .ok (.iload_n 2, 1) := by decide +kernel
theorem dL_freeRooms_6 : decode cL_freeRooms 6 = .ok (.iload_n 3, 1) := by decide +kernel
theorem dL_freeRooms_7 : decode cL_freeRooms 7 = .ok (.invokevirtual 69, 3) := by decide +kernel
theorem dL_freeRooms_10 : decode cL_freeRooms 10 = .ok (.i2l, 1) := by decide +kernel
theorem dL_freeRooms_11 : decode cL_freeRooms 11 = .ok (.lastore, 1) := by decide +kernel
theorem dL_freeRooms_12 : decode cL_freeRooms 12 = .ok (.goto 11, 3) := by decide +kernel
theorem dL_freeRooms_15 : decode cL_freeRooms 15 = .ok (.astore 5, 2) := by decide +kernel
theorem dL_freeRooms_17 : decode cL_freeRooms 17 = .ok (.iconst 1, 1) := by decide +kernel
theorem dL_freeRooms_18 : decode cL_freeRooms 18 = .ok (.ireturn, 1) := by decide +kernel
theorem dL_freeRooms_19 : decode cL_freeRooms 19 = .ok (.astore 5, 2) := by decide +kernel
theorem dL_freeRooms_21 : decode cL_freeRooms 21 = .ok (.iconst 2, 1) := by decide +kernel
theorem dL_freeRooms_22 : decode cL_freeRooms 22 = .ok (.ireturn, 1) := by decide +kernel
theorem dL_freeRooms_23 : decode cL_freeRooms 23 = .ok (.iconst 0, 1) := by decide +kernel
theorem dL_freeRooms_24 : decode cL_freeRooms 24 = .ok (.ireturn, 1) := by decide +kernel
theorem dL_value_0 : decode cL_value 0 = .ok (.aload_n 2, 1) := by decide +kernel
theorem dL_value_1 : decode cL_value 1 = .ok (.iconst 0, 1) := by decide +kernel
theorem dL_value_2 : decode cL_value 2 = .ok (.aload_n 0, 1) := by decide +kernel
theorem dL_value_3 : decode cL_value 3 = .ok (.iload_n 1, 1) := by decide +kernel
theorem dL_value_4 : decode cL_value 4 = .ok (.invokevirtual 72, 3) := by decide +kernel
theorem dL_value_7 : decode cL_value 7 = .ok (.i2l, 1) := by decide +kernel
theorem dL_value_8 : decode cL_value 8 = .ok (.lastore, 1) := by decide +kernel
theorem dL_value_9 : decode cL_value 9 = .ok (.goto 6, 3) := by decide +kernel
theorem dL_value_12 : decode cL_value 12 = .ok (.astore_n 3, 1) := by decide +kernel
theorem dL_value_13 : decode cL_value 13 = .ok (.iconst 1, 1) := by decide +kernel
theorem dL_value_14 : decode cL_value 14 = .ok (.ireturn, 1) := by decide +kernel
theorem dL_value_15 : decode cL_value 15 = .ok (.iconst 0, 1) := by decide +kernel
theorem dL_value_16 : decode cL_value 16 = .ok (.ireturn, 1) := by decide +kernel
theorem dL_why_0 : decode cL_why 0 = .ok (.aload 6, 2) := by decide +kernel
theorem dL_why_2 : decode cL_why 2 = .ok (.iconst 0, 1) := by decide +kernel
theorem dL_why_3 : decode cL_why 3 = .ok (.aload_n 0, 1) := by decide +kernel
theorem dL_why_4 : decode cL_why 4 = .ok (.iload_n 1, 1) := by decide +kernel
theorem dL_why_5 : decode cL_why 5 = .ok (.iload_n 2, 1) := by decide +kernel
theorem dL_why_6 : decode cL_why 6 = .ok (.iload_n 3, 1) := by decide +kernel
theorem dL_why_7 : decode cL_why 7 = .ok (.iload 4, 2) := by decide +kernel
theorem dL_why_9 : decode cL_why 9 = .ok (.iload 5, 2) := by decide +kernel
theorem dL_why_11 : decode cL_why 11 = .ok (.invokevirtual 75, 3) := by decide +kernel
theorem dL_why_14 : decode cL_why 14 = .ok (.i2l, 1) := by decide +kernel
theorem dL_why_15 : decode cL_why 15 = .ok (.lastore, 1) := by decide +kernel
theorem dL_why_16 : decode cL_why 16 = .ok (.goto 11, 3) := by decide +kernel
theorem dL_why_19 : decode cL_why 19 = .ok (.astore 7, 2) := by decide +kernel
theorem dL_why_21 : decode cL_why 21 = .ok (.iconst 1, 1) := by decide +kernel
theorem dL_why_22 : decode cL_why 22 = .ok (.ireturn, 1) := by decide +kernel
theorem dL_why_23 : decode cL_why 23 = .ok (.astore 7, 2) := by decide +kernel
theorem dL_why_25 : decode cL_why 25 = .ok (.iconst 2, 1) := by decide +kernel
theorem dL_why_26 : decode cL_why 26 = .ok (.ireturn, 1) := by decide +kernel
theorem dL_why_27 : decode cL_why 27 = .ok (.iconst 0, 1) := by decide +kernel
theorem dL_why_28 : decode cL_why 28 = .ok (.ireturn, 1) := by decide +kernel
theorem dL_firstSlot_0 : decode cL_firstSlot 0 = .ok (.aload_n 3, 1) := by decide +kernel
theorem dL_firstSlot_1 : decode cL_firstSlot 1 = .ok (.iconst 0, 1) := by decide +kernel
theorem dL_firstSlot_2 : decode cL_firstSlot 2 = .ok (.aload_n 0, 1) := by decide +kernel
theorem dL_firstSlot_3 : decode cL_firstSlot 3 = .ok (.iload_n 1, 1) := by decide +kernel
theorem dL_firstSlot_4 : decode cL_firstSlot 4 = .ok (.iload_n 2, 1) := by decide +kernel
theorem dL_firstSlot_5 : decode cL_firstSlot 5 = .ok (.invokevirtual 78, 3) := by decide +kernel
theorem dL_firstSlot_8 : decode cL_firstSlot 8 = .ok (.i2l, 1) := by decide +kernel
theorem dL_firstSlot_9 : decode cL_firstSlot 9 = .ok (.lastore, 1) := by decide +kernel
theorem dL_firstSlot_10 : decode cL_firstSlot 10 = .ok (.goto 11, 3) := by decide +kernel
theorem dL_firstSlot_13 : decode cL_firstSlot 13 = .ok (.astore 4, 2) := by decide +kernel
theorem dL_firstSlot_15 : decode cL_firstSlot 15 = .ok (.iconst 1, 1) := by decide +kernel
theorem dL_firstSlot_16 : decode cL_firstSlot 16 = .ok (.ireturn, 1) := by decide +kernel
theorem dL_firstSlot_17 : decode cL_firstSlot 17 = .ok (.astore 4, 2) := by decide +kernel
theorem dL_firstSlot_19 : decode cL_firstSlot 19 = .ok (.iconst 2, 1) := by decide +kernel
theorem dL_firstSlot_20 : decode cL_firstSlot 20 = .ok (.ireturn, 1) := by decide +kernel
theorem dL_firstSlot_21 : decode cL_firstSlot 21 = .ok (.iconst 0, 1) := by decide +kernel
theorem dL_firstSlot_22 : decode cL_firstSlot 22 = .ok (.ireturn, 1) := by decide +kernel
theorem dL_owedBehind_0 : decode cL_owedBehind 0 = .ok (.aload_n 2, 1) := by decide +kernel
theorem dL_owedBehind_1 : decode cL_owedBehind 1 = .ok (.iconst 0, 1) := by decide +kernel
theorem dL_owedBehind_2 : decode cL_owedBehind 2 = .ok (.aload_n 0, 1) := by decide +kernel
theorem dL_owedBehind_3 : decode cL_owedBehind 3 = .ok (.iload_n 1, 1) := by decide +kernel
theorem dL_owedBehind_4 : decode cL_owedBehind 4 = .ok (.invokevirtual 81, 3) := by decide +kernel
theorem dL_owedBehind_7 : decode cL_owedBehind 7 = .ok (.i2l, 1) := by decide +kernel
theorem dL_owedBehind_8 : decode cL_owedBehind 8 = .ok (.lastore, 1) := by decide +kernel
theorem dL_owedBehind_9 : decode cL_owedBehind 9 = .ok (.goto 9, 3) := by decide +kernel
theorem dL_owedBehind_12 : decode cL_owedBehind 12 = .ok (.astore_n 3, 1) := by decide +kernel
theorem dL_owedBehind_13 : decode cL_owedBehind 13 = .ok (.iconst 1, 1) := by decide +kernel
theorem dL_owedBehind_14 : decode cL_owedBehind 14 = .ok (.ireturn, 1) := by decide +kernel
theorem dL_owedBehind_15 : decode cL_owedBehind 15 = .ok (.astore_n 3, 1) := by decide +kernel
theorem dL_owedBehind_16 : decode cL_owedBehind 16 = .ok (.iconst 2, 1) := by decide +kernel
theorem dL_owedBehind_17 : decode cL_owedBehind 17 = .ok (.ireturn, 1) := by decide +kernel
theorem dL_owedBehind_18 : decode cL_owedBehind 18 = .ok (.iconst 0, 1) := by decide +kernel
theorem dL_owedBehind_19 : decode cL_owedBehind 19 = .ok (.ireturn, 1) := by decide +kernel
theorem dL_gainBy_0 : decode cL_gainBy 0 = .ok (.aload_n 3, 1) := by decide +kernel
theorem dL_gainBy_1 : decode cL_gainBy 1 = .ok (.iconst 0, 1) := by decide +kernel
theorem dL_gainBy_2 : decode cL_gainBy 2 = .ok (.aload_n 0, 1) := by decide +kernel
theorem dL_gainBy_3 : decode cL_gainBy 3 = .ok (.iload_n 1, 1) := by decide +kernel
theorem dL_gainBy_4 : decode cL_gainBy 4 = .ok (.iload_n 2, 1) := by decide +kernel
theorem dL_gainBy_5 : decode cL_gainBy 5 = .ok (.invokevirtual 84, 3) := by decide +kernel
theorem dL_gainBy_8 : decode cL_gainBy 8 = .ok (.i2l, 1) := by decide +kernel
theorem dL_gainBy_9 : decode cL_gainBy 9 = .ok (.lastore, 1) := by decide +kernel
theorem dL_gainBy_10 : decode cL_gainBy 10 = .ok (.goto 15, 3) := by decide +kernel
theorem dL_gainBy_13 : decode cL_gainBy 13 = .ok (.astore 4, 2) := by decide +kernel
theorem dL_gainBy_15 : decode cL_gainBy 15 = .ok (.iconst 1, 1) := by decide +kernel
theorem dL_gainBy_16 : decode cL_gainBy 16 = .ok (.ireturn, 1) := by decide +kernel
theorem dL_gainBy_17 : decode cL_gainBy 17 = .ok (.astore 4, 2) := by decide +kernel
theorem dL_gainBy_19 : decode cL_gainBy 19 = .ok (.iconst 2, 1) := by decide +kernel
theorem dL_gainBy_20 : decode cL_gainBy 20 = .ok (.ireturn, 1) := by decide +kernel
theorem dL_gainBy_21 : decode cL_gainBy 21 = .ok (.astore 4, 2) := by decide +kernel
theorem dL_gainBy_23 : decode cL_gainBy 23 = .ok (.iconst 3, 1) := by decide +kernel
theorem dL_gainBy_24 : decode cL_gainBy 24 = .ok (.ireturn, 1) := by decide +kernel
theorem dL_gainBy_25 : decode cL_gainBy 25 = .ok (.iconst 0, 1) := by decide +kernel
theorem dL_gainBy_26 : decode cL_gainBy 26 = .ok (.ireturn, 1) := by decide +kernel
theorem dL_append_0 : decode cL_append 0 = .ok (.aload_n 2, 1) := by decide +kernel
theorem dL_append_1 : decode cL_append 1 = .ok (.iconst 0, 1) := by decide +kernel
theorem dL_append_2 : decode cL_append 2 = .ok (.aload_n 0, 1) := by decide +kernel
theorem dL_append_3 : decode cL_append 3 = .ok (.iload_n 1, 1) := by decide +kernel
theorem dL_append_4 : decode cL_append 4 = .ok (.invokevirtual 87, 3) := by decide +kernel
theorem dL_append_7 : decode cL_append 7 = .ok (.i2l, 1) := by decide +kernel
theorem dL_append_8 : decode cL_append 8 = .ok (.lastore, 1) := by decide +kernel
theorem dL_append_9 : decode cL_append 9 = .ok (.goto 9, 3) := by decide +kernel
theorem dL_append_12 : decode cL_append 12 = .ok (.astore_n 3, 1) := by decide +kernel
theorem dL_append_13 : decode cL_append 13 = .ok (.iconst 1, 1) := by decide +kernel
theorem dL_append_14 : decode cL_append 14 = .ok (.ireturn, 1) := by decide +kernel
theorem dL_append_15 : decode cL_append 15 = .ok (.astore_n 3, 1) := by decide +kernel
theorem dL_append_16 : decode cL_append 16 = .ok (.iconst 2, 1) := by decide +kernel
theorem dL_append_17 : decode cL_append 17 = .ok (.ireturn, 1) := by decide +kernel
theorem dL_append_18 : decode cL_append 18 = .ok (.iconst 0, 1) := by decide +kernel
theorem dL_append_19 : decode cL_append 19 = .ok (.ireturn, 1) := by decide +kernel
theorem dL_undo_0 : decode cL_undo 0 = .ok (.aload_n 1, 1) := by decide +kernel
theorem dL_undo_1 : decode cL_undo 1 = .ok (.iconst 0, 1) := by decide +kernel
theorem dL_undo_2 : decode cL_undo 2 = .ok (.aload_n 0, 1) := by decide +kernel
theorem dL_undo_3 : decode cL_undo 3 = .ok (.invokevirtual 90, 3) := by decide +kernel
theorem dL_undo_6 : decode cL_undo 6 = .ok (.i2l, 1) := by decide +kernel
theorem dL_undo_7 : decode cL_undo 7 = .ok (.lastore, 1) := by decide +kernel
theorem dL_undo_8 : decode cL_undo 8 = .ok (.goto 6, 3) := by decide +kernel
theorem dL_undo_11 : decode cL_undo 11 = .ok (.astore_n 2, 1) := by decide +kernel
theorem dL_undo_12 : decode cL_undo 12 = .ok (.iconst 1, 1) := by decide +kernel
theorem dL_undo_13 : decode cL_undo 13 = .ok (.ireturn, 1) := by decide +kernel
theorem dL_undo_14 : decode cL_undo 14 = .ok (.iconst 0, 1) := by decide +kernel
theorem dL_undo_15 : decode cL_undo 15 = .ok (.ireturn, 1) := by decide +kernel
