theorem dX0_init_0 : decode cX0_init 0 = .ok (.aload_n 0, 1) := by decide +kernel
theorem dX0_init_1 : decode cX0_init 1 = .ok (.invokespecial 1, 3) := by decide +kernel
theorem dX0_init_4 : decode cX0_init 4 = .ok (.aload_n 0, 1) := by decide +kernel
theorem dX0_init_5 : decode cX0_init 5 = .ok (.iconst 0, 1) := by decide +kernel
theorem dX0_init_6 : decode cX0_init 6 = .ok (.putfield 7, 3) := by decide +kernel
theorem dX0_init_9 : decode cX0_init 9 = .ok (.aload_n 0, 1) := by decide +kernel
theorem dX0_init_10 : decode cX0_init 10 = .ok (.sipush 2000, 3) := by decide +kernel
theorem dX0_init_13 : decode cX0_init 13 = .ok (.putfield 13, 3) := by decide +kernel
theorem dX0_init_16 : decode cX0_init 16 = .ok (.aload_n 0, 1) := by decide +kernel
theorem dX0_init_17 : decode cX0_init 17 = .ok (.iconst 1, 1) := by decide +kernel
theorem dX0_init_18 : decode cX0_init 18 = .ok (.putfield 16, 3) := by decide +kernel
theorem dX0_init_21 : decode cX0_init 21 = .ok (.aload_n 0, 1) := by decide +kernel
theorem dX0_init_22 : decode cX0_init 22 = .ok (.iconst 1, 1) := by decide +kernel
theorem dX0_init_23 : decode cX0_init 23 = .ok (.putfield 19, 3) := by decide +kernel
theorem dX0_init_26 : decode cX0_init 26 = .ok (.return_, 1) := by decide +kernel
theorem dX0_turnTo_0 : decode cX0_turnTo 0 = .ok (.iload_n 1, 1) := by decide +kernel
theorem dX0_turnTo_1 : decode cX0_turnTo 1 = .ok (.aload_n 0, 1) := by decide +kernel
theorem dX0_turnTo_2 : decode cX0_turnTo 2 = .ok (.getfield 7, 3) := by decide +kernel
theorem dX0_turnTo_5 : decode cX0_turnTo 5 = .ok (.if_icmp .ne 4, 3) := by decide +kernel
theorem dX0_turnTo_8 : decode cX0_turnTo 8 = .ok (.return_, 1) := by decide +kernel
theorem dX0_turnTo_9 : decode cX0_turnTo 9 = .ok (.iload_n 1, 1) := by decide +kernel
theorem dX0_turnTo_10 : decode cX0_turnTo 10 = .ok (.aload_n 0, 1) := by decide +kernel
theorem dX0_turnTo_11 : decode cX0_turnTo 11 = .ok (.getfield 7, 3) := by decide +kernel
theorem dX0_turnTo_14 : decode cX0_turnTo 14 = .ok (.iconst 1, 1) := by decide +kernel
theorem dX0_turnTo_15 : decode cX0_turnTo 15 = .ok (.iadd, 1) := by decide +kernel
theorem dX0_turnTo_16 : decode cX0_turnTo 16 = .ok (.if_icmp .ne 10, 3) := by decide +kernel
theorem dX0_turnTo_19 : decode cX0_turnTo 19 = .ok (.aload_n 0, 1) := by decide +kernel
theorem dX0_turnTo_20 : decode cX0_turnTo 20 = .ok (.invokevirtual 22, 3) := by decide +kernel
theorem dX0_turnTo_23 : decode cX0_turnTo 23 = .ok (.goto 8, 3) := by decide +kernel
theorem dX0_turnTo_26 : decode cX0_turnTo 26 = .ok (.aload_n 0, 1) := by decide +kernel
theorem dX0_turnTo_27 : decode cX0_turnTo 27 = .ok (.iload_n 1, 1) := by decide +kernel
theorem dX0_turnTo_28 : decode cX0_turnTo 28 = .ok (.invokevirtual 25, 3) := by decide +kernel
theorem dX0_turnTo_31 : decode cX0_turnTo 31 = .ok (.aload_n 0, 1) := by decide +kernel
theorem dX0_turnTo_32 : decode cX0_turnTo 32 = .ok (.iload_n 1, 1) := by decide +kernel
theorem dX0_turnTo_33 : decode cX0_turnTo 33 = .ok (.putfield 7, 3) := by decide +kernel
theorem dX0_turnTo_36 : decode cX0_turnTo 36 = .ok (.return_, 1) := by decide +kernel
theorem dX0_turnOne_0 : decode cX0_turnOne 0 = .ok (.aload_n 0, 1) := by decide +kernel
theorem dX0_turnOne_1 : decode cX0_turnOne 1 = .ok (.dup, 1) := by decide +kernel
theorem dX0_turnOne_2 : decode cX0_turnOne 2 = .ok (.getfield 19, 3) := by decide +kernel
theorem dX0_turnOne_5 : decode cX0_turnOne 5 = .ok (.iconst 1, 1) := by decide +kernel
theorem dX0_turnOne_6 : decode cX0_turnOne 6 = .ok (.iadd, 1) := by decide +kernel
theorem dX0_turnOne_7 : decode cX0_turnOne 7 = .ok (.putfield 19, 3) := by decide +kernel
theorem dX0_turnOne_10 : decode cX0_turnOne 10 = .ok (.aload_n 0, 1) := by decide +kernel
theorem dX0_turnOne_11 : decode cX0_turnOne 11 = .ok (.getfield 19, 3) := by decide +kernel
theorem dX0_turnOne_14 : decode cX0_turnOne 14 = .ok (.aload_n 0, 1) := by decide +kernel
theorem dX0_turnOne_15 : decode cX0_turnOne 15 = .ok (.invokevirtual 29, 3) := by decide +kernel
theorem dX0_turnOne_18 : decode cX0_turnOne 18 = .ok (.if_icmp .le 18, 3) := by decide +kernel
theorem dX0_turnOne_21 : decode cX0_turnOne 21 = .ok (.aload_n 0, 1) := by decide +kernel
theorem dX0_turnOne_22 : decode cX0_turnOne 22 = .ok (.iconst 1, 1) := by decide +kernel
theorem dX0_turnOne_23 : decode cX0_turnOne 23 = .ok (.putfield 19, 3) := by decide +kernel
theorem dX0_turnOne_26 : decode cX0_turnOne 26 = .ok (.aload_n 0, 1) := by decide +kernel
theorem dX0_turnOne_27 : decode cX0_turnOne 27 = .ok (.dup, 1) := by decide +kernel
theorem dX0_turnOne_28 : decode cX0_turnOne 28 = .ok (.getfield 16, 3) := by decide +kernel
theorem dX0_turnOne_31 : decode cX0_turnOne 31 = .ok (.iconst 1, 1) := by decide +kernel
theorem dX0_turnOne_32 : decode cX0_turnOne 32 = .ok (.iadd, 1) := by decide +kernel
theorem dX0_turnOne_33 : decode cX0_turnOne 33 = .ok (.putfield 16, 3) := by decide +kernel
theorem dX0_turnOne_36 : decode cX0_turnOne 36 = .ok (.aload_n 0, 1) := by decide +kernel
theorem dX0_turnOne_37 : decode cX0_turnOne 37 = .ok (.getfield 16, 3) := by decide +kernel
theorem dX0_turnOne_40 : decode cX0_turnOne 40 = .ok (.bipush 12, 2) := by decide +kernel
theorem dX0_turnOne_42 : decode cX0_turnOne 42 = .ok (.if_icmp .le 18, 3) := by decide +kernel
theorem dX0_turnOne_45 : decode cX0_turnOne 45 = .ok (.aload_n 0, 1) := by decide +kernel
theorem dX0_turnOne_46 : decode cX0_turnOne 46 = .ok (.iconst 1, 1) := by decide +kernel
theorem dX0_turnOne_47 : decode cX0_turnOne 47 = .ok (.putfield 16, 3) := by decide +kernel
theorem dX0_turnOne_50 : decode cX0_turnOne 50 = .ok (.aload_n 0, 1) := by decide +kernel
theorem dX0_turnOne_51 : decode cX0_turnOne 51 = .ok (.dup, 1) := by decide +kernel
theorem dX0_turnOne_52 : decode cX0_turnOne 52 = .ok (.getfield 13, 3) := by decide +kernel
theorem dX0_turnOne_55 : decode cX0_turnOne 55 = .ok (.iconst 1, 1) := by decide +kernel
theorem dX0_turnOne_56 : decode cX0_turnOne 56 = .ok (.iadd, 1) := by decide +kernel
theorem dX0_turnOne_57 : decode cX0_turnOne 57 = .ok (.putfield 13, 3) := by decide +kernel
theorem dX0_turnOne_60 : decode cX0_turnOne 60 = .ok (.return_, 1) := by decide +kernel
theorem dX0_find_0 : decode cX0_find 0 = .ok (.iload_n 1, 1) := by decide +kernel
theorem dX0_find_1 : decode cX0_find 1 = .ok (.istore_n 2, 1) := by decide +kernel
theorem dX0_find_2 : decode cX0_find 2 = .ok (.aload_n 0, 1) := by decide +kernel
theorem dX0_find_3 : decode cX0_find 3 = .ok (.sipush 2000, 3) := by decide +kernel
theorem dX0_find_6 : decode cX0_find 6 = .ok (.putfield 13, 3) := by decide +kernel
theorem dX0_find_9 : decode cX0_find 9 = .ok (.aload_n 0, 1) := by decide +kernel
theorem dX0_find_10 : decode cX0_find 10 = .ok (.getfield 13, 3) := by decide +kernel
theorem dX0_find_13 : decode cX0_find 13 = .ok (.sipush 2038, 3) := by decide +kernel
theorem dX0_find_16 : decode cX0_find 16 = .ok (.if_icmp .ge 31, 3) := by decide +kernel
theorem dX0_find_19 : decode cX0_find 19 = .ok (.iload_n 2, 1) := by decide +kernel
theorem dX0_find_20 : decode cX0_find 20 = .ok (.aload_n 0, 1) := by decide +kernel
theorem dX0_find_21 : decode cX0_find 21 = .ok (.invokevirtual 33, 3) := by decide +kernel
theorem dX0_find_24 : decode cX0_find 24 = .ok (.if_icmp .lt 23, 3) := by decide +kernel
theorem dX0_find_27 : decode cX0_find 27 = .ok (.iload_n 2, 1) := by decide +kernel
theorem dX0_find_28 : decode cX0_find 28 = .ok (.aload_n 0, 1) := by decide +kernel
theorem dX0_find_29 : decode cX0_find 29 = .ok (.invokevirtual 33, 3) := by decide +kernel
theorem dX0_find_32 : decode cX0_find 32 = .ok (.isub, 1) := by decide +kernel
theorem dX0_find_33 : decode cX0_find 33 = .ok (.istore_n 2, 1) := by decide +kernel
theorem dX0_find_34 : decode cX0_find 34 = .ok (.aload_n 0, 1) := by decide +kernel
theorem dX0_find_35 : decode cX0_find 35 = .ok (.dup, 1) := by decide +kernel
theorem dX0_find_36 : decode cX0_find 36 = .ok (.getfield 13, 3) := by decide +kernel
theorem dX0_find_39 : decode cX0_find 39 = .ok (.iconst 1, 1) := by decide +kernel
theorem dX0_find_40 : decode cX0_find 40 = .ok (.iadd, 1) := by decide +kernel
theorem dX0_find_41 : decode cX0_find 41 = .ok (.putfield 13, 3) := by decide +kernel
theorem dX0_find_44 : decode cX0_find 44 = .ok (.goto (-35), 3) := by decide +kernel
theorem dX0_find_47 : decode cX0_find 47 = .ok (.aload_n 0, 1) := by decide +kernel
theorem dX0_find_48 : decode cX0_find 48 = .ok (.iconst 1, 1) := by decide +kernel
theorem dX0_find_49 : decode cX0_find 49 = .ok (.putfield 16, 3) := by decide +kernel
theorem dX0_find_52 : decode cX0_find 52 = .ok (.aload_n 0, 1) := by decide +kernel
theorem dX0_find_53 : decode cX0_find 53 = .ok (.getfield 16, 3) := by decide +kernel
theorem dX0_find_56 : decode cX0_find 56 = .ok (.bipush 12, 2) := by decide +kernel
theorem dX0_find_58 : decode cX0_find 58 = .ok (.if_icmp .ge 31, 3) := by decide +kernel
theorem dX0_find_61 : decode cX0_find 61 = .ok (.iload_n 2, 1) := by decide +kernel
theorem dX0_find_62 : decode cX0_find 62 = .ok (.aload_n 0, 1) := by decide +kernel
theorem dX0_find_63 : decode cX0_find 63 = .ok (.invokevirtual 29, 3) := by decide +kernel
theorem dX0_find_66 : decode cX0_find 66 = .ok (.if_icmp .lt 23, 3) := by decide +kernel
theorem dX0_find_69 : decode cX0_find 69 = .ok (.iload_n 2, 1) := by decide +kernel
theorem dX0_find_70 : decode cX0_find 70 = .ok (.aload_n 0, 1) := by decide +kernel
theorem dX0_find_71 : decode cX0_find 71 = .ok (.invokevirtual 29, 3) := by decide +kernel
theorem dX0_find_74 : decode cX0_find 74 = .ok (.isub, 1) := by decide +kernel
theorem dX0_find_75 : decode cX0_find 75 = .ok (.istore_n 2, 1) := by decide +kernel
theorem dX0_find_76 : decode cX0_find 76 = .ok (.aload_n 0, 1) := by decide +kernel
theorem dX0_find_77 : decode cX0_find 77 = .ok (.dup, 1) := by decide +kernel
theorem dX0_find_78 : decode cX0_find 78 = .ok (.getfield 16, 3) := by decide +kernel
theorem dX0_find_81 : decode cX0_find 81 = .ok (.iconst 1, 1) := by decide +kernel
theorem dX0_find_82 : decode cX0_find 82 = .ok (.iadd, 1) := by decide +kernel
theorem dX0_find_83 : decode cX0_find 83 = .ok (.putfield 16, 3) := by decide +kernel
theorem dX0_find_86 : decode cX0_find 86 = .ok (.goto (-34), 3) := by decide +kernel
theorem dX0_find_89 : decode cX0_find 89 = .ok (.aload_n 0, 1) := by decide +kernel
theorem dX0_find_90 : decode cX0_find 90 = .ok (.iload_n 2, 1) := by decide +kernel
theorem dX0_find_91 : decode cX0_find 91 = .ok (.iconst 1, 1) := by decide +kernel
theorem dX0_find_92 : decode cX0_find 92 = .ok (.iadd, 1) := by decide +kernel
theorem dX0_find_93 : decode cX0_find 93 = .ok (.putfield 19, 3) := by decide +kernel
theorem dX0_find_96 : decode cX0_find 96 = .ok (.return_, 1) := by decide +kernel
theorem dX0_weekday_0 : decode cX0_weekday 0 = .ok (.aload_n 0, 1) := by decide +kernel
theorem dX0_weekday_1 : decode cX0_weekday 1 = .ok (.getfield 7, 3) := by decide +kernel
theorem dX0_weekday_4 : decode cX0_weekday 4 = .ok (.bipush 6, 2) := by decide +kernel
theorem dX0_weekday_6 : decode cX0_weekday 6 = .ok (.iadd, 1) := by decide +kernel
theorem dX0_weekday_7 : decode cX0_weekday 7 = .ok (.bipush 7, 2) := by decide +kernel
theorem dX0_weekday_9 : decode cX0_weekday 9 = .ok (.irem, 1) := by decide +kernel
theorem dX0_weekday_10 : decode cX0_weekday 10 = .ok (.ireturn, 1) := by decide +kernel
theorem dX0_isLeapYear_0 : decode cX0_isLeapYear 0 = .ok (.aload_n 0, 1) := by decide +kernel
theorem dX0_isLeapYear_1 : decode cX0_isLeapYear 1 = .ok (.getfield 13, 3) := by decide +kernel
theorem dX0_isLeapYear_4 : decode cX0_isLeapYear 4 = .ok (.iconst 4, 1) := by decide +kernel
theorem dX0_isLeapYear_5 : decode cX0_isLeapYear 5 = .ok (.irem, 1) := by decide +kernel
theorem dX0_isLeapYear_6 : decode cX0_isLeapYear 6 = .ok (.ifCond .ne 13, 3) := by decide +kernel
theorem dX0_isLeapYear_9 : decode cX0_isLeapYear 9 = .ok (.aload_n 0, 1) := by decide +kernel
theorem dX0_isLeapYear_10 : decode cX0_isLeapYear 10 = .ok (.getfield 13, 3) := by decide +kernel
theorem dX0_isLeapYear_13 : decode cX0_isLeapYear 13 = .ok (.bipush 100, 2) := by decide +kernel
theorem dX0_isLeapYear_15 : decode cX0_isLeapYear 15 = .ok (.irem, 1) := by decide +kernel
theorem dX0_isLeapYear_16 : decode cX0_isLeapYear 16 = .ok (.ifCond .ne 14, 3) := by decide +kernel
theorem dX0_isLeapYear_19 : decode cX0_isLeapYear 19 = .ok (.aload_n 0, 1) := by decide +kernel
theorem dX0_isLeapYear_20 : decode cX0_isLeapYear 20 = .ok (.getfield 13, 3) := by decide +kernel
theorem dX0_isLeapYear_23 : decode cX0_isLeapYear 23 = .ok (.sipush 400, 3) := by decide +kernel
theorem dX0_isLeapYear_26 : decode cX0_isLeapYear 26 = .ok (.irem, 1) := by decide +kernel
theorem dX0_isLeapYear_27 : decode cX0_isLeapYear 27 = .ok (.ifCond .ne 7, 3) := by decide +kernel
theorem dX0_isLeapYear_30 : decode cX0_isLeapYear 30 = .ok (.iconst 1, 1) := by decide +kernel
theorem dX0_isLeapYear_31 : decode cX0_isLeapYear 31 = .ok (.goto 4, 3) := by decide +kernel
theorem dX0_isLeapYear_34 : decode cX0_isLeapYear 34 = .ok (.iconst 0, 1) := by decide +kernel
theorem dX0_isLeapYear_35 : decode cX0_isLeapYear 35 = .ok (.ireturn, 1) := by decide +kernel
theorem dX0_daysOfYear_0 : decode cX0_daysOfYear 0 = .ok (.aload_n 0, 1) := by decide +kernel
theorem dX0_daysOfYear_1 : decode cX0_daysOfYear 1 = .ok (.invokevirtual 36, 3) := by decide +kernel
theorem dX0_daysOfYear_4 : decode cX0_daysOfYear 4 = .ok (.ifCond .eq 9, 3) := by decide +kernel
theorem dX0_daysOfYear_7 : decode cX0_daysOfYear 7 = .ok (.sipush 366, 3) := by decide +kernel
theorem dX0_daysOfYear_10 : decode cX0_daysOfYear 10 = .ok (.goto 6, 3) := by decide +kernel
theorem dX0_daysOfYear_13 : decode cX0_daysOfYear 13 = .ok (.sipush 365, 3) := by decide +kernel
theorem dX0_daysOfYear_16 : decode cX0_daysOfYear 16 = .ok (.ireturn, 1) := by decide +kernel
theorem dX0_daysOfMonth_0 : decode cX0_daysOfMonth 0 = .ok (.aload_n 0, 1) := by decide +kernel
theorem dX0_daysOfMonth_1 : decode cX0_daysOfMonth 1 = .ok (.getfield 16, 3) := by decide +kernel
theorem dX0_daysOfMonth_4 : decode cX0_daysOfMonth 4 = .ok (.iconst 2, 1) := by decide +kernel
theorem dX0_daysOfMonth_5 : decode cX0_daysOfMonth 5 = .ok (.if_icmp .ne 15, 3) := by decide +kernel
theorem dX0_daysOfMonth_8 : decode cX0_daysOfMonth 8 = .ok (.aload_n 0, 1) := by decide +kernel
theorem dX0_daysOfMonth_9 : decode cX0_daysOfMonth 9 = .ok (.invokevirtual 36, 3) := by decide +kernel
theorem dX0_daysOfMonth_12 : decode cX0_daysOfMonth 12 = .ok (.ifCond .eq 8, 3) := by decide +kernel
theorem dX0_daysOfMonth_15 : decode cX0_daysOfMonth 15 = .ok (.bipush 29, 2) := by decide +kernel
theorem dX0_daysOfMonth_17 : decode cX0_daysOfMonth 17 = .ok (.goto 13, 3) := by decide +kernel
theorem dX0_daysOfMonth_20 : decode cX0_daysOfMonth 20 = .ok (.getstatic 40, 3) := by decide +kernel
theorem dX0_daysOfMonth_23 : decode cX0_daysOfMonth 23 = .ok (.aload_n 0, 1) := by decide +kernel
theorem dX0_daysOfMonth_24 : decode cX0_daysOfMonth 24 = .ok (.getfield 16, 3) := by decide +kernel
theorem dX0_daysOfMonth_27 : decode cX0_daysOfMonth 27 = .ok (.iconst 1, 1) := by decide +kernel
theorem dX0_daysOfMonth_28 : decode cX0_daysOfMonth 28 = .ok (.isub, 1) := by decide +kernel
theorem dX0_daysOfMonth_29 : decode cX0_daysOfMonth 29 = .ok (.iaload, 1) := by decide +kernel
theorem dX0_daysOfMonth_30 : decode cX0_daysOfMonth 30 = .ok (.ireturn, 1) := by decide +kernel
theorem dX1_init_0 : decode cX1_init 0 = .ok (.aload_n 0, 1) := by decide +kernel
theorem dX1_init_1 : decode cX1_init 1 = .ok (.invokespecial 3, 3) := by decide +kernel
theorem dX1_init_4 : decode cX1_init 4 = .ok (.aload_n 0, 1) := by decide +kernel
theorem dX1_init_5 : decode cX1_init 5 = .ok (.aload_n 1, 1) := by decide +kernel
theorem dX1_init_6 : decode cX1_init 6 = .ok (.invokevirtual 9, 3) := by decide +kernel
theorem dX1_init_9 : decode cX1_init 9 = .ok (.checkcast 10, 3) := by decide +kernel
theorem dX1_init_12 : decode cX1_init 12 = .ok (.putfield 15, 3) := by decide +kernel
theorem dX1_init_15 : decode cX1_init 15 = .ok (.aload_n 0, 1) := by decide +kernel
theorem dX1_init_16 : decode cX1_init 16 = .ok (.iload_n 2, 1) := by decide +kernel
theorem dX1_init_17 : decode cX1_init 17 = .ok (.putfield 20, 3) := by decide +kernel
theorem dX1_init_20 : decode cX1_init 20 = .ok (.return_, 1) := by decide +kernel
theorem dX1_has_0 : decode cX1_has 0 = .ok (.aload_n 0, 1) := by decide +kernel
theorem dX1_has_1 : decode cX1_has 1 = .ok (.getfield 15, 3) := by decide +kernel
theorem dX1_has_4 : decode cX1_has 4 = .ok (.iload_n 1, 1) := by decide +kernel
theorem dX1_has_5 : decode cX1_has 5 = .ok (.laload, 1) := by decide +kernel
theorem dX1_has_6 : decode cX1_has 6 = .ok (.iload_n 2, 1) := by decide +kernel
theorem dX1_has_7 : decode cX1_has 7 = .ok (.lushr, 1) := by decide +kernel
theorem dX1_has_8 : decode cX1_has 8 = .ok (.lconst 1, 1) := by decide +kernel
theorem dX1_has_9 : decode cX1_has 9 = .ok (.land, 1) := by decide +kernel
theorem dX1_has_10 : decode cX1_has 10 = .ok (.lconst 0, 1) := by decide +kernel
theorem dX1_has_11 : decode cX1_has 11 = .ok (.lcmp, 1) := by decide +kernel
theorem dX1_has_12 : decode cX1_has 12 = .ok (.ifCond .eq 7, 3) := by decide +kernel
theorem dX1_has_15 : decode cX1_has 15 = .ok (.iconst 1, 1) := by decide +kernel
theorem dX1_has_16 : decode cX1_has 16 = .ok (.goto 4, 3) := by decide +kernel
theorem dX1_has_19 : decode cX1_has 19 = .ok (.iconst 0, 1) := by decide +kernel
theorem dX1_has_20 : decode cX1_has 20 = .ok (.ireturn, 1) := by decide +kernel
theorem dX1_hasTime_0 : decode cX1_hasTime 0 = .ok (.aload_n 0, 1) := by decide +kernel
theorem dX1_hasTime_1 : decode cX1_hasTime 1 = .ok (.iconst 0, 1) := by decide +kernel
theorem dX1_hasTime_2 : decode cX1_hasTime 2 = .ok (.iload_n 1, 1) := by decide +kernel
theorem dX1_hasTime_3 : decode cX1_hasTime 3 = .ok (.bipush 60, 2) := by decide +kernel
theorem dX1_hasTime_5 : decode cX1_hasTime 5 = .ok (.irem, 1) := by decide +kernel
theorem dX1_hasTime_6 : decode cX1_hasTime 6 = .ok (.invokevirtual 24, 3) := by decide +kernel
theorem dX1_hasTime_9 : decode cX1_hasTime 9 = .ok (.ifCond .eq 19, 3) := by decide +kernel
theorem dX1_hasTime_12 : decode cX1_hasTime 12 = .ok (.aload_n 0, 1) := by decide +kernel
theorem dX1_hasTime_13 : decode cX1_hasTime 13 = .ok (.iconst 1, 1) := by decide +kernel
theorem dX1_hasTime_14 : decode cX1_hasTime 14 = .ok (.iload_n 1, 1) := by decide +kernel
theorem dX1_hasTime_15 : decode cX1_hasTime 15 = .ok (.bipush 60, 2) := by decide +kernel
theorem dX1_hasTime_17 : decode cX1_hasTime 17 = .ok (.idiv, 1) := by decide +kernel
theorem dX1_hasTime_18 : decode cX1_hasTime 18 = .ok (.invokevirtual 24, 3) := by decide +kernel
theorem dX1_hasTime_21 : decode cX1_hasTime 21 = .ok (.ifCond .eq 7, 3) := by decide +kernel
theorem dX1_hasTime_24 : decode cX1_hasTime 24 = .ok (.iconst 1, 1) := by decide +kernel
theorem dX1_hasTime_25 : decode cX1_hasTime 25 = .ok (.goto 4, 3) := by decide +kernel
theorem dX1_hasTime_28 : decode cX1_hasTime 28 = .ok (.iconst 0, 1) := by decide +kernel
theorem dX1_hasTime_29 : decode cX1_hasTime 29 = .ok (.ireturn, 1) := by decide +kernel
theorem dX1_hasDay_0 : decode cX1_hasDay 0 = .ok (.aload_n 0, 1) := by decide +kernel
theorem dX1_hasDay_1 : decode cX1_hasDay 1 = .ok (.iconst 3, 1) := by decide +kernel
theorem dX1_hasDay_2 : decode cX1_hasDay 2 = .ok (.aload_n 1, 1) := by decide +kernel
theorem dX1_hasDay_3 : decode cX1_hasDay 3 = .ok (.getfield 28, 3) := by decide +kernel
theorem dX1_hasDay_6 : decode cX1_hasDay 6 = .ok (.invokevirtual 24, 3) := by decide +kernel
theorem dX1_hasDay_9 : decode cX1_hasDay 9 = .ok (.ifCond .ne 5, 3) := by decide +kernel
theorem dX1_hasDay_12 : decode cX1_hasDay 12 = .ok (.iconst 0, 1) := by decide +kernel
theorem dX1_hasDay_13 : decode cX1_hasDay 13 = .ok (.ireturn, 1) := by decide +kernel
theorem dX1_hasDay_14 : decode cX1_hasDay 14 = .ok (.aload_n 0, 1) := by decide +kernel
theorem dX1_hasDay_15 : decode cX1_hasDay 15 = .ok (.iconst 2, 1) := by decide +kernel
theorem dX1_hasDay_16 : decode cX1_hasDay 16 = .ok (.aload_n 1, 1) := by decide +kernel
theorem dX1_hasDay_17 : decode cX1_hasDay 17 = .ok (.getfield 34, 3) := by decide +kernel
theorem dX1_hasDay_20 : decode cX1_hasDay 20 = .ok (.invokevirtual 24, 3) := by decide +kernel
theorem dX1_hasDay_23 : decode cX1_hasDay 23 = .ok (.istore_n 2, 1) := by decide +kernel
theorem dX1_hasDay_24 : decode cX1_hasDay 24 = .ok (.aload_n 0, 1) := by decide +kernel
theorem dX1_hasDay_25 : decode cX1_hasDay 25 = .ok (.iconst 4, 1) := by decide +kernel
theorem dX1_hasDay_26 : decode cX1_hasDay 26 = .ok (.aload_n 1, 1) := by decide +kernel
theorem dX1_hasDay_27 : decode cX1_hasDay 27 = .ok (.invokevirtual 37, 3) := by decide +kernel
theorem dX1_hasDay_30 : decode cX1_hasDay 30 = .ok (.invokevirtual 24, 3) := by decide +kernel
theorem dX1_hasDay_33 : decode cX1_hasDay 33 = .ok (.istore_n 3, 1) := by decide +kernel
theorem dX1_hasDay_34 : decode cX1_hasDay 34 = .ok (.aload_n 0, 1) := by decide +kernel
theorem dX1_hasDay_35 : decode cX1_hasDay 35 = .ok (.getfield 20, 3) := by decide +kernel
theorem dX1_hasDay_38 : decode cX1_hasDay 38 = .ok (.ifCond .eq 19, 3) := by decide +kernel
theorem dX1_hasDay_41 : decode cX1_hasDay 41 = .ok (.iload_n 2, 1) := by decide +kernel
theorem dX1_hasDay_42 : decode cX1_hasDay 42 = .ok (.ifCond .eq 11, 3) := by decide +kernel
theorem dX1_hasDay_45 : decode cX1_hasDay 45 = .ok (.iload_n 3, 1) := by decide +kernel
theorem dX1_hasDay_46 : decode cX1_hasDay 46 = .ok (.ifCond .eq 7, 3) := by decide +kernel
theorem dX1_hasDay_49 : decode cX1_hasDay 49 = .ok (.iconst 1, 1) := by decide +kernel
theorem dX1_hasDay_50 : decode cX1_hasDay 50 = .ok (.goto 20, 3) := by decide +kernel
theorem dX1_hasDay_53 : decode cX1_hasDay 53 = .ok (.iconst 0, 1) := by decide +kernel
theorem dX1_hasDay_54 : decode cX1_hasDay 54 = .ok (.goto 16, 3) := by decide +kernel
theorem dX1_hasDay_57 : decode cX1_hasDay 57 = .ok (.iload_n 2, 1) := by decide +kernel
theorem dX1_hasDay_58 : decode cX1_hasDay 58 = .ok (.ifCond .ne 7, 3) := by decide +kernel
theorem dX1_hasDay_61 : decode cX1_hasDay 61 = .ok (.iload_n 3, 1) := by decide +kernel
theorem dX1_hasDay_62 : decode cX1_hasDay 62 = .ok (.ifCond .eq 7, 3) := by decide +kernel
theorem dX1_hasDay_65 : decode cX1_hasDay 65 = .ok (.iconst 1, 1) := by decide +kernel
theorem dX1_hasDay_66 : decode cX1_hasDay 66 = .ok (.goto 4, 3) := by decide +kernel
theorem dX1_hasDay_69 : decode cX1_hasDay 69 = .ok (.iconst 0, 1) := by decide +kernel
theorem dX1_hasDay_70 : decode cX1_hasDay 70 = .ok (.ireturn, 1) := by decide +kernel
theorem dX1_firstTime_0 : decode cX1_firstTime 0 = .ok (.iload_n 1, 1) := by decide +kernel
theorem dX1_firstTime_1 : decode cX1_firstTime 1 = .ok (.istore_n 2, 1) := by decide +kernel
theorem dX1_firstTime_2 : decode cX1_firstTime 2 = .ok (.iload_n 2, 1) := by decide +kernel
theorem dX1_firstTime_3 : decode cX1_firstTime 3 = .ok (.sipush 1440, 3) := by decide +kernel
theorem dX1_firstTime_6 : decode cX1_firstTime 6 = .ok (.if_icmp .ge 19, 3) := by decide +kernel
theorem dX1_firstTime_9 : decode cX1_firstTime 9 = .ok (.aload_n 0, 1) := by decide +kernel
theorem dX1_firstTime_10 : decode cX1_firstTime 10 = .ok (.iload_n 2, 1) := by decide +kernel
theorem dX1_firstTime_11 : decode cX1_firstTime 11 = .ok (.invokevirtual 41, 3) := by decide +kernel
theorem dX1_firstTime_14 : decode cX1_firstTime 14 = .ok (.ifCond .eq 5, 3) := by decide +kernel
theorem dX1_firstTime_17 : decode cX1_firstTime 17 = .ok (.iload_n 2, 1) := by decide +kernel
theorem dX1_firstTime_18 : decode cX1_firstTime 18 = .ok (.ireturn, 1) := by decide +kernel
theorem dX1_firstTime_19 : decode cX1_firstTime 19 = .ok (.iinc 2 1, 3) := by decide +kernel
theorem dX1_firstTime_22 : decode cX1_firstTime 22 = .ok (.goto (-20), 3) := by decide +kernel
theorem dX1_firstTime_25 : decode cX1_firstTime 25 = .ok (.iconst (-1), 1) := by decide +kernel
theorem dX1_firstTime_26 : decode cX1_firstTime 26 = .ok (.ireturn, 1) := by decide +kernel
theorem dX2_init_0 : decode cX2_init 0 = .ok (.aload_n 0, 1) := by decide +kernel
theorem dX2_init_1 : decode cX2_init 1 = .ok (.invokespecial 3, 3) := by decide +kernel
theorem dX2_init_4 : decode cX2_init 4 = .ok (.aload_n 0, 1) := by decide +kernel
theorem dX2_init_5 : decode cX2_init 5 = .ok (.bipush 6, 2) := by decide +kernel
theorem dX2_init_7 : decode cX2_init 7 = .ok (.anewarray 9, 3) := by decide +kernel
theorem dX2_init_10 : decode cX2_init 10 = .ok (.putfield 11, 3) := by decide +kernel
theorem dX2_init_13 : decode cX2_init 13 = .ok (.aload_n 0, 1) := by decide +kernel
theorem dX2_init_14 : decode cX2_init 14 = .ok (.iconst 0, 1) := by decide +kernel
theorem dX2_init_15 : decode cX2_init 15 = .ok (.putfield 17, 3) := by decide +kernel
theorem dX2_init_18 : decode cX2_init 18 = .ok (.aload_n 0, 1) := by decide +kernel
theorem dX2_init_19 : decode cX2_init 19 = .ok (.iconst 0, 1) := by decide +kernel
theorem dX2_init_20 : decode cX2_init 20 = .ok (.putfield 21, 3) := by decide +kernel
theorem dX2_init_23 : decode cX2_init 23 = .ok (.aload_n 0, 1) := by decide +kernel
theorem dX2_init_24 : decode cX2_init 24 = .ok (.iconst 0, 1) := by decide +kernel
theorem dX2_init_25 : decode cX2_init 25 = .ok (.putfield 25, 3) := by decide +kernel
theorem dX2_init_28 : decode cX2_init 28 = .ok (.aload_n 0, 1) := by decide +kernel
theorem dX2_init_29 : decode cX2_init 29 = .ok (.iconst 0, 1) := by decide +kernel
theorem dX2_init_30 : decode cX2_init 30 = .ok (.putfield 28, 3) := by decide +kernel
theorem dX2_init_33 : decode cX2_init 33 = .ok (.aload_n 0, 1) := by decide +kernel
theorem dX2_init_34 : decode cX2_init 34 = .ok (.iload_n 1, 1) := by decide +kernel
theorem dX2_init_35 : decode cX2_init 35 = .ok (.putfield 31, 3) := by decide +kernel
theorem dX2_init_38 : decode cX2_init 38 = .ok (.aload_n 0, 1) := by decide +kernel
theorem dX2_init_39 : decode cX2_init 39 = .ok (.aload_n 2, 1) := by decide +kernel
theorem dX2_init_40 : decode cX2_init 40 = .ok (.putfield 34, 3) := by decide +kernel
theorem dX2_init_43 : decode cX2_init 43 = .ok (.return_, 1) := by decide +kernel
theorem dX2_allTasks_0 : decode cX2_allTasks 0 = .ok (.iconst 1, 1) := by decide +kernel
theorem dX2_allTasks_1 : decode cX2_allTasks 1 = .ok (.aload_n 0, 1) := by decide +kernel
theorem dX2_allTasks_2 : decode cX2_allTasks 2 = .ok (.getfield 17, 3) := by decide +kernel
theorem dX2_allTasks_5 : decode cX2_allTasks 5 = .ok (.ishl, 1) := by decide +kernel
theorem dX2_allTasks_6 : decode cX2_allTasks 6 = .ok (.iconst 1, 1) := by decide +kernel
theorem dX2_allTasks_7 : decode cX2_allTasks 7 = .ok (.isub, 1) := by decide +kernel
theorem dX2_allTasks_8 : decode cX2_allTasks 8 = .ok (.ireturn, 1) := by decide +kernel
theorem dX2_addTask_0 : decode cX2_addTask 0 = .ok (.aload_n 0, 1) := by decide +kernel
theorem dX2_addTask_1 : decode cX2_addTask 1 = .ok (.getfield 11, 3) := by decide +kernel
theorem dX2_addTask_4 : decode cX2_addTask 4 = .ok (.aload_n 0, 1) := by decide +kernel
theorem dX2_addTask_5 : decode cX2_addTask 5 = .ok (.getfield 17, 3) := by decide +kernel
theorem dX2_addTask_8 : decode cX2_addTask 8 = .ok (.aload_n 1, 1) := by decide +kernel
theorem dX2_addTask_9 : decode cX2_addTask 9 = .ok (.aastore, 1) := by decide +kernel
theorem dX2_addTask_10 : decode cX2_addTask 10 = .ok (.aload_n 0, 1) := by decide +kernel
theorem dX2_addTask_11 : decode cX2_addTask 11 = .ok (.dup, 1) := by decide +kernel
theorem dX2_addTask_12 : decode cX2_addTask 12 = .ok (.getfield 17, 3) := by decide +kernel
theorem dX2_addTask_15 : decode cX2_addTask 15 = .ok (.dup_x1, 1) := by decide +kernel
theorem dX2_addTask_16 : decode cX2_addTask 16 = .ok (.iconst 1, 1) := by decide +kernel
theorem dX2_addTask_17 : decode cX2_addTask 17 = .ok (.iadd, 1) := by decide +kernel
theorem dX2_addTask_18 : decode cX2_addTask 18 = .ok (.putfield 17, 3) := by decide +kernel
theorem dX2_addTask_21 : decode cX2_addTask 21 = .ok (.ireturn, 1) := by decide +kernel
theorem dX2_begin_0 : decode cX2_begin 0 = .ok (.aload_n 0, 1) := by decide +kernel
theorem dX2_begin_1 : decode cX2_begin 1 = .ok (.dup, 1) := by decide +kernel
theorem dX2_begin_2 : decode cX2_begin 2 = .ok (.getfield 25, 3) := by decide +kernel
theorem dX2_begin_5 : decode cX2_begin 5 = .ok (.iconst 1, 1) := by decide +kernel
theorem dX2_begin_6 : decode cX2_begin 6 = .ok (.iadd, 1) := by decide +kernel
theorem dX2_begin_7 : decode cX2_begin 7 = .ok (.putfield 25, 3) := by decide +kernel
theorem dX2_begin_10 : decode cX2_begin 10 = .ok (.aload_n 0, 1) := by decide +kernel
theorem dX2_begin_11 : decode cX2_begin 11 = .ok (.iconst 1, 1) := by decide +kernel
theorem dX2_begin_12 : decode cX2_begin 12 = .ok (.putfield 21, 3) := by decide +kernel
theorem dX2_begin_15 : decode cX2_begin 15 = .ok (.iconst 0, 1) := by decide +kernel
theorem dX2_begin_16 : decode cX2_begin 16 = .ok (.istore_n 1, 1) := by decide +kernel
theorem dX2_begin_17 : decode cX2_begin 17 = .ok (.iload_n 1, 1) := by decide +kernel
theorem dX2_begin_18 : decode cX2_begin 18 = .ok (.aload_n 0, 1) := by decide +kernel
theorem dX2_begin_19 : decode cX2_begin 19 = .ok (.getfield 17, 3) := by decide +kernel
theorem dX2_begin_22 : decode cX2_begin 22 = .ok (.if_icmp .ge 18, 3) := by decide +kernel
theorem dX2_begin_25 : decode cX2_begin 25 = .ok (.aload_n 0, 1) := by decide +kernel
theorem dX2_begin_26 : decode cX2_begin 26 = .ok (.getfield 11, 3) := by decide +kernel
theorem dX2_begin_29 : decode cX2_begin 29 = .ok (.iload_n 1, 1) := by decide +kernel
theorem dX2_begin_30 : decode cX2_begin 30 = .ok (.aaload, 1) := by decide +kernel
theorem dX2_begin_31 : decode cX2_begin 31 = .ok (.invokevirtual 38, 3) := by decide +kernel
theorem dX2_begin_34 : decode cX2_begin 34 = .ok (.iinc 1 1, 3) := by decide +kernel
theorem dX2_begin_37 : decode cX2_begin 37 = .ok (.goto (-20), 3) := by decide +kernel
theorem dX2_begin_40 : decode cX2_begin 40 = .ok (.return_, 1) := by decide +kernel
theorem dX2_isAllOver_0 : decode cX2_isAllOver 0 = .ok (.iconst 0, 1) := by decide +kernel
theorem dX2_isAllOver_1 : decode cX2_isAllOver 1 = .ok (.istore_n 1, 1) := by decide +kernel
theorem dX2_isAllOver_2 : decode cX2_isAllOver 2 = .ok (.iload_n 1, 1) := by decide +kernel
theorem dX2_isAllOver_3 : decode cX2_isAllOver 3 = .ok (.aload_n 0, 1) := by decide +kernel
theorem dX2_isAllOver_4 : decode cX2_isAllOver 4 = .ok (.getfield 17, 3) := by decide +kernel
theorem dX2_isAllOver_7 : decode cX2_isAllOver 7 = .ok (.if_icmp .ge 23, 3) := by decide +kernel
theorem dX2_isAllOver_10 : decode cX2_isAllOver 10 = .ok (.aload_n 0, 1) := by decide +kernel
theorem dX2_isAllOver_11 : decode cX2_isAllOver 11 = .ok (.getfield 11, 3) := by decide +kernel
theorem dX2_isAllOver_14 : decode cX2_isAllOver 14 = .ok (.iload_n 1, 1) := by decide +kernel
theorem dX2_isAllOver_15 : decode cX2_isAllOver 15 = .ok (.aaload, 1) := by decide +kernel
theorem dX2_isAllOver_16 : decode cX2_isAllOver 16 = .ok (.invokevirtual 41, 3) := by decide +kernel
theorem dX2_isAllOver_19 : decode cX2_isAllOver 19 = .ok (.ifCond .ne 5, 3) := by decide +kernel
theorem dX2_isAllOver_22 : decode cX2_isAllOver 22 = .ok (.iconst 0, 1) := by decide +kernel
theorem dX2_isAllOver_23 : decode cX2_isAllOver 23 = .ok (.ireturn, 1) := by decide +kernel
theorem dX2_isAllOver_24 : decode cX2_isAllOver 24 = .ok (.iinc 1 1, 3) := by decide +kernel
theorem dX2_isAllOver_27 : decode cX2_isAllOver 27 = .ok (.goto (-25), 3) := by decide +kernel
theorem dX2_isAllOver_30 : decode cX2_isAllOver 30 = .ok (.iconst 1, 1) := by decide +kernel
theorem dX2_isAllOver_31 : decode cX2_isAllOver 31 = .ok (.ireturn, 1) := by decide +kernel
theorem dX2_countRunning_0 : decode cX2_countRunning 0 = .ok (.iconst 0, 1) := by decide +kernel
theorem dX2_countRunning_1 : decode cX2_countRunning 1 = .ok (.istore_n 1, 1) := by decide +kernel
theorem dX2_countRunning_2 : decode cX2_countRunning 2 = .ok (.iconst 0, 1) := by decide +kernel
theorem dX2_countRunning_3 : decode cX2_countRunning 3 = .ok (.istore_n 2, 1) := by decide +kernel
theorem dX2_countRunning_4 : decode cX2_countRunning 4 = .ok (.iload_n 2, 1) := by decide +kernel
theorem dX2_countRunning_5 : decode cX2_countRunning 5 = .ok (.aload_n 0, 1) := by decide +kernel
theorem dX2_countRunning_6 : decode cX2_countRunning 6 = .ok (.getfield 17, 3) := by decide +kernel
theorem dX2_countRunning_9 : decode cX2_countRunning 9 = .ok (.if_icmp .ge 25, 3) := by decide +kernel
theorem dX2_countRunning_12 : decode cX2_countRunning 12 = .ok (.aload_n 0, 1) := by decide +kernel
theorem dX2_countRunning_13 : decode cX2_countRunning 13 = .ok (.getfield 11, 3) := by decide +kernel
theorem dX2_countRunning_16 : decode cX2_countRunning 16 = .ok (.iload_n 2, 1) := by decide +kernel
theorem dX2_countRunning_17 : decode cX2_countRunning 17 = .ok (.aaload, 1) := by decide +kernel
theorem dX2_countRunning_18 : decode cX2_countRunning 18 = .ok (.getfield 45, 3) := by decide +kernel
theorem dX2_countRunning_21 : decode cX2_countRunning 21 = .ok (.iconst 3, 1) := by decide +kernel
theorem dX2_countRunning_22 : decode cX2_countRunning 22 = .ok (.if_icmp .ne 6, 3) := by decide +kernel
theorem dX2_countRunning_25 : decode cX2_countRunning 25 = .ok (.iinc 1 1, 3) := by decide +kernel
theorem dX2_countRunning_28 : decode cX2_countRunning 28 = .ok (.iinc 2 1, 3) := by decide +kernel
theorem dX2_countRunning_31 : decode cX2_countRunning 31 = .ok (.goto (-27), 3) := by decide +kernel
theorem dX2_countRunning_34 : decode cX2_countRunning 34 = .ok (.iload_n 1, 1) := by decide +kernel
theorem dX2_countRunning_35 : decode cX2_countRunning 35 = .ok (.ireturn, 1) := by decide +kernel
theorem dX2_firstReady_0 : decode cX2_firstReady 0 = .ok (.iconst 0, 1) := by decide +kernel
theorem dX2_firstReady_1 : decode cX2_firstReady 1 = .ok (.istore_n 2, 1) := by decide +kernel
theorem dX2_firstReady_2 : decode cX2_firstReady 2 = .ok (.iconst 0, 1) := by decide +kernel
theorem dX2_firstReady_3 : decode cX2_firstReady 3 = .ok (.istore_n 3, 1) := by decide +kernel
theorem dX2_firstReady_4 : decode cX2_firstReady 4 = .ok (.iload_n 3, 1) := by decide +kernel
theorem dX2_firstReady_5 : decode cX2_firstReady 5 = .ok (.aload_n 0, 1) := by decide +kernel
theorem dX2_firstReady_6 : decode cX2_firstReady 6 = .ok (.getfield 17, 3) := by decide +kernel
theorem dX2_firstReady_9 : decode cX2_firstReady 9 = .ok (.if_icmp .ge 44, 3) := by decide +kernel
theorem dX2_firstReady_12 : decode cX2_firstReady 12 = .ok (.aload_n 0, 1) := by decide +kernel
theorem dX2_firstReady_13 : decode cX2_firstReady 13 = .ok (.getfield 11, 3) := by decide +kernel
theorem dX2_firstReady_16 : decode cX2_firstReady 16 = .ok (.iload_n 3, 1) := by decide +kernel
theorem dX2_firstReady_17 : decode cX2_firstReady 17 = .ok (.aaload, 1) := by decide +kernel
theorem dX2_firstReady_18 : decode cX2_firstReady 18 = .ok (.iload_n 1, 1) := by decide +kernel
theorem dX2_firstReady_19 : decode cX2_firstReady 19 = .ok (.iload_n 2, 1) := by decide +kernel
theorem dX2_firstReady_20 : decode cX2_firstReady 20 = .ok (.invokevirtual 48, 3) := by decide +kernel
theorem dX2_firstReady_23 : decode cX2_firstReady 23 = .ok (.ifCond .eq 5, 3) := by decide +kernel
theorem dX2_firstReady_26 : decode cX2_firstReady 26 = .ok (.iload_n 3, 1) := by decide +kernel
theorem dX2_firstReady_27 : decode cX2_firstReady 27 = .ok (.ireturn, 1) := by decide +kernel
theorem dX2_firstReady_28 : decode cX2_firstReady 28 = .ok (.aload_n 0, 1) := by decide +kernel
theorem dX2_firstReady_29 : decode cX2_firstReady 29 = .ok (.getfield 11, 3) := by decide +kernel
theorem dX2_firstReady_32 : decode cX2_firstReady 32 = .ok (.iload_n 3, 1) := by decide +kernel
theorem dX2_firstReady_33 : decode cX2_firstReady 33 = .ok (.aaload, 1) := by decide +kernel
theorem dX2_firstReady_34 : decode cX2_firstReady 34 = .ok (.getfield 45, 3) := by decide +kernel
theorem dX2_firstReady_37 : decode cX2_firstReady 37 = .ok (.iconst 4, 1) := by decide +kernel
theorem dX2_firstReady_38 : decode cX2_firstReady 38 = .ok (.if_icmp .ne 9, 3) := by decide +kernel
theorem dX2_firstReady_41 : decode cX2_firstReady 41 = .ok (.iload_n 2, 1) := by decide +kernel
theorem dX2_firstReady_42 : decode cX2_firstReady 42 = .ok (.iconst 1, 1) := by decide +kernel
theorem dX2_firstReady_43 : decode cX2_firstReady 43 = .ok (.iload_n 3, 1) := by decide +kernel
theorem dX2_firstReady_44 : decode cX2_firstReady 44 = .ok (.ishl, 1) := by decide +kernel
theorem dX2_firstReady_45 : decode cX2_firstReady 45 = .ok (.ior, 1) := by decide +kernel
theorem dX2_firstReady_46 : decode cX2_firstReady 46 = .ok (.istore_n 2, 1) := by decide +kernel
theorem dX2_firstReady_47 : decode cX2_firstReady 47 = .ok (.iinc 3 1, 3) := by decide +kernel
theorem dX2_firstReady_50 : decode cX2_firstReady 50 = .ok (.goto (-46), 3) := by decide +kernel
theorem dX2_firstReady_53 : decode cX2_firstReady 53 = .ok (.iconst (-1), 1) := by decide +kernel
theorem dX2_firstReady_54 : decode cX2_firstReady 54 = .ok (.ireturn, 1) := by decide +kernel
theorem dX3_init_0 : decode cX3_init 0 = .ok (.aload_n 0, 1) := by decide +kernel
theorem dX3_init_1 : decode cX3_init 1 = .ok (.invokespecial 1, 3) := by decide +kernel
theorem dX3_init_4 : decode cX3_init 4 = .ok (.aload_n 0, 1) := by decide +kernel
theorem dX3_init_5 : decode cX3_init 5 = .ok (.sipush 256, 3) := by decide +kernel
theorem dX3_init_8 : decode cX3_init 8 = .ok (.newarray .int, 2) := by decide +kernel
theorem dX3_init_10 : decode cX3_init 10 = .ok (.putfield 9, 3) := by decide +kernel
theorem dX3_init_13 : decode cX3_init 13 = .ok (.aload_n 0, 1) := by decide +kernel
theorem dX3_init_14 : decode cX3_init 14 = .ok (.iconst 0, 1) := by decide +kernel
theorem dX3_init_15 : decode cX3_init 15 = .ok (.putfield 13, 3) := by decide +kernel
theorem dX3_init_18 : decode cX3_init 18 = .ok (.return_, 1) := by decide +kernel
theorem dX3_add_0 : decode cX3_add 0 = .ok (.aload_n 0, 1) := by decide +kernel
theorem dX3_add_1 : decode cX3_add 1 = .ok (.getfield 13, 3) := by decide +kernel
theorem dX3_add_4 : decode cX3_add 4 = .ok (.bipush 64, 2) := by decide +kernel
theorem dX3_add_6 : decode cX3_add 6 = .ok (.irem, 1) := by decide +kernel
theorem dX3_add_7 : decode cX3_add 7 = .ok (.iconst 4, 1) := by decide +kernel
theorem dX3_add_8 : decode cX3_add 8 = .ok (.imul, 1) := by decide +kernel
theorem dX3_add_9 : decode cX3_add 9 = .ok (.istore 5, 2) := by decide +kernel
theorem dX3_add_11 : decode cX3_add 11 = .ok (.aload_n 0, 1) := by decide +kernel
theorem dX3_add_12 : decode cX3_add 12 = .ok (.getfield 9, 3) := by decide +kernel
theorem dX3_add_15 : decode cX3_add 15 = .ok (.iload 5, 2) := by decide +kernel
theorem dX3_add_17 : decode cX3_add 17 = .ok (.iload_n 1, 1) := by decide +kernel
theorem dX3_add_18 : decode cX3_add 18 = .ok (.iastore, 1) := by decide +kernel
theorem dX3_add_19 : decode cX3_add 19 = .ok (.aload_n 0, 1) := by decide +kernel
theorem dX3_add_20 : decode cX3_add 20 = .ok (.getfield 9, 3) := by decide +kernel
theorem dX3_add_23 : decode cX3_add 23 = .ok (.iload 5, 2) := by decide +kernel
theorem dX3_add_25 : decode cX3_add 25 = .ok (.iconst 1, 1) := by decide +kernel
theorem dX3_add_26 : decode cX3_add 26 = .ok (.iadd, 1) := by decide +kernel
theorem dX3_add_27 : decode cX3_add 27 = .ok (.iload_n 2, 1) := by decide +kernel
theorem dX3_add_28 : decode cX3_add 28 = .ok (.iastore, 1) := by decide +kernel
theorem dX3_add_29 : decode cX3_add 29 = .ok (.aload_n 0, 1) := by decide +kernel
theorem dX3_add_30 : decode cX3_add 30 = .ok (.getfield 9, 3) := by decide +kernel
theorem dX3_add_33 : decode cX3_add 33 = .ok (.iload 5, 2) := by decide +kernel
theorem dX3_add_35 : decode cX3_add 35 = .ok (.iconst 2, 1) := by decide +kernel
theorem dX3_add_36 : decode cX3_add 36 = .ok (.iadd, 1) := by decide +kernel
theorem dX3_add_37 : decode cX3_add 37 = .ok (.iload_n 3, 1) := by decide +kernel
theorem dX3_add_38 : decode cX3_add 38 = .ok (.iastore, 1) := by decide +kernel
theorem dX3_add_39 : decode cX3_add 39 = .ok (.aload_n 0, 1) := by decide +kernel
theorem dX3_add_40 : decode cX3_add 40 = .ok (.getfield 9, 3) := by decide +kernel
theorem dX3_add_43 : decode cX3_add 43 = .ok (.iload 5, 2) := by decide +kernel
theorem dX3_add_45 : decode cX3_add 45 = .ok (.iconst 3, 1) := by decide +kernel
theorem dX3_add_46 : decode cX3_add 46 = .ok (.iadd, 1) := by decide +kernel
theorem dX3_add_47 : decode cX3_add 47 = .ok (.iload 4, 2) := by decide +kernel
theorem dX3_add_49 : decode cX3_add 49 = .ok (.iastore, 1) := by decide +kernel
theorem dX3_add_50 : decode cX3_add 50 = .ok (.aload_n 0, 1) := by decide +kernel
theorem dX3_add_51 : decode cX3_add 51 = .ok (.dup, 1) := by decide +kernel
theorem dX3_add_52 : decode cX3_add 52 = .ok (.getfield 13, 3) := by decide +kernel
theorem dX3_add_55 : decode cX3_add 55 = .ok (.iconst 1, 1) := by decide +kernel
theorem dX3_add_56 : decode cX3_add 56 = .ok (.iadd, 1) := by decide +kernel
theorem dX3_add_57 : decode cX3_add 57 = .ok (.putfield 13, 3) := by decide +kernel
theorem dX3_add_60 : decode cX3_add 60 = .ok (.return_, 1) := by decide +kernel
theorem dX3_keeps_0 : decode cX3_keeps 0 = .ok (.iload_n 1, 1) := by decide +kernel
theorem dX3_keeps_1 : decode cX3_keeps 1 = .ok (.ifCond .lt 21, 3) := by decide +kernel
theorem dX3_keeps_4 : decode cX3_keeps 4 = .ok (.iload_n 1, 1) := by decide +kernel
theorem dX3_keeps_5 : decode cX3_keeps 5 = .ok (.bipush 64, 2) := by decide +kernel
theorem dX3_keeps_7 : decode cX3_keeps 7 = .ok (.if_icmp .ge 15, 3) := by decide +kernel
theorem dX3_keeps_10 : decode cX3_keeps 10 = .ok (.iload_n 1, 1) := by decide +kernel
theorem dX3_keeps_11 : decode cX3_keeps 11 = .ok (.aload_n 0, 1) := by decide +kernel
theorem dX3_keeps_12 : decode cX3_keeps 12 = .ok (.getfield 13, 3) := by decide +kernel
theorem dX3_keeps_15 : decode cX3_keeps 15 = .ok (.if_icmp .ge 7, 3) := by decide +kernel
theorem dX3_keeps_18 : decode cX3_keeps 18 = .ok (.iconst 1, 1) := by decide +kernel
theorem dX3_keeps_19 : decode cX3_keeps 19 = .ok (.goto 4, 3) := by decide +kernel
theorem dX3_keeps_22 : decode cX3_keeps 22 = .ok (.iconst 0, 1) := by decide +kernel
theorem dX3_keeps_23 : decode cX3_keeps 23 = .ok (.ireturn, 1) := by decide +kernel
theorem dX3_read_0 : decode cX3_read 0 = .ok (.aload_n 0, 1) := by decide +kernel
theorem dX3_read_1 : decode cX3_read 1 = .ok (.getfield 9, 3) := by decide +kernel
theorem dX3_read_4 : decode cX3_read 4 = .ok (.aload_n 0, 1) := by decide +kernel
theorem dX3_read_5 : decode cX3_read 5 = .ok (.getfield 13, 3) := by decide +kernel
theorem dX3_read_8 : decode cX3_read 8 = .ok (.iconst 1, 1) := by decide +kernel
theorem dX3_read_9 : decode cX3_read 9 = .ok (.isub, 1) := by decide +kernel
theorem dX3_read_10 : decode cX3_read 10 = .ok (.iload_n 1, 1) := by decide +kernel
theorem dX3_read_11 : decode cX3_read 11 = .ok (.isub, 1) := by decide +kernel
theorem dX3_read_12 : decode cX3_read 12 = .ok (.bipush 64, 2) := by decide +kernel
theorem dX3_read_14 : decode cX3_read 14 = .ok (.irem, 1) := by decide +kernel
theorem dX3_read_15 : decode cX3_read 15 = .ok (.iconst 4, 1) := by decide +kernel
theorem dX3_read_16 : decode cX3_read 16 = .ok (.imul, 1) := by decide +kernel
theorem dX3_read_17 : decode cX3_read 17 = .ok (.iload_n 2, 1) := by decide +kernel
theorem dX3_read_18 : decode cX3_read 18 = .ok (.iadd, 1) := by decide +kernel
theorem dX3_read_19 : decode cX3_read 19 = .ok (.iaload, 1) := by decide +kernel
theorem dX3_read_20 : decode cX3_read 20 = .ok (.ireturn, 1) := by decide +kernel
theorem dX4_init_0 : decode cX4_init 0 = .ok (.aload_n 0, 1) := by decide +kernel
theorem dX4_init_1 : decode cX4_init 1 = .ok (.invokespecial 3, 3) := by decide +kernel
theorem dX4_init_4 : decode cX4_init 4 = .ok (.aload_n 0, 1) := by decide +kernel
theorem dX4_init_5 : decode cX4_init 5 = .ok (.new 9, 3) := by decide +kernel
theorem dX4_init_8 : decode cX4_init 8 = .ok (.dup, 1) := by decide +kernel
theorem dX4_init_9 : decode cX4_init 9 = .ok (.invokespecial 11, 3) := by decide +kernel
theorem dX4_init_12 : decode cX4_init 12 = .ok (.putfield 12, 3) := by decide +kernel
theorem dX4_init_15 : decode cX4_init 15 = .ok (.aload_n 0, 1) := by decide +kernel
theorem dX4_init_16 : decode cX4_init 16 = .ok (.iconst 5, 1) := by decide +kernel
theorem dX4_init_17 : decode cX4_init 17 = .ok (.newarray .long, 2) := by decide +kernel
theorem dX4_init_19 : decode cX4_init 19 = .ok (.putfield 18, 3) := by decide +kernel
theorem dX4_init_22 : decode cX4_init 22 = .ok (.aload_n 0, 1) := by decide +kernel
theorem dX4_init_23 : decode cX4_init 23 = .ok (.iconst 0, 1) := by decide +kernel
theorem dX4_init_24 : decode cX4_init 24 = .ok (.putfield 22, 3) := by decide +kernel
theorem dX4_init_27 : decode cX4_init 27 = .ok (.aload_n 0, 1) := by decide +kernel
theorem dX4_init_28 : decode cX4_init 28 = .ok (.iconst 0, 1) := by decide +kernel
theorem dX4_init_29 : decode cX4_init 29 = .ok (.putfield 26, 3) := by decide +kernel
theorem dX4_init_32 : decode cX4_init 32 = .ok (.aload_n 0, 1) := by decide +kernel
theorem dX4_init_33 : decode cX4_init 33 = .ok (.iconst 0, 1) := by decide +kernel
theorem dX4_init_34 : decode cX4_init 34 = .ok (.putfield 29, 3) := by decide +kernel
theorem dX4_init_37 : decode cX4_init 37 = .ok (.aload_n 0, 1) := by decide +kernel
theorem dX4_init_38 : decode cX4_init 38 = .ok (.iconst (-1), 1) := by decide +kernel
theorem dX4_init_39 : decode cX4_init 39 = .ok (.putfield 33, 3) := by decide +kernel
theorem dX4_init_42 : decode cX4_init 42 = .ok (.return_, 1) := by decide +kernel
theorem dX4_read_0 : decode cX4_read 0 = .ok (.aload_n 0, 1) := by decide +kernel
theorem dX4_read_1 : decode cX4_read 1 = .ok (.iconst 0, 1) := by decide +kernel
theorem dX4_read_2 : decode cX4_read 2 = .ok (.putfield 29, 3) := by decide +kernel
theorem dX4_read_5 : decode cX4_read 5 = .ok (.aload_n 0, 1) := by decide +kernel
theorem dX4_read_6 : decode cX4_read 6 = .ok (.iconst (-1), 1) := by decide +kernel
theorem dX4_read_7 : decode cX4_read 7 = .ok (.putfield 33, 3) := by decide +kernel
theorem dX4_read_10 : decode cX4_read 10 = .ok (.iconst 0, 1) := by decide +kernel
theorem dX4_read_11 : decode cX4_read 11 = .ok (.istore_n 1, 1) := by decide +kernel
theorem dX4_read_12 : decode cX4_read 12 = .ok (.iload_n 1, 1) := by decide +kernel
theorem dX4_read_13 : decode cX4_read 13 = .ok (.iconst 5, 1) := by decide +kernel
theorem dX4_read_14 : decode cX4_read 14 = .ok (.if_icmp .ge 22, 3) := by decide +kernel
theorem dX4_read_17 : decode cX4_read 17 = .ok (.aload_n 0, 1) := by decide +kernel
theorem dX4_read_18 : decode cX4_read 18 = .ok (.getfield 33, 3) := by decide +kernel
theorem dX4_read_21 : decode cX4_read 21 = .ok (.iconst (-1), 1) := by decide +kernel
theorem dX4_read_22 : decode cX4_read 22 = .ok (.if_icmp .ne 14, 3) := by decide +kernel
theorem dX4_read_25 : decode cX4_read 25 = .ok (.aload_n 0, 1) := by decide +kernel
theorem dX4_read_26 : decode cX4_read 26 = .ok (.iload_n 1, 1) := by decide +kernel
theorem dX4_read_27 : decode cX4_read 27 = .ok (.invokevirtual 36, 3) := by decide +kernel
theorem dX4_read_30 : decode cX4_read 30 = .ok (.iinc 1 1, 3) := by decide +kernel
theorem dX4_read_33 : decode cX4_read 33 = .ok (.goto (-21), 3) := by decide +kernel
theorem dX4_read_36 : decode cX4_read 36 = .ok (.aload_n 0, 1) := by decide +kernel
theorem dX4_read_37 : decode cX4_read 37 = .ok (.getfield 33, 3) := by decide +kernel
theorem dX4_read_40 : decode cX4_read 40 = .ok (.ireturn, 1) := by decide +kernel
theorem dX4_expression_0 : decode cX4_expression 0 = .ok (.new 40, 3) := by decide +kernel
theorem dX4_expression_3 : decode cX4_expression 3 = .ok (.dup, 1) := by decide +kernel
theorem dX4_expression_4 : decode cX4_expression 4 = .ok (.aload_n 0, 1) := by decide +kernel
theorem dX4_expression_5 : decode cX4_expression 5 = .ok (.getfield 18, 3) := by decide +kernel
theorem dX4_expression_8 : decode cX4_expression 8 = .ok (.aload_n 0, 1) := by decide +kernel
theorem dX4_expression_9 : decode cX4_expression 9 = .ok (.getfield 22, 3) := by decide +kernel
theorem dX4_expression_12 : decode cX4_expression 12 = .ok (.ifCond .ne 10, 3) := by decide +kernel
theorem dX4_expression_15 : decode cX4_expression 15 = .ok (.aload_n 0, 1) := by decide +kernel
theorem dX4_expression_16 : decode cX4_expression 16 = .ok (.getfield 26, 3) := by decide +kernel
theorem dX4_expression_19 : decode cX4_expression 19 = .ok (.ifCond .eq 7, 3) := by decide +kernel
theorem dX4_expression_22 : decode cX4_expression 22 = .ok (.iconst 1, 1) := by decide +kernel
theorem dX4_expression_23 : decode cX4_expression 23 = .ok (.goto 4, 3) := by decide +kernel
theorem dX4_expression_26 : decode cX4_expression 26 = .ok (.iconst 0, 1) := by decide +kernel
theorem dX4_expression_27 : decode cX4_expression 27 = .ok (.invokespecial 42, 3) := by decide +kernel
theorem dX4_expression_30 : decode cX4_expression 30 = .ok (.areturn, 1) := by decide +kernel
theorem dX4_readField_0 : decode cX4_readField 0 = .ok (.aload_n 0, 1) := by decide +kernel
theorem dX4_readField_1 : decode cX4_readField 1 = .ok (.getfield 18, 3) := by decide +kernel
theorem dX4_readField_4 : decode cX4_readField 4 = .ok (.iload_n 1, 1) := by decide +kernel
theorem dX4_readField_5 : decode cX4_readField 5 = .ok (.lconst 0, 1) := by decide +kernel
theorem dX4_readField_6 : decode cX4_readField 6 = .ok (.lastore, 1) := by decide +kernel
theorem dX4_readField_7 : decode cX4_readField 7 = .ok (.iload_n 1, 1) := by decide +kernel
theorem dX4_readField_8 : decode cX4_readField 8 = .ok (.iconst 2, 1) := by decide +kernel
theorem dX4_readField_9 : decode cX4_readField 9 = .ok (.if_icmp .ne 28, 3) := by decide +kernel
theorem dX4_readField_12 : decode cX4_readField 12 = .ok (.aload_n 0, 1) := by decide +kernel
theorem dX4_readField_13 : decode cX4_readField 13 = .ok (.aload_n 0, 1) := by decide +kernel
theorem dX4_readField_14 : decode cX4_readField 14 = .ok (.getfield 12, 3) := by decide +kernel
theorem dX4_readField_17 : decode cX4_readField 17 = .ok (.aload_n 0, 1) := by decide +kernel
theorem dX4_readField_18 : decode cX4_readField 18 = .ok (.getfield 29, 3) := by decide +kernel
theorem dX4_readField_21 : decode cX4_readField 21 = .ok (.invokevirtual 45, 3) := by decide +kernel
theorem dX4_readField_24 : decode cX4_readField 24 = .ok (.bipush 42, 2) := by decide +kernel
theorem dX4_readField_26 : decode cX4_readField 26 = .ok (.if_icmp .ne 7, 3) := by decide +kernel
theorem dX4_readField_29 : decode cX4_readField 29 = .ok (.iconst 1, 1) := by decide +kernel
theorem dX4_readField_30 : decode cX4_readField 30 = .ok (.goto 4, 3) := by decide +kernel
theorem dX4_readField_33 : decode cX4_readField 33 = .ok (.iconst 0, 1) := by decide +kernel
theorem dX4_readField_34 : decode cX4_readField 34 = .ok (.putfield 22, 3) := by decide +kernel
theorem dX4_readField_37 : decode cX4_readField 37 = .ok (.iload_n 1, 1) := by decide +kernel
theorem dX4_readField_38 : decode cX4_readField 38 = .ok (.iconst 4, 1) := by decide +kernel
theorem dX4_readField_39 : decode cX4_readField 39 = .ok (.if_icmp .ne 28, 3) := by decide +kernel
theorem dX4_readField_42 : decode cX4_readField 42 = .ok (.aload_n 0, 1) := by decide +kernel
theorem dX4_readField_43 : decode cX4_readField 43 = .ok (.aload_n 0, 1) := by decide +kernel
theorem dX4_readField_44 : decode cX4_readField 44 = .ok (.getfield 12, 3) := by decide +kernel
theorem dX4_readField_47 : decode cX4_readField 47 = .ok (.aload_n 0, 1) := by decide +kernel
theorem dX4_readField_48 : decode cX4_readField 48 = .ok (.getfield 29, 3) := by decide +kernel
theorem dX4_readField_51 : decode cX4_readField 51 = .ok (.invokevirtual 45, 3) := by decide +kernel
theorem dX4_readField_54 : decode cX4_readField 54 = .ok (.bipush 42, 2) := by decide +kernel
theorem dX4_readField_56 : decode cX4_readField 56 = .ok (.if_icmp .ne 7, 3) := by decide +kernel
theorem dX4_readField_59 : decode cX4_readField 59 = .ok (.iconst 1, 1) := by decide +kernel
theorem dX4_readField_60 : decode cX4_readField 60 = .ok (.goto 4, 3) := by decide +kernel
theorem dX4_readField_63 : decode cX4_readField 63 = .ok (.iconst 0, 1) := by decide +kernel
theorem dX4_readField_64 : decode cX4_readField 64 = .ok (.putfield 26, 3) := by decide +kernel
theorem dX4_readField_67 : decode cX4_readField 67 = .ok (.aload_n 0, 1) := by decide +kernel
theorem dX4_readField_68 : decode cX4_readField 68 = .ok (.iload_n 1, 1) := by decide +kernel
theorem dX4_readField_69 : decode cX4_readField 69 = .ok (.invokevirtual 49, 3) := by decide +kernel
theorem dX4_readField_72 : decode cX4_readField 72 = .ok (.iconst 1, 1) := by decide +kernel
theorem dX4_readField_73 : decode cX4_readField 73 = .ok (.istore_n 2, 1) := by decide +kernel
theorem dX4_readField_74 : decode cX4_readField 74 = .ok (.iload_n 2, 1) := by decide +kernel
theorem dX4_readField_75 : decode cX4_readField 75 = .ok (.bipush 60, 2) := by decide +kernel
theorem dX4_readField_77 : decode cX4_readField 77 = .ok (.if_icmp .ge 48, 3) := by decide +kernel
theorem dX4_readField_80 : decode cX4_readField 80 = .ok (.aload_n 0, 1) := by decide +kernel
theorem dX4_readField_81 : decode cX4_readField 81 = .ok (.getfield 33, 3) := by decide +kernel
theorem dX4_readField_84 : decode cX4_readField 84 = .ok (.iconst (-1), 1) := by decide +kernel
theorem dX4_readField_85 : decode cX4_readField 85 = .ok (.if_icmp .ne 40, 3) := by decide +kernel
theorem dX4_readField_88 : decode cX4_readField 88 = .ok (.aload_n 0, 1) := by decide +kernel
theorem dX4_readField_89 : decode cX4_readField 89 = .ok (.getfield 12, 3) := by decide +kernel
theorem dX4_readField_92 : decode cX4_readField 92 = .ok (.aload_n 0, 1) := by decide +kernel
theorem dX4_readField_93 : decode cX4_readField 93 = .ok (.getfield 29, 3) := by decide +kernel
theorem dX4_readField_96 : decode cX4_readField 96 = .ok (.invokevirtual 45, 3) := by decide +kernel
theorem dX4_readField_99 : decode cX4_readField 99 = .ok (.bipush 44, 2) := by decide +kernel
theorem dX4_readField_101 : decode cX4_readField 101 = .ok (.if_icmp .ne 24, 3) := by decide +kernel
theorem dX4_readField_104 : decode cX4_readField 104 = .ok (.aload_n 0, 1) := by decide +kernel
theorem dX4_readField_105 : decode cX4_readField 105 = .ok (.dup, 1) := by decide +kernel
theorem dX4_readField_106 : decode cX4_readField 106 = .ok (.getfield 29, 3) := by decide +kernel
theorem dX4_readField_109 : decode cX4_readField 109 = .ok (.iconst 1, 1) := by decide +kernel
theorem dX4_readField_110 : decode cX4_readField 110 = .ok (.iadd, 1) := by decide +kernel
theorem dX4_readField_111 : decode cX4_readField 111 = .ok (.putfield 29, 3) := by decide +kernel
theorem dX4_readField_114 : decode cX4_readField 114 = .ok (.aload_n 0, 1) := by decide +kernel
theorem dX4_readField_115 : decode cX4_readField 115 = .ok (.iload_n 1, 1) := by decide +kernel
theorem dX4_readField_116 : decode cX4_readField 116 = .ok (.invokevirtual 49, 3) := by decide +kernel
theorem dX4_readField_119 : decode cX4_readField 119 = .ok (.iinc 2 1, 3) := by decide +kernel
theorem dX4_readField_122 : decode cX4_readField 122 = .ok (.goto (-48), 3) := by decide +kernel
theorem dX4_readField_125 : decode cX4_readField 125 = .ok (.aload_n 0, 1) := by decide +kernel
theorem dX4_readField_126 : decode cX4_readField 126 = .ok (.getfield 33, 3) := by decide +kernel
theorem dX4_readField_129 : decode cX4_readField 129 = .ok (.iconst (-1), 1) := by decide +kernel
theorem dX4_readField_130 : decode cX4_readField 130 = .ok (.if_icmp .ne 8, 3) := by decide +kernel
theorem dX4_readField_133 : decode cX4_readField 133 = .ok (.aload_n 0, 1) := by decide +kernel
theorem dX4_readField_134 : decode cX4_readField 134 = .ok (.iload_n 1, 1) := by decide +kernel
theorem dX4_readField_135 : decode cX4_readField 135 = .ok (.invokevirtual 52, 3) := by decide +kernel
theorem dX4_readField_138 : decode cX4_readField 138 = .ok (.return_, 1) := by decide +kernel
theorem dX4_readEndOfField_0 : decode cX4_readEndOfField 0 = .ok (.iload_n 1, 1) := by decide +kernel
theorem dX4_readEndOfField_1 : decode cX4_readEndOfField 1 = .ok (.iconst 4, 1) := by decide +kernel
theorem dX4_readEndOfField_2 : decode cX4_readEndOfField 2 = .ok (.if_icmp .ne 7, 3) := by decide +kernel
theorem dX4_readEndOfField_5 : decode cX4_readEndOfField 5 = .ok (.iconst 0, 1) := by decide +kernel
theorem dX4_readEndOfField_6 : decode cX4_readEndOfField 6 = .ok (.goto 5, 3) := by decide +kernel
theorem dX4_readEndOfField_9 : decode cX4_readEndOfField 9 = .ok (.bipush 32, 2) := by decide +kernel
theorem dX4_readEndOfField_11 : decode cX4_readEndOfField 11 = .ok (.istore_n 2, 1) := by decide +kernel
theorem dX4_readEndOfField_12 : decode cX4_readEndOfField 12 = .ok (.aload_n 0, 1) := by decide +kernel
theorem dX4_readEndOfField_13 : decode cX4_readEndOfField 13 = .ok (.getfield 12, 3) := by decide +kernel
theorem dX4_readEndOfField_16 : decode cX4_readEndOfField 16 = .ok (.aload_n 0, 1) := by decide +kernel
theorem dX4_readEndOfField_17 : decode cX4_readEndOfField 17 = .ok (.getfield 29, 3) := by decide +kernel
theorem dX4_readEndOfField_20 : decode cX4_readEndOfField 20 = .ok (.invokevirtual 45, 3) := by decide +kernel
theorem dX4_readEndOfField_23 : decode cX4_readEndOfField 23 = .ok (.iload_n 2, 1) := by decide +kernel
theorem dX4_readEndOfField_24 : decode cX4_readEndOfField 24 = .ok (.if_icmp .ne 16, 3) := by decide +kernel
theorem dX4_readEndOfField_27 : decode cX4_readEndOfField 27 = .ok (.aload_n 0, 1) := by decide +kernel
theorem dX4_readEndOfField_28 : decode cX4_readEndOfField 28 = .ok (.dup, 1) := by decide +kernel
theorem dX4_readEndOfField_29 : decode cX4_readEndOfField 29 = .ok (.getfield 29, 3) := by decide +kernel
theorem dX4_readEndOfField_32 : decode cX4_readEndOfField 32 = .ok (.iconst 1, 1) := by decide +kernel
theorem dX4_readEndOfField_33 : decode cX4_readEndOfField 33 = .ok (.iadd, 1) := by decide +kernel
theorem dX4_readEndOfField_34 : decode cX4_readEndOfField 34 = .ok (.putfield 29, 3) := by decide +kernel
theorem dX4_readEndOfField_37 : decode cX4_readEndOfField 37 = .ok (.goto 11, 3) := by decide +kernel
theorem dX4_readEndOfField_40 : decode cX4_readEndOfField 40 = .ok (.aload_n 0, 1) := by decide +kernel
theorem dX4_readEndOfField_41 : decode cX4_readEndOfField 41 = .ok (.aload_n 0, 1) := by decide +kernel
theorem dX4_readEndOfField_42 : decode cX4_readEndOfField 42 = .ok (.getfield 29, 3) := by decide +kernel
theorem dX4_readEndOfField_45 : decode cX4_readEndOfField 45 = .ok (.putfield 33, 3) := by decide +kernel
theorem dX4_readEndOfField_48 : decode cX4_readEndOfField 48 = .ok (.return_, 1) := by decide +kernel
theorem dX4_readItem_0 : decode cX4_readItem 0 = .ok (.getstatic 55, 3) := by decide +kernel
theorem dX4_readItem_3 : decode cX4_readItem 3 = .ok (.iload_n 1, 1) := by decide +kernel
theorem dX4_readItem_4 : decode cX4_readItem 4 = .ok (.iaload, 1) := by decide +kernel
theorem dX4_readItem_5 : decode cX4_readItem 5 = .ok (.istore_n 2, 1) := by decide +kernel
theorem dX4_readItem_6 : decode cX4_readItem 6 = .ok (.getstatic 59, 3) := by decide +kernel
theorem dX4_readItem_9 : decode cX4_readItem 9 = .ok (.iload_n 1, 1) := by decide +kernel
theorem dX4_readItem_10 : decode cX4_readItem 10 = .ok (.iaload, 1) := by decide +kernel
theorem dX4_readItem_11 : decode cX4_readItem 11 = .ok (.istore_n 3, 1) := by decide +kernel
theorem dX4_readItem_12 : decode cX4_readItem 12 = .ok (.iconst 1, 1) := by decide +kernel
theorem dX4_readItem_13 : decode cX4_readItem 13 = .ok (.istore 4, 2) := by decide +kernel
theorem dX4_readItem_15 : decode cX4_readItem 15 = .ok (.aload_n 0, 1) := by decide +kernel
theorem dX4_readItem_16 : decode cX4_readItem 16 = .ok (.getfield 12, 3) := by decide +kernel
theorem dX4_readItem_19 : decode cX4_readItem 19 = .ok (.aload_n 0, 1) := by decide +kernel
theorem dX4_readItem_20 : decode cX4_readItem 20 = .ok (.getfield 29, 3) := by decide +kernel
theorem dX4_readItem_23 : decode cX4_readItem 23 = .ok (.invokevirtual 45, 3) := by decide +kernel
theorem dX4_readItem_26 : decode cX4_readItem 26 = .ok (.bipush 42, 2) := by decide +kernel
theorem dX4_readItem_28 : decode cX4_readItem 28 = .ok (.if_icmp .ne 16, 3) := by decide +kernel
theorem dX4_readItem_31 : decode cX4_readItem 31 = .ok (.aload_n 0, 1) := by decide +kernel
theorem dX4_readItem_32 : decode cX4_readItem 32 = .ok (.dup, 1) := by decide +kernel
theorem dX4_readItem_33 : decode cX4_readItem 33 = .ok (.getfield 29, 3) := by decide +kernel
theorem dX4_readItem_36 : decode cX4_readItem 36 = .ok (.iconst 1, 1) := by decide +kernel
theorem dX4_readItem_37 : decode cX4_readItem 37 = .ok (.iadd, 1) := by decide +kernel
theorem dX4_readItem_38 : decode cX4_readItem 38 = .ok (.putfield 29, 3) := by decide +kernel
theorem dX4_readItem_41 : decode cX4_readItem 41 = .ok (.goto 68, 3) := by decide +kernel
theorem dX4_readItem_44 : decode cX4_readItem 44 = .ok (.aload_n 0, 1) := by decide +kernel
theorem dX4_readItem_45 : decode cX4_readItem 45 = .ok (.iload_n 2, 1) := by decide +kernel
theorem dX4_readItem_46 : decode cX4_readItem 46 = .ok (.iload_n 3, 1) := by decide +kernel
theorem dX4_readItem_47 : decode cX4_readItem 47 = .ok (.invokevirtual 62, 3) := by decide +kernel
theorem dX4_readItem_50 : decode cX4_readItem 50 = .ok (.istore_n 2, 1) := by decide +kernel
theorem dX4_readItem_51 : decode cX4_readItem 51 = .ok (.aload_n 0, 1) := by decide +kernel
theorem dX4_readItem_52 : decode cX4_readItem 52 = .ok (.getfield 33, 3) := by decide +kernel
theorem dX4_readItem_55 : decode cX4_readItem 55 = .ok (.iconst (-1), 1) := by decide +kernel
theorem dX4_readItem_56 : decode cX4_readItem 56 = .ok (.if_icmp .ne 23, 3) := by decide +kernel
theorem dX4_readItem_59 : decode cX4_readItem 59 = .ok (.aload_n 0, 1) := by decide +kernel
theorem dX4_readItem_60 : decode cX4_readItem 60 = .ok (.getfield 12, 3) := by decide +kernel
theorem dX4_readItem_63 : decode cX4_readItem 63 = .ok (.aload_n 0, 1) := by decide +kernel
theorem dX4_readItem_64 : decode cX4_readItem 64 = .ok (.getfield 29, 3) := by decide +kernel
theorem dX4_readItem_67 : decode cX4_readItem 67 = .ok (.invokevirtual 45, 3) := by decide +kernel
theorem dX4_readItem_70 : decode cX4_readItem 70 = .ok (.bipush 45, 2) := by decide +kernel
theorem dX4_readItem_72 : decode cX4_readItem 72 = .ok (.if_icmp .ne 7, 3) := by decide +kernel
theorem dX4_readItem_75 : decode cX4_readItem 75 = .ok (.iconst 1, 1) := by decide +kernel
theorem dX4_readItem_76 : decode cX4_readItem 76 = .ok (.goto 4, 3) := by decide +kernel
theorem dX4_readItem_79 : decode cX4_readItem 79 = .ok (.iconst 0, 1) := by decide +kernel
theorem dX4_readItem_80 : decode cX4_readItem 80 = .ok (.istore 4, 2) := by decide +kernel
theorem dX4_readItem_82 : decode cX4_readItem 82 = .ok (.iload 4, 2) := by decide +kernel
theorem dX4_readItem_84 : decode cX4_readItem 84 = .ok (.ifCond .eq 23, 3) := by decide +kernel
theorem dX4_readItem_87 : decode cX4_readItem 87 = .ok (.aload_n 0, 1) := by decide +kernel
theorem dX4_readItem_88 : decode cX4_readItem 88 = .ok (.dup, 1) := by decide +kernel
theorem dX4_readItem_89 : decode cX4_readItem 89 = .ok (.getfield 29, 3) := by decide +kernel
theorem dX4_readItem_92 : decode cX4_readItem 92 = .ok (.iconst 1, 1) := by decide +kernel
theorem dX4_readItem_93 : decode cX4_readItem 93 = .ok (.iadd, 1) := by decide +kernel
theorem dX4_readItem_94 : decode cX4_readItem 94 = .ok (.putfield 29, 3) := by decide +kernel
theorem dX4_readItem_97 : decode cX4_readItem 97 = .ok (.aload_n 0, 1) := by decide +kernel
theorem dX4_readItem_98 : decode cX4_readItem 98 = .ok (.iload_n 2, 1) := by decide +kernel
theorem dX4_readItem_99 : decode cX4_readItem 99 = .ok (.iload_n 3, 1) := by decide +kernel
theorem dX4_readItem_100 : decode cX4_readItem 100 = .ok (.invokevirtual 62, 3) := by decide +kernel
theorem dX4_readItem_103 : decode cX4_readItem 103 = .ok (.istore_n 3, 1) := by decide +kernel
theorem dX4_readItem_104 : decode cX4_readItem 104 = .ok (.goto 5, 3) := by decide +kernel
theorem dX4_readItem_107 : decode cX4_readItem 107 = .ok (.iload_n 2, 1) := by decide +kernel
theorem dX4_readItem_108 : decode cX4_readItem 108 = .ok (.istore_n 3, 1) := by decide +kernel
theorem dX4_readItem_109 : decode cX4_readItem 109 = .ok (.iconst 1, 1) := by decide +kernel
theorem dX4_readItem_110 : decode cX4_readItem 110 = .ok (.istore 5, 2) := by decide +kernel
theorem dX4_readItem_112 : decode cX4_readItem 112 = .ok (.aload_n 0, 1) := by decide +kernel
theorem dX4_readItem_113 : decode cX4_readItem 113 = .ok (.getfield 33, 3) := by decide +kernel
theorem dX4_readItem_116 : decode cX4_readItem 116 = .ok (.iconst (-1), 1) := by decide +kernel
theorem dX4_readItem_117 : decode cX4_readItem 117 = .ok (.if_icmp .ne 43, 3) := by decide +kernel
theorem dX4_readItem_120 : decode cX4_readItem 120 = .ok (.iload 4, 2) := by decide +kernel
theorem dX4_readItem_122 : decode cX4_readItem 122 = .ok (.ifCond .eq 38, 3) := by decide +kernel
theorem dX4_readItem_125 : decode cX4_readItem 125 = .ok (.aload_n 0, 1) := by decide +kernel
theorem dX4_readItem_126 : decode cX4_readItem 126 = .ok (.getfield 12, 3) := by decide +kernel
theorem dX4_readItem_129 : decode cX4_readItem 129 = .ok (.aload_n 0, 1) := by decide +kernel
theorem dX4_readItem_130 : decode cX4_readItem 130 = .ok (.getfield 29, 3) := by decide +kernel
theorem dX4_readItem_133 : decode cX4_readItem 133 = .ok (.invokevirtual 45, 3) := by decide +kernel
theorem dX4_readItem_136 : decode cX4_readItem 136 = .ok (.bipush 47, 2) := by decide +kernel
theorem dX4_readItem_138 : decode cX4_readItem 138 = .ok (.if_icmp .ne 22, 3) := by decide +kernel
theorem dX4_readItem_141 : decode cX4_readItem 141 = .ok (.aload_n 0, 1) := by decide +kernel
theorem dX4_readItem_142 : decode cX4_readItem 142 = .ok (.dup, 1) := by decide +kernel
theorem dX4_readItem_143 : decode cX4_readItem 143 = .ok (.getfield 29, 3) := by decide +kernel
theorem dX4_readItem_146 : decode cX4_readItem 146 = .ok (.iconst 1, 1) := by decide +kernel
theorem dX4_readItem_147 : decode cX4_readItem 147 = .ok (.iadd, 1) := by decide +kernel
theorem dX4_readItem_148 : decode cX4_readItem 148 = .ok (.putfield 29, 3) := by decide +kernel
theorem dX4_readItem_151 : decode cX4_readItem 151 = .ok (.aload_n 0, 1) := by decide +kernel
theorem dX4_readItem_152 : decode cX4_readItem 152 = .ok (.iconst 1, 1) := by decide +kernel
theorem dX4_readItem_153 : decode cX4_readItem 153 = .ok (.bipush 99, 2) := by decide +kernel
theorem dX4_readItem_155 : decode cX4_readItem 155 = .ok (.invokevirtual 62, 3) := by decide +kernel
theorem dX4_readItem_158 : decode cX4_readItem 158 = .ok (.istore 5, 2) := by decide +kernel
theorem dX4_readItem_160 : decode cX4_readItem 160 = .ok (.aload_n 0, 1) := by decide +kernel
theorem dX4_readItem_161 : decode cX4_readItem 161 = .ok (.getfield 33, 3) := by decide +kernel
theorem dX4_readItem_164 : decode cX4_readItem 164 = .ok (.iconst (-1), 1) := by decide +kernel
theorem dX4_readItem_165 : decode cX4_readItem 165 = .ok (.if_icmp .ne 12, 3) := by decide +kernel
theorem dX4_readItem_168 : decode cX4_readItem 168 = .ok (.aload_n 0, 1) := by decide +kernel
theorem dX4_readItem_169 : decode cX4_readItem 169 = .ok (.iload_n 1, 1) := by decide +kernel
theorem dX4_readItem_170 : decode cX4_readItem 170 = .ok (.iload_n 2, 1) := by decide +kernel
theorem dX4_readItem_171 : decode cX4_readItem 171 = .ok (.iload_n 3, 1) := by decide +kernel
theorem dX4_readItem_172 : decode cX4_readItem 172 = .ok (.iload 5, 2) := by decide +kernel
theorem dX4_readItem_174 : decode cX4_readItem 174 = .ok (.invokevirtual 66, 3) := by decide +kernel
theorem dX4_readItem_177 : decode cX4_readItem 177 = .ok (.return_, 1) := by decide +kernel
theorem dX4_addNumbers_0 : decode cX4_addNumbers 0 = .ok (.iload_n 2, 1) := by decide +kernel
theorem dX4_addNumbers_1 : decode cX4_addNumbers 1 = .ok (.istore 5, 2) := by decide +kernel
theorem dX4_addNumbers_3 : decode cX4_addNumbers 3 = .ok (.iload 5, 2) := by decide +kernel
theorem dX4_addNumbers_5 : decode cX4_addNumbers 5 = .ok (.iload_n 3, 1) := by decide +kernel
theorem dX4_addNumbers_6 : decode cX4_addNumbers 6 = .ok (.if_icmp .gt 49, 3) := by decide +kernel
theorem dX4_addNumbers_9 : decode cX4_addNumbers 9 = .ok (.iload 5, 2) := by decide +kernel
theorem dX4_addNumbers_11 : decode cX4_addNumbers 11 = .ok (.iload_n 2, 1) := by decide +kernel
theorem dX4_addNumbers_12 : decode cX4_addNumbers 12 = .ok (.isub, 1) := by decide +kernel
theorem dX4_addNumbers_13 : decode cX4_addNumbers 13 = .ok (.iload 4, 2) := by decide +kernel
theorem dX4_addNumbers_15 : decode cX4_addNumbers 15 = .ok (.irem, 1) := by decide +kernel
theorem dX4_addNumbers_16 : decode cX4_addNumbers 16 = .ok (.ifCond .ne 33, 3) := by decide +kernel
theorem dX4_addNumbers_19 : decode cX4_addNumbers 19 = .ok (.iload_n 1, 1) := by decide +kernel
theorem dX4_addNumbers_20 : decode cX4_addNumbers 20 = .ok (.iconst 4, 1) := by decide +kernel
theorem dX4_addNumbers_21 : decode cX4_addNumbers 21 = .ok (.if_icmp .ne 11, 3) := by decide +kernel
theorem dX4_addNumbers_24 : decode cX4_addNumbers 24 = .ok (.iload 5, 2) := by decide +kernel
theorem dX4_addNumbers_26 : decode cX4_addNumbers 26 = .ok (.bipush 7, 2) := by decide +kernel
theorem dX4_addNumbers_28 : decode cX4_addNumbers 28 = .ok (.irem, 1) := by decide +kernel
theorem dX4_addNumbers_29 : decode cX4_addNumbers 29 = .ok (.goto 5, 3) := by decide +kernel
theorem dX4_addNumbers_32 : decode cX4_addNumbers 32 = .ok (.iload 5, 2) := by decide +kernel
theorem dX4_addNumbers_34 : decode cX4_addNumbers 34 = .ok (.istore 6, 2) := by decide +kernel
theorem dX4_addNumbers_36 : decode cX4_addNumbers 36 = .ok (.aload_n 0, 1) := by decide +kernel
theorem dX4_addNumbers_37 : decode cX4_addNumbers 37 = .ok (.getfield 18, 3) := by decide +kernel
theorem dX4_addNumbers_40 : decode cX4_addNumbers 40 = .ok (.iload_n 1, 1) := by decide +kernel
theorem dX4_addNumbers_41 : decode cX4_addNumbers 41 = .ok (.dup2, 1) := by decide +kernel
theorem dX4_addNumbers_42 : decode cX4_addNumbers 42 = .ok (.laload, 1) := by decide +kernel
theorem dX4_addNumbers_43 : decode cX4_addNumbers 43 = .ok (.lconst 1, 1) := by decide +kernel
theorem dX4_addNumbers_44 : decode cX4_addNumbers 44 = .ok (.iload 6, 2) := by decide +kernel
theorem dX4_addNumbers_46 : decode cX4_addNumbers 46 = .ok (.lshl, 1) := by decide +kernel
theorem dX4_addNumbers_47 : decode cX4_addNumbers 47 = .ok (.lor, 1) := by decide +kernel
theorem dX4_addNumbers_48 : decode cX4_addNumbers 48 = .ok (.lastore, 1) := by decide +kernel
theorem dX4_addNumbers_49 : decode cX4_addNumbers 49 = .ok (.iinc 5 1, 3) := by decide +kernel
theorem dX4_addNumbers_52 : decode cX4_addNumbers 52 = .ok (.goto (-49), 3) := by decide +kernel
theorem dX4_addNumbers_55 : decode cX4_addNumbers 55 = .ok (.return_, 1) := by decide +kernel
theorem dX4_readNumber_0 : decode cX4_readNumber 0 = .ok (.aload_n 0, 1) := by decide +kernel
theorem dX4_readNumber_1 : decode cX4_readNumber 1 = .ok (.getfield 29, 3) := by decide +kernel
theorem dX4_readNumber_4 : decode cX4_readNumber 4 = .ok (.istore_n 3, 1) := by decide +kernel
theorem dX4_readNumber_5 : decode cX4_readNumber 5 = .ok (.iconst 0, 1) := by decide +kernel
theorem dX4_readNumber_6 : decode cX4_readNumber 6 = .ok (.istore 4, 2) := by decide +kernel
theorem dX4_readNumber_8 : decode cX4_readNumber 8 = .ok (.aload_n 0, 1) := by decide +kernel
theorem dX4_readNumber_9 : decode cX4_readNumber 9 = .ok (.getfield 29, 3) := by decide +kernel
theorem dX4_readNumber_12 : decode cX4_readNumber 12 = .ok (.iload_n 3, 1) := by decide +kernel
theorem dX4_readNumber_13 : decode cX4_readNumber 13 = .ok (.iconst 2, 1) := by decide +kernel
theorem dX4_readNumber_14 : decode cX4_readNumber 14 = .ok (.iadd, 1) := by decide +kernel
theorem dX4_readNumber_15 : decode cX4_readNumber 15 = .ok (.if_icmp .ge 55, 3) := by decide +kernel
theorem dX4_readNumber_18 : decode cX4_readNumber 18 = .ok (.aload_n 0, 1) := by decide +kernel
theorem dX4_readNumber_19 : decode cX4_readNumber 19 = .ok (.getfield 12, 3) := by decide +kernel
theorem dX4_readNumber_22 : decode cX4_readNumber 22 = .ok (.aload_n 0, 1) := by decide +kernel
theorem dX4_readNumber_23 : decode cX4_readNumber 23 = .ok (.getfield 29, 3) := by decide +kernel
theorem dX4_readNumber_26 : decode cX4_readNumber 26 = .ok (.invokevirtual 45, 3) := by decide +kernel
theorem dX4_readNumber_29 : decode cX4_readNumber 29 = .ok (.invokestatic 70, 3) := by decide +kernel
theorem dX4_readNumber_32 : decode cX4_readNumber 32 = .ok (.ifCond .eq 38, 3) := by decide +kernel
theorem dX4_readNumber_35 : decode cX4_readNumber 35 = .ok (.iload 4, 2) := by decide +kernel
theorem dX4_readNumber_37 : decode cX4_readNumber 37 = .ok (.bipush 10, 2) := by decide +kernel
theorem dX4_readNumber_39 : decode cX4_readNumber 39 = .ok (.imul, 1) := by decide +kernel
theorem dX4_readNumber_40 : decode cX4_readNumber 40 = .ok (.aload_n 0, 1) := by decide +kernel
theorem dX4_readNumber_41 : decode cX4_readNumber 41 = .ok (.getfield 12, 3) := by decide +kernel
theorem dX4_readNumber_44 : decode cX4_readNumber 44 = .ok (.aload_n 0, 1) := by decide +kernel
theorem dX4_readNumber_45 : decode cX4_readNumber 45 = .ok (.getfield 29, 3) := by decide +kernel
theorem dX4_readNumber_48 : decode cX4_readNumber 48 = .ok (.invokevirtual 45, 3) := by decide +kernel
theorem dX4_readNumber_51 : decode cX4_readNumber 51 = .ok (.bipush 48, 2) := by decide +kernel
theorem dX4_readNumber_53 : decode cX4_readNumber 53 = .ok (.isub, 1) := by decide +kernel
theorem dX4_readNumber_54 : decode cX4_readNumber 54 = .ok (.iadd, 1) := by decide +kernel
theorem dX4_readNumber_55 : decode cX4_readNumber 55 = .ok (.istore 4, 2) := by decide +kernel
theorem dX4_readNumber_57 : decode cX4_readNumber 57 = .ok (.aload_n 0, 1) := by decide +kernel
theorem dX4_readNumber_58 : decode cX4_readNumber 58 = .ok (.dup, 1) := by decide +kernel
theorem dX4_readNumber_59 : decode cX4_readNumber 59 = .ok (.getfield 29, 3) := by decide +kernel
theorem dX4_readNumber_62 : decode cX4_readNumber 62 = .ok (.iconst 1, 1) := by decide +kernel
theorem dX4_readNumber_63 : decode cX4_readNumber 63 = .ok (.iadd, 1) := by decide +kernel
theorem dX4_readNumber_64 : decode cX4_readNumber 64 = .ok (.putfield 29, 3) := by decide +kernel
theorem dX4_readNumber_67 : decode cX4_readNumber 67 = .ok (.goto (-59), 3) := by decide +kernel
theorem dX4_readNumber_70 : decode cX4_readNumber 70 = .ok (.aload_n 0, 1) := by decide +kernel
theorem dX4_readNumber_71 : decode cX4_readNumber 71 = .ok (.getfield 29, 3) := by decide +kernel
theorem dX4_readNumber_74 : decode cX4_readNumber 74 = .ok (.iload_n 3, 1) := by decide +kernel
theorem dX4_readNumber_75 : decode cX4_readNumber 75 = .ok (.if_icmp .eq 15, 3) := by decide +kernel
theorem dX4_readNumber_78 : decode cX4_readNumber 78 = .ok (.iload 4, 2) := by decide +kernel
theorem dX4_readNumber_80 : decode cX4_readNumber 80 = .ok (.iload_n 1, 1) := by decide +kernel
theorem dX4_readNumber_81 : decode cX4_readNumber 81 = .ok (.if_icmp .lt 9, 3) := by decide +kernel
theorem dX4_readNumber_84 : decode cX4_readNumber 84 = .ok (.iload 4, 2) := by decide +kernel
theorem dX4_readNumber_86 : decode cX4_readNumber 86 = .ok (.iload_n 2, 1) := by decide +kernel
theorem dX4_readNumber_87 : decode cX4_readNumber 87 = .ok (.if_icmp .le 8, 3) := by decide +kernel
theorem dX4_readNumber_90 : decode cX4_readNumber 90 = .ok (.aload_n 0, 1) := by decide +kernel
theorem dX4_readNumber_91 : decode cX4_readNumber 91 = .ok (.iload_n 3, 1) := by decide +kernel
theorem dX4_readNumber_92 : decode cX4_readNumber 92 = .ok (.putfield 33, 3) := by decide +kernel
theorem dX4_readNumber_95 : decode cX4_readNumber 95 = .ok (.iload 4, 2) := by decide +kernel
theorem dX4_readNumber_97 : decode cX4_readNumber 97 = .ok (.ireturn, 1) := by decide +kernel
theorem dX4_isDigit_0 : decode cX4_isDigit 0 = .ok (.iload_n 0, 1) := by decide +kernel
theorem dX4_isDigit_1 : decode cX4_isDigit 1 = .ok (.bipush 48, 2) := by decide +kernel
theorem dX4_isDigit_3 : decode cX4_isDigit 3 = .ok (.if_icmp .lt 13, 3) := by decide +kernel
theorem dX4_isDigit_6 : decode cX4_isDigit 6 = .ok (.iload_n 0, 1) := by decide +kernel
theorem dX4_isDigit_7 : decode cX4_isDigit 7 = .ok (.bipush 57, 2) := by decide +kernel
theorem dX4_isDigit_9 : decode cX4_isDigit 9 = .ok (.if_icmp .gt 7, 3) := by decide +kernel
theorem dX4_isDigit_12 : decode cX4_isDigit 12 = .ok (.iconst 1, 1) := by decide +kernel
theorem dX4_isDigit_13 : decode cX4_isDigit 13 = .ok (.goto 4, 3) := by decide +kernel
theorem dX4_isDigit_16 : decode cX4_isDigit 16 = .ok (.iconst 0, 1) := by decide +kernel
theorem dX4_isDigit_17 : decode cX4_isDigit 17 = .ok (.ireturn, 1) := by decide +kernel
theorem dX5_init_0 : decode cX5_init 0 = .ok (.aload_n 0, 1) := by decide +kernel
theorem dX5_init_1 : decode cX5_init 1 = .ok (.invokespecial 3, 3) := by decide +kernel
theorem dX5_init_4 : decode cX5_init 4 = .ok (.aload_n 0, 1) := by decide +kernel
theorem dX5_init_5 : decode cX5_init 5 = .ok (.iconst 0, 1) := by decide +kernel
theorem dX5_init_6 : decode cX5_init 6 = .ok (.putfield 9, 3) := by decide +kernel
theorem dX5_init_9 : decode cX5_init 9 = .ok (.aload_n 0, 1) := by decide +kernel
theorem dX5_init_10 : decode cX5_init 10 = .ok (.iconst 0, 1) := by decide +kernel
theorem dX5_init_11 : decode cX5_init 11 = .ok (.putfield 15, 3) := by decide +kernel
theorem dX5_init_14 : decode cX5_init 14 = .ok (.aload_n 0, 1) := by decide +kernel
theorem dX5_init_15 : decode cX5_init 15 = .ok (.iconst 0, 1) := by decide +kernel
theorem dX5_init_16 : decode cX5_init 16 = .ok (.putfield 18, 3) := by decide +kernel
theorem dX5_init_19 : decode cX5_init 19 = .ok (.aload_n 0, 1) := by decide +kernel
theorem dX5_init_20 : decode cX5_init 20 = .ok (.iload_n 1, 1) := by decide +kernel
theorem dX5_init_21 : decode cX5_init 21 = .ok (.putfield 21, 3) := by decide +kernel
theorem dX5_init_24 : decode cX5_init 24 = .ok (.aload_n 0, 1) := by decide +kernel
theorem dX5_init_25 : decode cX5_init 25 = .ok (.iload_n 2, 1) := by decide +kernel
theorem dX5_init_26 : decode cX5_init 26 = .ok (.putfield 24, 3) := by decide +kernel
theorem dX5_init_29 : decode cX5_init 29 = .ok (.aload_n 0, 1) := by decide +kernel
theorem dX5_init_30 : decode cX5_init 30 = .ok (.iload_n 3, 1) := by decide +kernel
theorem dX5_init_31 : decode cX5_init 31 = .ok (.putfield 27, 3) := by decide +kernel
theorem dX5_init_34 : decode cX5_init 34 = .ok (.return_, 1) := by decide +kernel
theorem dX5_begin_0 : decode cX5_begin 0 = .ok (.aload_n 0, 1) := by decide +kernel
theorem dX5_begin_1 : decode cX5_begin 1 = .ok (.iconst 1, 1) := by decide +kernel
theorem dX5_begin_2 : decode cX5_begin 2 = .ok (.putfield 9, 3) := by decide +kernel
theorem dX5_begin_5 : decode cX5_begin 5 = .ok (.aload_n 0, 1) := by decide +kernel
theorem dX5_begin_6 : decode cX5_begin 6 = .ok (.iconst 0, 1) := by decide +kernel
theorem dX5_begin_7 : decode cX5_begin 7 = .ok (.putfield 15, 3) := by decide +kernel
theorem dX5_begin_10 : decode cX5_begin 10 = .ok (.return_, 1) := by decide +kernel
theorem dX5_isOver_0 : decode cX5_isOver 0 = .ok (.aload_n 0, 1) := by decide +kernel
theorem dX5_isOver_1 : decode cX5_isOver 1 = .ok (.getfield 9, 3) := by decide +kernel
theorem dX5_isOver_4 : decode cX5_isOver 4 = .ok (.iconst 4, 1) := by decide +kernel
theorem dX5_isOver_5 : decode cX5_isOver 5 = .ok (.if_icmp .eq 20, 3) := by decide +kernel
theorem dX5_isOver_8 : decode cX5_isOver 8 = .ok (.aload_n 0, 1) := by decide +kernel
theorem dX5_isOver_9 : decode cX5_isOver 9 = .ok (.getfield 9, 3) := by decide +kernel
theorem dX5_isOver_12 : decode cX5_isOver 12 = .ok (.iconst 5, 1) := by decide +kernel
theorem dX5_isOver_13 : decode cX5_isOver 13 = .ok (.if_icmp .eq 12, 3) := by decide +kernel
theorem dX5_isOver_16 : decode cX5_isOver 16 = .ok (.aload_n 0, 1) := by decide +kernel
theorem dX5_isOver_17 : decode cX5_isOver 17 = .ok (.getfield 9, 3) := by decide +kernel
theorem dX5_isOver_20 : decode cX5_isOver 20 = .ok (.bipush 6, 2) := by decide +kernel
theorem dX5_isOver_22 : decode cX5_isOver 22 = .ok (.if_icmp .ne 7, 3) := by decide +kernel
theorem dX5_isOver_25 : decode cX5_isOver 25 = .ok (.iconst 1, 1) := by decide +kernel
theorem dX5_isOver_26 : decode cX5_isOver 26 = .ok (.goto 4, 3) := by decide +kernel
theorem dX5_isOver_29 : decode cX5_isOver 29 = .ok (.iconst 0, 1) := by decide +kernel
theorem dX5_isOver_30 : decode cX5_isOver 30 = .ok (.ireturn, 1) := by decide +kernel
theorem dX5_isReady_0 : decode cX5_isReady 0 = .ok (.aload_n 0, 1) := by decide +kernel
theorem dX5_isReady_1 : decode cX5_isReady 1 = .ok (.getfield 9, 3) := by decide +kernel
theorem dX5_isReady_4 : decode cX5_isReady 4 = .ok (.iconst 1, 1) := by decide +kernel
theorem dX5_isReady_5 : decode cX5_isReady 5 = .ok (.if_icmp .eq 19, 3) := by decide +kernel
theorem dX5_isReady_8 : decode cX5_isReady 8 = .ok (.aload_n 0, 1) := by decide +kernel
theorem dX5_isReady_9 : decode cX5_isReady 9 = .ok (.getfield 9, 3) := by decide +kernel
theorem dX5_isReady_12 : decode cX5_isReady 12 = .ok (.iconst 2, 1) := by decide +kernel
theorem dX5_isReady_13 : decode cX5_isReady 13 = .ok (.if_icmp .ne 15, 3) := by decide +kernel
theorem dX5_isReady_16 : decode cX5_isReady 16 = .ok (.aload_n 0, 1) := by decide +kernel
theorem dX5_isReady_17 : decode cX5_isReady 17 = .ok (.getfield 18, 3) := by decide +kernel
theorem dX5_isReady_20 : decode cX5_isReady 20 = .ok (.iload_n 1, 1) := by decide +kernel
theorem dX5_isReady_21 : decode cX5_isReady 21 = .ok (.if_icmp .gt 7, 3) := by decide +kernel
theorem dX5_isReady_24 : decode cX5_isReady 24 = .ok (.iconst 1, 1) := by decide +kernel
theorem dX5_isReady_25 : decode cX5_isReady 25 = .ok (.goto 4, 3) := by decide +kernel
theorem dX5_isReady_28 : decode cX5_isReady 28 = .ok (.iconst 0, 1) := by decide +kernel
theorem dX5_isReady_29 : decode cX5_isReady 29 = .ok (.istore_n 3, 1) := by decide +kernel
theorem dX5_isReady_30 : decode cX5_isReady 30 = .ok (.iload_n 3, 1) := by decide +kernel
theorem dX5_isReady_31 : decode cX5_isReady 31 = .ok (.ifCond .eq 18, 3) := by decide +kernel
theorem dX5_isReady_34 : decode cX5_isReady 34 = .ok (.aload_n 0, 1) := by decide +kernel
theorem dX5_isReady_35 : decode cX5_isReady 35 = .ok (.getfield 21, 3) := by decide +kernel
theorem dX5_isReady_38 : decode cX5_isReady 38 = .ok (.iload_n 2, 1) := by decide +kernel
theorem dX5_isReady_39 : decode cX5_isReady 39 = .ok (.iconst (-1), 1) := by decide +kernel
theorem dX5_isReady_40 : decode cX5_isReady 40 = .ok (.ixor, 1) := by decide +kernel
theorem dX5_isReady_41 : decode cX5_isReady 41 = .ok (.iand, 1) := by decide +kernel
theorem dX5_isReady_42 : decode cX5_isReady 42 = .ok (.ifCond .ne 7, 3) := by decide +kernel
theorem dX5_isReady_45 : decode cX5_isReady 45 = .ok (.iconst 1, 1) := by decide +kernel
theorem dX5_isReady_46 : decode cX5_isReady 46 = .ok (.goto 4, 3) := by decide +kernel
theorem dX5_isReady_49 : decode cX5_isReady 49 = .ok (.iconst 0, 1) := by decide +kernel
theorem dX5_isReady_50 : decode cX5_isReady 50 = .ok (.ireturn, 1) := by decide +kernel
theorem dX5_tryAgain_0 : decode cX5_tryAgain 0 = .ok (.aload_n 0, 1) := by decide +kernel
theorem dX5_tryAgain_1 : decode cX5_tryAgain 1 = .ok (.getfield 15, 3) := by decide +kernel
theorem dX5_tryAgain_4 : decode cX5_tryAgain 4 = .ok (.istore_n 2, 1) := by decide +kernel
theorem dX5_tryAgain_5 : decode cX5_tryAgain 5 = .ok (.aload_n 0, 1) := by decide +kernel
theorem dX5_tryAgain_6 : decode cX5_tryAgain 6 = .ok (.dup, 1) := by decide +kernel
theorem dX5_tryAgain_7 : decode cX5_tryAgain 7 = .ok (.getfield 15, 3) := by decide +kernel
theorem dX5_tryAgain_10 : decode cX5_tryAgain 10 = .ok (.iconst 1, 1) := by decide +kernel
theorem dX5_tryAgain_11 : decode cX5_tryAgain 11 = .ok (.iadd, 1) := by decide +kernel
theorem dX5_tryAgain_12 : decode cX5_tryAgain 12 = .ok (.putfield 15, 3) := by decide +kernel
theorem dX5_tryAgain_15 : decode cX5_tryAgain 15 = .ok (.aload_n 0, 1) := by decide +kernel
theorem dX5_tryAgain_16 : decode cX5_tryAgain 16 = .ok (.getfield 15, 3) := by decide +kernel
theorem dX5_tryAgain_19 : decode cX5_tryAgain 19 = .ok (.aload_n 0, 1) := by decide +kernel
theorem dX5_tryAgain_20 : decode cX5_tryAgain 20 = .ok (.getfield 24, 3) := by decide +kernel
theorem dX5_tryAgain_23 : decode cX5_tryAgain 23 = .ok (.if_icmp .lt 5, 3) := by decide +kernel
theorem dX5_tryAgain_26 : decode cX5_tryAgain 26 = .ok (.iconst 0, 1) := by decide +kernel
theorem dX5_tryAgain_27 : decode cX5_tryAgain 27 = .ok (.ireturn, 1) := by decide +kernel
theorem dX5_tryAgain_28 : decode cX5_tryAgain 28 = .ok (.aload_n 0, 1) := by decide +kernel
theorem dX5_tryAgain_29 : decode cX5_tryAgain 29 = .ok (.iconst 2, 1) := by decide +kernel
theorem dX5_tryAgain_30 : decode cX5_tryAgain 30 = .ok (.putfield 9, 3) := by decide +kernel
theorem dX5_tryAgain_33 : decode cX5_tryAgain 33 = .ok (.aload_n 0, 1) := by decide +kernel
theorem dX5_tryAgain_34 : decode cX5_tryAgain 34 = .ok (.iload_n 1, 1) := by decide +kernel
theorem dX5_tryAgain_35 : decode cX5_tryAgain 35 = .ok (.aload_n 0, 1) := by decide +kernel
theorem dX5_tryAgain_36 : decode cX5_tryAgain 36 = .ok (.getfield 27, 3) := by decide +kernel
theorem dX5_tryAgain_39 : decode cX5_tryAgain 39 = .ok (.iload_n 2, 1) := by decide +kernel
theorem dX5_tryAgain_40 : decode cX5_tryAgain 40 = .ok (.ishl, 1) := by decide +kernel
theorem dX5_tryAgain_41 : decode cX5_tryAgain 41 = .ok (.iadd, 1) := by decide +kernel
theorem dX5_tryAgain_42 : decode cX5_tryAgain 42 = .ok (.putfield 18, 3) := by decide +kernel
theorem dX5_tryAgain_45 : decode cX5_tryAgain 45 = .ok (.iconst 1, 1) := by decide +kernel
theorem dX5_tryAgain_46 : decode cX5_tryAgain 46 = .ok (.ireturn, 1) := by decide +kernel
theorem dX6_init_0 : decode cX6_init 0 = .ok (.aload_n 0, 1) := by decide +kernel
theorem dX6_init_1 : decode cX6_init 1 = .ok (.invokespecial 1, 3) := by decide +kernel
theorem dX6_init_4 : decode cX6_init 4 = .ok (.aload_n 0, 1) := by decide +kernel
theorem dX6_init_5 : decode cX6_init 5 = .ok (.bipush 60, 2) := by decide +kernel
theorem dX6_init_7 : decode cX6_init 7 = .ok (.newarray .char, 2) := by decide +kernel
theorem dX6_init_9 : decode cX6_init 9 = .ok (.putfield 9, 3) := by decide +kernel
theorem dX6_init_12 : decode cX6_init 12 = .ok (.aload_n 0, 1) := by decide +kernel
theorem dX6_init_13 : decode cX6_init 13 = .ok (.iconst 0, 1) := by decide +kernel
theorem dX6_init_14 : decode cX6_init 14 = .ok (.putfield 13, 3) := by decide +kernel
theorem dX6_init_17 : decode cX6_init 17 = .ok (.return_, 1) := by decide +kernel
theorem dX6_append_0 : decode cX6_append 0 = .ok (.iconst 0, 1) := by decide +kernel
theorem dX6_append_1 : decode cX6_append 1 = .ok (.istore_n 3, 1) := by decide +kernel
theorem dX6_append_2 : decode cX6_append 2 = .ok (.iconst 0, 1) := by decide +kernel
theorem dX6_append_3 : decode cX6_append 3 = .ok (.istore 4, 2) := by decide +kernel
theorem dX6_append_5 : decode cX6_append 5 = .ok (.iload 4, 2) := by decide +kernel
theorem dX6_append_7 : decode cX6_append 7 = .ok (.bipush 8, 2) := by decide +kernel
theorem dX6_append_9 : decode cX6_append 9 = .ok (.if_icmp .ge 45, 3) := by decide +kernel
theorem dX6_append_12 : decode cX6_append 12 = .ok (.lload_n 1, 1) := by decide +kernel
theorem dX6_append_13 : decode cX6_append 13 = .ok (.iload 4, 2) := by decide +kernel
theorem dX6_append_15 : decode cX6_append 15 = .ok (.invokestatic 17, 3) := by decide +kernel
theorem dX6_append_18 : decode cX6_append 18 = .ok (.ifCond .eq 36, 3) := by decide +kernel
theorem dX6_append_21 : decode cX6_append 21 = .ok (.lload_n 1, 1) := by decide +kernel
theorem dX6_append_22 : decode cX6_append 22 = .ok (.iload 4, 2) := by decide +kernel
theorem dX6_append_24 : decode cX6_append 24 = .ok (.invokestatic 17, 3) := by decide +kernel
theorem dX6_append_27 : decode cX6_append 27 = .ok (.bipush 32, 2) := by decide +kernel
theorem dX6_append_29 : decode cX6_append 29 = .ok (.if_icmp .lt 14, 3) := by decide +kernel
theorem dX6_append_32 : decode cX6_append 32 = .ok (.lload_n 1, 1) := by decide +kernel
theorem dX6_append_33 : decode cX6_append 33 = .ok (.iload 4, 2) := by decide +kernel
theorem dX6_append_35 : decode cX6_append 35 = .ok (.invokestatic 17, 3) := by decide +kernel
theorem dX6_append_38 : decode cX6_append 38 = .ok (.bipush 126, 2) := by decide +kernel
theorem dX6_append_40 : decode cX6_append 40 = .ok (.if_icmp .le 5, 3) := by decide +kernel
theorem dX6_append_43 : decode cX6_append 43 = .ok (.iconst 0, 1) := by decide +kernel
theorem dX6_append_44 : decode cX6_append 44 = .ok (.ireturn, 1) := by decide +kernel
theorem dX6_append_45 : decode cX6_append 45 = .ok (.iinc 3 1, 3) := by decide +kernel
theorem dX6_append_48 : decode cX6_append 48 = .ok (.iinc 4 1, 3) := by decide +kernel
theorem dX6_append_51 : decode cX6_append 51 = .ok (.goto (-46), 3) := by decide +kernel
theorem dX6_append_54 : decode cX6_append 54 = .ok (.aload_n 0, 1) := by decide +kernel
theorem dX6_append_55 : decode cX6_append 55 = .ok (.getfield 13, 3) := by decide +kernel
theorem dX6_append_58 : decode cX6_append 58 = .ok (.iload_n 3, 1) := by decide +kernel
theorem dX6_append_59 : decode cX6_append 59 = .ok (.iadd, 1) := by decide +kernel
theorem dX6_append_60 : decode cX6_append 60 = .ok (.bipush 60, 2) := by decide +kernel
theorem dX6_append_62 : decode cX6_append 62 = .ok (.if_icmp .le 5, 3) := by decide +kernel
theorem dX6_append_65 : decode cX6_append 65 = .ok (.iconst 0, 1) := by decide +kernel
theorem dX6_append_66 : decode cX6_append 66 = .ok (.ireturn, 1) := by decide +kernel
theorem dX6_append_67 : decode cX6_append 67 = .ok (.iconst 0, 1) := by decide +kernel
theorem dX6_append_68 : decode cX6_append 68 = .ok (.istore 4, 2) := by decide +kernel
theorem dX6_append_70 : decode cX6_append 70 = .ok (.iload 4, 2) := by decide +kernel
theorem dX6_append_72 : decode cX6_append 72 = .ok (.iload_n 3, 1) := by decide +kernel
theorem dX6_append_73 : decode cX6_append 73 = .ok (.if_icmp .ge 27, 3) := by decide +kernel
theorem dX6_append_76 : decode cX6_append 76 = .ok (.aload_n 0, 1) := by decide +kernel
theorem dX6_append_77 : decode cX6_append 77 = .ok (.getfield 9, 3) := by decide +kernel
theorem dX6_append_80 : decode cX6_append 80 = .ok (.aload_n 0, 1) := by decide +kernel
theorem dX6_append_81 : decode cX6_append 81 = .ok (.getfield 13, 3) := by decide +kernel
theorem dX6_append_84 : decode cX6_append 84 = .ok (.iload 4, 2) := by decide +kernel
theorem dX6_append_86 : decode cX6_append 86 = .ok (.iadd, 1) := by decide +kernel
theorem dX6_append_87 : decode cX6_append 87 = .ok (.lload_n 1, 1) := by decide +kernel
theorem dX6_append_88 : decode cX6_append 88 = .ok (.iload 4, 2) := by decide +kernel
theorem dX6_append_90 : decode cX6_append 90 = .ok (.invokestatic 17, 3) := by decide +kernel
theorem dX6_append_93 : decode cX6_append 93 = .ok (.castore, 1) := by decide +kernel
theorem dX6_append_94 : decode cX6_append 94 = .ok (.iinc 4 1, 3) := by decide +kernel
theorem dX6_append_97 : decode cX6_append 97 = .ok (.goto (-27), 3) := by decide +kernel
theorem dX6_append_100 : decode cX6_append 100 = .ok (.aload_n 0, 1) := by decide +kernel
theorem dX6_append_101 : decode cX6_append 101 = .ok (.dup, 1) := by decide +kernel
theorem dX6_append_102 : decode cX6_append 102 = .ok (.getfield 13, 3) := by decide +kernel
theorem dX6_append_105 : decode cX6_append 105 = .ok (.iload_n 3, 1) := by decide +kernel
theorem dX6_append_106 : decode cX6_append 106 = .ok (.iadd, 1) := by decide +kernel
theorem dX6_append_107 : decode cX6_append 107 = .ok (.putfield 13, 3) := by decide +kernel
theorem dX6_append_110 : decode cX6_append 110 = .ok (.iconst 1, 1) := by decide +kernel
theorem dX6_append_111 : decode cX6_append 111 = .ok (.ireturn, 1) := by decide +kernel
theorem dX6_signOf_0 : decode cX6_signOf 0 = .ok (.lload_n 0, 1) := by decide +kernel
theorem dX6_signOf_1 : decode cX6_signOf 1 = .ok (.bipush 8, 2) := by decide +kernel
theorem dX6_signOf_3 : decode cX6_signOf 3 = .ok (.iload_n 2, 1) := by decide +kernel
theorem dX6_signOf_4 : decode cX6_signOf 4 = .ok (.imul, 1) := by decide +kernel
theorem dX6_signOf_5 : decode cX6_signOf 5 = .ok (.lushr, 1) := by decide +kernel
theorem dX6_signOf_6 : decode cX6_signOf 6 = .ok (.ldc2_w 21, 3) := by decide +kernel
theorem dX6_signOf_9 : decode cX6_signOf 9 = .ok (.land, 1) := by decide +kernel
theorem dX6_signOf_10 : decode cX6_signOf 10 = .ok (.l2i, 1) := by decide +kernel
theorem dX6_signOf_11 : decode cX6_signOf 11 = .ok (.i2c, 1) := by decide +kernel
theorem dX6_signOf_12 : decode cX6_signOf 12 = .ok (.ireturn, 1) := by decide +kernel
theorem dX6_clear_0 : decode cX6_clear 0 = .ok (.aload_n 0, 1) := by decide +kernel
theorem dX6_clear_1 : decode cX6_clear 1 = .ok (.iconst 0, 1) := by decide +kernel
theorem dX6_clear_2 : decode cX6_clear 2 = .ok (.putfield 13, 3) := by decide +kernel
theorem dX6_clear_5 : decode cX6_clear 5 = .ok (.return_, 1) := by decide +kernel
theorem dX6_signAt_0 : decode cX6_signAt 0 = .ok (.iload_n 1, 1) := by decide +kernel
theorem dX6_signAt_1 : decode cX6_signAt 1 = .ok (.ifCond .lt 20, 3) := by decide +kernel
theorem dX6_signAt_4 : decode cX6_signAt 4 = .ok (.iload_n 1, 1) := by decide +kernel
theorem dX6_signAt_5 : decode cX6_signAt 5 = .ok (.aload_n 0, 1) := by decide +kernel
theorem dX6_signAt_6 : decode cX6_signAt 6 = .ok (.getfield 13, 3) := by decide +kernel
theorem dX6_signAt_9 : decode cX6_signAt 9 = .ok (.if_icmp .ge 12, 3) := by decide +kernel
theorem dX6_signAt_12 : decode cX6_signAt 12 = .ok (.aload_n 0, 1) := by decide +kernel
theorem dX6_signAt_13 : decode cX6_signAt 13 = .ok (.getfield 9, 3) := by decide +kernel
theorem dX6_signAt_16 : decode cX6_signAt 16 = .ok (.iload_n 1, 1) := by decide +kernel
theorem dX6_signAt_17 : decode cX6_signAt 17 = .ok (.caload, 1) := by decide +kernel
theorem dX6_signAt_18 : decode cX6_signAt 18 = .ok (.goto 4, 3) := by decide +kernel
theorem dX6_signAt_21 : decode cX6_signAt 21 = .ok (.iconst 0, 1) := by decide +kernel
theorem dX6_signAt_22 : decode cX6_signAt 22 = .ok (.ireturn, 1) := by decide +kernel
theorem dX7_init_0 : decode cX7_init 0 = .ok (.aload_n 0, 1) := by decide +kernel
theorem dX7_init_1 : decode cX7_init 1 = .ok (.invokespecial 1, 3) := by decide +kernel
theorem dX7_init_4 : decode cX7_init 4 = .ok (.aload_n 0, 1) := by decide +kernel
theorem dX7_init_5 : decode cX7_init 5 = .ok (.new 7, 3) := by decide +kernel
theorem dX7_init_8 : decode cX7_init 8 = .ok (.dup, 1) := by decide +kernel
theorem dX7_init_9 : decode cX7_init 9 = .ok (.invokespecial 9, 3) := by decide +kernel
theorem dX7_init_12 : decode cX7_init 12 = .ok (.putfield 10, 3) := by decide +kernel
theorem dX7_init_15 : decode cX7_init 15 = .ok (.aload_n 0, 1) := by decide +kernel
theorem dX7_init_16 : decode cX7_init 16 = .ok (.new 16, 3) := by decide +kernel
theorem dX7_init_19 : decode cX7_init 19 = .ok (.dup, 1) := by decide +kernel
theorem dX7_init_20 : decode cX7_init 20 = .ok (.invokespecial 18, 3) := by decide +kernel
theorem dX7_init_23 : decode cX7_init 23 = .ok (.putfield 19, 3) := by decide +kernel
theorem dX7_init_26 : decode cX7_init 26 = .ok (.aload_n 0, 1) := by decide +kernel
theorem dX7_init_27 : decode cX7_init 27 = .ok (.new 23, 3) := by decide +kernel
theorem dX7_init_30 : decode cX7_init 30 = .ok (.dup, 1) := by decide +kernel
theorem dX7_init_31 : decode cX7_init 31 = .ok (.invokespecial 25, 3) := by decide +kernel
theorem dX7_init_34 : decode cX7_init 34 = .ok (.putfield 26, 3) := by decide +kernel
theorem dX7_init_37 : decode cX7_init 37 = .ok (.aload_n 0, 1) := by decide +kernel
theorem dX7_init_38 : decode cX7_init 38 = .ok (.bipush 6, 2) := by decide +kernel
theorem dX7_init_40 : decode cX7_init 40 = .ok (.anewarray 30, 3) := by decide +kernel
theorem dX7_init_43 : decode cX7_init 43 = .ok (.putfield 32, 3) := by decide +kernel
theorem dX7_init_46 : decode cX7_init 46 = .ok (.aload_n 0, 1) := by decide +kernel
theorem dX7_init_47 : decode cX7_init 47 = .ok (.iconst 0, 1) := by decide +kernel
theorem dX7_init_48 : decode cX7_init 48 = .ok (.putfield 36, 3) := by decide +kernel
theorem dX7_init_51 : decode cX7_init 51 = .ok (.aload_n 0, 1) := by decide +kernel
theorem dX7_init_52 : decode cX7_init 52 = .ok (.iconst (-1), 1) := by decide +kernel
theorem dX7_init_53 : decode cX7_init 53 = .ok (.putfield 40, 3) := by decide +kernel
theorem dX7_init_56 : decode cX7_init 56 = .ok (.aload_n 0, 1) := by decide +kernel
theorem dX7_init_57 : decode cX7_init 57 = .ok (.iconst 2, 1) := by decide +kernel
theorem dX7_init_58 : decode cX7_init 58 = .ok (.putfield 43, 3) := by decide +kernel
theorem dX7_init_61 : decode cX7_init 61 = .ok (.aload_n 0, 1) := by decide +kernel
theorem dX7_init_62 : decode cX7_init 62 = .ok (.iconst 0, 1) := by decide +kernel
theorem dX7_init_63 : decode cX7_init 63 = .ok (.putfield 46, 3) := by decide +kernel
theorem dX7_init_66 : decode cX7_init 66 = .ok (.aload_n 0, 1) := by decide +kernel
theorem dX7_init_67 : decode cX7_init 67 = .ok (.iconst 0, 1) := by decide +kernel
theorem dX7_init_68 : decode cX7_init 68 = .ok (.putfield 49, 3) := by decide +kernel
theorem dX7_init_71 : decode cX7_init 71 = .ok (.aload_n 0, 1) := by decide +kernel
theorem dX7_init_72 : decode cX7_init 72 = .ok (.iconst 0, 1) := by decide +kernel
theorem dX7_init_73 : decode cX7_init 73 = .ok (.putfield 53, 3) := by decide +kernel
theorem dX7_init_76 : decode cX7_init 76 = .ok (.return_, 1) := by decide +kernel
theorem dX7_type_0 : decode cX7_type 0 = .ok (.aload_n 0, 1) := by decide +kernel
theorem dX7_type_1 : decode cX7_type 1 = .ok (.getfield 10, 3) := by decide +kernel
theorem dX7_type_4 : decode cX7_type 4 = .ok (.getfield 56, 3) := by decide +kernel
theorem dX7_type_7 : decode cX7_type 7 = .ok (.lload_n 1, 1) := by decide +kernel
theorem dX7_type_8 : decode cX7_type 8 = .ok (.invokevirtual 60, 3) := by decide +kernel
theorem dX7_type_11 : decode cX7_type 11 = .ok (.ireturn, 1) := by decide +kernel
theorem dX7_job_0 : decode cX7_job 0 = .ok (.aload_n 0, 1) := by decide +kernel
theorem dX7_job_1 : decode cX7_job 1 = .ok (.getfield 36, 3) := by decide +kernel
theorem dX7_job_4 : decode cX7_job 4 = .ok (.bipush 6, 2) := by decide +kernel
theorem dX7_job_6 : decode cX7_job 6 = .ok (.if_icmp .lt 11, 3) := by decide +kernel
theorem dX7_job_9 : decode cX7_job 9 = .ok (.new 66, 3) := by decide +kernel
theorem dX7_job_12 : decode cX7_job 12 = .ok (.dup, 1) := by decide +kernel
theorem dX7_job_13 : decode cX7_job 13 = .ok (.invokespecial 68, 3) := by decide +kernel
theorem dX7_job_16 : decode cX7_job 16 = .ok (.athrow, 1) := by decide +kernel
theorem dX7_job_17 : decode cX7_job 17 = .ok (.aload_n 0, 1) := by decide +kernel
theorem dX7_job_18 : decode cX7_job 18 = .ok (.aload_n 0, 1) := by decide +kernel
theorem dX7_job_19 : decode cX7_job 19 = .ok (.getfield 10, 3) := by decide +kernel
theorem dX7_job_22 : decode cX7_job 22 = .ok (.invokevirtual 69, 3) := by decide +kernel
theorem dX7_job_25 : decode cX7_job 25 = .ok (.putfield 40, 3) := by decide +kernel
theorem dX7_job_28 : decode cX7_job 28 = .ok (.aload_n 0, 1) := by decide +kernel
theorem dX7_job_29 : decode cX7_job 29 = .ok (.getfield 40, 3) := by decide +kernel
theorem dX7_job_32 : decode cX7_job 32 = .ok (.iconst (-1), 1) := by decide +kernel
theorem dX7_job_33 : decode cX7_job 33 = .ok (.if_icmp .eq 11, 3) := by decide +kernel
theorem dX7_job_36 : decode cX7_job 36 = .ok (.new 73, 3) := by decide +kernel
theorem dX7_job_39 : decode cX7_job 39 = .ok (.dup, 1) := by decide +kernel
theorem dX7_job_40 : decode cX7_job 40 = .ok (.invokespecial 75, 3) := by decide +kernel
theorem dX7_job_43 : decode cX7_job 43 = .ok (.athrow, 1) := by decide +kernel
theorem dX7_job_44 : decode cX7_job 44 = .ok (.aload_n 0, 1) := by decide +kernel
theorem dX7_job_45 : decode cX7_job 45 = .ok (.getfield 32, 3) := by decide +kernel
theorem dX7_job_48 : decode cX7_job 48 = .ok (.aload_n 0, 1) := by decide +kernel
theorem dX7_job_49 : decode cX7_job 49 = .ok (.getfield 36, 3) := by decide +kernel
theorem dX7_job_52 : decode cX7_job 52 = .ok (.new 30, 3) := by decide +kernel
theorem dX7_job_55 : decode cX7_job 55 = .ok (.dup, 1) := by decide +kernel
theorem dX7_job_56 : decode cX7_job 56 = .ok (.iload_n 1, 1) := by decide +kernel
theorem dX7_job_57 : decode cX7_job 57 = .ok (.aload_n 0, 1) := by decide +kernel
theorem dX7_job_58 : decode cX7_job 58 = .ok (.getfield 10, 3) := by decide +kernel
theorem dX7_job_61 : decode cX7_job 61 = .ok (.invokevirtual 76, 3) := by decide +kernel
theorem dX7_job_64 : decode cX7_job 64 = .ok (.invokespecial 80, 3) := by decide +kernel
theorem dX7_job_67 : decode cX7_job 67 = .ok (.aastore, 1) := by decide +kernel
theorem dX7_job_68 : decode cX7_job 68 = .ok (.aload_n 0, 1) := by decide +kernel
theorem dX7_job_69 : decode cX7_job 69 = .ok (.getfield 10, 3) := by decide +kernel
theorem dX7_job_72 : decode cX7_job 72 = .ok (.getfield 56, 3) := by decide +kernel
theorem dX7_job_75 : decode cX7_job 75 = .ok (.invokevirtual 83, 3) := by decide +kernel
theorem dX7_job_78 : decode cX7_job 78 = .ok (.aload_n 0, 1) := by decide +kernel
theorem dX7_job_79 : decode cX7_job 79 = .ok (.dup, 1) := by decide +kernel
theorem dX7_job_80 : decode cX7_job 80 = .ok (.getfield 36, 3) := by decide +kernel
theorem dX7_job_83 : decode cX7_job 83 = .ok (.dup_x1, 1) := by decide +kernel
theorem dX7_job_84 : decode cX7_job 84 = .ok (.iconst 1, 1) := by decide +kernel
theorem dX7_job_85 : decode cX7_job 85 = .ok (.iadd, 1) := by decide +kernel
theorem dX7_job_86 : decode cX7_job 86 = .ok (.putfield 36, 3) := by decide +kernel
theorem dX7_job_89 : decode cX7_job 89 = .ok (.ireturn, 1) := by decide +kernel
theorem dX7_fault_0 : decode cX7_fault 0 = .ok (.aload_n 0, 1) := by decide +kernel
theorem dX7_fault_1 : decode cX7_fault 1 = .ok (.getfield 40, 3) := by decide +kernel
theorem dX7_fault_4 : decode cX7_fault 4 = .ok (.ireturn, 1) := by decide +kernel
theorem dX7_erase_0 : decode cX7_erase 0 = .ok (.aload_n 0, 1) := by decide +kernel
theorem dX7_erase_1 : decode cX7_erase 1 = .ok (.getfield 10, 3) := by decide +kernel
theorem dX7_erase_4 : decode cX7_erase 4 = .ok (.getfield 56, 3) := by decide +kernel
theorem dX7_erase_7 : decode cX7_erase 7 = .ok (.invokevirtual 83, 3) := by decide +kernel
theorem dX7_erase_10 : decode cX7_erase 10 = .ok (.return_, 1) := by decide +kernel
theorem dX7_task_0 : decode cX7_task 0 = .ok (.aload_n 0, 1) := by decide +kernel
theorem dX7_task_1 : decode cX7_task 1 = .ok (.iload_n 1, 1) := by decide +kernel
theorem dX7_task_2 : decode cX7_task 2 = .ok (.invokevirtual 86, 3) := by decide +kernel
theorem dX7_task_5 : decode cX7_task 5 = .ok (.ifCond .ne 11, 3) := by decide +kernel
theorem dX7_task_8 : decode cX7_task 8 = .ok (.new 90, 3) := by decide +kernel
theorem dX7_task_11 : decode cX7_task 11 = .ok (.dup, 1) := by decide +kernel
theorem dX7_task_12 : decode cX7_task 12 = .ok (.invokespecial 92, 3) := by decide +kernel
theorem dX7_task_15 : decode cX7_task 15 = .ok (.athrow, 1) := by decide +kernel
theorem dX7_task_16 : decode cX7_task 16 = .ok (.aload_n 0, 1) := by decide +kernel
theorem dX7_task_17 : decode cX7_task 17 = .ok (.getfield 32, 3) := by decide +kernel
theorem dX7_task_20 : decode cX7_task 20 = .ok (.iload_n 1, 1) := by decide +kernel
theorem dX7_task_21 : decode cX7_task 21 = .ok (.aaload, 1) := by decide +kernel
theorem dX7_task_22 : decode cX7_task 22 = .ok (.astore 5, 2) := by decide +kernel
theorem dX7_task_24 : decode cX7_task 24 = .ok (.aload 5, 2) := by decide +kernel
theorem dX7_task_26 : decode cX7_task 26 = .ok (.getfield 93, 3) := by decide +kernel
theorem dX7_task_29 : decode cX7_task 29 = .ok (.bipush 6, 2) := by decide +kernel
theorem dX7_task_31 : decode cX7_task 31 = .ok (.if_icmp .ge 11, 3) := by decide +kernel
theorem dX7_task_34 : decode cX7_task 34 = .ok (.aload 5, 2) := by decide +kernel
theorem dX7_task_36 : decode cX7_task 36 = .ok (.getfield 96, 3) := by decide +kernel
theorem dX7_task_39 : decode cX7_task 39 = .ok (.ifCond .eq 11, 3) := by decide +kernel
theorem dX7_task_42 : decode cX7_task 42 = .ok (.new 66, 3) := by decide +kernel
theorem dX7_task_45 : decode cX7_task 45 = .ok (.dup, 1) := by decide +kernel
theorem dX7_task_46 : decode cX7_task 46 = .ok (.invokespecial 68, 3) := by decide +kernel
theorem dX7_task_49 : decode cX7_task 49 = .ok (.athrow, 1) := by decide +kernel
theorem dX7_task_50 : decode cX7_task 50 = .ok (.iload_n 2, 1) := by decide +kernel
theorem dX7_task_51 : decode cX7_task 51 = .ok (.aload 5, 2) := by decide +kernel
theorem dX7_task_53 : decode cX7_task 53 = .ok (.invokevirtual 99, 3) := by decide +kernel
theorem dX7_task_56 : decode cX7_task 56 = .ok (.iconst (-1), 1) := by decide +kernel
theorem dX7_task_57 : decode cX7_task 57 = .ok (.ixor, 1) := by decide +kernel
theorem dX7_task_58 : decode cX7_task 58 = .ok (.iand, 1) := by decide +kernel
theorem dX7_task_59 : decode cX7_task 59 = .ok (.ifCond .eq 7, 3) := by decide +kernel
theorem dX7_task_62 : decode cX7_task 62 = .ok (.iconst 1, 1) := by decide +kernel
theorem dX7_task_63 : decode cX7_task 63 = .ok (.goto 4, 3) := by decide +kernel
theorem dX7_task_66 : decode cX7_task 66 = .ok (.iconst 0, 1) := by decide +kernel
theorem dX7_task_67 : decode cX7_task 67 = .ok (.istore 6, 2) := by decide +kernel
theorem dX7_task_69 : decode cX7_task 69 = .ok (.iload 6, 2) := by decide +kernel
theorem dX7_task_71 : decode cX7_task 71 = .ok (.ifCond .ne 26, 3) := by decide +kernel
theorem dX7_task_74 : decode cX7_task 74 = .ok (.iload_n 3, 1) := by decide +kernel
theorem dX7_task_75 : decode cX7_task 75 = .ok (.iconst 1, 1) := by decide +kernel
theorem dX7_task_76 : decode cX7_task 76 = .ok (.if_icmp .lt 21, 3) := by decide +kernel
theorem dX7_task_79 : decode cX7_task 79 = .ok (.iload_n 3, 1) := by decide +kernel
theorem dX7_task_80 : decode cX7_task 80 = .ok (.iconst 4, 1) := by decide +kernel
theorem dX7_task_81 : decode cX7_task 81 = .ok (.if_icmp .gt 16, 3) := by decide +kernel
theorem dX7_task_84 : decode cX7_task 84 = .ok (.iload 4, 2) := by decide +kernel
theorem dX7_task_86 : decode cX7_task 86 = .ok (.ifCond .lt 11, 3) := by decide +kernel
theorem dX7_task_89 : decode cX7_task 89 = .ok (.iload 4, 2) := by decide +kernel
theorem dX7_task_91 : decode cX7_task 91 = .ok (.sipush 1000, 3) := by decide +kernel
theorem dX7_task_94 : decode cX7_task 94 = .ok (.if_icmp .le 11, 3) := by decide +kernel
theorem dX7_task_97 : decode cX7_task 97 = .ok (.new 73, 3) := by decide +kernel
theorem dX7_task_100 : decode cX7_task 100 = .ok (.dup, 1) := by decide +kernel
theorem dX7_task_101 : decode cX7_task 101 = .ok (.invokespecial 75, 3) := by decide +kernel
theorem dX7_task_104 : decode cX7_task 104 = .ok (.athrow, 1) := by decide +kernel
theorem dX7_task_105 : decode cX7_task 105 = .ok (.aload 5, 2) := by decide +kernel
theorem dX7_task_107 : decode cX7_task 107 = .ok (.new 102, 3) := by decide +kernel
theorem dX7_task_110 : decode cX7_task 110 = .ok (.dup, 1) := by decide +kernel
theorem dX7_task_111 : decode cX7_task 111 = .ok (.iload_n 2, 1) := by decide +kernel
theorem dX7_task_112 : decode cX7_task 112 = .ok (.iload_n 3, 1) := by decide +kernel
theorem dX7_task_113 : decode cX7_task 113 = .ok (.iload 4, 2) := by decide +kernel
theorem dX7_task_115 : decode cX7_task 115 = .ok (.invokespecial 104, 3) := by decide +kernel
theorem dX7_task_118 : decode cX7_task 118 = .ok (.invokevirtual 107, 3) := by decide +kernel
theorem dX7_task_121 : decode cX7_task 121 = .ok (.ireturn, 1) := by decide +kernel
theorem dX7_slots_0 : decode cX7_slots 0 = .ok (.iload_n 1, 1) := by decide +kernel
theorem dX7_slots_1 : decode cX7_slots 1 = .ok (.iconst 1, 1) := by decide +kernel
theorem dX7_slots_2 : decode cX7_slots 2 = .ok (.if_icmp .lt 9, 3) := by decide +kernel
theorem dX7_slots_5 : decode cX7_slots 5 = .ok (.iload_n 1, 1) := by decide +kernel
theorem dX7_slots_6 : decode cX7_slots 6 = .ok (.bipush 6, 2) := by decide +kernel
theorem dX7_slots_8 : decode cX7_slots 8 = .ok (.if_icmp .le 5, 3) := by decide +kernel
theorem dX7_slots_11 : decode cX7_slots 11 = .ok (.iconst 0, 1) := by decide +kernel
theorem dX7_slots_12 : decode cX7_slots 12 = .ok (.ireturn, 1) := by decide +kernel
theorem dX7_slots_13 : decode cX7_slots 13 = .ok (.aload_n 0, 1) := by decide +kernel
theorem dX7_slots_14 : decode cX7_slots 14 = .ok (.iload_n 1, 1) := by decide +kernel
theorem dX7_slots_15 : decode cX7_slots 15 = .ok (.putfield 43, 3) := by decide +kernel
theorem dX7_slots_18 : decode cX7_slots 18 = .ok (.iconst 1, 1) := by decide +kernel
theorem dX7_slots_19 : decode cX7_slots 19 = .ok (.ireturn, 1) := by decide +kernel
theorem dX7_holds_0 : decode cX7_holds 0 = .ok (.aload_n 0, 1) := by decide +kernel
theorem dX7_holds_1 : decode cX7_holds 1 = .ok (.iload_n 1, 1) := by decide +kernel
theorem dX7_holds_2 : decode cX7_holds 2 = .ok (.invokevirtual 86, 3) := by decide +kernel
theorem dX7_holds_5 : decode cX7_holds 5 = .ok (.ifCond .ne 11, 3) := by decide +kernel
theorem dX7_holds_8 : decode cX7_holds 8 = .ok (.new 90, 3) := by decide +kernel
theorem dX7_holds_11 : decode cX7_holds 11 = .ok (.dup, 1) := by decide +kernel
theorem dX7_holds_12 : decode cX7_holds 12 = .ok (.invokespecial 92, 3) := by decide +kernel
theorem dX7_holds_15 : decode cX7_holds 15 = .ok (.athrow, 1) := by decide +kernel
theorem dX7_holds_16 : decode cX7_holds 16 = .ok (.iload_n 2, 1) := by decide +kernel
theorem dX7_holds_17 : decode cX7_holds 17 = .ok (.invokestatic 111, 3) := by decide +kernel
theorem dX7_holds_20 : decode cX7_holds 20 = .ok (.ifCond .ne 11, 3) := by decide +kernel
theorem dX7_holds_23 : decode cX7_holds 23 = .ok (.new 73, 3) := by decide +kernel
theorem dX7_holds_26 : decode cX7_holds 26 = .ok (.dup, 1) := by decide +kernel
theorem dX7_holds_27 : decode cX7_holds 27 = .ok (.invokespecial 75, 3) := by decide +kernel
theorem dX7_holds_30 : decode cX7_holds 30 = .ok (.athrow, 1) := by decide +kernel
theorem dX7_holds_31 : decode cX7_holds 31 = .ok (.aload_n 0, 1) := by decide +kernel
theorem dX7_holds_32 : decode cX7_holds 32 = .ok (.aload_n 0, 1) := by decide +kernel
theorem dX7_holds_33 : decode cX7_holds 33 = .ok (.getfield 32, 3) := by decide +kernel
theorem dX7_holds_36 : decode cX7_holds 36 = .ok (.iload_n 1, 1) := by decide +kernel
theorem dX7_holds_37 : decode cX7_holds 37 = .ok (.aaload, 1) := by decide +kernel
theorem dX7_holds_38 : decode cX7_holds 38 = .ok (.getfield 114, 3) := by decide +kernel
theorem dX7_holds_41 : decode cX7_holds 41 = .ok (.iload_n 2, 1) := by decide +kernel
theorem dX7_holds_42 : decode cX7_holds 42 = .ok (.invokevirtual 117, 3) := by decide +kernel
theorem dX7_holds_45 : decode cX7_holds 45 = .ok (.ireturn, 1) := by decide +kernel
theorem dX7_next_0 : decode cX7_next 0 = .ok (.aload_n 0, 1) := by decide +kernel
theorem dX7_next_1 : decode cX7_next 1 = .ok (.iload_n 1, 1) := by decide +kernel
theorem dX7_next_2 : decode cX7_next 2 = .ok (.invokevirtual 86, 3) := by decide +kernel
theorem dX7_next_5 : decode cX7_next 5 = .ok (.ifCond .ne 11, 3) := by decide +kernel
theorem dX7_next_8 : decode cX7_next 8 = .ok (.new 90, 3) := by decide +kernel
theorem dX7_next_11 : decode cX7_next 11 = .ok (.dup, 1) := by decide +kernel
theorem dX7_next_12 : decode cX7_next 12 = .ok (.invokespecial 92, 3) := by decide +kernel
theorem dX7_next_15 : decode cX7_next 15 = .ok (.athrow, 1) := by decide +kernel
theorem dX7_next_16 : decode cX7_next 16 = .ok (.iload_n 2, 1) := by decide +kernel
theorem dX7_next_17 : decode cX7_next 17 = .ok (.invokestatic 111, 3) := by decide +kernel
theorem dX7_next_20 : decode cX7_next 20 = .ok (.ifCond .ne 11, 3) := by decide +kernel
theorem dX7_next_23 : decode cX7_next 23 = .ok (.new 73, 3) := by decide +kernel
theorem dX7_next_26 : decode cX7_next 26 = .ok (.dup, 1) := by decide +kernel
theorem dX7_next_27 : decode cX7_next 27 = .ok (.invokespecial 75, 3) := by decide +kernel
theorem dX7_next_30 : decode cX7_next 30 = .ok (.athrow, 1) := by decide +kernel
theorem dX7_next_31 : decode cX7_next 31 = .ok (.aload_n 0, 1) := by decide +kernel
theorem dX7_next_32 : decode cX7_next 32 = .ok (.aload_n 0, 1) := by decide +kernel
theorem dX7_next_33 : decode cX7_next 33 = .ok (.getfield 32, 3) := by decide +kernel
theorem dX7_next_36 : decode cX7_next 36 = .ok (.iload_n 1, 1) := by decide +kernel
theorem dX7_next_37 : decode cX7_next 37 = .ok (.aaload, 1) := by decide +kernel
theorem dX7_next_38 : decode cX7_next 38 = .ok (.getfield 114, 3) := by decide +kernel
theorem dX7_next_41 : decode cX7_next 41 = .ok (.iload_n 2, 1) := by decide +kernel
theorem dX7_next_42 : decode cX7_next 42 = .ok (.ldc 121, 2) := by decide +kernel
theorem dX7_next_44 : decode cX7_next 44 = .ok (.invokevirtual 122, 3) := by decide +kernel
theorem dX7_next_47 : decode cX7_next 47 = .ok (.ireturn, 1) := by decide +kernel
theorem dX7_part_0 : decode cX7_part 0 = .ok (.iload_n 1, 1) := by decide +kernel
theorem dX7_part_1 : decode cX7_part 1 = .ok (.invokestatic 111, 3) := by decide +kernel
theorem dX7_part_4 : decode cX7_part 4 = .ok (.ifCond .eq 12, 3) := by decide +kernel
theorem dX7_part_7 : decode cX7_part 7 = .ok (.iload_n 2, 1) := by decide +kernel
theorem dX7_part_8 : decode cX7_part 8 = .ok (.ifCond .lt 8, 3) := by decide +kernel
theorem dX7_part_11 : decode cX7_part 11 = .ok (.iload_n 2, 1) := by decide +kernel
theorem dX7_part_12 : decode cX7_part 12 = .ok (.iconst 5, 1) := by decide +kernel
theorem dX7_part_13 : decode cX7_part 13 = .ok (.if_icmp .le 11, 3) := by decide +kernel
theorem dX7_part_16 : decode cX7_part 16 = .ok (.new 73, 3) := by decide +kernel
theorem dX7_part_19 : decode cX7_part 19 = .ok (.dup, 1) := by decide +kernel
theorem dX7_part_20 : decode cX7_part 20 = .ok (.invokespecial 75, 3) := by decide +kernel
theorem dX7_part_23 : decode cX7_part 23 = .ok (.athrow, 1) := by decide +kernel
theorem dX7_part_24 : decode cX7_part 24 = .ok (.aload_n 0, 1) := by decide +kernel
theorem dX7_part_25 : decode cX7_part 25 = .ok (.getfield 19, 3) := by decide +kernel
theorem dX7_part_28 : decode cX7_part 28 = .ok (.iload_n 1, 1) := by decide +kernel
theorem dX7_part_29 : decode cX7_part 29 = .ok (.sipush 1440, 3) := by decide +kernel
theorem dX7_part_32 : decode cX7_part 32 = .ok (.idiv, 1) := by decide +kernel
theorem dX7_part_33 : decode cX7_part 33 = .ok (.invokevirtual 126, 3) := by decide +kernel
theorem dX7_part_36 : decode cX7_part 36 = .ok (.iload_n 2, 1) := by decide +kernel
theorem dX7_part_37 : decode cX7_part 37 = .ok (.tableswitch 73 0 4 #[35, 43, 51, 59, 68], 35) := by decide +kernel
theorem dX7_part_72 : decode cX7_part 72 = .ok (.aload_n 0, 1) := by decide +kernel
theorem dX7_part_73 : decode cX7_part 73 = .ok (.getfield 19, 3) := by decide +kernel
theorem dX7_part_76 : decode cX7_part 76 = .ok (.getfield 130, 3) := by decide +kernel
theorem dX7_part_79 : decode cX7_part 79 = .ok (.ireturn, 1) := by decide +kernel
theorem dX7_part_80 : decode cX7_part 80 = .ok (.aload_n 0, 1) := by decide +kernel
theorem dX7_part_81 : decode cX7_part 81 = .ok (.getfield 19, 3) := by decide +kernel
theorem dX7_part_84 : decode cX7_part 84 = .ok (.getfield 133, 3) := by decide +kernel
theorem dX7_part_87 : decode cX7_part 87 = .ok (.ireturn, 1) := by decide +kernel
theorem dX7_part_88 : decode cX7_part 88 = .ok (.aload_n 0, 1) := by decide +kernel
theorem dX7_part_89 : decode cX7_part 89 = .ok (.getfield 19, 3) := by decide +kernel
theorem dX7_part_92 : decode cX7_part 92 = .ok (.getfield 136, 3) := by decide +kernel
theorem dX7_part_95 : decode cX7_part 95 = .ok (.ireturn, 1) := by decide +kernel
theorem dX7_part_96 : decode cX7_part 96 = .ok (.iload_n 1, 1) := by decide +kernel
theorem dX7_part_97 : decode cX7_part 97 = .ok (.sipush 1440, 3) := by decide +kernel
theorem dX7_part_100 : decode cX7_part 100 = .ok (.irem, 1) := by decide +kernel
theorem dX7_part_101 : decode cX7_part 101 = .ok (.bipush 60, 2) := by decide +kernel
theorem dX7_part_103 : decode cX7_part 103 = .ok (.idiv, 1) := by decide +kernel
theorem dX7_part_104 : decode cX7_part 104 = .ok (.ireturn, 1) := by decide +kernel
theorem dX7_part_105 : decode cX7_part 105 = .ok (.iload_n 1, 1) := by decide +kernel
theorem dX7_part_106 : decode cX7_part 106 = .ok (.bipush 60, 2) := by decide +kernel
theorem dX7_part_108 : decode cX7_part 108 = .ok (.irem, 1) := by decide +kernel
theorem dX7_part_109 : decode cX7_part 109 = .ok (.ireturn, 1) := by decide +kernel
theorem dX7_part_110 : decode cX7_part 110 = .ok (.aload_n 0, 1) := by decide +kernel
theorem dX7_part_111 : decode cX7_part 111 = .ok (.getfield 19, 3) := by decide +kernel
theorem dX7_part_114 : decode cX7_part 114 = .ok (.invokevirtual 139, 3) := by decide +kernel
theorem dX7_part_117 : decode cX7_part 117 = .ok (.ireturn, 1) := by decide +kernel
theorem dX7_pass_0 : decode cX7_pass 0 = .ok (.iload_n 1, 1) := by decide +kernel
theorem dX7_pass_1 : decode cX7_pass 1 = .ok (.iconst 1, 1) := by decide +kernel
theorem dX7_pass_2 : decode cX7_pass 2 = .ok (.if_icmp .lt 10, 3) := by decide +kernel
theorem dX7_pass_5 : decode cX7_pass 5 = .ok (.iload_n 1, 1) := by decide +kernel
theorem dX7_pass_6 : decode cX7_pass 6 = .ok (.sipush 5000, 3) := by decide +kernel
theorem dX7_pass_9 : decode cX7_pass 9 = .ok (.if_icmp .le 11, 3) := by decide +kernel
theorem dX7_pass_12 : decode cX7_pass 12 = .ok (.new 73, 3) := by decide +kernel
theorem dX7_pass_15 : decode cX7_pass 15 = .ok (.dup, 1) := by decide +kernel
theorem dX7_pass_16 : decode cX7_pass 16 = .ok (.invokespecial 75, 3) := by decide +kernel
theorem dX7_pass_19 : decode cX7_pass 19 = .ok (.athrow, 1) := by decide +kernel
theorem dX7_pass_20 : decode cX7_pass 20 = .ok (.aload_n 0, 1) := by decide +kernel
theorem dX7_pass_21 : decode cX7_pass 21 = .ok (.getfield 46, 3) := by decide +kernel
theorem dX7_pass_24 : decode cX7_pass 24 = .ok (.iload_n 1, 1) := by decide +kernel
theorem dX7_pass_25 : decode cX7_pass 25 = .ok (.iadd, 1) := by decide +kernel
theorem dX7_pass_26 : decode cX7_pass 26 = .ok (.ldc 142, 2) := by decide +kernel
theorem dX7_pass_28 : decode cX7_pass 28 = .ok (.if_icmp .lt 11, 3) := by decide +kernel
theorem dX7_pass_31 : decode cX7_pass 31 = .ok (.new 143, 3) := by decide +kernel
theorem dX7_pass_34 : decode cX7_pass 34 = .ok (.dup, 1) := by decide +kernel
theorem dX7_pass_35 : decode cX7_pass 35 = .ok (.invokespecial 145, 3) := by decide +kernel
theorem dX7_pass_38 : decode cX7_pass 38 = .ok (.athrow, 1) := by decide +kernel
theorem dX7_pass_39 : decode cX7_pass 39 = .ok (.aload_n 0, 1) := by decide +kernel
theorem dX7_pass_40 : decode cX7_pass 40 = .ok (.getfield 49, 3) := by decide +kernel
theorem dX7_pass_43 : decode cX7_pass 43 = .ok (.ifCond .eq 15, 3) := by decide +kernel
theorem dX7_pass_46 : decode cX7_pass 46 = .ok (.aload_n 0, 1) := by decide +kernel
theorem dX7_pass_47 : decode cX7_pass 47 = .ok (.dup, 1) := by decide +kernel
theorem dX7_pass_48 : decode cX7_pass 48 = .ok (.getfield 46, 3) := by decide +kernel
theorem dX7_pass_51 : decode cX7_pass 51 = .ok (.iload_n 1, 1) := by decide +kernel
theorem dX7_pass_52 : decode cX7_pass 52 = .ok (.iadd, 1) := by decide +kernel
theorem dX7_pass_53 : decode cX7_pass 53 = .ok (.putfield 46, 3) := by decide +kernel
theorem dX7_pass_56 : decode cX7_pass 56 = .ok (.iconst 0, 1) := by decide +kernel
theorem dX7_pass_57 : decode cX7_pass 57 = .ok (.ireturn, 1) := by decide +kernel
theorem dX7_pass_58 : decode cX7_pass 58 = .ok (.iconst 0, 1) := by decide +kernel
theorem dX7_pass_59 : decode cX7_pass 59 = .ok (.istore_n 2, 1) := by decide +kernel
theorem dX7_pass_60 : decode cX7_pass 60 = .ok (.iconst 0, 1) := by decide +kernel
theorem dX7_pass_61 : decode cX7_pass 61 = .ok (.istore_n 3, 1) := by decide +kernel
theorem dX7_pass_62 : decode cX7_pass 62 = .ok (.iload_n 3, 1) := by decide +kernel
theorem dX7_pass_63 : decode cX7_pass 63 = .ok (.iload_n 1, 1) := by decide +kernel
theorem dX7_pass_64 : decode cX7_pass 64 = .ok (.if_icmp .ge 16, 3) := by decide +kernel
theorem dX7_pass_67 : decode cX7_pass 67 = .ok (.iload_n 2, 1) := by decide +kernel
theorem dX7_pass_68 : decode cX7_pass 68 = .ok (.aload_n 0, 1) := by decide +kernel
theorem dX7_pass_69 : decode cX7_pass 69 = .ok (.invokevirtual 146, 3) := by decide +kernel
theorem dX7_pass_72 : decode cX7_pass 72 = .ok (.iadd, 1) := by decide +kernel
theorem dX7_pass_73 : decode cX7_pass 73 = .ok (.istore_n 2, 1) := by decide +kernel
theorem dX7_pass_74 : decode cX7_pass 74 = .ok (.iinc 3 1, 3) := by decide +kernel
theorem dX7_pass_77 : decode cX7_pass 77 = .ok (.goto (-15), 3) := by decide +kernel
theorem dX7_pass_80 : decode cX7_pass 80 = .ok (.iload_n 2, 1) := by decide +kernel
theorem dX7_pass_81 : decode cX7_pass 81 = .ok (.ireturn, 1) := by decide +kernel
theorem dX7_set_0 : decode cX7_set 0 = .ok (.aload_n 0, 1) := by decide +kernel
theorem dX7_set_1 : decode cX7_set 1 = .ok (.getfield 49, 3) := by decide +kernel
theorem dX7_set_4 : decode cX7_set 4 = .ok (.ifCond .ne 10, 3) := by decide +kernel
theorem dX7_set_7 : decode cX7_set 7 = .ok (.aload_n 0, 1) := by decide +kernel
theorem dX7_set_8 : decode cX7_set 8 = .ok (.invokevirtual 149, 3) := by decide +kernel
theorem dX7_set_11 : decode cX7_set 11 = .ok (.ifCond .eq 11, 3) := by decide +kernel
theorem dX7_set_14 : decode cX7_set 14 = .ok (.new 143, 3) := by decide +kernel
theorem dX7_set_17 : decode cX7_set 17 = .ok (.dup, 1) := by decide +kernel
theorem dX7_set_18 : decode cX7_set 18 = .ok (.invokespecial 145, 3) := by decide +kernel
theorem dX7_set_21 : decode cX7_set 21 = .ok (.athrow, 1) := by decide +kernel
theorem dX7_set_22 : decode cX7_set 22 = .ok (.iload_n 1, 1) := by decide +kernel
theorem dX7_set_23 : decode cX7_set 23 = .ok (.aload_n 0, 1) := by decide +kernel
theorem dX7_set_24 : decode cX7_set 24 = .ok (.getfield 46, 3) := by decide +kernel
theorem dX7_set_27 : decode cX7_set 27 = .ok (.if_icmp .lt 9, 3) := by decide +kernel
theorem dX7_set_30 : decode cX7_set 30 = .ok (.iload_n 1, 1) := by decide +kernel
theorem dX7_set_31 : decode cX7_set 31 = .ok (.ldc 142, 2) := by decide +kernel
theorem dX7_set_33 : decode cX7_set 33 = .ok (.if_icmp .lt 11, 3) := by decide +kernel
theorem dX7_set_36 : decode cX7_set 36 = .ok (.new 73, 3) := by decide +kernel
theorem dX7_set_39 : decode cX7_set 39 = .ok (.dup, 1) := by decide +kernel
theorem dX7_set_40 : decode cX7_set 40 = .ok (.invokespecial 75, 3) := by decide +kernel
theorem dX7_set_43 : decode cX7_set 43 = .ok (.athrow, 1) := by decide +kernel
theorem dX7_set_44 : decode cX7_set 44 = .ok (.aload_n 0, 1) := by decide +kernel
theorem dX7_set_45 : decode cX7_set 45 = .ok (.iload_n 1, 1) := by decide +kernel
theorem dX7_set_46 : decode cX7_set 46 = .ok (.putfield 46, 3) := by decide +kernel
theorem dX7_set_49 : decode cX7_set 49 = .ok (.return_, 1) := by decide +kernel
theorem dX7_end_0 : decode cX7_end 0 = .ok (.aload_n 0, 1) := by decide +kernel
theorem dX7_end_1 : decode cX7_end 1 = .ok (.iload_n 1, 1) := by decide +kernel
theorem dX7_end_2 : decode cX7_end 2 = .ok (.iload_n 2, 1) := by decide +kernel
theorem dX7_end_3 : decode cX7_end 3 = .ok (.invokevirtual 153, 3) := by decide +kernel
theorem dX7_end_6 : decode cX7_end 6 = .ok (.ifCond .ne 11, 3) := by decide +kernel
theorem dX7_end_9 : decode cX7_end 9 = .ok (.new 90, 3) := by decide +kernel
theorem dX7_end_12 : decode cX7_end 12 = .ok (.dup, 1) := by decide +kernel
theorem dX7_end_13 : decode cX7_end 13 = .ok (.invokespecial 92, 3) := by decide +kernel
theorem dX7_end_16 : decode cX7_end 16 = .ok (.athrow, 1) := by decide +kernel
theorem dX7_end_17 : decode cX7_end 17 = .ok (.aload_n 0, 1) := by decide +kernel
theorem dX7_end_18 : decode cX7_end 18 = .ok (.getfield 49, 3) := by decide +kernel
theorem dX7_end_21 : decode cX7_end 21 = .ok (.ifCond .ne 21, 3) := by decide +kernel
theorem dX7_end_24 : decode cX7_end 24 = .ok (.aload_n 0, 1) := by decide +kernel
theorem dX7_end_25 : decode cX7_end 25 = .ok (.getfield 32, 3) := by decide +kernel
theorem dX7_end_28 : decode cX7_end 28 = .ok (.iload_n 1, 1) := by decide +kernel
theorem dX7_end_29 : decode cX7_end 29 = .ok (.aaload, 1) := by decide +kernel
theorem dX7_end_30 : decode cX7_end 30 = .ok (.getfield 157, 3) := by decide +kernel
theorem dX7_end_33 : decode cX7_end 33 = .ok (.iload_n 2, 1) := by decide +kernel
theorem dX7_end_34 : decode cX7_end 34 = .ok (.aaload, 1) := by decide +kernel
theorem dX7_end_35 : decode cX7_end 35 = .ok (.getfield 161, 3) := by decide +kernel
theorem dX7_end_38 : decode cX7_end 38 = .ok (.iconst 3, 1) := by decide +kernel
theorem dX7_end_39 : decode cX7_end 39 = .ok (.if_icmp .eq 11, 3) := by decide +kernel
theorem dX7_end_42 : decode cX7_end 42 = .ok (.new 143, 3) := by decide +kernel
theorem dX7_end_45 : decode cX7_end 45 = .ok (.dup, 1) := by decide +kernel
theorem dX7_end_46 : decode cX7_end 46 = .ok (.invokespecial 145, 3) := by decide +kernel
theorem dX7_end_49 : decode cX7_end 49 = .ok (.athrow, 1) := by decide +kernel
theorem dX7_end_50 : decode cX7_end 50 = .ok (.aload_n 0, 1) := by decide +kernel
theorem dX7_end_51 : decode cX7_end 51 = .ok (.iload_n 1, 1) := by decide +kernel
theorem dX7_end_52 : decode cX7_end 52 = .ok (.iload_n 2, 1) := by decide +kernel
theorem dX7_end_53 : decode cX7_end 53 = .ok (.iload_n 3, 1) := by decide +kernel
theorem dX7_end_54 : decode cX7_end 54 = .ok (.invokevirtual 164, 3) := by decide +kernel
theorem dX7_end_57 : decode cX7_end 57 = .ok (.aload_n 0, 1) := by decide +kernel
theorem dX7_end_58 : decode cX7_end 58 = .ok (.getfield 32, 3) := by decide +kernel
theorem dX7_end_61 : decode cX7_end 61 = .ok (.iload_n 1, 1) := by decide +kernel
theorem dX7_end_62 : decode cX7_end 62 = .ok (.aaload, 1) := by decide +kernel
theorem dX7_end_63 : decode cX7_end 63 = .ok (.getfield 157, 3) := by decide +kernel
theorem dX7_end_66 : decode cX7_end 66 = .ok (.iload_n 2, 1) := by decide +kernel
theorem dX7_end_67 : decode cX7_end 67 = .ok (.aaload, 1) := by decide +kernel
theorem dX7_end_68 : decode cX7_end 68 = .ok (.getfield 161, 3) := by decide +kernel
theorem dX7_end_71 : decode cX7_end 71 = .ok (.ireturn, 1) := by decide +kernel
theorem dX7_down_0 : decode cX7_down 0 = .ok (.iload_n 1, 1) := by decide +kernel
theorem dX7_down_1 : decode cX7_down 1 = .ok (.aload_n 0, 1) := by decide +kernel
theorem dX7_down_2 : decode cX7_down 2 = .ok (.getfield 49, 3) := by decide +kernel
theorem dX7_down_5 : decode cX7_down 5 = .ok (.if_icmp .ne 11, 3) := by decide +kernel
theorem dX7_down_8 : decode cX7_down 8 = .ok (.new 143, 3) := by decide +kernel
theorem dX7_down_11 : decode cX7_down 11 = .ok (.dup, 1) := by decide +kernel
theorem dX7_down_12 : decode cX7_down 12 = .ok (.invokespecial 145, 3) := by decide +kernel
theorem dX7_down_15 : decode cX7_down 15 = .ok (.athrow, 1) := by decide +kernel
theorem dX7_down_16 : decode cX7_down 16 = .ok (.aload_n 0, 1) := by decide +kernel
theorem dX7_down_17 : decode cX7_down 17 = .ok (.iload_n 1, 1) := by decide +kernel
theorem dX7_down_18 : decode cX7_down 18 = .ok (.putfield 49, 3) := by decide +kernel
theorem dX7_down_21 : decode cX7_down 21 = .ok (.iload_n 1, 1) := by decide +kernel
theorem dX7_down_22 : decode cX7_down 22 = .ok (.ifCond .eq 13, 3) := by decide +kernel
theorem dX7_down_25 : decode cX7_down 25 = .ok (.aload_n 0, 1) := by decide +kernel
theorem dX7_down_26 : decode cX7_down 26 = .ok (.aload_n 0, 1) := by decide +kernel
theorem dX7_down_27 : decode cX7_down 27 = .ok (.getfield 46, 3) := by decide +kernel
theorem dX7_down_30 : decode cX7_down 30 = .ok (.putfield 53, 3) := by decide +kernel
theorem dX7_down_33 : decode cX7_down 33 = .ok (.iconst 0, 1) := by decide +kernel
theorem dX7_down_34 : decode cX7_down 34 = .ok (.ireturn, 1) := by decide +kernel
theorem dX7_down_35 : decode cX7_down 35 = .ok (.aload_n 0, 1) := by decide +kernel
theorem dX7_down_36 : decode cX7_down 36 = .ok (.invokevirtual 168, 3) := by decide +kernel
theorem dX7_down_39 : decode cX7_down 39 = .ok (.ireturn, 1) := by decide +kernel
theorem dX7_now_0 : decode cX7_now 0 = .ok (.aload_n 0, 1) := by decide +kernel
theorem dX7_now_1 : decode cX7_now 1 = .ok (.getfield 46, 3) := by decide +kernel
theorem dX7_now_4 : decode cX7_now 4 = .ok (.ireturn, 1) := by decide +kernel
theorem dX7_state_0 : decode cX7_state 0 = .ok (.aload_n 0, 1) := by decide +kernel
theorem dX7_state_1 : decode cX7_state 1 = .ok (.iload_n 1, 1) := by decide +kernel
theorem dX7_state_2 : decode cX7_state 2 = .ok (.iload_n 2, 1) := by decide +kernel
theorem dX7_state_3 : decode cX7_state 3 = .ok (.invokevirtual 153, 3) := by decide +kernel
theorem dX7_state_6 : decode cX7_state 6 = .ok (.ifCond .eq 20, 3) := by decide +kernel
theorem dX7_state_9 : decode cX7_state 9 = .ok (.aload_n 0, 1) := by decide +kernel
theorem dX7_state_10 : decode cX7_state 10 = .ok (.getfield 32, 3) := by decide +kernel
theorem dX7_state_13 : decode cX7_state 13 = .ok (.iload_n 1, 1) := by decide +kernel
theorem dX7_state_14 : decode cX7_state 14 = .ok (.aaload, 1) := by decide +kernel
theorem dX7_state_15 : decode cX7_state 15 = .ok (.getfield 157, 3) := by decide +kernel
theorem dX7_state_18 : decode cX7_state 18 = .ok (.iload_n 2, 1) := by decide +kernel
theorem dX7_state_19 : decode cX7_state 19 = .ok (.aaload, 1) := by decide +kernel
theorem dX7_state_20 : decode cX7_state 20 = .ok (.getfield 161, 3) := by decide +kernel
theorem dX7_state_23 : decode cX7_state 23 = .ok (.goto 4, 3) := by decide +kernel
theorem dX7_state_26 : decode cX7_state 26 = .ok (.iconst (-1), 1) := by decide +kernel
theorem dX7_state_27 : decode cX7_state 27 = .ok (.ireturn, 1) := by decide +kernel
theorem dX7_count_0 : decode cX7_count 0 = .ok (.iload_n 2, 1) := by decide +kernel
theorem dX7_count_1 : decode cX7_count 1 = .ok (.iconst 4, 1) := by decide +kernel
theorem dX7_count_2 : decode cX7_count 2 = .ok (.if_icmp .ne 8, 3) := by decide +kernel
theorem dX7_count_5 : decode cX7_count 5 = .ok (.aload_n 0, 1) := by decide +kernel
theorem dX7_count_6 : decode cX7_count 6 = .ok (.invokevirtual 171, 3) := by decide +kernel
theorem dX7_count_9 : decode cX7_count 9 = .ok (.ireturn, 1) := by decide +kernel
theorem dX7_count_10 : decode cX7_count 10 = .ok (.aload_n 0, 1) := by decide +kernel
theorem dX7_count_11 : decode cX7_count 11 = .ok (.iload_n 1, 1) := by decide +kernel
theorem dX7_count_12 : decode cX7_count 12 = .ok (.invokevirtual 86, 3) := by decide +kernel
theorem dX7_count_15 : decode cX7_count 15 = .ok (.ifCond .ne 5, 3) := by decide +kernel
theorem dX7_count_18 : decode cX7_count 18 = .ok (.iconst (-1), 1) := by decide +kernel
theorem dX7_count_19 : decode cX7_count 19 = .ok (.ireturn, 1) := by decide +kernel
theorem dX7_count_20 : decode cX7_count 20 = .ok (.iload_n 2, 1) := by decide +kernel
theorem dX7_count_21 : decode cX7_count 21 = .ok (.tableswitch 79 0 3 #[31, 41, 51, 69], 31) := by decide +kernel
theorem dX7_count_52 : decode cX7_count 52 = .ok (.aload_n 0, 1) := by decide +kernel
theorem dX7_count_53 : decode cX7_count 53 = .ok (.getfield 32, 3) := by decide +kernel
theorem dX7_count_56 : decode cX7_count 56 = .ok (.iload_n 1, 1) := by decide +kernel
theorem dX7_count_57 : decode cX7_count 57 = .ok (.aaload, 1) := by decide +kernel
theorem dX7_count_58 : decode cX7_count 58 = .ok (.getfield 174, 3) := by decide +kernel
theorem dX7_count_61 : decode cX7_count 61 = .ok (.ireturn, 1) := by decide +kernel
theorem dX7_count_62 : decode cX7_count 62 = .ok (.aload_n 0, 1) := by decide +kernel
theorem dX7_count_63 : decode cX7_count 63 = .ok (.getfield 32, 3) := by decide +kernel
theorem dX7_count_66 : decode cX7_count 66 = .ok (.iload_n 1, 1) := by decide +kernel
theorem dX7_count_67 : decode cX7_count 67 = .ok (.aaload, 1) := by decide +kernel
theorem dX7_count_68 : decode cX7_count 68 = .ok (.getfield 177, 3) := by decide +kernel
theorem dX7_count_71 : decode cX7_count 71 = .ok (.ireturn, 1) := by decide +kernel
theorem dX7_count_72 : decode cX7_count 72 = .ok (.aload_n 0, 1) := by decide +kernel
theorem dX7_count_73 : decode cX7_count 73 = .ok (.getfield 32, 3) := by decide +kernel
theorem dX7_count_76 : decode cX7_count 76 = .ok (.iload_n 1, 1) := by decide +kernel
theorem dX7_count_77 : decode cX7_count 77 = .ok (.aaload, 1) := by decide +kernel
theorem dX7_count_78 : decode cX7_count 78 = .ok (.getfield 96, 3) := by decide +kernel
theorem dX7_count_81 : decode cX7_count 81 = .ok (.ifCond .eq 7, 3) := by decide +kernel
theorem dX7_count_84 : decode cX7_count 84 = .ok (.iconst 1, 1) := by decide +kernel
theorem dX7_count_85 : decode cX7_count 85 = .ok (.goto 4, 3) := by decide +kernel
theorem dX7_count_88 : decode cX7_count 88 = .ok (.iconst 0, 1) := by decide +kernel
theorem dX7_count_89 : decode cX7_count 89 = .ok (.ireturn, 1) := by decide +kernel
theorem dX7_count_90 : decode cX7_count 90 = .ok (.aload_n 0, 1) := by decide +kernel
theorem dX7_count_91 : decode cX7_count 91 = .ok (.getfield 32, 3) := by decide +kernel
theorem dX7_count_94 : decode cX7_count 94 = .ok (.iload_n 1, 1) := by decide +kernel
theorem dX7_count_95 : decode cX7_count 95 = .ok (.aaload, 1) := by decide +kernel
theorem dX7_count_96 : decode cX7_count 96 = .ok (.getfield 93, 3) := by decide +kernel
theorem dX7_count_99 : decode cX7_count 99 = .ok (.ireturn, 1) := by decide +kernel
theorem dX7_count_100 : decode cX7_count 100 = .ok (.iconst (-1), 1) := by decide +kernel
theorem dX7_count_101 : decode cX7_count 101 = .ok (.ireturn, 1) := by decide +kernel
theorem dX7_entries_0 : decode cX7_entries 0 = .ok (.aload_n 0, 1) := by decide +kernel
theorem dX7_entries_1 : decode cX7_entries 1 = .ok (.getfield 26, 3) := by decide +kernel
theorem dX7_entries_4 : decode cX7_entries 4 = .ok (.getfield 180, 3) := by decide +kernel
theorem dX7_entries_7 : decode cX7_entries 7 = .ok (.ireturn, 1) := by decide +kernel
theorem dX7_entry_0 : decode cX7_entry 0 = .ok (.aload_n 0, 1) := by decide +kernel
theorem dX7_entry_1 : decode cX7_entry 1 = .ok (.getfield 26, 3) := by decide +kernel
theorem dX7_entry_4 : decode cX7_entry 4 = .ok (.iload_n 1, 1) := by decide +kernel
theorem dX7_entry_5 : decode cX7_entry 5 = .ok (.invokevirtual 183, 3) := by decide +kernel
theorem dX7_entry_8 : decode cX7_entry 8 = .ok (.ifCond .eq 12, 3) := by decide +kernel
theorem dX7_entry_11 : decode cX7_entry 11 = .ok (.iload_n 2, 1) := by decide +kernel
theorem dX7_entry_12 : decode cX7_entry 12 = .ok (.ifCond .lt 8, 3) := by decide +kernel
theorem dX7_entry_15 : decode cX7_entry 15 = .ok (.iload_n 2, 1) := by decide +kernel
theorem dX7_entry_16 : decode cX7_entry 16 = .ok (.iconst 4, 1) := by decide +kernel
theorem dX7_entry_17 : decode cX7_entry 17 = .ok (.if_icmp .lt 11, 3) := by decide +kernel
theorem dX7_entry_20 : decode cX7_entry 20 = .ok (.new 90, 3) := by decide +kernel
theorem dX7_entry_23 : decode cX7_entry 23 = .ok (.dup, 1) := by decide +kernel
theorem dX7_entry_24 : decode cX7_entry 24 = .ok (.invokespecial 92, 3) := by decide +kernel
theorem dX7_entry_27 : decode cX7_entry 27 = .ok (.athrow, 1) := by decide +kernel
theorem dX7_entry_28 : decode cX7_entry 28 = .ok (.aload_n 0, 1) := by decide +kernel
theorem dX7_entry_29 : decode cX7_entry 29 = .ok (.getfield 26, 3) := by decide +kernel
theorem dX7_entry_32 : decode cX7_entry 32 = .ok (.iload_n 1, 1) := by decide +kernel
theorem dX7_entry_33 : decode cX7_entry 33 = .ok (.iload_n 2, 1) := by decide +kernel
theorem dX7_entry_34 : decode cX7_entry 34 = .ok (.invokevirtual 186, 3) := by decide +kernel
theorem dX7_entry_37 : decode cX7_entry 37 = .ok (.ireturn, 1) := by decide +kernel
theorem dX7_isJob_0 : decode cX7_isJob 0 = .ok (.iload_n 1, 1) := by decide +kernel
theorem dX7_isJob_1 : decode cX7_isJob 1 = .ok (.ifCond .lt 15, 3) := by decide +kernel
theorem dX7_isJob_4 : decode cX7_isJob 4 = .ok (.iload_n 1, 1) := by decide +kernel
theorem dX7_isJob_5 : decode cX7_isJob 5 = .ok (.aload_n 0, 1) := by decide +kernel
theorem dX7_isJob_6 : decode cX7_isJob 6 = .ok (.getfield 36, 3) := by decide +kernel
theorem dX7_isJob_9 : decode cX7_isJob 9 = .ok (.if_icmp .ge 7, 3) := by decide +kernel
theorem dX7_isJob_12 : decode cX7_isJob 12 = .ok (.iconst 1, 1) := by decide +kernel
theorem dX7_isJob_13 : decode cX7_isJob 13 = .ok (.goto 4, 3) := by decide +kernel
theorem dX7_isJob_16 : decode cX7_isJob 16 = .ok (.iconst 0, 1) := by decide +kernel
theorem dX7_isJob_17 : decode cX7_isJob 17 = .ok (.ireturn, 1) := by decide +kernel
theorem dX7_isTask_0 : decode cX7_isTask 0 = .ok (.aload_n 0, 1) := by decide +kernel
theorem dX7_isTask_1 : decode cX7_isTask 1 = .ok (.iload_n 1, 1) := by decide +kernel
theorem dX7_isTask_2 : decode cX7_isTask 2 = .ok (.invokevirtual 86, 3) := by decide +kernel
theorem dX7_isTask_5 : decode cX7_isTask 5 = .ok (.ifCond .eq 24, 3) := by decide +kernel
theorem dX7_isTask_8 : decode cX7_isTask 8 = .ok (.iload_n 2, 1) := by decide +kernel
theorem dX7_isTask_9 : decode cX7_isTask 9 = .ok (.ifCond .lt 20, 3) := by decide +kernel
theorem dX7_isTask_12 : decode cX7_isTask 12 = .ok (.iload_n 2, 1) := by decide +kernel
theorem dX7_isTask_13 : decode cX7_isTask 13 = .ok (.aload_n 0, 1) := by decide +kernel
theorem dX7_isTask_14 : decode cX7_isTask 14 = .ok (.getfield 32, 3) := by decide +kernel
theorem dX7_isTask_17 : decode cX7_isTask 17 = .ok (.iload_n 1, 1) := by decide +kernel
theorem dX7_isTask_18 : decode cX7_isTask 18 = .ok (.aaload, 1) := by decide +kernel
theorem dX7_isTask_19 : decode cX7_isTask 19 = .ok (.getfield 93, 3) := by decide +kernel
theorem dX7_isTask_22 : decode cX7_isTask 22 = .ok (.if_icmp .ge 7, 3) := by decide +kernel
theorem dX7_isTask_25 : decode cX7_isTask 25 = .ok (.iconst 1, 1) := by decide +kernel
theorem dX7_isTask_26 : decode cX7_isTask 26 = .ok (.goto 4, 3) := by decide +kernel
theorem dX7_isTask_29 : decode cX7_isTask 29 = .ok (.iconst 0, 1) := by decide +kernel
theorem dX7_isTask_30 : decode cX7_isTask 30 = .ok (.ireturn, 1) := by decide +kernel
theorem dX7_isMinute_0 : decode cX7_isMinute 0 = .ok (.iload_n 0, 1) := by decide +kernel
theorem dX7_isMinute_1 : decode cX7_isMinute 1 = .ok (.ifCond .lt 13, 3) := by decide +kernel
theorem dX7_isMinute_4 : decode cX7_isMinute 4 = .ok (.iload_n 0, 1) := by decide +kernel
theorem dX7_isMinute_5 : decode cX7_isMinute 5 = .ok (.ldc 142, 2) := by decide +kernel
theorem dX7_isMinute_7 : decode cX7_isMinute 7 = .ok (.if_icmp .ge 7, 3) := by decide +kernel
theorem dX7_isMinute_10 : decode cX7_isMinute 10 = .ok (.iconst 1, 1) := by decide +kernel
theorem dX7_isMinute_11 : decode cX7_isMinute 11 = .ok (.goto 4, 3) := by decide +kernel
theorem dX7_isMinute_14 : decode cX7_isMinute 14 = .ok (.iconst 0, 1) := by decide +kernel
theorem dX7_isMinute_15 : decode cX7_isMinute 15 = .ok (.ireturn, 1) := by decide +kernel
theorem dX7_isAnyRunUnderWay_0 : decode cX7_isAnyRunUnderWay 0 = .ok (.iconst 0, 1) := by decide +kernel
theorem dX7_isAnyRunUnderWay_1 : decode cX7_isAnyRunUnderWay 1 = .ok (.istore_n 1, 1) := by decide +kernel
theorem dX7_isAnyRunUnderWay_2 : decode cX7_isAnyRunUnderWay 2 = .ok (.iload_n 1, 1) := by decide +kernel
theorem dX7_isAnyRunUnderWay_3 : decode cX7_isAnyRunUnderWay 3 = .ok (.aload_n 0, 1) := by decide +kernel
theorem dX7_isAnyRunUnderWay_4 : decode cX7_isAnyRunUnderWay 4 = .ok (.getfield 36, 3) := by decide +kernel
theorem dX7_isAnyRunUnderWay_7 : decode cX7_isAnyRunUnderWay 7 = .ok (.if_icmp .ge 23, 3) := by decide +kernel
theorem dX7_isAnyRunUnderWay_10 : decode cX7_isAnyRunUnderWay 10 = .ok (.aload_n 0, 1) := by decide +kernel
theorem dX7_isAnyRunUnderWay_11 : decode cX7_isAnyRunUnderWay 11 = .ok (.getfield 32, 3) := by decide +kernel
theorem dX7_isAnyRunUnderWay_14 : decode cX7_isAnyRunUnderWay 14 = .ok (.iload_n 1, 1) := by decide +kernel
theorem dX7_isAnyRunUnderWay_15 : decode cX7_isAnyRunUnderWay 15 = .ok (.aaload, 1) := by decide +kernel
theorem dX7_isAnyRunUnderWay_16 : decode cX7_isAnyRunUnderWay 16 = .ok (.getfield 96, 3) := by decide +kernel
theorem dX7_isAnyRunUnderWay_19 : decode cX7_isAnyRunUnderWay 19 = .ok (.ifCond .eq 5, 3) := by decide +kernel
theorem dX7_isAnyRunUnderWay_22 : decode cX7_isAnyRunUnderWay 22 = .ok (.iconst 1, 1) := by decide +kernel
theorem dX7_isAnyRunUnderWay_23 : decode cX7_isAnyRunUnderWay 23 = .ok (.ireturn, 1) := by decide +kernel
theorem dX7_isAnyRunUnderWay_24 : decode cX7_isAnyRunUnderWay 24 = .ok (.iinc 1 1, 3) := by decide +kernel
theorem dX7_isAnyRunUnderWay_27 : decode cX7_isAnyRunUnderWay 27 = .ok (.goto (-25), 3) := by decide +kernel
theorem dX7_isAnyRunUnderWay_30 : decode cX7_isAnyRunUnderWay 30 = .ok (.iconst 0, 1) := by decide +kernel
theorem dX7_isAnyRunUnderWay_31 : decode cX7_isAnyRunUnderWay 31 = .ok (.ireturn, 1) := by decide +kernel
theorem dX7_countRunning_0 : decode cX7_countRunning 0 = .ok (.iconst 0, 1) := by decide +kernel
theorem dX7_countRunning_1 : decode cX7_countRunning 1 = .ok (.istore_n 1, 1) := by decide +kernel
theorem dX7_countRunning_2 : decode cX7_countRunning 2 = .ok (.iconst 0, 1) := by decide +kernel
theorem dX7_countRunning_3 : decode cX7_countRunning 3 = .ok (.istore_n 2, 1) := by decide +kernel
theorem dX7_countRunning_4 : decode cX7_countRunning 4 = .ok (.iload_n 2, 1) := by decide +kernel
theorem dX7_countRunning_5 : decode cX7_countRunning 5 = .ok (.aload_n 0, 1) := by decide +kernel
theorem dX7_countRunning_6 : decode cX7_countRunning 6 = .ok (.getfield 36, 3) := by decide +kernel
theorem dX7_countRunning_9 : decode cX7_countRunning 9 = .ok (.if_icmp .ge 21, 3) := by decide +kernel
theorem dX7_countRunning_12 : decode cX7_countRunning 12 = .ok (.iload_n 1, 1) := by decide +kernel
theorem dX7_countRunning_13 : decode cX7_countRunning 13 = .ok (.aload_n 0, 1) := by decide +kernel
theorem dX7_countRunning_14 : decode cX7_countRunning 14 = .ok (.getfield 32, 3) := by decide +kernel
theorem dX7_countRunning_17 : decode cX7_countRunning 17 = .ok (.iload_n 2, 1) := by decide +kernel
theorem dX7_countRunning_18 : decode cX7_countRunning 18 = .ok (.aaload, 1) := by decide +kernel
theorem dX7_countRunning_19 : decode cX7_countRunning 19 = .ok (.invokevirtual 189, 3) := by decide +kernel
theorem dX7_countRunning_22 : decode cX7_countRunning 22 = .ok (.iadd, 1) := by decide +kernel
theorem dX7_countRunning_23 : decode cX7_countRunning 23 = .ok (.istore_n 1, 1) := by decide +kernel
theorem dX7_countRunning_24 : decode cX7_countRunning 24 = .ok (.iinc 2 1, 3) := by decide +kernel
theorem dX7_countRunning_27 : decode cX7_countRunning 27 = .ok (.goto (-23), 3) := by decide +kernel
theorem dX7_countRunning_30 : decode cX7_countRunning 30 = .ok (.iload_n 1, 1) := by decide +kernel
theorem dX7_countRunning_31 : decode cX7_countRunning 31 = .ok (.ireturn, 1) := by decide +kernel
theorem dX7_holdsAt_0 : decode cX7_holdsAt 0 = .ok (.aload_n 1, 1) := by decide +kernel
theorem dX7_holdsAt_1 : decode cX7_holdsAt 1 = .ok (.iload_n 2, 1) := by decide +kernel
theorem dX7_holdsAt_2 : decode cX7_holdsAt 2 = .ok (.sipush 1440, 3) := by decide +kernel
theorem dX7_holdsAt_5 : decode cX7_holdsAt 5 = .ok (.irem, 1) := by decide +kernel
theorem dX7_holdsAt_6 : decode cX7_holdsAt 6 = .ok (.invokevirtual 190, 3) := by decide +kernel
theorem dX7_holdsAt_9 : decode cX7_holdsAt 9 = .ok (.ifCond .ne 5, 3) := by decide +kernel
theorem dX7_holdsAt_12 : decode cX7_holdsAt 12 = .ok (.iconst 0, 1) := by decide +kernel
theorem dX7_holdsAt_13 : decode cX7_holdsAt 13 = .ok (.ireturn, 1) := by decide +kernel
theorem dX7_holdsAt_14 : decode cX7_holdsAt 14 = .ok (.aload_n 0, 1) := by decide +kernel
theorem dX7_holdsAt_15 : decode cX7_holdsAt 15 = .ok (.getfield 19, 3) := by decide +kernel
theorem dX7_holdsAt_18 : decode cX7_holdsAt 18 = .ok (.iload_n 2, 1) := by decide +kernel
theorem dX7_holdsAt_19 : decode cX7_holdsAt 19 = .ok (.sipush 1440, 3) := by decide +kernel
theorem dX7_holdsAt_22 : decode cX7_holdsAt 22 = .ok (.idiv, 1) := by decide +kernel
theorem dX7_holdsAt_23 : decode cX7_holdsAt 23 = .ok (.invokevirtual 126, 3) := by decide +kernel
theorem dX7_holdsAt_26 : decode cX7_holdsAt 26 = .ok (.aload_n 1, 1) := by decide +kernel
theorem dX7_holdsAt_27 : decode cX7_holdsAt 27 = .ok (.aload_n 0, 1) := by decide +kernel
theorem dX7_holdsAt_28 : decode cX7_holdsAt 28 = .ok (.getfield 19, 3) := by decide +kernel
theorem dX7_holdsAt_31 : decode cX7_holdsAt 31 = .ok (.invokevirtual 195, 3) := by decide +kernel
theorem dX7_holdsAt_34 : decode cX7_holdsAt 34 = .ok (.ireturn, 1) := by decide +kernel
theorem dX7_firstBehind_0 : decode cX7_firstBehind 0 = .ok (.iload_n 2, 1) := by decide +kernel
theorem dX7_firstBehind_1 : decode cX7_firstBehind 1 = .ok (.iconst 1, 1) := by decide +kernel
theorem dX7_firstBehind_2 : decode cX7_firstBehind 2 = .ok (.iadd, 1) := by decide +kernel
theorem dX7_firstBehind_3 : decode cX7_firstBehind 3 = .ok (.istore 4, 2) := by decide +kernel
theorem dX7_firstBehind_5 : decode cX7_firstBehind 5 = .ok (.iload 4, 2) := by decide +kernel
theorem dX7_firstBehind_7 : decode cX7_firstBehind 7 = .ok (.sipush 1440, 3) := by decide +kernel
theorem dX7_firstBehind_10 : decode cX7_firstBehind 10 = .ok (.irem, 1) := by decide +kernel
theorem dX7_firstBehind_11 : decode cX7_firstBehind 11 = .ok (.istore 5, 2) := by decide +kernel
theorem dX7_firstBehind_13 : decode cX7_firstBehind 13 = .ok (.iload 4, 2) := by decide +kernel
theorem dX7_firstBehind_15 : decode cX7_firstBehind 15 = .ok (.sipush 1440, 3) := by decide +kernel
theorem dX7_firstBehind_18 : decode cX7_firstBehind 18 = .ok (.idiv, 1) := by decide +kernel
theorem dX7_firstBehind_19 : decode cX7_firstBehind 19 = .ok (.istore 6, 2) := by decide +kernel
theorem dX7_firstBehind_21 : decode cX7_firstBehind 21 = .ok (.iload 6, 2) := by decide +kernel
theorem dX7_firstBehind_23 : decode cX7_firstBehind 23 = .ok (.iload_n 3, 1) := by decide +kernel
theorem dX7_firstBehind_24 : decode cX7_firstBehind 24 = .ok (.sipush 1440, 3) := by decide +kernel
theorem dX7_firstBehind_27 : decode cX7_firstBehind 27 = .ok (.idiv, 1) := by decide +kernel
theorem dX7_firstBehind_28 : decode cX7_firstBehind 28 = .ok (.if_icmp .gt 74, 3) := by decide +kernel
theorem dX7_firstBehind_31 : decode cX7_firstBehind 31 = .ok (.aload_n 0, 1) := by decide +kernel
theorem dX7_firstBehind_32 : decode cX7_firstBehind 32 = .ok (.getfield 19, 3) := by decide +kernel
theorem dX7_firstBehind_35 : decode cX7_firstBehind 35 = .ok (.iload 6, 2) := by decide +kernel
theorem dX7_firstBehind_37 : decode cX7_firstBehind 37 = .ok (.invokevirtual 126, 3) := by decide +kernel
theorem dX7_firstBehind_40 : decode cX7_firstBehind 40 = .ok (.aload_n 1, 1) := by decide +kernel
theorem dX7_firstBehind_41 : decode cX7_firstBehind 41 = .ok (.aload_n 0, 1) := by decide +kernel
theorem dX7_firstBehind_42 : decode cX7_firstBehind 42 = .ok (.getfield 19, 3) := by decide +kernel
theorem dX7_firstBehind_45 : decode cX7_firstBehind 45 = .ok (.invokevirtual 195, 3) := by decide +kernel
theorem dX7_firstBehind_48 : decode cX7_firstBehind 48 = .ok (.ifCond .eq 12, 3) := by decide +kernel
theorem dX7_firstBehind_51 : decode cX7_firstBehind 51 = .ok (.aload_n 1, 1) := by decide +kernel
theorem dX7_firstBehind_52 : decode cX7_firstBehind 52 = .ok (.iload 5, 2) := by decide +kernel
theorem dX7_firstBehind_54 : decode cX7_firstBehind 54 = .ok (.invokevirtual 199, 3) := by decide +kernel
theorem dX7_firstBehind_57 : decode cX7_firstBehind 57 = .ok (.goto 4, 3) := by decide +kernel
theorem dX7_firstBehind_60 : decode cX7_firstBehind 60 = .ok (.iconst (-1), 1) := by decide +kernel
theorem dX7_firstBehind_61 : decode cX7_firstBehind 61 = .ok (.istore 7, 2) := by decide +kernel
theorem dX7_firstBehind_63 : decode cX7_firstBehind 63 = .ok (.iload 7, 2) := by decide +kernel
theorem dX7_firstBehind_65 : decode cX7_firstBehind 65 = .ok (.iconst (-1), 1) := by decide +kernel
theorem dX7_firstBehind_66 : decode cX7_firstBehind 66 = .ok (.if_icmp .eq 27, 3) := by decide +kernel
theorem dX7_firstBehind_69 : decode cX7_firstBehind 69 = .ok (.iload 6, 2) := by decide +kernel
theorem dX7_firstBehind_71 : decode cX7_firstBehind 71 = .ok (.sipush 1440, 3) := by decide +kernel
theorem dX7_firstBehind_74 : decode cX7_firstBehind 74 = .ok (.imul, 1) := by decide +kernel
theorem dX7_firstBehind_75 : decode cX7_firstBehind 75 = .ok (.iload 7, 2) := by decide +kernel
theorem dX7_firstBehind_77 : decode cX7_firstBehind 77 = .ok (.iadd, 1) := by decide +kernel
theorem dX7_firstBehind_78 : decode cX7_firstBehind 78 = .ok (.istore 8, 2) := by decide +kernel
theorem dX7_firstBehind_80 : decode cX7_firstBehind 80 = .ok (.iload 8, 2) := by decide +kernel
theorem dX7_firstBehind_82 : decode cX7_firstBehind 82 = .ok (.iload_n 3, 1) := by decide +kernel
theorem dX7_firstBehind_83 : decode cX7_firstBehind 83 = .ok (.if_icmp .gt 8, 3) := by decide +kernel
theorem dX7_firstBehind_86 : decode cX7_firstBehind 86 = .ok (.iload 8, 2) := by decide +kernel
theorem dX7_firstBehind_88 : decode cX7_firstBehind 88 = .ok (.goto 4, 3) := by decide +kernel
theorem dX7_firstBehind_91 : decode cX7_firstBehind 91 = .ok (.iconst (-1), 1) := by decide +kernel
theorem dX7_firstBehind_92 : decode cX7_firstBehind 92 = .ok (.ireturn, 1) := by decide +kernel
theorem dX7_firstBehind_93 : decode cX7_firstBehind 93 = .ok (.iconst 0, 1) := by decide +kernel
theorem dX7_firstBehind_94 : decode cX7_firstBehind 94 = .ok (.istore 5, 2) := by decide +kernel
theorem dX7_firstBehind_96 : decode cX7_firstBehind 96 = .ok (.iinc 6 1, 3) := by decide +kernel
theorem dX7_firstBehind_99 : decode cX7_firstBehind 99 = .ok (.goto (-78), 3) := by decide +kernel
theorem dX7_firstBehind_102 : decode cX7_firstBehind 102 = .ok (.iconst (-1), 1) := by decide +kernel
theorem dX7_firstBehind_103 : decode cX7_firstBehind 103 = .ok (.ireturn, 1) := by decide +kernel
theorem dX7_makeStep_0 : decode cX7_makeStep 0 = .ok (.aload_n 0, 1) := by decide +kernel
theorem dX7_makeStep_1 : decode cX7_makeStep 1 = .ok (.dup, 1) := by decide +kernel
theorem dX7_makeStep_2 : decode cX7_makeStep 2 = .ok (.getfield 46, 3) := by decide +kernel
theorem dX7_makeStep_5 : decode cX7_makeStep 5 = .ok (.iconst 1, 1) := by decide +kernel
theorem dX7_makeStep_6 : decode cX7_makeStep 6 = .ok (.iadd, 1) := by decide +kernel
theorem dX7_makeStep_7 : decode cX7_makeStep 7 = .ok (.putfield 46, 3) := by decide +kernel
theorem dX7_makeStep_10 : decode cX7_makeStep 10 = .ok (.iconst 0, 1) := by decide +kernel
theorem dX7_makeStep_11 : decode cX7_makeStep 11 = .ok (.istore_n 1, 1) := by decide +kernel
theorem dX7_makeStep_12 : decode cX7_makeStep 12 = .ok (.iload_n 1, 1) := by decide +kernel
theorem dX7_makeStep_13 : decode cX7_makeStep 13 = .ok (.aload_n 0, 1) := by decide +kernel
theorem dX7_makeStep_14 : decode cX7_makeStep 14 = .ok (.getfield 36, 3) := by decide +kernel
theorem dX7_makeStep_17 : decode cX7_makeStep 17 = .ok (.if_icmp .ge 34, 3) := by decide +kernel
theorem dX7_makeStep_20 : decode cX7_makeStep 20 = .ok (.aload_n 0, 1) := by decide +kernel
theorem dX7_makeStep_21 : decode cX7_makeStep 21 = .ok (.aload_n 0, 1) := by decide +kernel
theorem dX7_makeStep_22 : decode cX7_makeStep 22 = .ok (.getfield 32, 3) := by decide +kernel
theorem dX7_makeStep_25 : decode cX7_makeStep 25 = .ok (.iload_n 1, 1) := by decide +kernel
theorem dX7_makeStep_26 : decode cX7_makeStep 26 = .ok (.aaload, 1) := by decide +kernel
theorem dX7_makeStep_27 : decode cX7_makeStep 27 = .ok (.getfield 114, 3) := by decide +kernel
theorem dX7_makeStep_30 : decode cX7_makeStep 30 = .ok (.aload_n 0, 1) := by decide +kernel
theorem dX7_makeStep_31 : decode cX7_makeStep 31 = .ok (.getfield 46, 3) := by decide +kernel
theorem dX7_makeStep_34 : decode cX7_makeStep 34 = .ok (.invokevirtual 117, 3) := by decide +kernel
theorem dX7_makeStep_37 : decode cX7_makeStep 37 = .ok (.ifCond .eq 8, 3) := by decide +kernel
theorem dX7_makeStep_40 : decode cX7_makeStep 40 = .ok (.aload_n 0, 1) := by decide +kernel
theorem dX7_makeStep_41 : decode cX7_makeStep 41 = .ok (.iload_n 1, 1) := by decide +kernel
theorem dX7_makeStep_42 : decode cX7_makeStep 42 = .ok (.invokevirtual 203, 3) := by decide +kernel
theorem dX7_makeStep_45 : decode cX7_makeStep 45 = .ok (.iinc 1 1, 3) := by decide +kernel
theorem dX7_makeStep_48 : decode cX7_makeStep 48 = .ok (.goto (-36), 3) := by decide +kernel
theorem dX7_makeStep_51 : decode cX7_makeStep 51 = .ok (.aload_n 0, 1) := by decide +kernel
theorem dX7_makeStep_52 : decode cX7_makeStep 52 = .ok (.invokevirtual 206, 3) := by decide +kernel
theorem dX7_makeStep_55 : decode cX7_makeStep 55 = .ok (.ireturn, 1) := by decide +kernel
theorem dX7_catchUp_0 : decode cX7_catchUp 0 = .ok (.iconst 0, 1) := by decide +kernel
theorem dX7_catchUp_1 : decode cX7_catchUp 1 = .ok (.istore_n 1, 1) := by decide +kernel
theorem dX7_catchUp_2 : decode cX7_catchUp 2 = .ok (.iload_n 1, 1) := by decide +kernel
theorem dX7_catchUp_3 : decode cX7_catchUp 3 = .ok (.aload_n 0, 1) := by decide +kernel
theorem dX7_catchUp_4 : decode cX7_catchUp 4 = .ok (.getfield 36, 3) := by decide +kernel
theorem dX7_catchUp_7 : decode cX7_catchUp 7 = .ok (.if_icmp .ge 55, 3) := by decide +kernel
theorem dX7_catchUp_10 : decode cX7_catchUp 10 = .ok (.iconst 0, 1) := by decide +kernel
theorem dX7_catchUp_11 : decode cX7_catchUp 11 = .ok (.istore_n 2, 1) := by decide +kernel
theorem dX7_catchUp_12 : decode cX7_catchUp 12 = .ok (.iload_n 2, 1) := by decide +kernel
theorem dX7_catchUp_13 : decode cX7_catchUp 13 = .ok (.aload_n 0, 1) := by decide +kernel
theorem dX7_catchUp_14 : decode cX7_catchUp 14 = .ok (.getfield 32, 3) := by decide +kernel
theorem dX7_catchUp_17 : decode cX7_catchUp 17 = .ok (.iload_n 1, 1) := by decide +kernel
theorem dX7_catchUp_18 : decode cX7_catchUp 18 = .ok (.aaload, 1) := by decide +kernel
theorem dX7_catchUp_19 : decode cX7_catchUp 19 = .ok (.getfield 93, 3) := by decide +kernel
theorem dX7_catchUp_22 : decode cX7_catchUp 22 = .ok (.if_icmp .ge 34, 3) := by decide +kernel
theorem dX7_catchUp_25 : decode cX7_catchUp 25 = .ok (.aload_n 0, 1) := by decide +kernel
theorem dX7_catchUp_26 : decode cX7_catchUp 26 = .ok (.getfield 32, 3) := by decide +kernel
theorem dX7_catchUp_29 : decode cX7_catchUp 29 = .ok (.iload_n 1, 1) := by decide +kernel
theorem dX7_catchUp_30 : decode cX7_catchUp 30 = .ok (.aaload, 1) := by decide +kernel
theorem dX7_catchUp_31 : decode cX7_catchUp 31 = .ok (.getfield 157, 3) := by decide +kernel
theorem dX7_catchUp_34 : decode cX7_catchUp 34 = .ok (.iload_n 2, 1) := by decide +kernel
theorem dX7_catchUp_35 : decode cX7_catchUp 35 = .ok (.aaload, 1) := by decide +kernel
theorem dX7_catchUp_36 : decode cX7_catchUp 36 = .ok (.getfield 161, 3) := by decide +kernel
theorem dX7_catchUp_39 : decode cX7_catchUp 39 = .ok (.iconst 3, 1) := by decide +kernel
theorem dX7_catchUp_40 : decode cX7_catchUp 40 = .ok (.if_icmp .ne 10, 3) := by decide +kernel
theorem dX7_catchUp_43 : decode cX7_catchUp 43 = .ok (.aload_n 0, 1) := by decide +kernel
theorem dX7_catchUp_44 : decode cX7_catchUp 44 = .ok (.iload_n 1, 1) := by decide +kernel
theorem dX7_catchUp_45 : decode cX7_catchUp 45 = .ok (.iload_n 2, 1) := by decide +kernel
theorem dX7_catchUp_46 : decode cX7_catchUp 46 = .ok (.iconst 0, 1) := by decide +kernel
theorem dX7_catchUp_47 : decode cX7_catchUp 47 = .ok (.invokevirtual 164, 3) := by decide +kernel
theorem dX7_catchUp_50 : decode cX7_catchUp 50 = .ok (.iinc 2 1, 3) := by decide +kernel
theorem dX7_catchUp_53 : decode cX7_catchUp 53 = .ok (.goto (-41), 3) := by decide +kernel
theorem dX7_catchUp_56 : decode cX7_catchUp 56 = .ok (.iinc 1 1, 3) := by decide +kernel
theorem dX7_catchUp_59 : decode cX7_catchUp 59 = .ok (.goto (-57), 3) := by decide +kernel
theorem dX7_catchUp_62 : decode cX7_catchUp 62 = .ok (.iconst 0, 1) := by decide +kernel
theorem dX7_catchUp_63 : decode cX7_catchUp 63 = .ok (.istore_n 1, 1) := by decide +kernel
theorem dX7_catchUp_64 : decode cX7_catchUp 64 = .ok (.iload_n 1, 1) := by decide +kernel
theorem dX7_catchUp_65 : decode cX7_catchUp 65 = .ok (.aload_n 0, 1) := by decide +kernel
theorem dX7_catchUp_66 : decode cX7_catchUp 66 = .ok (.getfield 36, 3) := by decide +kernel
theorem dX7_catchUp_69 : decode cX7_catchUp 69 = .ok (.if_icmp .ge 39, 3) := by decide +kernel
theorem dX7_catchUp_72 : decode cX7_catchUp 72 = .ok (.aload_n 0, 1) := by decide +kernel
theorem dX7_catchUp_73 : decode cX7_catchUp 73 = .ok (.aload_n 0, 1) := by decide +kernel
theorem dX7_catchUp_74 : decode cX7_catchUp 74 = .ok (.getfield 32, 3) := by decide +kernel
theorem dX7_catchUp_77 : decode cX7_catchUp 77 = .ok (.iload_n 1, 1) := by decide +kernel
theorem dX7_catchUp_78 : decode cX7_catchUp 78 = .ok (.aaload, 1) := by decide +kernel
theorem dX7_catchUp_79 : decode cX7_catchUp 79 = .ok (.getfield 114, 3) := by decide +kernel
theorem dX7_catchUp_82 : decode cX7_catchUp 82 = .ok (.aload_n 0, 1) := by decide +kernel
theorem dX7_catchUp_83 : decode cX7_catchUp 83 = .ok (.getfield 53, 3) := by decide +kernel
theorem dX7_catchUp_86 : decode cX7_catchUp 86 = .ok (.aload_n 0, 1) := by decide +kernel
theorem dX7_catchUp_87 : decode cX7_catchUp 87 = .ok (.getfield 46, 3) := by decide +kernel
theorem dX7_catchUp_90 : decode cX7_catchUp 90 = .ok (.invokevirtual 122, 3) := by decide +kernel
theorem dX7_catchUp_93 : decode cX7_catchUp 93 = .ok (.iconst (-1), 1) := by decide +kernel
theorem dX7_catchUp_94 : decode cX7_catchUp 94 = .ok (.if_icmp .eq 8, 3) := by decide +kernel
theorem dX7_catchUp_97 : decode cX7_catchUp 97 = .ok (.aload_n 0, 1) := by decide +kernel
theorem dX7_catchUp_98 : decode cX7_catchUp 98 = .ok (.iload_n 1, 1) := by decide +kernel
theorem dX7_catchUp_99 : decode cX7_catchUp 99 = .ok (.invokevirtual 203, 3) := by decide +kernel
theorem dX7_catchUp_102 : decode cX7_catchUp 102 = .ok (.iinc 1 1, 3) := by decide +kernel
theorem dX7_catchUp_105 : decode cX7_catchUp 105 = .ok (.goto (-41), 3) := by decide +kernel
theorem dX7_catchUp_108 : decode cX7_catchUp 108 = .ok (.aload_n 0, 1) := by decide +kernel
theorem dX7_catchUp_109 : decode cX7_catchUp 109 = .ok (.invokevirtual 206, 3) := by decide +kernel
theorem dX7_catchUp_112 : decode cX7_catchUp 112 = .ok (.ireturn, 1) := by decide +kernel
theorem dX7_fire_0 : decode cX7_fire 0 = .ok (.aload_n 0, 1) := by decide +kernel
theorem dX7_fire_1 : decode cX7_fire 1 = .ok (.getfield 32, 3) := by decide +kernel
theorem dX7_fire_4 : decode cX7_fire 4 = .ok (.iload_n 1, 1) := by decide +kernel
theorem dX7_fire_5 : decode cX7_fire 5 = .ok (.aaload, 1) := by decide +kernel
theorem dX7_fire_6 : decode cX7_fire 6 = .ok (.getfield 96, 3) := by decide +kernel
theorem dX7_fire_9 : decode cX7_fire 9 = .ok (.ifCond .eq 33, 3) := by decide +kernel
theorem dX7_fire_12 : decode cX7_fire 12 = .ok (.aload_n 0, 1) := by decide +kernel
theorem dX7_fire_13 : decode cX7_fire 13 = .ok (.getfield 32, 3) := by decide +kernel
theorem dX7_fire_16 : decode cX7_fire 16 = .ok (.iload_n 1, 1) := by decide +kernel
theorem dX7_fire_17 : decode cX7_fire 17 = .ok (.aaload, 1) := by decide +kernel
theorem dX7_fire_18 : decode cX7_fire 18 = .ok (.dup, 1) := by decide +kernel
theorem dX7_fire_19 : decode cX7_fire 19 = .ok (.getfield 177, 3) := by decide +kernel
theorem dX7_fire_22 : decode cX7_fire 22 = .ok (.iconst 1, 1) := by decide +kernel
theorem dX7_fire_23 : decode cX7_fire 23 = .ok (.iadd, 1) := by decide +kernel
theorem dX7_fire_24 : decode cX7_fire 24 = .ok (.putfield 177, 3) := by decide +kernel
theorem dX7_fire_27 : decode cX7_fire 27 = .ok (.aload_n 0, 1) := by decide +kernel
theorem dX7_fire_28 : decode cX7_fire 28 = .ok (.getfield 26, 3) := by decide +kernel
theorem dX7_fire_31 : decode cX7_fire 31 = .ok (.iconst 2, 1) := by decide +kernel
theorem dX7_fire_32 : decode cX7_fire 32 = .ok (.aload_n 0, 1) := by decide +kernel
theorem dX7_fire_33 : decode cX7_fire 33 = .ok (.getfield 46, 3) := by decide +kernel
theorem dX7_fire_36 : decode cX7_fire 36 = .ok (.iload_n 1, 1) := by decide +kernel
theorem dX7_fire_37 : decode cX7_fire 37 = .ok (.iconst (-1), 1) := by decide +kernel
theorem dX7_fire_38 : decode cX7_fire 38 = .ok (.invokevirtual 209, 3) := by decide +kernel
theorem dX7_fire_41 : decode cX7_fire 41 = .ok (.return_, 1) := by decide +kernel
theorem dX7_fire_42 : decode cX7_fire 42 = .ok (.aload_n 0, 1) := by decide +kernel
theorem dX7_fire_43 : decode cX7_fire 43 = .ok (.getfield 32, 3) := by decide +kernel
theorem dX7_fire_46 : decode cX7_fire 46 = .ok (.iload_n 1, 1) := by decide +kernel
theorem dX7_fire_47 : decode cX7_fire 47 = .ok (.aaload, 1) := by decide +kernel
theorem dX7_fire_48 : decode cX7_fire 48 = .ok (.invokevirtual 213, 3) := by decide +kernel
theorem dX7_fire_51 : decode cX7_fire 51 = .ok (.aload_n 0, 1) := by decide +kernel
theorem dX7_fire_52 : decode cX7_fire 52 = .ok (.getfield 26, 3) := by decide +kernel
theorem dX7_fire_55 : decode cX7_fire 55 = .ok (.iconst 1, 1) := by decide +kernel
theorem dX7_fire_56 : decode cX7_fire 56 = .ok (.aload_n 0, 1) := by decide +kernel
theorem dX7_fire_57 : decode cX7_fire 57 = .ok (.getfield 46, 3) := by decide +kernel
theorem dX7_fire_60 : decode cX7_fire 60 = .ok (.iload_n 1, 1) := by decide +kernel
theorem dX7_fire_61 : decode cX7_fire 61 = .ok (.iconst (-1), 1) := by decide +kernel
theorem dX7_fire_62 : decode cX7_fire 62 = .ok (.invokevirtual 209, 3) := by decide +kernel
theorem dX7_fire_65 : decode cX7_fire 65 = .ok (.aload_n 0, 1) := by decide +kernel
theorem dX7_fire_66 : decode cX7_fire 66 = .ok (.iload_n 1, 1) := by decide +kernel
theorem dX7_fire_67 : decode cX7_fire 67 = .ok (.invokevirtual 216, 3) := by decide +kernel
theorem dX7_fire_70 : decode cX7_fire 70 = .ok (.return_, 1) := by decide +kernel
theorem dX7_closeRunIfOver_0 : decode cX7_closeRunIfOver 0 = .ok (.aload_n 0, 1) := by decide +kernel
theorem dX7_closeRunIfOver_1 : decode cX7_closeRunIfOver 1 = .ok (.getfield 32, 3) := by decide +kernel
theorem dX7_closeRunIfOver_4 : decode cX7_closeRunIfOver 4 = .ok (.iload_n 1, 1) := by decide +kernel
theorem dX7_closeRunIfOver_5 : decode cX7_closeRunIfOver 5 = .ok (.aaload, 1) := by decide +kernel
theorem dX7_closeRunIfOver_6 : decode cX7_closeRunIfOver 6 = .ok (.invokevirtual 219, 3) := by decide +kernel
theorem dX7_closeRunIfOver_9 : decode cX7_closeRunIfOver 9 = .ok (.ifCond .eq 28, 3) := by decide +kernel
theorem dX7_closeRunIfOver_12 : decode cX7_closeRunIfOver 12 = .ok (.aload_n 0, 1) := by decide +kernel
theorem dX7_closeRunIfOver_13 : decode cX7_closeRunIfOver 13 = .ok (.getfield 32, 3) := by decide +kernel
theorem dX7_closeRunIfOver_16 : decode cX7_closeRunIfOver 16 = .ok (.iload_n 1, 1) := by decide +kernel
theorem dX7_closeRunIfOver_17 : decode cX7_closeRunIfOver 17 = .ok (.aaload, 1) := by decide +kernel
theorem dX7_closeRunIfOver_18 : decode cX7_closeRunIfOver 18 = .ok (.iconst 0, 1) := by decide +kernel
theorem dX7_closeRunIfOver_19 : decode cX7_closeRunIfOver 19 = .ok (.putfield 96, 3) := by decide +kernel
theorem dX7_closeRunIfOver_22 : decode cX7_closeRunIfOver 22 = .ok (.aload_n 0, 1) := by decide +kernel
theorem dX7_closeRunIfOver_23 : decode cX7_closeRunIfOver 23 = .ok (.getfield 26, 3) := by decide +kernel
theorem dX7_closeRunIfOver_26 : decode cX7_closeRunIfOver 26 = .ok (.bipush 8, 2) := by decide +kernel
theorem dX7_closeRunIfOver_28 : decode cX7_closeRunIfOver 28 = .ok (.aload_n 0, 1) := by decide +kernel
theorem dX7_closeRunIfOver_29 : decode cX7_closeRunIfOver 29 = .ok (.getfield 46, 3) := by decide +kernel
theorem dX7_closeRunIfOver_32 : decode cX7_closeRunIfOver 32 = .ok (.iload_n 1, 1) := by decide +kernel
theorem dX7_closeRunIfOver_33 : decode cX7_closeRunIfOver 33 = .ok (.iconst (-1), 1) := by decide +kernel
theorem dX7_closeRunIfOver_34 : decode cX7_closeRunIfOver 34 = .ok (.invokevirtual 209, 3) := by decide +kernel
theorem dX7_closeRunIfOver_37 : decode cX7_closeRunIfOver 37 = .ok (.return_, 1) := by decide +kernel
theorem dX7_startTasks_0 : decode cX7_startTasks 0 = .ok (.iconst 0, 1) := by decide +kernel
theorem dX7_startTasks_1 : decode cX7_startTasks 1 = .ok (.istore_n 1, 1) := by decide +kernel
theorem dX7_startTasks_2 : decode cX7_startTasks 2 = .ok (.aload_n 0, 1) := by decide +kernel
theorem dX7_startTasks_3 : decode cX7_startTasks 3 = .ok (.getfield 43, 3) := by decide +kernel
theorem dX7_startTasks_6 : decode cX7_startTasks 6 = .ok (.aload_n 0, 1) := by decide +kernel
theorem dX7_startTasks_7 : decode cX7_startTasks 7 = .ok (.invokevirtual 171, 3) := by decide +kernel
theorem dX7_startTasks_10 : decode cX7_startTasks 10 = .ok (.isub, 1) := by decide +kernel
theorem dX7_startTasks_11 : decode cX7_startTasks 11 = .ok (.istore_n 2, 1) := by decide +kernel
theorem dX7_startTasks_12 : decode cX7_startTasks 12 = .ok (.iload_n 2, 1) := by decide +kernel
theorem dX7_startTasks_13 : decode cX7_startTasks 13 = .ok (.ifCond .le 71, 3) := by decide +kernel
theorem dX7_startTasks_16 : decode cX7_startTasks 16 = .ok (.aload_n 0, 1) := by decide +kernel
theorem dX7_startTasks_17 : decode cX7_startTasks 17 = .ok (.invokevirtual 222, 3) := by decide +kernel
theorem dX7_startTasks_20 : decode cX7_startTasks 20 = .ok (.istore_n 3, 1) := by decide +kernel
theorem dX7_startTasks_21 : decode cX7_startTasks 21 = .ok (.iload_n 3, 1) := by decide +kernel
theorem dX7_startTasks_22 : decode cX7_startTasks 22 = .ok (.iconst (-1), 1) := by decide +kernel
theorem dX7_startTasks_23 : decode cX7_startTasks 23 = .ok (.if_icmp .ne 6, 3) := by decide +kernel
theorem dX7_startTasks_26 : decode cX7_startTasks 26 = .ok (.goto 58, 3) := by decide +kernel
theorem dX7_startTasks_29 : decode cX7_startTasks 29 = .ok (.aload_n 0, 1) := by decide +kernel
theorem dX7_startTasks_30 : decode cX7_startTasks 30 = .ok (.getfield 32, 3) := by decide +kernel
theorem dX7_startTasks_33 : decode cX7_startTasks 33 = .ok (.iload_n 3, 1) := by decide +kernel
theorem dX7_startTasks_34 : decode cX7_startTasks 34 = .ok (.aaload, 1) := by decide +kernel
theorem dX7_startTasks_35 : decode cX7_startTasks 35 = .ok (.aload_n 0, 1) := by decide +kernel
theorem dX7_startTasks_36 : decode cX7_startTasks 36 = .ok (.getfield 46, 3) := by decide +kernel
theorem dX7_startTasks_39 : decode cX7_startTasks 39 = .ok (.invokevirtual 225, 3) := by decide +kernel
theorem dX7_startTasks_42 : decode cX7_startTasks 42 = .ok (.istore 4, 2) := by decide +kernel
theorem dX7_startTasks_44 : decode cX7_startTasks 44 = .ok (.aload_n 0, 1) := by decide +kernel
theorem dX7_startTasks_45 : decode cX7_startTasks 45 = .ok (.getfield 32, 3) := by decide +kernel
theorem dX7_startTasks_48 : decode cX7_startTasks 48 = .ok (.iload_n 3, 1) := by decide +kernel
theorem dX7_startTasks_49 : decode cX7_startTasks 49 = .ok (.aaload, 1) := by decide +kernel
theorem dX7_startTasks_50 : decode cX7_startTasks 50 = .ok (.getfield 157, 3) := by decide +kernel
theorem dX7_startTasks_53 : decode cX7_startTasks 53 = .ok (.iload 4, 2) := by decide +kernel
theorem dX7_startTasks_55 : decode cX7_startTasks 55 = .ok (.aaload, 1) := by decide +kernel
theorem dX7_startTasks_56 : decode cX7_startTasks 56 = .ok (.iconst 3, 1) := by decide +kernel
theorem dX7_startTasks_57 : decode cX7_startTasks 57 = .ok (.putfield 161, 3) := by decide +kernel
theorem dX7_startTasks_60 : decode cX7_startTasks 60 = .ok (.aload_n 0, 1) := by decide +kernel
theorem dX7_startTasks_61 : decode cX7_startTasks 61 = .ok (.getfield 26, 3) := by decide +kernel
theorem dX7_startTasks_64 : decode cX7_startTasks 64 = .ok (.iconst 3, 1) := by decide +kernel
theorem dX7_startTasks_65 : decode cX7_startTasks 65 = .ok (.aload_n 0, 1) := by decide +kernel
theorem dX7_startTasks_66 : decode cX7_startTasks 66 = .ok (.getfield 46, 3) := by decide +kernel
theorem dX7_startTasks_69 : decode cX7_startTasks 69 = .ok (.iload_n 3, 1) := by decide +kernel
theorem dX7_startTasks_70 : decode cX7_startTasks 70 = .ok (.iload 4, 2) := by decide +kernel
theorem dX7_startTasks_72 : decode cX7_startTasks 72 = .ok (.invokevirtual 209, 3) := by decide +kernel
theorem dX7_startTasks_75 : decode cX7_startTasks 75 = .ok (.iinc 1 1, 3) := by decide +kernel
theorem dX7_startTasks_78 : decode cX7_startTasks 78 = .ok (.iinc 2 (-1), 3) := by decide +kernel
theorem dX7_startTasks_81 : decode cX7_startTasks 81 = .ok (.goto (-69), 3) := by decide +kernel
theorem dX7_startTasks_84 : decode cX7_startTasks 84 = .ok (.iload_n 1, 1) := by decide +kernel
theorem dX7_startTasks_85 : decode cX7_startTasks 85 = .ok (.ireturn, 1) := by decide +kernel
theorem dX7_firstReadyJob_0 : decode cX7_firstReadyJob 0 = .ok (.iconst (-1), 1) := by decide +kernel
theorem dX7_firstReadyJob_1 : decode cX7_firstReadyJob 1 = .ok (.istore_n 1, 1) := by decide +kernel
theorem dX7_firstReadyJob_2 : decode cX7_firstReadyJob 2 = .ok (.iconst 0, 1) := by decide +kernel
theorem dX7_firstReadyJob_3 : decode cX7_firstReadyJob 3 = .ok (.istore_n 2, 1) := by decide +kernel
theorem dX7_firstReadyJob_4 : decode cX7_firstReadyJob 4 = .ok (.iload_n 2, 1) := by decide +kernel
theorem dX7_firstReadyJob_5 : decode cX7_firstReadyJob 5 = .ok (.aload_n 0, 1) := by decide +kernel
theorem dX7_firstReadyJob_6 : decode cX7_firstReadyJob 6 = .ok (.getfield 36, 3) := by decide +kernel
theorem dX7_firstReadyJob_9 : decode cX7_firstReadyJob 9 = .ok (.if_icmp .ge 64, 3) := by decide +kernel
theorem dX7_firstReadyJob_12 : decode cX7_firstReadyJob 12 = .ok (.iload_n 1, 1) := by decide +kernel
theorem dX7_firstReadyJob_13 : decode cX7_firstReadyJob 13 = .ok (.iconst (-1), 1) := by decide +kernel
theorem dX7_firstReadyJob_14 : decode cX7_firstReadyJob 14 = .ok (.if_icmp .eq 24, 3) := by decide +kernel
theorem dX7_firstReadyJob_17 : decode cX7_firstReadyJob 17 = .ok (.aload_n 0, 1) := by decide +kernel
theorem dX7_firstReadyJob_18 : decode cX7_firstReadyJob 18 = .ok (.getfield 32, 3) := by decide +kernel
theorem dX7_firstReadyJob_21 : decode cX7_firstReadyJob 21 = .ok (.iload_n 2, 1) := by decide +kernel
theorem dX7_firstReadyJob_22 : decode cX7_firstReadyJob 22 = .ok (.aaload, 1) := by decide +kernel
theorem dX7_firstReadyJob_23 : decode cX7_firstReadyJob 23 = .ok (.getfield 228, 3) := by decide +kernel
theorem dX7_firstReadyJob_26 : decode cX7_firstReadyJob 26 = .ok (.aload_n 0, 1) := by decide +kernel
theorem dX7_firstReadyJob_27 : decode cX7_firstReadyJob 27 = .ok (.getfield 32, 3) := by decide +kernel
theorem dX7_firstReadyJob_30 : decode cX7_firstReadyJob 30 = .ok (.iload_n 1, 1) := by decide +kernel
theorem dX7_firstReadyJob_31 : decode cX7_firstReadyJob 31 = .ok (.aaload, 1) := by decide +kernel
theorem dX7_firstReadyJob_32 : decode cX7_firstReadyJob 32 = .ok (.getfield 228, 3) := by decide +kernel
theorem dX7_firstReadyJob_35 : decode cX7_firstReadyJob 35 = .ok (.if_icmp .le 7, 3) := by decide +kernel
theorem dX7_firstReadyJob_38 : decode cX7_firstReadyJob 38 = .ok (.iconst 1, 1) := by decide +kernel
theorem dX7_firstReadyJob_39 : decode cX7_firstReadyJob 39 = .ok (.goto 4, 3) := by decide +kernel
theorem dX7_firstReadyJob_42 : decode cX7_firstReadyJob 42 = .ok (.iconst 0, 1) := by decide +kernel
theorem dX7_firstReadyJob_43 : decode cX7_firstReadyJob 43 = .ok (.istore_n 3, 1) := by decide +kernel
theorem dX7_firstReadyJob_44 : decode cX7_firstReadyJob 44 = .ok (.iload_n 3, 1) := by decide +kernel
theorem dX7_firstReadyJob_45 : decode cX7_firstReadyJob 45 = .ok (.ifCond .eq 22, 3) := by decide +kernel
theorem dX7_firstReadyJob_48 : decode cX7_firstReadyJob 48 = .ok (.aload_n 0, 1) := by decide +kernel
theorem dX7_firstReadyJob_49 : decode cX7_firstReadyJob 49 = .ok (.getfield 32, 3) := by decide +kernel
theorem dX7_firstReadyJob_52 : decode cX7_firstReadyJob 52 = .ok (.iload_n 2, 1) := by decide +kernel
theorem dX7_firstReadyJob_53 : decode cX7_firstReadyJob 53 = .ok (.aaload, 1) := by decide +kernel
theorem dX7_firstReadyJob_54 : decode cX7_firstReadyJob 54 = .ok (.aload_n 0, 1) := by decide +kernel
theorem dX7_firstReadyJob_55 : decode cX7_firstReadyJob 55 = .ok (.getfield 46, 3) := by decide +kernel
theorem dX7_firstReadyJob_58 : decode cX7_firstReadyJob 58 = .ok (.invokevirtual 225, 3) := by decide +kernel
theorem dX7_firstReadyJob_61 : decode cX7_firstReadyJob 61 = .ok (.iconst (-1), 1) := by decide +kernel
theorem dX7_firstReadyJob_62 : decode cX7_firstReadyJob 62 = .ok (.if_icmp .eq 5, 3) := by decide +kernel
theorem dX7_firstReadyJob_65 : decode cX7_firstReadyJob 65 = .ok (.iload_n 2, 1) := by decide +kernel
theorem dX7_firstReadyJob_66 : decode cX7_firstReadyJob 66 = .ok (.istore_n 1, 1) := by decide +kernel
theorem dX7_firstReadyJob_67 : decode cX7_firstReadyJob 67 = .ok (.iinc 2 1, 3) := by decide +kernel
theorem dX7_firstReadyJob_70 : decode cX7_firstReadyJob 70 = .ok (.goto (-66), 3) := by decide +kernel
theorem dX7_firstReadyJob_73 : decode cX7_firstReadyJob 73 = .ok (.iload_n 1, 1) := by decide +kernel
theorem dX7_firstReadyJob_74 : decode cX7_firstReadyJob 74 = .ok (.ireturn, 1) := by decide +kernel
theorem dX7_endTask_0 : decode cX7_endTask 0 = .ok (.aload_n 0, 1) := by decide +kernel
theorem dX7_endTask_1 : decode cX7_endTask 1 = .ok (.getfield 32, 3) := by decide +kernel
theorem dX7_endTask_4 : decode cX7_endTask 4 = .ok (.iload_n 1, 1) := by decide +kernel
theorem dX7_endTask_5 : decode cX7_endTask 5 = .ok (.aaload, 1) := by decide +kernel
theorem dX7_endTask_6 : decode cX7_endTask 6 = .ok (.getfield 157, 3) := by decide +kernel
theorem dX7_endTask_9 : decode cX7_endTask 9 = .ok (.iload_n 2, 1) := by decide +kernel
theorem dX7_endTask_10 : decode cX7_endTask 10 = .ok (.aaload, 1) := by decide +kernel
theorem dX7_endTask_11 : decode cX7_endTask 11 = .ok (.astore 4, 2) := by decide +kernel
theorem dX7_endTask_13 : decode cX7_endTask 13 = .ok (.iload_n 3, 1) := by decide +kernel
theorem dX7_endTask_14 : decode cX7_endTask 14 = .ok (.ifCond .eq 26, 3) := by decide +kernel
theorem dX7_endTask_17 : decode cX7_endTask 17 = .ok (.aload 4, 2) := by decide +kernel
theorem dX7_endTask_19 : decode cX7_endTask 19 = .ok (.iconst 4, 1) := by decide +kernel
theorem dX7_endTask_20 : decode cX7_endTask 20 = .ok (.putfield 161, 3) := by decide +kernel
theorem dX7_endTask_23 : decode cX7_endTask 23 = .ok (.aload_n 0, 1) := by decide +kernel
theorem dX7_endTask_24 : decode cX7_endTask 24 = .ok (.getfield 26, 3) := by decide +kernel
theorem dX7_endTask_27 : decode cX7_endTask 27 = .ok (.iconst 4, 1) := by decide +kernel
theorem dX7_endTask_28 : decode cX7_endTask 28 = .ok (.aload_n 0, 1) := by decide +kernel
theorem dX7_endTask_29 : decode cX7_endTask 29 = .ok (.getfield 46, 3) := by decide +kernel
theorem dX7_endTask_32 : decode cX7_endTask 32 = .ok (.iload_n 1, 1) := by decide +kernel
theorem dX7_endTask_33 : decode cX7_endTask 33 = .ok (.iload_n 2, 1) := by decide +kernel
theorem dX7_endTask_34 : decode cX7_endTask 34 = .ok (.invokevirtual 209, 3) := by decide +kernel
theorem dX7_endTask_37 : decode cX7_endTask 37 = .ok (.goto 59, 3) := by decide +kernel
theorem dX7_endTask_40 : decode cX7_endTask 40 = .ok (.aload 4, 2) := by decide +kernel
theorem dX7_endTask_42 : decode cX7_endTask 42 = .ok (.aload_n 0, 1) := by decide +kernel
theorem dX7_endTask_43 : decode cX7_endTask 43 = .ok (.getfield 46, 3) := by decide +kernel
theorem dX7_endTask_46 : decode cX7_endTask 46 = .ok (.invokevirtual 231, 3) := by decide +kernel
theorem dX7_endTask_49 : decode cX7_endTask 49 = .ok (.ifCond .eq 20, 3) := by decide +kernel
theorem dX7_endTask_52 : decode cX7_endTask 52 = .ok (.aload_n 0, 1) := by decide +kernel
theorem dX7_endTask_53 : decode cX7_endTask 53 = .ok (.getfield 26, 3) := by decide +kernel
theorem dX7_endTask_56 : decode cX7_endTask 56 = .ok (.iconst 5, 1) := by decide +kernel
theorem dX7_endTask_57 : decode cX7_endTask 57 = .ok (.aload_n 0, 1) := by decide +kernel
theorem dX7_endTask_58 : decode cX7_endTask 58 = .ok (.getfield 46, 3) := by decide +kernel
theorem dX7_endTask_61 : decode cX7_endTask 61 = .ok (.iload_n 1, 1) := by decide +kernel
theorem dX7_endTask_62 : decode cX7_endTask 62 = .ok (.iload_n 2, 1) := by decide +kernel
theorem dX7_endTask_63 : decode cX7_endTask 63 = .ok (.invokevirtual 209, 3) := by decide +kernel
theorem dX7_endTask_66 : decode cX7_endTask 66 = .ok (.goto 30, 3) := by decide +kernel
theorem dX7_endTask_69 : decode cX7_endTask 69 = .ok (.aload 4, 2) := by decide +kernel
theorem dX7_endTask_71 : decode cX7_endTask 71 = .ok (.iconst 5, 1) := by decide +kernel
theorem dX7_endTask_72 : decode cX7_endTask 72 = .ok (.putfield 161, 3) := by decide +kernel
theorem dX7_endTask_75 : decode cX7_endTask 75 = .ok (.aload_n 0, 1) := by decide +kernel
theorem dX7_endTask_76 : decode cX7_endTask 76 = .ok (.getfield 26, 3) := by decide +kernel
theorem dX7_endTask_79 : decode cX7_endTask 79 = .ok (.bipush 6, 2) := by decide +kernel
theorem dX7_endTask_81 : decode cX7_endTask 81 = .ok (.aload_n 0, 1) := by decide +kernel
theorem dX7_endTask_82 : decode cX7_endTask 82 = .ok (.getfield 46, 3) := by decide +kernel
theorem dX7_endTask_85 : decode cX7_endTask 85 = .ok (.iload_n 1, 1) := by decide +kernel
theorem dX7_endTask_86 : decode cX7_endTask 86 = .ok (.iload_n 2, 1) := by decide +kernel
theorem dX7_endTask_87 : decode cX7_endTask 87 = .ok (.invokevirtual 209, 3) := by decide +kernel
theorem dX7_endTask_90 : decode cX7_endTask 90 = .ok (.aload_n 0, 1) := by decide +kernel
theorem dX7_endTask_91 : decode cX7_endTask 91 = .ok (.iload_n 1, 1) := by decide +kernel
theorem dX7_endTask_92 : decode cX7_endTask 92 = .ok (.iload_n 2, 1) := by decide +kernel
theorem dX7_endTask_93 : decode cX7_endTask 93 = .ok (.invokevirtual 234, 3) := by decide +kernel
theorem dX7_endTask_96 : decode cX7_endTask 96 = .ok (.aload_n 0, 1) := by decide +kernel
theorem dX7_endTask_97 : decode cX7_endTask 97 = .ok (.iload_n 1, 1) := by decide +kernel
theorem dX7_endTask_98 : decode cX7_endTask 98 = .ok (.invokevirtual 216, 3) := by decide +kernel
theorem dX7_endTask_101 : decode cX7_endTask 101 = .ok (.return_, 1) := by decide +kernel
theorem dX7_leaveOutBehind_0 : decode cX7_leaveOutBehind 0 = .ok (.aload_n 0, 1) := by decide +kernel
theorem dX7_leaveOutBehind_1 : decode cX7_leaveOutBehind 1 = .ok (.getfield 32, 3) := by decide +kernel
theorem dX7_leaveOutBehind_4 : decode cX7_leaveOutBehind 4 = .ok (.iload_n 1, 1) := by decide +kernel
theorem dX7_leaveOutBehind_5 : decode cX7_leaveOutBehind 5 = .ok (.aaload, 1) := by decide +kernel
theorem dX7_leaveOutBehind_6 : decode cX7_leaveOutBehind 6 = .ok (.astore_n 3, 1) := by decide +kernel
theorem dX7_leaveOutBehind_7 : decode cX7_leaveOutBehind 7 = .ok (.iconst 1, 1) := by decide +kernel
theorem dX7_leaveOutBehind_8 : decode cX7_leaveOutBehind 8 = .ok (.iload_n 2, 1) := by decide +kernel
theorem dX7_leaveOutBehind_9 : decode cX7_leaveOutBehind 9 = .ok (.ishl, 1) := by decide +kernel
theorem dX7_leaveOutBehind_10 : decode cX7_leaveOutBehind 10 = .ok (.istore 4, 2) := by decide +kernel
theorem dX7_leaveOutBehind_12 : decode cX7_leaveOutBehind 12 = .ok (.iload_n 2, 1) := by decide +kernel
theorem dX7_leaveOutBehind_13 : decode cX7_leaveOutBehind 13 = .ok (.iconst 1, 1) := by decide +kernel
theorem dX7_leaveOutBehind_14 : decode cX7_leaveOutBehind 14 = .ok (.iadd, 1) := by decide +kernel
theorem dX7_leaveOutBehind_15 : decode cX7_leaveOutBehind 15 = .ok (.istore 5, 2) := by decide +kernel
theorem dX7_leaveOutBehind_17 : decode cX7_leaveOutBehind 17 = .ok (.iload 5, 2) := by decide +kernel
theorem dX7_leaveOutBehind_19 : decode cX7_leaveOutBehind 19 = .ok (.aload_n 3, 1) := by decide +kernel
theorem dX7_leaveOutBehind_20 : decode cX7_leaveOutBehind 20 = .ok (.getfield 93, 3) := by decide +kernel
theorem dX7_leaveOutBehind_23 : decode cX7_leaveOutBehind 23 = .ok (.if_icmp .ge 71, 3) := by decide +kernel
theorem dX7_leaveOutBehind_26 : decode cX7_leaveOutBehind 26 = .ok (.aload_n 3, 1) := by decide +kernel
theorem dX7_leaveOutBehind_27 : decode cX7_leaveOutBehind 27 = .ok (.getfield 157, 3) := by decide +kernel
theorem dX7_leaveOutBehind_30 : decode cX7_leaveOutBehind 30 = .ok (.iload 5, 2) := by decide +kernel
theorem dX7_leaveOutBehind_32 : decode cX7_leaveOutBehind 32 = .ok (.aaload, 1) := by decide +kernel
theorem dX7_leaveOutBehind_33 : decode cX7_leaveOutBehind 33 = .ok (.astore 6, 2) := by decide +kernel
theorem dX7_leaveOutBehind_35 : decode cX7_leaveOutBehind 35 = .ok (.aload 6, 2) := by decide +kernel
theorem dX7_leaveOutBehind_37 : decode cX7_leaveOutBehind 37 = .ok (.getfield 238, 3) := by decide +kernel
theorem dX7_leaveOutBehind_40 : decode cX7_leaveOutBehind 40 = .ok (.iload 4, 2) := by decide +kernel
theorem dX7_leaveOutBehind_42 : decode cX7_leaveOutBehind 42 = .ok (.iand, 1) := by decide +kernel
theorem dX7_leaveOutBehind_43 : decode cX7_leaveOutBehind 43 = .ok (.ifCond .eq 45, 3) := by decide +kernel
theorem dX7_leaveOutBehind_46 : decode cX7_leaveOutBehind 46 = .ok (.iload 4, 2) := by decide +kernel
theorem dX7_leaveOutBehind_48 : decode cX7_leaveOutBehind 48 = .ok (.iconst 1, 1) := by decide +kernel
theorem dX7_leaveOutBehind_49 : decode cX7_leaveOutBehind 49 = .ok (.iload 5, 2) := by decide +kernel
theorem dX7_leaveOutBehind_51 : decode cX7_leaveOutBehind 51 = .ok (.ishl, 1) := by decide +kernel
theorem dX7_leaveOutBehind_52 : decode cX7_leaveOutBehind 52 = .ok (.ior, 1) := by decide +kernel
theorem dX7_leaveOutBehind_53 : decode cX7_leaveOutBehind 53 = .ok (.istore 4, 2) := by decide +kernel
theorem dX7_leaveOutBehind_55 : decode cX7_leaveOutBehind 55 = .ok (.aload 6, 2) := by decide +kernel
theorem dX7_leaveOutBehind_57 : decode cX7_leaveOutBehind 57 = .ok (.getfield 161, 3) := by decide +kernel
theorem dX7_leaveOutBehind_60 : decode cX7_leaveOutBehind 60 = .ok (.bipush 6, 2) := by decide +kernel
theorem dX7_leaveOutBehind_62 : decode cX7_leaveOutBehind 62 = .ok (.if_icmp .eq 26, 3) := by decide +kernel
theorem dX7_leaveOutBehind_65 : decode cX7_leaveOutBehind 65 = .ok (.aload 6, 2) := by decide +kernel
theorem dX7_leaveOutBehind_67 : decode cX7_leaveOutBehind 67 = .ok (.bipush 6, 2) := by decide +kernel
theorem dX7_leaveOutBehind_69 : decode cX7_leaveOutBehind 69 = .ok (.putfield 161, 3) := by decide +kernel
theorem dX7_leaveOutBehind_72 : decode cX7_leaveOutBehind 72 = .ok (.aload_n 0, 1) := by decide +kernel
theorem dX7_leaveOutBehind_73 : decode cX7_leaveOutBehind 73 = .ok (.getfield 26, 3) := by decide +kernel
theorem dX7_leaveOutBehind_76 : decode cX7_leaveOutBehind 76 = .ok (.bipush 7, 2) := by decide +kernel
theorem dX7_leaveOutBehind_78 : decode cX7_leaveOutBehind 78 = .ok (.aload_n 0, 1) := by decide +kernel
theorem dX7_leaveOutBehind_79 : decode cX7_leaveOutBehind 79 = .ok (.getfield 46, 3) := by decide +kernel
theorem dX7_leaveOutBehind_82 : decode cX7_leaveOutBehind 82 = .ok (.iload_n 1, 1) := by decide +kernel
theorem dX7_leaveOutBehind_83 : decode cX7_leaveOutBehind 83 = .ok (.iload 5, 2) := by decide +kernel
theorem dX7_leaveOutBehind_85 : decode cX7_leaveOutBehind 85 = .ok (.invokevirtual 209, 3) := by decide +kernel
theorem dX7_leaveOutBehind_88 : decode cX7_leaveOutBehind 88 = .ok (.iinc 5 1, 3) := by decide +kernel
theorem dX7_leaveOutBehind_91 : decode cX7_leaveOutBehind 91 = .ok (.goto (-74), 3) := by decide +kernel
theorem dX7_leaveOutBehind_94 : decode cX7_leaveOutBehind 94 = .ok (.return_, 1) := by decide +kernel
