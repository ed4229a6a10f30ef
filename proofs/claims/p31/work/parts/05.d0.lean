theorem dX0_init_0 : decode cX0_init 0 = .ok (.aload_n 0, 1) := by decide +kernel
theorem dX0_init_1 : decode cX0_init 1 = .ok (.invokespecial 3, 3) := by decide +kernel
theorem dX0_init_4 : decode cX0_init 4 = .ok (.aload_n 0, 1) := by decide +kernel
theorem dX0_init_5 : decode cX0_init 5 = .ok (.bipush 12, 2) := by decide +kernel
theorem dX0_init_7 : decode cX0_init 7 = .ok (.newarray .int, 2) := by decide +kernel
theorem dX0_init_9 : decode cX0_init 9 = .ok (.putfield 9, 3) := by decide +kernel
theorem dX0_init_12 : decode cX0_init 12 = .ok (.aload_n 0, 1) := by decide +kernel
theorem dX0_init_13 : decode cX0_init 13 = .ok (.bipush 12, 2) := by decide +kernel
theorem dX0_init_15 : decode cX0_init 15 = .ok (.newarray .int, 2) := by decide +kernel
theorem dX0_init_17 : decode cX0_init 17 = .ok (.putfield 15, 3) := by decide +kernel
theorem dX0_init_20 : decode cX0_init 20 = .ok (.aload_n 0, 1) := by decide +kernel
theorem dX0_init_21 : decode cX0_init 21 = .ok (.bipush 100, 2) := by decide +kernel
theorem dX0_init_23 : decode cX0_init 23 = .ok (.newarray .int, 2) := by decide +kernel
theorem dX0_init_25 : decode cX0_init 25 = .ok (.putfield 18, 3) := by decide +kernel
theorem dX0_init_28 : decode cX0_init 28 = .ok (.aload_n 0, 1) := by decide +kernel
theorem dX0_init_29 : decode cX0_init 29 = .ok (.bipush 101, 2) := by decide +kernel
theorem dX0_init_31 : decode cX0_init 31 = .ok (.newarray .int, 2) := by decide +kernel
theorem dX0_init_33 : decode cX0_init 33 = .ok (.putfield 21, 3) := by decide +kernel
theorem dX0_init_36 : decode cX0_init 36 = .ok (.aload_n 0, 1) := by decide +kernel
theorem dX0_init_37 : decode cX0_init 37 = .ok (.iconst 4, 1) := by decide +kernel
theorem dX0_init_38 : decode cX0_init 38 = .ok (.putfield 24, 3) := by decide +kernel
theorem dX0_init_41 : decode cX0_init 41 = .ok (.aload_n 0, 1) := by decide +kernel
theorem dX0_init_42 : decode cX0_init 42 = .ok (.bipush 100, 2) := by decide +kernel
theorem dX0_init_44 : decode cX0_init 44 = .ok (.putfield 28, 3) := by decide +kernel
theorem dX0_init_47 : decode cX0_init 47 = .ok (.aload_n 0, 1) := by decide +kernel
theorem dX0_init_48 : decode cX0_init 48 = .ok (.iconst 1, 1) := by decide +kernel
theorem dX0_init_49 : decode cX0_init 49 = .ok (.putfield 31, 3) := by decide +kernel
theorem dX0_init_52 : decode cX0_init 52 = .ok (.aload_n 0, 1) := by decide +kernel
theorem dX0_init_53 : decode cX0_init 53 = .ok (.bipush 7, 2) := by decide +kernel
theorem dX0_init_55 : decode cX0_init 55 = .ok (.putfield 34, 3) := by decide +kernel
theorem dX0_init_58 : decode cX0_init 58 = .ok (.aload_n 0, 1) := by decide +kernel
theorem dX0_init_59 : decode cX0_init 59 = .ok (.iconst 0, 1) := by decide +kernel
theorem dX0_init_60 : decode cX0_init 60 = .ok (.putfield 37, 3) := by decide +kernel
theorem dX0_init_63 : decode cX0_init 63 = .ok (.iconst 0, 1) := by decide +kernel
theorem dX0_init_64 : decode cX0_init 64 = .ok (.istore_n 1, 1) := by decide +kernel
theorem dX0_init_65 : decode cX0_init 65 = .ok (.iload_n 1, 1) := by decide +kernel
theorem dX0_init_66 : decode cX0_init 66 = .ok (.bipush 12, 2) := by decide +kernel
theorem dX0_init_68 : decode cX0_init 68 = .ok (.if_icmp .ge 17, 3) := by decide +kernel
theorem dX0_init_71 : decode cX0_init 71 = .ok (.aload_n 0, 1) := by decide +kernel
theorem dX0_init_72 : decode cX0_init 72 = .ok (.getfield 9, 3) := by decide +kernel
theorem dX0_init_75 : decode cX0_init 75 = .ok (.iload_n 1, 1) := by decide +kernel
theorem dX0_init_76 : decode cX0_init 76 = .ok (.bipush 30, 2) := by decide +kernel
theorem dX0_init_78 : decode cX0_init 78 = .ok (.iastore, 1) := by decide +kernel
theorem dX0_init_79 : decode cX0_init 79 = .ok (.iinc 1 1, 3) := by decide +kernel
theorem dX0_init_82 : decode cX0_init 82 = .ok (.goto (-17), 3) := by decide +kernel
theorem dX0_init_85 : decode cX0_init 85 = .ok (.aload_n 0, 1) := by decide +kernel
theorem dX0_init_86 : decode cX0_init 86 = .ok (.invokevirtual 40, 3) := by decide +kernel
theorem dX0_init_89 : decode cX0_init 89 = .ok (.return_, 1) := by decide +kernel
theorem dX0_reckon_0 : decode cX0_reckon 0 = .ok (.iconst 0, 1) := by decide +kernel
theorem dX0_reckon_1 : decode cX0_reckon 1 = .ok (.istore_n 1, 1) := by decide +kernel
theorem dX0_reckon_2 : decode cX0_reckon 2 = .ok (.iconst 0, 1) := by decide +kernel
theorem dX0_reckon_3 : decode cX0_reckon 3 = .ok (.istore_n 2, 1) := by decide +kernel
theorem dX0_reckon_4 : decode cX0_reckon 4 = .ok (.iload_n 2, 1) := by decide +kernel
theorem dX0_reckon_5 : decode cX0_reckon 5 = .ok (.bipush 12, 2) := by decide +kernel
theorem dX0_reckon_7 : decode cX0_reckon 7 = .ok (.if_icmp .ge 25, 3) := by decide +kernel
theorem dX0_reckon_10 : decode cX0_reckon 10 = .ok (.aload_n 0, 1) := by decide +kernel
theorem dX0_reckon_11 : decode cX0_reckon 11 = .ok (.getfield 15, 3) := by decide +kernel
theorem dX0_reckon_14 : decode cX0_reckon 14 = .ok (.iload_n 2, 1) := by decide +kernel
theorem dX0_reckon_15 : decode cX0_reckon 15 = .ok (.iload_n 1, 1) := by decide +kernel
theorem dX0_reckon_16 : decode cX0_reckon 16 = .ok (.iastore, 1) := by decide +kernel
theorem dX0_reckon_17 : decode cX0_reckon 17 = .ok (.iload_n 1, 1) := by decide +kernel
theorem dX0_reckon_18 : decode cX0_reckon 18 = .ok (.aload_n 0, 1) := by decide +kernel
theorem dX0_reckon_19 : decode cX0_reckon 19 = .ok (.getfield 9, 3) := by decide +kernel
theorem dX0_reckon_22 : decode cX0_reckon 22 = .ok (.iload_n 2, 1) := by decide +kernel
theorem dX0_reckon_23 : decode cX0_reckon 23 = .ok (.iaload, 1) := by decide +kernel
theorem dX0_reckon_24 : decode cX0_reckon 24 = .ok (.iadd, 1) := by decide +kernel
theorem dX0_reckon_25 : decode cX0_reckon 25 = .ok (.istore_n 1, 1) := by decide +kernel
theorem dX0_reckon_26 : decode cX0_reckon 26 = .ok (.iinc 2 1, 3) := by decide +kernel
theorem dX0_reckon_29 : decode cX0_reckon 29 = .ok (.goto (-25), 3) := by decide +kernel
theorem dX0_reckon_32 : decode cX0_reckon 32 = .ok (.iconst 0, 1) := by decide +kernel
theorem dX0_reckon_33 : decode cX0_reckon 33 = .ok (.istore_n 2, 1) := by decide +kernel
theorem dX0_reckon_34 : decode cX0_reckon 34 = .ok (.iload_n 2, 1) := by decide +kernel
theorem dX0_reckon_35 : decode cX0_reckon 35 = .ok (.bipush 100, 2) := by decide +kernel
theorem dX0_reckon_37 : decode cX0_reckon 37 = .ok (.if_icmp .ge 75, 3) := by decide +kernel
theorem dX0_reckon_40 : decode cX0_reckon 40 = .ok (.iload_n 2, 1) := by decide +kernel
theorem dX0_reckon_41 : decode cX0_reckon 41 = .ok (.aload_n 0, 1) := by decide +kernel
theorem dX0_reckon_42 : decode cX0_reckon 42 = .ok (.getfield 24, 3) := by decide +kernel
theorem dX0_reckon_45 : decode cX0_reckon 45 = .ok (.invokestatic 43, 3) := by decide +kernel
theorem dX0_reckon_48 : decode cX0_reckon 48 = .ok (.ifCond .ne 18, 3) := by decide +kernel
theorem dX0_reckon_51 : decode cX0_reckon 51 = .ok (.iload_n 2, 1) := by decide +kernel
theorem dX0_reckon_52 : decode cX0_reckon 52 = .ok (.aload_n 0, 1) := by decide +kernel
theorem dX0_reckon_53 : decode cX0_reckon 53 = .ok (.getfield 28, 3) := by decide +kernel
theorem dX0_reckon_56 : decode cX0_reckon 56 = .ok (.invokestatic 43, 3) := by decide +kernel
theorem dX0_reckon_59 : decode cX0_reckon 59 = .ok (.ifCond .eq 7, 3) := by decide +kernel
theorem dX0_reckon_62 : decode cX0_reckon 62 = .ok (.iconst 1, 1) := by decide +kernel
theorem dX0_reckon_63 : decode cX0_reckon 63 = .ok (.goto 4, 3) := by decide +kernel
theorem dX0_reckon_66 : decode cX0_reckon 66 = .ok (.iconst 0, 1) := by decide +kernel
theorem dX0_reckon_67 : decode cX0_reckon 67 = .ok (.istore_n 3, 1) := by decide +kernel
theorem dX0_reckon_68 : decode cX0_reckon 68 = .ok (.aload_n 0, 1) := by decide +kernel
theorem dX0_reckon_69 : decode cX0_reckon 69 = .ok (.getfield 18, 3) := by decide +kernel
theorem dX0_reckon_72 : decode cX0_reckon 72 = .ok (.iload_n 2, 1) := by decide +kernel
theorem dX0_reckon_73 : decode cX0_reckon 73 = .ok (.iload_n 3, 1) := by decide +kernel
theorem dX0_reckon_74 : decode cX0_reckon 74 = .ok (.ifCond .eq 7, 3) := by decide +kernel
theorem dX0_reckon_77 : decode cX0_reckon 77 = .ok (.iconst 1, 1) := by decide +kernel
theorem dX0_reckon_78 : decode cX0_reckon 78 = .ok (.goto 4, 3) := by decide +kernel
theorem dX0_reckon_81 : decode cX0_reckon 81 = .ok (.iconst 0, 1) := by decide +kernel
theorem dX0_reckon_82 : decode cX0_reckon 82 = .ok (.iastore, 1) := by decide +kernel
theorem dX0_reckon_83 : decode cX0_reckon 83 = .ok (.aload_n 0, 1) := by decide +kernel
theorem dX0_reckon_84 : decode cX0_reckon 84 = .ok (.getfield 21, 3) := by decide +kernel
theorem dX0_reckon_87 : decode cX0_reckon 87 = .ok (.iload_n 2, 1) := by decide +kernel
theorem dX0_reckon_88 : decode cX0_reckon 88 = .ok (.iconst 1, 1) := by decide +kernel
theorem dX0_reckon_89 : decode cX0_reckon 89 = .ok (.iadd, 1) := by decide +kernel
theorem dX0_reckon_90 : decode cX0_reckon 90 = .ok (.aload_n 0, 1) := by decide +kernel
theorem dX0_reckon_91 : decode cX0_reckon 91 = .ok (.getfield 21, 3) := by decide +kernel
theorem dX0_reckon_94 : decode cX0_reckon 94 = .ok (.iload_n 2, 1) := by decide +kernel
theorem dX0_reckon_95 : decode cX0_reckon 95 = .ok (.iaload, 1) := by decide +kernel
theorem dX0_reckon_96 : decode cX0_reckon 96 = .ok (.iload_n 1, 1) := by decide +kernel
theorem dX0_reckon_97 : decode cX0_reckon 97 = .ok (.iadd, 1) := by decide +kernel
theorem dX0_reckon_98 : decode cX0_reckon 98 = .ok (.aload_n 0, 1) := by decide +kernel
theorem dX0_reckon_99 : decode cX0_reckon 99 = .ok (.getfield 18, 3) := by decide +kernel
theorem dX0_reckon_102 : decode cX0_reckon 102 = .ok (.iload_n 2, 1) := by decide +kernel
theorem dX0_reckon_103 : decode cX0_reckon 103 = .ok (.iaload, 1) := by decide +kernel
theorem dX0_reckon_104 : decode cX0_reckon 104 = .ok (.iadd, 1) := by decide +kernel
theorem dX0_reckon_105 : decode cX0_reckon 105 = .ok (.iastore, 1) := by decide +kernel
theorem dX0_reckon_106 : decode cX0_reckon 106 = .ok (.iinc 2 1, 3) := by decide +kernel
theorem dX0_reckon_109 : decode cX0_reckon 109 = .ok (.goto (-75), 3) := by decide +kernel
theorem dX0_reckon_112 : decode cX0_reckon 112 = .ok (.return_, 1) := by decide +kernel
theorem dX0_days_0 : decode cX0_days 0 = .ok (.aload_n 0, 1) := by decide +kernel
theorem dX0_days_1 : decode cX0_days 1 = .ok (.getfield 21, 3) := by decide +kernel
theorem dX0_days_4 : decode cX0_days 4 = .ok (.bipush 100, 2) := by decide +kernel
theorem dX0_days_6 : decode cX0_days 6 = .ok (.iaload, 1) := by decide +kernel
theorem dX0_days_7 : decode cX0_days 7 = .ok (.ireturn, 1) := by decide +kernel
theorem dX0_has_0 : decode cX0_has 0 = .ok (.iload_n 1, 1) := by decide +kernel
theorem dX0_has_1 : decode cX0_has 1 = .ok (.ifCond .lt 15, 3) := by decide +kernel
theorem dX0_has_4 : decode cX0_has 4 = .ok (.iload_n 1, 1) := by decide +kernel
theorem dX0_has_5 : decode cX0_has 5 = .ok (.aload_n 0, 1) := by decide +kernel
theorem dX0_has_6 : decode cX0_has 6 = .ok (.invokevirtual 47, 3) := by decide +kernel
theorem dX0_has_9 : decode cX0_has 9 = .ok (.if_icmp .ge 7, 3) := by decide +kernel
theorem dX0_has_12 : decode cX0_has 12 = .ok (.iconst 1, 1) := by decide +kernel
theorem dX0_has_13 : decode cX0_has 13 = .ok (.goto 4, 3) := by decide +kernel
theorem dX0_has_16 : decode cX0_has 16 = .ok (.iconst 0, 1) := by decide +kernel
theorem dX0_has_17 : decode cX0_has 17 = .ok (.ireturn, 1) := by decide +kernel
theorem dX0_hasWall_0 : decode cX0_hasWall 0 = .ok (.iload_n 1, 1) := by decide +kernel
theorem dX0_hasWall_1 : decode cX0_hasWall 1 = .ok (.ifCond .lt 19, 3) := by decide +kernel
theorem dX0_hasWall_4 : decode cX0_hasWall 4 = .ok (.iload_n 1, 1) := by decide +kernel
theorem dX0_hasWall_5 : decode cX0_hasWall 5 = .ok (.aload_n 0, 1) := by decide +kernel
theorem dX0_hasWall_6 : decode cX0_hasWall 6 = .ok (.invokevirtual 47, 3) := by decide +kernel
theorem dX0_hasWall_9 : decode cX0_hasWall 9 = .ok (.sipush 1440, 3) := by decide +kernel
theorem dX0_hasWall_12 : decode cX0_hasWall 12 = .ok (.imul, 1) := by decide +kernel
theorem dX0_hasWall_13 : decode cX0_hasWall 13 = .ok (.if_icmp .ge 7, 3) := by decide +kernel
theorem dX0_hasWall_16 : decode cX0_hasWall 16 = .ok (.iconst 1, 1) := by decide +kernel
theorem dX0_hasWall_17 : decode cX0_hasWall 17 = .ok (.goto 4, 3) := by decide +kernel
theorem dX0_hasWall_20 : decode cX0_hasWall 20 = .ok (.iconst 0, 1) := by decide +kernel
theorem dX0_hasWall_21 : decode cX0_hasWall 21 = .ok (.ireturn, 1) := by decide +kernel
theorem dX0_isWeekday_0 : decode cX0_isWeekday 0 = .ok (.iload_n 1, 1) := by decide +kernel
theorem dX0_isWeekday_1 : decode cX0_isWeekday 1 = .ok (.ifCond .lt 15, 3) := by decide +kernel
theorem dX0_isWeekday_4 : decode cX0_isWeekday 4 = .ok (.iload_n 1, 1) := by decide +kernel
theorem dX0_isWeekday_5 : decode cX0_isWeekday 5 = .ok (.aload_n 0, 1) := by decide +kernel
theorem dX0_isWeekday_6 : decode cX0_isWeekday 6 = .ok (.getfield 34, 3) := by decide +kernel
theorem dX0_isWeekday_9 : decode cX0_isWeekday 9 = .ok (.if_icmp .ge 7, 3) := by decide +kernel
theorem dX0_isWeekday_12 : decode cX0_isWeekday 12 = .ok (.iconst 1, 1) := by decide +kernel
theorem dX0_isWeekday_13 : decode cX0_isWeekday 13 = .ok (.goto 4, 3) := by decide +kernel
theorem dX0_isWeekday_16 : decode cX0_isWeekday 16 = .ok (.iconst 0, 1) := by decide +kernel
theorem dX0_isWeekday_17 : decode cX0_isWeekday 17 = .ok (.ireturn, 1) := by decide +kernel
theorem dX0_weekdayOf_0 : decode cX0_weekdayOf 0 = .ok (.iload_n 1, 1) := by decide +kernel
theorem dX0_weekdayOf_1 : decode cX0_weekdayOf 1 = .ok (.aload_n 0, 1) := by decide +kernel
theorem dX0_weekdayOf_2 : decode cX0_weekdayOf 2 = .ok (.getfield 37, 3) := by decide +kernel
theorem dX0_weekdayOf_5 : decode cX0_weekdayOf 5 = .ok (.iadd, 1) := by decide +kernel
theorem dX0_weekdayOf_6 : decode cX0_weekdayOf 6 = .ok (.aload_n 0, 1) := by decide +kernel
theorem dX0_weekdayOf_7 : decode cX0_weekdayOf 7 = .ok (.getfield 34, 3) := by decide +kernel
theorem dX0_weekdayOf_10 : decode cX0_weekdayOf 10 = .ok (.invokestatic 43, 3) := by decide +kernel
theorem dX0_weekdayOf_13 : decode cX0_weekdayOf 13 = .ok (.ireturn, 1) := by decide +kernel
theorem dX0_daysIn_0 : decode cX0_daysIn 0 = .ok (.aload_n 0, 1) := by decide +kernel
theorem dX0_daysIn_1 : decode cX0_daysIn 1 = .ok (.getfield 9, 3) := by decide +kernel
theorem dX0_daysIn_4 : decode cX0_daysIn 4 = .ok (.iload_n 2, 1) := by decide +kernel
theorem dX0_daysIn_5 : decode cX0_daysIn 5 = .ok (.iaload, 1) := by decide +kernel
theorem dX0_daysIn_6 : decode cX0_daysIn 6 = .ok (.iload_n 2, 1) := by decide +kernel
theorem dX0_daysIn_7 : decode cX0_daysIn 7 = .ok (.aload_n 0, 1) := by decide +kernel
theorem dX0_daysIn_8 : decode cX0_daysIn 8 = .ok (.getfield 31, 3) := by decide +kernel
theorem dX0_daysIn_11 : decode cX0_daysIn 11 = .ok (.if_icmp .ne 12, 3) := by decide +kernel
theorem dX0_daysIn_14 : decode cX0_daysIn 14 = .ok (.aload_n 0, 1) := by decide +kernel
theorem dX0_daysIn_15 : decode cX0_daysIn 15 = .ok (.getfield 18, 3) := by decide +kernel
theorem dX0_daysIn_18 : decode cX0_daysIn 18 = .ok (.iload_n 1, 1) := by decide +kernel
theorem dX0_daysIn_19 : decode cX0_daysIn 19 = .ok (.iaload, 1) := by decide +kernel
theorem dX0_daysIn_20 : decode cX0_daysIn 20 = .ok (.goto 4, 3) := by decide +kernel
theorem dX0_daysIn_23 : decode cX0_daysIn 23 = .ok (.iconst 0, 1) := by decide +kernel
theorem dX0_daysIn_24 : decode cX0_daysIn 24 = .ok (.iadd, 1) := by decide +kernel
theorem dX0_daysIn_25 : decode cX0_daysIn 25 = .ok (.ireturn, 1) := by decide +kernel
theorem dX0_firstDay_0 : decode cX0_firstDay 0 = .ok (.aload_n 0, 1) := by decide +kernel
theorem dX0_firstDay_1 : decode cX0_firstDay 1 = .ok (.getfield 21, 3) := by decide +kernel
theorem dX0_firstDay_4 : decode cX0_firstDay 4 = .ok (.iload_n 1, 1) := by decide +kernel
theorem dX0_firstDay_5 : decode cX0_firstDay 5 = .ok (.iaload, 1) := by decide +kernel
theorem dX0_firstDay_6 : decode cX0_firstDay 6 = .ok (.aload_n 0, 1) := by decide +kernel
theorem dX0_firstDay_7 : decode cX0_firstDay 7 = .ok (.getfield 15, 3) := by decide +kernel
theorem dX0_firstDay_10 : decode cX0_firstDay 10 = .ok (.iload_n 2, 1) := by decide +kernel
theorem dX0_firstDay_11 : decode cX0_firstDay 11 = .ok (.iaload, 1) := by decide +kernel
theorem dX0_firstDay_12 : decode cX0_firstDay 12 = .ok (.iadd, 1) := by decide +kernel
theorem dX0_firstDay_13 : decode cX0_firstDay 13 = .ok (.iload_n 2, 1) := by decide +kernel
theorem dX0_firstDay_14 : decode cX0_firstDay 14 = .ok (.aload_n 0, 1) := by decide +kernel
theorem dX0_firstDay_15 : decode cX0_firstDay 15 = .ok (.getfield 31, 3) := by decide +kernel
theorem dX0_firstDay_18 : decode cX0_firstDay 18 = .ok (.if_icmp .le 12, 3) := by decide +kernel
theorem dX0_firstDay_21 : decode cX0_firstDay 21 = .ok (.aload_n 0, 1) := by decide +kernel
theorem dX0_firstDay_22 : decode cX0_firstDay 22 = .ok (.getfield 18, 3) := by decide +kernel
theorem dX0_firstDay_25 : decode cX0_firstDay 25 = .ok (.iload_n 1, 1) := by decide +kernel
theorem dX0_firstDay_26 : decode cX0_firstDay 26 = .ok (.iaload, 1) := by decide +kernel
theorem dX0_firstDay_27 : decode cX0_firstDay 27 = .ok (.goto 4, 3) := by decide +kernel
theorem dX0_firstDay_30 : decode cX0_firstDay 30 = .ok (.iconst 0, 1) := by decide +kernel
theorem dX0_firstDay_31 : decode cX0_firstDay 31 = .ok (.iadd, 1) := by decide +kernel
theorem dX0_firstDay_32 : decode cX0_firstDay 32 = .ok (.ireturn, 1) := by decide +kernel
theorem dX0_yearOf_0 : decode cX0_yearOf 0 = .ok (.iconst 0, 1) := by decide +kernel
theorem dX0_yearOf_1 : decode cX0_yearOf 1 = .ok (.istore_n 2, 1) := by decide +kernel
theorem dX0_yearOf_2 : decode cX0_yearOf 2 = .ok (.bipush 64, 2) := by decide +kernel
theorem dX0_yearOf_4 : decode cX0_yearOf 4 = .ok (.istore_n 3, 1) := by decide +kernel
theorem dX0_yearOf_5 : decode cX0_yearOf 5 = .ok (.iload_n 3, 1) := by decide +kernel
theorem dX0_yearOf_6 : decode cX0_yearOf 6 = .ok (.ifCond .le 34, 3) := by decide +kernel
theorem dX0_yearOf_9 : decode cX0_yearOf 9 = .ok (.iload_n 2, 1) := by decide +kernel
theorem dX0_yearOf_10 : decode cX0_yearOf 10 = .ok (.iload_n 3, 1) := by decide +kernel
theorem dX0_yearOf_11 : decode cX0_yearOf 11 = .ok (.iadd, 1) := by decide +kernel
theorem dX0_yearOf_12 : decode cX0_yearOf 12 = .ok (.bipush 100, 2) := by decide +kernel
theorem dX0_yearOf_14 : decode cX0_yearOf 14 = .ok (.if_icmp .ge 19, 3) := by decide +kernel
theorem dX0_yearOf_17 : decode cX0_yearOf 17 = .ok (.aload_n 0, 1) := by decide +kernel
theorem dX0_yearOf_18 : decode cX0_yearOf 18 = .ok (.getfield 21, 3) := by decide +kernel
theorem dX0_yearOf_21 : decode cX0_yearOf 21 = .ok (.iload_n 2, 1) := by decide +kernel
theorem dX0_yearOf_22 : decode cX0_yearOf 22 = .ok (.iload_n 3, 1) := by decide +kernel
theorem dX0_yearOf_23 : decode cX0_yearOf 23 = .ok (.iadd, 1) := by decide +kernel
theorem dX0_yearOf_24 : decode cX0_yearOf 24 = .ok (.iaload, 1) := by decide +kernel
theorem dX0_yearOf_25 : decode cX0_yearOf 25 = .ok (.iload_n 1, 1) := by decide +kernel
theorem dX0_yearOf_26 : decode cX0_yearOf 26 = .ok (.if_icmp .gt 7, 3) := by decide +kernel
theorem dX0_yearOf_29 : decode cX0_yearOf 29 = .ok (.iload_n 2, 1) := by decide +kernel
theorem dX0_yearOf_30 : decode cX0_yearOf 30 = .ok (.iload_n 3, 1) := by decide +kernel
theorem dX0_yearOf_31 : decode cX0_yearOf 31 = .ok (.iadd, 1) := by decide +kernel
theorem dX0_yearOf_32 : decode cX0_yearOf 32 = .ok (.istore_n 2, 1) := by decide +kernel
theorem dX0_yearOf_33 : decode cX0_yearOf 33 = .ok (.iload_n 3, 1) := by decide +kernel
theorem dX0_yearOf_34 : decode cX0_yearOf 34 = .ok (.iconst 1, 1) := by decide +kernel
theorem dX0_yearOf_35 : decode cX0_yearOf 35 = .ok (.ishr, 1) := by decide +kernel
theorem dX0_yearOf_36 : decode cX0_yearOf 36 = .ok (.istore_n 3, 1) := by decide +kernel
theorem dX0_yearOf_37 : decode cX0_yearOf 37 = .ok (.goto (-32), 3) := by decide +kernel
theorem dX0_yearOf_40 : decode cX0_yearOf 40 = .ok (.iload_n 2, 1) := by decide +kernel
theorem dX0_yearOf_41 : decode cX0_yearOf 41 = .ok (.ireturn, 1) := by decide +kernel
theorem dX0_monthOf_0 : decode cX0_monthOf 0 = .ok (.iload_n 2, 1) := by decide +kernel
theorem dX0_monthOf_1 : decode cX0_monthOf 1 = .ok (.aload_n 0, 1) := by decide +kernel
theorem dX0_monthOf_2 : decode cX0_monthOf 2 = .ok (.getfield 21, 3) := by decide +kernel
theorem dX0_monthOf_5 : decode cX0_monthOf 5 = .ok (.iload_n 1, 1) := by decide +kernel
theorem dX0_monthOf_6 : decode cX0_monthOf 6 = .ok (.iaload, 1) := by decide +kernel
theorem dX0_monthOf_7 : decode cX0_monthOf 7 = .ok (.isub, 1) := by decide +kernel
theorem dX0_monthOf_8 : decode cX0_monthOf 8 = .ok (.istore_n 3, 1) := by decide +kernel
theorem dX0_monthOf_9 : decode cX0_monthOf 9 = .ok (.iconst 0, 1) := by decide +kernel
theorem dX0_monthOf_10 : decode cX0_monthOf 10 = .ok (.istore 4, 2) := by decide +kernel
theorem dX0_monthOf_12 : decode cX0_monthOf 12 = .ok (.iconst 1, 1) := by decide +kernel
theorem dX0_monthOf_13 : decode cX0_monthOf 13 = .ok (.istore 5, 2) := by decide +kernel
theorem dX0_monthOf_15 : decode cX0_monthOf 15 = .ok (.iload 5, 2) := by decide +kernel
theorem dX0_monthOf_17 : decode cX0_monthOf 17 = .ok (.bipush 12, 2) := by decide +kernel
theorem dX0_monthOf_19 : decode cX0_monthOf 19 = .ok (.if_icmp .ge 48, 3) := by decide +kernel
theorem dX0_monthOf_22 : decode cX0_monthOf 22 = .ok (.aload_n 0, 1) := by decide +kernel
theorem dX0_monthOf_23 : decode cX0_monthOf 23 = .ok (.getfield 15, 3) := by decide +kernel
theorem dX0_monthOf_26 : decode cX0_monthOf 26 = .ok (.iload 5, 2) := by decide +kernel
theorem dX0_monthOf_28 : decode cX0_monthOf 28 = .ok (.iaload, 1) := by decide +kernel
theorem dX0_monthOf_29 : decode cX0_monthOf 29 = .ok (.iload 5, 2) := by decide +kernel
theorem dX0_monthOf_31 : decode cX0_monthOf 31 = .ok (.aload_n 0, 1) := by decide +kernel
theorem dX0_monthOf_32 : decode cX0_monthOf 32 = .ok (.getfield 31, 3) := by decide +kernel
theorem dX0_monthOf_35 : decode cX0_monthOf 35 = .ok (.if_icmp .le 12, 3) := by decide +kernel
theorem dX0_monthOf_38 : decode cX0_monthOf 38 = .ok (.aload_n 0, 1) := by decide +kernel
theorem dX0_monthOf_39 : decode cX0_monthOf 39 = .ok (.getfield 18, 3) := by decide +kernel
theorem dX0_monthOf_42 : decode cX0_monthOf 42 = .ok (.iload_n 1, 1) := by decide +kernel
theorem dX0_monthOf_43 : decode cX0_monthOf 43 = .ok (.iaload, 1) := by decide +kernel
theorem dX0_monthOf_44 : decode cX0_monthOf 44 = .ok (.goto 4, 3) := by decide +kernel
theorem dX0_monthOf_47 : decode cX0_monthOf 47 = .ok (.iconst 0, 1) := by decide +kernel
theorem dX0_monthOf_48 : decode cX0_monthOf 48 = .ok (.iadd, 1) := by decide +kernel
theorem dX0_monthOf_49 : decode cX0_monthOf 49 = .ok (.istore 6, 2) := by decide +kernel
theorem dX0_monthOf_51 : decode cX0_monthOf 51 = .ok (.iload 6, 2) := by decide +kernel
theorem dX0_monthOf_53 : decode cX0_monthOf 53 = .ok (.iload_n 3, 1) := by decide +kernel
theorem dX0_monthOf_54 : decode cX0_monthOf 54 = .ok (.if_icmp .gt 7, 3) := by decide +kernel
theorem dX0_monthOf_57 : decode cX0_monthOf 57 = .ok (.iload 5, 2) := by decide +kernel
theorem dX0_monthOf_59 : decode cX0_monthOf 59 = .ok (.istore 4, 2) := by decide +kernel
theorem dX0_monthOf_61 : decode cX0_monthOf 61 = .ok (.iinc 5 1, 3) := by decide +kernel
theorem dX0_monthOf_64 : decode cX0_monthOf 64 = .ok (.goto (-49), 3) := by decide +kernel
theorem dX0_monthOf_67 : decode cX0_monthOf 67 = .ok (.iload 4, 2) := by decide +kernel
theorem dX0_monthOf_69 : decode cX0_monthOf 69 = .ok (.ireturn, 1) := by decide +kernel
theorem dX0_monthsOn_0 : decode cX0_monthsOn 0 = .ok (.aload_n 0, 1) := by decide +kernel
theorem dX0_monthsOn_1 : decode cX0_monthsOn 1 = .ok (.iload_n 1, 1) := by decide +kernel
theorem dX0_monthsOn_2 : decode cX0_monthsOn 2 = .ok (.invokevirtual 51, 3) := by decide +kernel
theorem dX0_monthsOn_5 : decode cX0_monthsOn 5 = .ok (.istore 4, 2) := by decide +kernel
theorem dX0_monthsOn_7 : decode cX0_monthsOn 7 = .ok (.aload_n 0, 1) := by decide +kernel
theorem dX0_monthsOn_8 : decode cX0_monthsOn 8 = .ok (.iload 4, 2) := by decide +kernel
theorem dX0_monthsOn_10 : decode cX0_monthsOn 10 = .ok (.iload_n 1, 1) := by decide +kernel
theorem dX0_monthsOn_11 : decode cX0_monthsOn 11 = .ok (.invokevirtual 55, 3) := by decide +kernel
theorem dX0_monthsOn_14 : decode cX0_monthsOn 14 = .ok (.istore 5, 2) := by decide +kernel
theorem dX0_monthsOn_16 : decode cX0_monthsOn 16 = .ok (.iload_n 1, 1) := by decide +kernel
theorem dX0_monthsOn_17 : decode cX0_monthsOn 17 = .ok (.aload_n 0, 1) := by decide +kernel
theorem dX0_monthsOn_18 : decode cX0_monthsOn 18 = .ok (.iload 4, 2) := by decide +kernel
theorem dX0_monthsOn_20 : decode cX0_monthsOn 20 = .ok (.iload 5, 2) := by decide +kernel
theorem dX0_monthsOn_22 : decode cX0_monthsOn 22 = .ok (.invokevirtual 58, 3) := by decide +kernel
theorem dX0_monthsOn_25 : decode cX0_monthsOn 25 = .ok (.isub, 1) := by decide +kernel
theorem dX0_monthsOn_26 : decode cX0_monthsOn 26 = .ok (.istore 6, 2) := by decide +kernel
theorem dX0_monthsOn_28 : decode cX0_monthsOn 28 = .ok (.iload 4, 2) := by decide +kernel
theorem dX0_monthsOn_30 : decode cX0_monthsOn 30 = .ok (.bipush 12, 2) := by decide +kernel
theorem dX0_monthsOn_32 : decode cX0_monthsOn 32 = .ok (.imul, 1) := by decide +kernel
theorem dX0_monthsOn_33 : decode cX0_monthsOn 33 = .ok (.iload 5, 2) := by decide +kernel
theorem dX0_monthsOn_35 : decode cX0_monthsOn 35 = .ok (.iadd, 1) := by decide +kernel
theorem dX0_monthsOn_36 : decode cX0_monthsOn 36 = .ok (.iload_n 2, 1) := by decide +kernel
theorem dX0_monthsOn_37 : decode cX0_monthsOn 37 = .ok (.iadd, 1) := by decide +kernel
theorem dX0_monthsOn_38 : decode cX0_monthsOn 38 = .ok (.istore 7, 2) := by decide +kernel
theorem dX0_monthsOn_40 : decode cX0_monthsOn 40 = .ok (.iload 7, 2) := by decide +kernel
theorem dX0_monthsOn_42 : decode cX0_monthsOn 42 = .ok (.ifCond .lt 11, 3) := by decide +kernel
theorem dX0_monthsOn_45 : decode cX0_monthsOn 45 = .ok (.iload 7, 2) := by decide +kernel
theorem dX0_monthsOn_47 : decode cX0_monthsOn 47 = .ok (.sipush 1200, 3) := by decide +kernel
theorem dX0_monthsOn_50 : decode cX0_monthsOn 50 = .ok (.if_icmp .lt 5, 3) := by decide +kernel
theorem dX0_monthsOn_53 : decode cX0_monthsOn 53 = .ok (.iconst (-1), 1) := by decide +kernel
theorem dX0_monthsOn_54 : decode cX0_monthsOn 54 = .ok (.ireturn, 1) := by decide +kernel
theorem dX0_monthsOn_55 : decode cX0_monthsOn 55 = .ok (.aload_n 0, 1) := by decide +kernel
theorem dX0_monthsOn_56 : decode cX0_monthsOn 56 = .ok (.iload 7, 2) := by decide +kernel
theorem dX0_monthsOn_58 : decode cX0_monthsOn 58 = .ok (.bipush 12, 2) := by decide +kernel
theorem dX0_monthsOn_60 : decode cX0_monthsOn 60 = .ok (.idiv, 1) := by decide +kernel
theorem dX0_monthsOn_61 : decode cX0_monthsOn 61 = .ok (.iload 7, 2) := by decide +kernel
theorem dX0_monthsOn_63 : decode cX0_monthsOn 63 = .ok (.bipush 12, 2) := by decide +kernel
theorem dX0_monthsOn_65 : decode cX0_monthsOn 65 = .ok (.irem, 1) := by decide +kernel
theorem dX0_monthsOn_66 : decode cX0_monthsOn 66 = .ok (.invokevirtual 58, 3) := by decide +kernel
theorem dX0_monthsOn_69 : decode cX0_monthsOn 69 = .ok (.istore 8, 2) := by decide +kernel
theorem dX0_monthsOn_71 : decode cX0_monthsOn 71 = .ok (.aload_n 0, 1) := by decide +kernel
theorem dX0_monthsOn_72 : decode cX0_monthsOn 72 = .ok (.iload 7, 2) := by decide +kernel
theorem dX0_monthsOn_74 : decode cX0_monthsOn 74 = .ok (.bipush 12, 2) := by decide +kernel
theorem dX0_monthsOn_76 : decode cX0_monthsOn 76 = .ok (.idiv, 1) := by decide +kernel
theorem dX0_monthsOn_77 : decode cX0_monthsOn 77 = .ok (.iload 7, 2) := by decide +kernel
theorem dX0_monthsOn_79 : decode cX0_monthsOn 79 = .ok (.bipush 12, 2) := by decide +kernel
theorem dX0_monthsOn_81 : decode cX0_monthsOn 81 = .ok (.irem, 1) := by decide +kernel
theorem dX0_monthsOn_82 : decode cX0_monthsOn 82 = .ok (.invokevirtual 61, 3) := by decide +kernel
theorem dX0_monthsOn_85 : decode cX0_monthsOn 85 = .ok (.istore 9, 2) := by decide +kernel
theorem dX0_monthsOn_87 : decode cX0_monthsOn 87 = .ok (.iload 8, 2) := by decide +kernel
theorem dX0_monthsOn_89 : decode cX0_monthsOn 89 = .ok (.iload 6, 2) := by decide +kernel
theorem dX0_monthsOn_91 : decode cX0_monthsOn 91 = .ok (.iadd, 1) := by decide +kernel
theorem dX0_monthsOn_92 : decode cX0_monthsOn 92 = .ok (.istore 10, 2) := by decide +kernel
theorem dX0_monthsOn_94 : decode cX0_monthsOn 94 = .ok (.iload 6, 2) := by decide +kernel
theorem dX0_monthsOn_96 : decode cX0_monthsOn 96 = .ok (.iload 9, 2) := by decide +kernel
theorem dX0_monthsOn_98 : decode cX0_monthsOn 98 = .ok (.if_icmp .lt 10, 3) := by decide +kernel
theorem dX0_monthsOn_101 : decode cX0_monthsOn 101 = .ok (.iload_n 3, 1) := by decide +kernel
theorem dX0_monthsOn_102 : decode cX0_monthsOn 102 = .ok (.iconst 2, 1) := by decide +kernel
theorem dX0_monthsOn_103 : decode cX0_monthsOn 103 = .ok (.if_icmp .ne 5, 3) := by decide +kernel
theorem dX0_monthsOn_106 : decode cX0_monthsOn 106 = .ok (.iconst (-1), 1) := by decide +kernel
theorem dX0_monthsOn_107 : decode cX0_monthsOn 107 = .ok (.ireturn, 1) := by decide +kernel
theorem dX0_monthsOn_108 : decode cX0_monthsOn 108 = .ok (.iload 6, 2) := by decide +kernel
theorem dX0_monthsOn_110 : decode cX0_monthsOn 110 = .ok (.iload 9, 2) := by decide +kernel
theorem dX0_monthsOn_112 : decode cX0_monthsOn 112 = .ok (.if_icmp .lt 16, 3) := by decide +kernel
theorem dX0_monthsOn_115 : decode cX0_monthsOn 115 = .ok (.iload_n 3, 1) := by decide +kernel
theorem dX0_monthsOn_116 : decode cX0_monthsOn 116 = .ok (.ifCond .ne 12, 3) := by decide +kernel
theorem dX0_monthsOn_119 : decode cX0_monthsOn 119 = .ok (.iload 8, 2) := by decide +kernel
theorem dX0_monthsOn_121 : decode cX0_monthsOn 121 = .ok (.iload 9, 2) := by decide +kernel
theorem dX0_monthsOn_123 : decode cX0_monthsOn 123 = .ok (.iadd, 1) := by decide +kernel
theorem dX0_monthsOn_124 : decode cX0_monthsOn 124 = .ok (.iconst 1, 1) := by decide +kernel
theorem dX0_monthsOn_125 : decode cX0_monthsOn 125 = .ok (.isub, 1) := by decide +kernel
theorem dX0_monthsOn_126 : decode cX0_monthsOn 126 = .ok (.istore 10, 2) := by decide +kernel
theorem dX0_monthsOn_128 : decode cX0_monthsOn 128 = .ok (.aload_n 0, 1) := by decide +kernel
theorem dX0_monthsOn_129 : decode cX0_monthsOn 129 = .ok (.iload 10, 2) := by decide +kernel
theorem dX0_monthsOn_131 : decode cX0_monthsOn 131 = .ok (.invokevirtual 64, 3) := by decide +kernel
theorem dX0_monthsOn_134 : decode cX0_monthsOn 134 = .ok (.ifCond .eq 8, 3) := by decide +kernel
theorem dX0_monthsOn_137 : decode cX0_monthsOn 137 = .ok (.iload 10, 2) := by decide +kernel
theorem dX0_monthsOn_139 : decode cX0_monthsOn 139 = .ok (.goto 4, 3) := by decide +kernel
theorem dX0_monthsOn_142 : decode cX0_monthsOn 142 = .ok (.iconst (-1), 1) := by decide +kernel
theorem dX0_monthsOn_143 : decode cX0_monthsOn 143 = .ok (.ireturn, 1) := by decide +kernel
theorem dX0_nthWeekday_0 : decode cX0_nthWeekday 0 = .ok (.aload_n 0, 1) := by decide +kernel
theorem dX0_nthWeekday_1 : decode cX0_nthWeekday 1 = .ok (.iload_n 1, 1) := by decide +kernel
theorem dX0_nthWeekday_2 : decode cX0_nthWeekday 2 = .ok (.iload_n 2, 1) := by decide +kernel
theorem dX0_nthWeekday_3 : decode cX0_nthWeekday 3 = .ok (.invokevirtual 58, 3) := by decide +kernel
theorem dX0_nthWeekday_6 : decode cX0_nthWeekday 6 = .ok (.istore 5, 2) := by decide +kernel
theorem dX0_nthWeekday_8 : decode cX0_nthWeekday 8 = .ok (.aload_n 0, 1) := by decide +kernel
theorem dX0_nthWeekday_9 : decode cX0_nthWeekday 9 = .ok (.iload_n 1, 1) := by decide +kernel
theorem dX0_nthWeekday_10 : decode cX0_nthWeekday 10 = .ok (.iload_n 2, 1) := by decide +kernel
theorem dX0_nthWeekday_11 : decode cX0_nthWeekday 11 = .ok (.invokevirtual 61, 3) := by decide +kernel
theorem dX0_nthWeekday_14 : decode cX0_nthWeekday 14 = .ok (.istore 6, 2) := by decide +kernel
theorem dX0_nthWeekday_16 : decode cX0_nthWeekday 16 = .ok (.iconst 1, 1) := by decide +kernel
theorem dX0_nthWeekday_17 : decode cX0_nthWeekday 17 = .ok (.aload_n 0, 1) := by decide +kernel
theorem dX0_nthWeekday_18 : decode cX0_nthWeekday 18 = .ok (.getfield 34, 3) := by decide +kernel
theorem dX0_nthWeekday_21 : decode cX0_nthWeekday 21 = .ok (.invokestatic 68, 3) := by decide +kernel
theorem dX0_nthWeekday_24 : decode cX0_nthWeekday 24 = .ok (.istore 7, 2) := by decide +kernel
theorem dX0_nthWeekday_26 : decode cX0_nthWeekday 26 = .ok (.iload_n 3, 1) := by decide +kernel
theorem dX0_nthWeekday_27 : decode cX0_nthWeekday 27 = .ok (.aload_n 0, 1) := by decide +kernel
theorem dX0_nthWeekday_28 : decode cX0_nthWeekday 28 = .ok (.iload 5, 2) := by decide +kernel
theorem dX0_nthWeekday_30 : decode cX0_nthWeekday 30 = .ok (.invokevirtual 73, 3) := by decide +kernel
theorem dX0_nthWeekday_33 : decode cX0_nthWeekday 33 = .ok (.isub, 1) := by decide +kernel
theorem dX0_nthWeekday_34 : decode cX0_nthWeekday 34 = .ok (.iload 7, 2) := by decide +kernel
theorem dX0_nthWeekday_36 : decode cX0_nthWeekday 36 = .ok (.invokestatic 43, 3) := by decide +kernel
theorem dX0_nthWeekday_39 : decode cX0_nthWeekday 39 = .ok (.istore 8, 2) := by decide +kernel
theorem dX0_nthWeekday_41 : decode cX0_nthWeekday 41 = .ok (.iload 4, 2) := by decide +kernel
theorem dX0_nthWeekday_43 : decode cX0_nthWeekday 43 = .ok (.iconst 4, 1) := by decide +kernel
theorem dX0_nthWeekday_44 : decode cX0_nthWeekday 44 = .ok (.if_icmp .ge 16, 3) := by decide +kernel
theorem dX0_nthWeekday_47 : decode cX0_nthWeekday 47 = .ok (.iload 8, 2) := by decide +kernel
theorem dX0_nthWeekday_49 : decode cX0_nthWeekday 49 = .ok (.iload 4, 2) := by decide +kernel
theorem dX0_nthWeekday_51 : decode cX0_nthWeekday 51 = .ok (.iload 7, 2) := by decide +kernel
theorem dX0_nthWeekday_53 : decode cX0_nthWeekday 53 = .ok (.imul, 1) := by decide +kernel
theorem dX0_nthWeekday_54 : decode cX0_nthWeekday 54 = .ok (.iadd, 1) := by decide +kernel
theorem dX0_nthWeekday_55 : decode cX0_nthWeekday 55 = .ok (.istore 8, 2) := by decide +kernel
theorem dX0_nthWeekday_57 : decode cX0_nthWeekday 57 = .ok (.goto 28, 3) := by decide +kernel
theorem dX0_nthWeekday_60 : decode cX0_nthWeekday 60 = .ok (.iload 8, 2) := by decide +kernel
theorem dX0_nthWeekday_62 : decode cX0_nthWeekday 62 = .ok (.iload 6, 2) := by decide +kernel
theorem dX0_nthWeekday_64 : decode cX0_nthWeekday 64 = .ok (.if_icmp .ge 21, 3) := by decide +kernel
theorem dX0_nthWeekday_67 : decode cX0_nthWeekday 67 = .ok (.iload 8, 2) := by decide +kernel
theorem dX0_nthWeekday_69 : decode cX0_nthWeekday 69 = .ok (.iload 6, 2) := by decide +kernel
theorem dX0_nthWeekday_71 : decode cX0_nthWeekday 71 = .ok (.iconst 1, 1) := by decide +kernel
theorem dX0_nthWeekday_72 : decode cX0_nthWeekday 72 = .ok (.isub, 1) := by decide +kernel
theorem dX0_nthWeekday_73 : decode cX0_nthWeekday 73 = .ok (.iload 8, 2) := by decide +kernel
theorem dX0_nthWeekday_75 : decode cX0_nthWeekday 75 = .ok (.isub, 1) := by decide +kernel
theorem dX0_nthWeekday_76 : decode cX0_nthWeekday 76 = .ok (.iload 7, 2) := by decide +kernel
theorem dX0_nthWeekday_78 : decode cX0_nthWeekday 78 = .ok (.idiv, 1) := by decide +kernel
theorem dX0_nthWeekday_79 : decode cX0_nthWeekday 79 = .ok (.iload 7, 2) := by decide +kernel
theorem dX0_nthWeekday_81 : decode cX0_nthWeekday 81 = .ok (.imul, 1) := by decide +kernel
theorem dX0_nthWeekday_82 : decode cX0_nthWeekday 82 = .ok (.iadd, 1) := by decide +kernel
theorem dX0_nthWeekday_83 : decode cX0_nthWeekday 83 = .ok (.istore 8, 2) := by decide +kernel
theorem dX0_nthWeekday_85 : decode cX0_nthWeekday 85 = .ok (.iload 8, 2) := by decide +kernel
theorem dX0_nthWeekday_87 : decode cX0_nthWeekday 87 = .ok (.iload 6, 2) := by decide +kernel
theorem dX0_nthWeekday_89 : decode cX0_nthWeekday 89 = .ok (.if_icmp .ge 11, 3) := by decide +kernel
theorem dX0_nthWeekday_92 : decode cX0_nthWeekday 92 = .ok (.iload 5, 2) := by decide +kernel
theorem dX0_nthWeekday_94 : decode cX0_nthWeekday 94 = .ok (.iload 8, 2) := by decide +kernel
theorem dX0_nthWeekday_96 : decode cX0_nthWeekday 96 = .ok (.iadd, 1) := by decide +kernel
theorem dX0_nthWeekday_97 : decode cX0_nthWeekday 97 = .ok (.goto 4, 3) := by decide +kernel
theorem dX0_nthWeekday_100 : decode cX0_nthWeekday 100 = .ok (.iconst (-1), 1) := by decide +kernel
theorem dX0_nthWeekday_101 : decode cX0_nthWeekday 101 = .ok (.ireturn, 1) := by decide +kernel
theorem dX1_init_0 : decode cX1_init 0 = .ok (.aload_n 0, 1) := by decide +kernel
theorem dX1_init_1 : decode cX1_init 1 = .ok (.invokespecial 3, 3) := by decide +kernel
theorem dX1_init_4 : decode cX1_init 4 = .ok (.aload_n 0, 1) := by decide +kernel
theorem dX1_init_5 : decode cX1_init 5 = .ok (.aload_n 1, 1) := by decide +kernel
theorem dX1_init_6 : decode cX1_init 6 = .ok (.putfield 9, 3) := by decide +kernel
theorem dX1_init_9 : decode cX1_init 9 = .ok (.aload_n 0, 1) := by decide +kernel
theorem dX1_init_10 : decode cX1_init 10 = .ok (.aload_n 2, 1) := by decide +kernel
theorem dX1_init_11 : decode cX1_init 11 = .ok (.putfield 15, 3) := by decide +kernel
theorem dX1_init_14 : decode cX1_init 14 = .ok (.aload_n 0, 1) := by decide +kernel
theorem dX1_init_15 : decode cX1_init 15 = .ok (.aload_n 3, 1) := by decide +kernel
theorem dX1_init_16 : decode cX1_init 16 = .ok (.putfield 19, 3) := by decide +kernel
theorem dX1_init_19 : decode cX1_init 19 = .ok (.aload_n 0, 1) := by decide +kernel
theorem dX1_init_20 : decode cX1_init 20 = .ok (.new 23, 3) := by decide +kernel
theorem dX1_init_23 : decode cX1_init 23 = .ok (.dup, 1) := by decide +kernel
theorem dX1_init_24 : decode cX1_init 24 = .ok (.aload_n 1, 1) := by decide +kernel
theorem dX1_init_25 : decode cX1_init 25 = .ok (.aload_n 2, 1) := by decide +kernel
theorem dX1_init_26 : decode cX1_init 26 = .ok (.invokespecial 25, 3) := by decide +kernel
theorem dX1_init_29 : decode cX1_init 29 = .ok (.putfield 28, 3) := by decide +kernel
theorem dX1_init_32 : decode cX1_init 32 = .ok (.return_, 1) := by decide +kernel
theorem dX1_hear_0 : decode cX1_hear 0 = .ok (.aload_n 0, 1) := by decide +kernel
theorem dX1_hear_1 : decode cX1_hear 1 = .ok (.iload_n 1, 1) := by decide +kernel
theorem dX1_hear_2 : decode cX1_hear 2 = .ok (.putfield 32, 3) := by decide +kernel
theorem dX1_hear_5 : decode cX1_hear 5 = .ok (.aload_n 0, 1) := by decide +kernel
theorem dX1_hear_6 : decode cX1_hear 6 = .ok (.iload_n 2, 1) := by decide +kernel
theorem dX1_hear_7 : decode cX1_hear 7 = .ok (.putfield 36, 3) := by decide +kernel
theorem dX1_hear_10 : decode cX1_hear 10 = .ok (.aload_n 0, 1) := by decide +kernel
theorem dX1_hear_11 : decode cX1_hear 11 = .ok (.iload_n 3, 1) := by decide +kernel
theorem dX1_hear_12 : decode cX1_hear 12 = .ok (.putfield 39, 3) := by decide +kernel
theorem dX1_hear_15 : decode cX1_hear 15 = .ok (.return_, 1) := by decide +kernel
theorem dX1_holds_0 : decode cX1_holds 0 = .ok (.iload_n 2, 1) := by decide +kernel
theorem dX1_holds_1 : decode cX1_holds 1 = .ok (.ldc 42, 2) := by decide +kernel
theorem dX1_holds_3 : decode cX1_holds 3 = .ok (.if_icmp .ne 5, 3) := by decide +kernel
theorem dX1_holds_6 : decode cX1_holds 6 = .ok (.iconst 0, 1) := by decide +kernel
theorem dX1_holds_7 : decode cX1_holds 7 = .ok (.ireturn, 1) := by decide +kernel
theorem dX1_holds_8 : decode cX1_holds 8 = .ok (.aload_n 0, 1) := by decide +kernel
theorem dX1_holds_9 : decode cX1_holds 9 = .ok (.getfield 32, 3) := by decide +kernel
theorem dX1_holds_12 : decode cX1_holds 12 = .ok (.tableswitch 108 0 3 #[32, 52, 70, 89], 32) := by decide +kernel
theorem dX1_holds_44 : decode cX1_holds 44 = .ok (.iload_n 1, 1) := by decide +kernel
theorem dX1_holds_45 : decode cX1_holds 45 = .ok (.ifCond .ne 17, 3) := by decide +kernel
theorem dX1_holds_48 : decode cX1_holds 48 = .ok (.iload_n 2, 1) := by decide +kernel
theorem dX1_holds_49 : decode cX1_holds 49 = .ok (.iload_n 3, 1) := by decide +kernel
theorem dX1_holds_50 : decode cX1_holds 50 = .ok (.isub, 1) := by decide +kernel
theorem dX1_holds_51 : decode cX1_holds 51 = .ok (.aload_n 0, 1) := by decide +kernel
theorem dX1_holds_52 : decode cX1_holds 52 = .ok (.getfield 39, 3) := by decide +kernel
theorem dX1_holds_55 : decode cX1_holds 55 = .ok (.if_icmp .lt 7, 3) := by decide +kernel
theorem dX1_holds_58 : decode cX1_holds 58 = .ok (.iconst 1, 1) := by decide +kernel
theorem dX1_holds_59 : decode cX1_holds 59 = .ok (.goto 4, 3) := by decide +kernel
theorem dX1_holds_62 : decode cX1_holds 62 = .ok (.iconst 0, 1) := by decide +kernel
theorem dX1_holds_63 : decode cX1_holds 63 = .ok (.ireturn, 1) := by decide +kernel
theorem dX1_holds_64 : decode cX1_holds 64 = .ok (.iload_n 1, 1) := by decide +kernel
theorem dX1_holds_65 : decode cX1_holds 65 = .ok (.ifCond .ne 15, 3) := by decide +kernel
theorem dX1_holds_68 : decode cX1_holds 68 = .ok (.aload_n 0, 1) := by decide +kernel
theorem dX1_holds_69 : decode cX1_holds 69 = .ok (.iload_n 2, 1) := by decide +kernel
theorem dX1_holds_70 : decode cX1_holds 70 = .ok (.invokevirtual 43, 3) := by decide +kernel
theorem dX1_holds_73 : decode cX1_holds 73 = .ok (.ifCond .eq 7, 3) := by decide +kernel
theorem dX1_holds_76 : decode cX1_holds 76 = .ok (.iconst 1, 1) := by decide +kernel
theorem dX1_holds_77 : decode cX1_holds 77 = .ok (.goto 4, 3) := by decide +kernel
theorem dX1_holds_80 : decode cX1_holds 80 = .ok (.iconst 0, 1) := by decide +kernel
theorem dX1_holds_81 : decode cX1_holds 81 = .ok (.ireturn, 1) := by decide +kernel
theorem dX1_holds_82 : decode cX1_holds 82 = .ok (.iload_n 1, 1) := by decide +kernel
theorem dX1_holds_83 : decode cX1_holds 83 = .ok (.ifCond .ne 16, 3) := by decide +kernel
theorem dX1_holds_86 : decode cX1_holds 86 = .ok (.aload_n 0, 1) := by decide +kernel
theorem dX1_holds_87 : decode cX1_holds 87 = .ok (.iload_n 2, 1) := by decide +kernel
theorem dX1_holds_88 : decode cX1_holds 88 = .ok (.iload_n 3, 1) := by decide +kernel
theorem dX1_holds_89 : decode cX1_holds 89 = .ok (.invokevirtual 47, 3) := by decide +kernel
theorem dX1_holds_92 : decode cX1_holds 92 = .ok (.ifCond .eq 7, 3) := by decide +kernel
theorem dX1_holds_95 : decode cX1_holds 95 = .ok (.iconst 1, 1) := by decide +kernel
theorem dX1_holds_96 : decode cX1_holds 96 = .ok (.goto 4, 3) := by decide +kernel
theorem dX1_holds_99 : decode cX1_holds 99 = .ok (.iconst 0, 1) := by decide +kernel
theorem dX1_holds_100 : decode cX1_holds 100 = .ok (.ireturn, 1) := by decide +kernel
theorem dX1_holds_101 : decode cX1_holds 101 = .ok (.iload_n 1, 1) := by decide +kernel
theorem dX1_holds_102 : decode cX1_holds 102 = .ok (.iconst 3, 1) := by decide +kernel
theorem dX1_holds_103 : decode cX1_holds 103 = .ok (.if_icmp .ne 15, 3) := by decide +kernel
theorem dX1_holds_106 : decode cX1_holds 106 = .ok (.iload_n 2, 1) := by decide +kernel
theorem dX1_holds_107 : decode cX1_holds 107 = .ok (.aload_n 0, 1) := by decide +kernel
theorem dX1_holds_108 : decode cX1_holds 108 = .ok (.getfield 39, 3) := by decide +kernel
theorem dX1_holds_111 : decode cX1_holds 111 = .ok (.if_icmp .lt 7, 3) := by decide +kernel
theorem dX1_holds_114 : decode cX1_holds 114 = .ok (.iconst 1, 1) := by decide +kernel
theorem dX1_holds_115 : decode cX1_holds 115 = .ok (.goto 4, 3) := by decide +kernel
theorem dX1_holds_118 : decode cX1_holds 118 = .ok (.iconst 0, 1) := by decide +kernel
theorem dX1_holds_119 : decode cX1_holds 119 = .ok (.ireturn, 1) := by decide +kernel
theorem dX1_holds_120 : decode cX1_holds 120 = .ok (.iconst 1, 1) := by decide +kernel
theorem dX1_holds_121 : decode cX1_holds 121 = .ok (.ireturn, 1) := by decide +kernel
theorem dX1_isAtMinute_0 : decode cX1_isAtMinute 0 = .ok (.aload_n 0, 1) := by decide +kernel
theorem dX1_isAtMinute_1 : decode cX1_isAtMinute 1 = .ok (.iload_n 1, 1) := by decide +kernel
theorem dX1_isAtMinute_2 : decode cX1_isAtMinute 2 = .ok (.invokevirtual 51, 3) := by decide +kernel
theorem dX1_isAtMinute_5 : decode cX1_isAtMinute 5 = .ok (.istore_n 2, 1) := by decide +kernel
theorem dX1_isAtMinute_6 : decode cX1_isAtMinute 6 = .ok (.iload_n 2, 1) := by decide +kernel
theorem dX1_isAtMinute_7 : decode cX1_isAtMinute 7 = .ok (.iconst (-1), 1) := by decide +kernel
theorem dX1_isAtMinute_8 : decode cX1_isAtMinute 8 = .ok (.if_icmp .eq 19, 3) := by decide +kernel
theorem dX1_isAtMinute_11 : decode cX1_isAtMinute 11 = .ok (.iload_n 2, 1) := by decide +kernel
theorem dX1_isAtMinute_12 : decode cX1_isAtMinute 12 = .ok (.sipush 1440, 3) := by decide +kernel
theorem dX1_isAtMinute_15 : decode cX1_isAtMinute 15 = .ok (.irem, 1) := by decide +kernel
theorem dX1_isAtMinute_16 : decode cX1_isAtMinute 16 = .ok (.aload_n 0, 1) := by decide +kernel
theorem dX1_isAtMinute_17 : decode cX1_isAtMinute 17 = .ok (.getfield 39, 3) := by decide +kernel
theorem dX1_isAtMinute_20 : decode cX1_isAtMinute 20 = .ok (.if_icmp .ne 7, 3) := by decide +kernel
theorem dX1_isAtMinute_23 : decode cX1_isAtMinute 23 = .ok (.iconst 1, 1) := by decide +kernel
theorem dX1_isAtMinute_24 : decode cX1_isAtMinute 24 = .ok (.goto 4, 3) := by decide +kernel
theorem dX1_isAtMinute_27 : decode cX1_isAtMinute 27 = .ok (.iconst 0, 1) := by decide +kernel
theorem dX1_isAtMinute_28 : decode cX1_isAtMinute 28 = .ok (.ireturn, 1) := by decide +kernel
theorem dX1_haveSameWeekday_0 : decode cX1_haveSameWeekday 0 = .ok (.aload_n 0, 1) := by decide +kernel
theorem dX1_haveSameWeekday_1 : decode cX1_haveSameWeekday 1 = .ok (.iload_n 1, 1) := by decide +kernel
theorem dX1_haveSameWeekday_2 : decode cX1_haveSameWeekday 2 = .ok (.invokevirtual 51, 3) := by decide +kernel
theorem dX1_haveSameWeekday_5 : decode cX1_haveSameWeekday 5 = .ok (.istore_n 3, 1) := by decide +kernel
theorem dX1_haveSameWeekday_6 : decode cX1_haveSameWeekday 6 = .ok (.aload_n 0, 1) := by decide +kernel
theorem dX1_haveSameWeekday_7 : decode cX1_haveSameWeekday 7 = .ok (.iload_n 2, 1) := by decide +kernel
theorem dX1_haveSameWeekday_8 : decode cX1_haveSameWeekday 8 = .ok (.invokevirtual 51, 3) := by decide +kernel
theorem dX1_haveSameWeekday_11 : decode cX1_haveSameWeekday 11 = .ok (.istore 4, 2) := by decide +kernel
theorem dX1_haveSameWeekday_13 : decode cX1_haveSameWeekday 13 = .ok (.iload_n 3, 1) := by decide +kernel
theorem dX1_haveSameWeekday_14 : decode cX1_haveSameWeekday 14 = .ok (.iconst (-1), 1) := by decide +kernel
theorem dX1_haveSameWeekday_15 : decode cX1_haveSameWeekday 15 = .ok (.if_icmp .eq 9, 3) := by decide +kernel
theorem dX1_haveSameWeekday_18 : decode cX1_haveSameWeekday 18 = .ok (.iload 4, 2) := by decide +kernel
theorem dX1_haveSameWeekday_20 : decode cX1_haveSameWeekday 20 = .ok (.iconst (-1), 1) := by decide +kernel
theorem dX1_haveSameWeekday_21 : decode cX1_haveSameWeekday 21 = .ok (.if_icmp .ne 5, 3) := by decide +kernel
theorem dX1_haveSameWeekday_24 : decode cX1_haveSameWeekday 24 = .ok (.iconst 0, 1) := by decide +kernel
theorem dX1_haveSameWeekday_25 : decode cX1_haveSameWeekday 25 = .ok (.ireturn, 1) := by decide +kernel
theorem dX1_haveSameWeekday_26 : decode cX1_haveSameWeekday 26 = .ok (.aload_n 0, 1) := by decide +kernel
theorem dX1_haveSameWeekday_27 : decode cX1_haveSameWeekday 27 = .ok (.getfield 9, 3) := by decide +kernel
theorem dX1_haveSameWeekday_30 : decode cX1_haveSameWeekday 30 = .ok (.iload_n 3, 1) := by decide +kernel
theorem dX1_haveSameWeekday_31 : decode cX1_haveSameWeekday 31 = .ok (.sipush 1440, 3) := by decide +kernel
theorem dX1_haveSameWeekday_34 : decode cX1_haveSameWeekday 34 = .ok (.idiv, 1) := by decide +kernel
theorem dX1_haveSameWeekday_35 : decode cX1_haveSameWeekday 35 = .ok (.invokevirtual 55, 3) := by decide +kernel
theorem dX1_haveSameWeekday_38 : decode cX1_haveSameWeekday 38 = .ok (.aload_n 0, 1) := by decide +kernel
theorem dX1_haveSameWeekday_39 : decode cX1_haveSameWeekday 39 = .ok (.getfield 9, 3) := by decide +kernel
theorem dX1_haveSameWeekday_42 : decode cX1_haveSameWeekday 42 = .ok (.iload 4, 2) := by decide +kernel
theorem dX1_haveSameWeekday_44 : decode cX1_haveSameWeekday 44 = .ok (.sipush 1440, 3) := by decide +kernel
theorem dX1_haveSameWeekday_47 : decode cX1_haveSameWeekday 47 = .ok (.idiv, 1) := by decide +kernel
theorem dX1_haveSameWeekday_48 : decode cX1_haveSameWeekday 48 = .ok (.invokevirtual 55, 3) := by decide +kernel
theorem dX1_haveSameWeekday_51 : decode cX1_haveSameWeekday 51 = .ok (.if_icmp .ne 7, 3) := by decide +kernel
theorem dX1_haveSameWeekday_54 : decode cX1_haveSameWeekday 54 = .ok (.iconst 1, 1) := by decide +kernel
theorem dX1_haveSameWeekday_55 : decode cX1_haveSameWeekday 55 = .ok (.goto 4, 3) := by decide +kernel
theorem dX1_haveSameWeekday_58 : decode cX1_haveSameWeekday 58 = .ok (.iconst 0, 1) := by decide +kernel
theorem dX1_haveSameWeekday_59 : decode cX1_haveSameWeekday 59 = .ok (.ireturn, 1) := by decide +kernel
theorem dX1_lawWall_0 : decode cX1_lawWall 0 = .ok (.aload_n 0, 1) := by decide +kernel
theorem dX1_lawWall_1 : decode cX1_lawWall 1 = .ok (.getfield 15, 3) := by decide +kernel
theorem dX1_lawWall_4 : decode cX1_lawWall 4 = .ok (.aload_n 0, 1) := by decide +kernel
theorem dX1_lawWall_5 : decode cX1_lawWall 5 = .ok (.getfield 36, 3) := by decide +kernel
theorem dX1_lawWall_8 : decode cX1_lawWall 8 = .ok (.invokevirtual 60, 3) := by decide +kernel
theorem dX1_lawWall_11 : decode cX1_lawWall 11 = .ok (.astore_n 2, 1) := by decide +kernel
theorem dX1_lawWall_12 : decode cX1_lawWall 12 = .ok (.aload_n 2, 1) := by decide +kernel
theorem dX1_lawWall_13 : decode cX1_lawWall 13 = .ok (.ifnonnull 7, 3) := by decide +kernel
theorem dX1_lawWall_16 : decode cX1_lawWall 16 = .ok (.iconst (-1), 1) := by decide +kernel
theorem dX1_lawWall_17 : decode cX1_lawWall 17 = .ok (.goto 10, 3) := by decide +kernel
theorem dX1_lawWall_20 : decode cX1_lawWall 20 = .ok (.iload_n 1, 1) := by decide +kernel
theorem dX1_lawWall_21 : decode cX1_lawWall 21 = .ok (.aload_n 2, 1) := by decide +kernel
theorem dX1_lawWall_22 : decode cX1_lawWall 22 = .ok (.iload_n 1, 1) := by decide +kernel
theorem dX1_lawWall_23 : decode cX1_lawWall 23 = .ok (.invokevirtual 66, 3) := by decide +kernel
theorem dX1_lawWall_26 : decode cX1_lawWall 26 = .ok (.iadd, 1) := by decide +kernel
theorem dX1_lawWall_27 : decode cX1_lawWall 27 = .ok (.istore_n 3, 1) := by decide +kernel
theorem dX1_lawWall_28 : decode cX1_lawWall 28 = .ok (.aload_n 0, 1) := by decide +kernel
theorem dX1_lawWall_29 : decode cX1_lawWall 29 = .ok (.getfield 9, 3) := by decide +kernel
theorem dX1_lawWall_32 : decode cX1_lawWall 32 = .ok (.iload_n 3, 1) := by decide +kernel
theorem dX1_lawWall_33 : decode cX1_lawWall 33 = .ok (.invokevirtual 71, 3) := by decide +kernel
theorem dX1_lawWall_36 : decode cX1_lawWall 36 = .ok (.ifCond .eq 7, 3) := by decide +kernel
theorem dX1_lawWall_39 : decode cX1_lawWall 39 = .ok (.iload_n 3, 1) := by decide +kernel
theorem dX1_lawWall_40 : decode cX1_lawWall 40 = .ok (.goto 4, 3) := by decide +kernel
theorem dX1_lawWall_43 : decode cX1_lawWall 43 = .ok (.iconst (-1), 1) := by decide +kernel
theorem dX1_lawWall_44 : decode cX1_lawWall 44 = .ok (.ireturn, 1) := by decide +kernel
theorem dX1_firstBroken_0 : decode cX1_firstBroken 0 = .ok (.iconst 0, 1) := by decide +kernel
theorem dX1_firstBroken_1 : decode cX1_firstBroken 1 = .ok (.istore_n 2, 1) := by decide +kernel
theorem dX1_firstBroken_2 : decode cX1_firstBroken 2 = .ok (.iload_n 2, 1) := by decide +kernel
theorem dX1_firstBroken_3 : decode cX1_firstBroken 3 = .ok (.aload_n 0, 1) := by decide +kernel
theorem dX1_firstBroken_4 : decode cX1_firstBroken 4 = .ok (.getfield 19, 3) := by decide +kernel
theorem dX1_firstBroken_7 : decode cX1_firstBroken 7 = .ok (.getfield 74, 3) := by decide +kernel
theorem dX1_firstBroken_10 : decode cX1_firstBroken 10 = .ok (.if_icmp .ge 42, 3) := by decide +kernel
theorem dX1_firstBroken_13 : decode cX1_firstBroken 13 = .ok (.aload_n 0, 1) := by decide +kernel
theorem dX1_firstBroken_14 : decode cX1_firstBroken 14 = .ok (.getfield 19, 3) := by decide +kernel
theorem dX1_firstBroken_17 : decode cX1_firstBroken 17 = .ok (.getfield 79, 3) := by decide +kernel
theorem dX1_firstBroken_20 : decode cX1_firstBroken 20 = .ok (.iload_n 2, 1) := by decide +kernel
theorem dX1_firstBroken_21 : decode cX1_firstBroken 21 = .ok (.iaload, 1) := by decide +kernel
theorem dX1_firstBroken_22 : decode cX1_firstBroken 22 = .ok (.istore_n 3, 1) := by decide +kernel
theorem dX1_firstBroken_23 : decode cX1_firstBroken 23 = .ok (.aload_n 0, 1) := by decide +kernel
theorem dX1_firstBroken_24 : decode cX1_firstBroken 24 = .ok (.aload_n 1, 1) := by decide +kernel
theorem dX1_firstBroken_25 : decode cX1_firstBroken 25 = .ok (.getfield 83, 3) := by decide +kernel
theorem dX1_firstBroken_28 : decode cX1_firstBroken 28 = .ok (.aload_n 0, 1) := by decide +kernel
theorem dX1_firstBroken_29 : decode cX1_firstBroken 29 = .ok (.getfield 28, 3) := by decide +kernel
theorem dX1_firstBroken_32 : decode cX1_firstBroken 32 = .ok (.aload_n 1, 1) := by decide +kernel
theorem dX1_firstBroken_33 : decode cX1_firstBroken 33 = .ok (.iload_n 3, 1) := by decide +kernel
theorem dX1_firstBroken_34 : decode cX1_firstBroken 34 = .ok (.invokevirtual 88, 3) := by decide +kernel
theorem dX1_firstBroken_37 : decode cX1_firstBroken 37 = .ok (.iload_n 3, 1) := by decide +kernel
theorem dX1_firstBroken_38 : decode cX1_firstBroken 38 = .ok (.invokevirtual 92, 3) := by decide +kernel
theorem dX1_firstBroken_41 : decode cX1_firstBroken 41 = .ok (.ifCond .ne 5, 3) := by decide +kernel
theorem dX1_firstBroken_44 : decode cX1_firstBroken 44 = .ok (.iload_n 3, 1) := by decide +kernel
theorem dX1_firstBroken_45 : decode cX1_firstBroken 45 = .ok (.ireturn, 1) := by decide +kernel
theorem dX1_firstBroken_46 : decode cX1_firstBroken 46 = .ok (.iinc 2 1, 3) := by decide +kernel
theorem dX1_firstBroken_49 : decode cX1_firstBroken 49 = .ok (.goto (-47), 3) := by decide +kernel
theorem dX1_firstBroken_52 : decode cX1_firstBroken 52 = .ok (.iconst (-1), 1) := by decide +kernel
theorem dX1_firstBroken_53 : decode cX1_firstBroken 53 = .ok (.ireturn, 1) := by decide +kernel
theorem dX1_isRight_0 : decode cX1_isRight 0 = .ok (.aload_n 1, 1) := by decide +kernel
theorem dX1_isRight_1 : decode cX1_isRight 1 = .ok (.getfield 96, 3) := by decide +kernel
theorem dX1_isRight_4 : decode cX1_isRight 4 = .ok (.iconst (-1), 1) := by decide +kernel
theorem dX1_isRight_5 : decode cX1_isRight 5 = .ok (.if_icmp .eq 5, 3) := by decide +kernel
theorem dX1_isRight_8 : decode cX1_isRight 8 = .ok (.iconst 0, 1) := by decide +kernel
theorem dX1_isRight_9 : decode cX1_isRight 9 = .ok (.ireturn, 1) := by decide +kernel
theorem dX1_isRight_10 : decode cX1_isRight 10 = .ok (.iconst (-1), 1) := by decide +kernel
theorem dX1_isRight_11 : decode cX1_isRight 11 = .ok (.istore_n 2, 1) := by decide +kernel
theorem dX1_isRight_12 : decode cX1_isRight 12 = .ok (.iload_n 2, 1) := by decide +kernel
theorem dX1_isRight_13 : decode cX1_isRight 13 = .ok (.aload_n 0, 1) := by decide +kernel
theorem dX1_isRight_14 : decode cX1_isRight 14 = .ok (.getfield 19, 3) := by decide +kernel
theorem dX1_isRight_17 : decode cX1_isRight 17 = .ok (.getfield 74, 3) := by decide +kernel
theorem dX1_isRight_20 : decode cX1_isRight 20 = .ok (.if_icmp .ge 58, 3) := by decide +kernel
theorem dX1_isRight_23 : decode cX1_isRight 23 = .ok (.iload_n 2, 1) := by decide +kernel
theorem dX1_isRight_24 : decode cX1_isRight 24 = .ok (.ifCond .ge 10, 3) := by decide +kernel
theorem dX1_isRight_27 : decode cX1_isRight 27 = .ok (.aload_n 0, 1) := by decide +kernel
theorem dX1_isRight_28 : decode cX1_isRight 28 = .ok (.getfield 99, 3) := by decide +kernel
theorem dX1_isRight_31 : decode cX1_isRight 31 = .ok (.goto 12, 3) := by decide +kernel
theorem dX1_isRight_34 : decode cX1_isRight 34 = .ok (.aload_n 0, 1) := by decide +kernel
theorem dX1_isRight_35 : decode cX1_isRight 35 = .ok (.getfield 19, 3) := by decide +kernel
theorem dX1_isRight_38 : decode cX1_isRight 38 = .ok (.getfield 79, 3) := by decide +kernel
theorem dX1_isRight_41 : decode cX1_isRight 41 = .ok (.iload_n 2, 1) := by decide +kernel
theorem dX1_isRight_42 : decode cX1_isRight 42 = .ok (.iaload, 1) := by decide +kernel
theorem dX1_isRight_43 : decode cX1_isRight 43 = .ok (.istore_n 3, 1) := by decide +kernel
theorem dX1_isRight_44 : decode cX1_isRight 44 = .ok (.aload_n 0, 1) := by decide +kernel
theorem dX1_isRight_45 : decode cX1_isRight 45 = .ok (.aload_n 1, 1) := by decide +kernel
theorem dX1_isRight_46 : decode cX1_isRight 46 = .ok (.getfield 83, 3) := by decide +kernel
theorem dX1_isRight_49 : decode cX1_isRight 49 = .ok (.aload_n 0, 1) := by decide +kernel
theorem dX1_isRight_50 : decode cX1_isRight 50 = .ok (.getfield 28, 3) := by decide +kernel
theorem dX1_isRight_53 : decode cX1_isRight 53 = .ok (.aload_n 1, 1) := by decide +kernel
theorem dX1_isRight_54 : decode cX1_isRight 54 = .ok (.iload_n 3, 1) := by decide +kernel
theorem dX1_isRight_55 : decode cX1_isRight 55 = .ok (.invokevirtual 88, 3) := by decide +kernel
theorem dX1_isRight_58 : decode cX1_isRight 58 = .ok (.iload_n 3, 1) := by decide +kernel
theorem dX1_isRight_59 : decode cX1_isRight 59 = .ok (.invokevirtual 92, 3) := by decide +kernel
theorem dX1_isRight_62 : decode cX1_isRight 62 = .ok (.ifCond .ne 10, 3) := by decide +kernel
theorem dX1_isRight_65 : decode cX1_isRight 65 = .ok (.aload_n 0, 1) := by decide +kernel
theorem dX1_isRight_66 : decode cX1_isRight 66 = .ok (.iload_n 3, 1) := by decide +kernel
theorem dX1_isRight_67 : decode cX1_isRight 67 = .ok (.putfield 99, 3) := by decide +kernel
theorem dX1_isRight_70 : decode cX1_isRight 70 = .ok (.iconst 0, 1) := by decide +kernel
theorem dX1_isRight_71 : decode cX1_isRight 71 = .ok (.ireturn, 1) := by decide +kernel
theorem dX1_isRight_72 : decode cX1_isRight 72 = .ok (.iinc 2 1, 3) := by decide +kernel
theorem dX1_isRight_75 : decode cX1_isRight 75 = .ok (.goto (-63), 3) := by decide +kernel
theorem dX1_isRight_78 : decode cX1_isRight 78 = .ok (.iconst 1, 1) := by decide +kernel
theorem dX1_isRight_79 : decode cX1_isRight 79 = .ok (.ireturn, 1) := by decide +kernel
theorem dX2_init_0 : decode cX2_init 0 = .ok (.aload_n 0, 1) := by decide +kernel
theorem dX2_init_1 : decode cX2_init 1 = .ok (.invokespecial 3, 3) := by decide +kernel
theorem dX2_init_4 : decode cX2_init 4 = .ok (.aload_n 0, 1) := by decide +kernel
theorem dX2_init_5 : decode cX2_init 5 = .ok (.bipush 8, 2) := by decide +kernel
theorem dX2_init_7 : decode cX2_init 7 = .ok (.newarray .int, 2) := by decide +kernel
theorem dX2_init_9 : decode cX2_init 9 = .ok (.putfield 9, 3) := by decide +kernel
theorem dX2_init_12 : decode cX2_init 12 = .ok (.aload_n 0, 1) := by decide +kernel
theorem dX2_init_13 : decode cX2_init 13 = .ok (.aload_n 1, 1) := by decide +kernel
theorem dX2_init_14 : decode cX2_init 14 = .ok (.putfield 15, 3) := by decide +kernel
theorem dX2_init_17 : decode cX2_init 17 = .ok (.aload_n 0, 1) := by decide +kernel
theorem dX2_init_18 : decode cX2_init 18 = .ok (.aload_n 2, 1) := by decide +kernel
theorem dX2_init_19 : decode cX2_init 19 = .ok (.putfield 19, 3) := by decide +kernel
theorem dX2_init_22 : decode cX2_init 22 = .ok (.return_, 1) := by decide +kernel
theorem dX2_answerOf_0 : decode cX2_answerOf 0 = .ok (.iconst 0, 1) := by decide +kernel
theorem dX2_answerOf_1 : decode cX2_answerOf 1 = .ok (.istore_n 3, 1) := by decide +kernel
theorem dX2_answerOf_2 : decode cX2_answerOf 2 = .ok (.iconst 0, 1) := by decide +kernel
theorem dX2_answerOf_3 : decode cX2_answerOf 3 = .ok (.istore 4, 2) := by decide +kernel
theorem dX2_answerOf_5 : decode cX2_answerOf 5 = .ok (.iload 4, 2) := by decide +kernel
theorem dX2_answerOf_7 : decode cX2_answerOf 7 = .ok (.aload_n 1, 1) := by decide +kernel
theorem dX2_answerOf_8 : decode cX2_answerOf 8 = .ok (.getfield 23, 3) := by decide +kernel
theorem dX2_answerOf_11 : decode cX2_answerOf 11 = .ok (.if_icmp .ge 265, 3) := by decide +kernel
theorem dX2_answerOf_14 : decode cX2_answerOf 14 = .ok (.aload_n 1, 1) := by decide +kernel
theorem dX2_answerOf_15 : decode cX2_answerOf 15 = .ok (.getfield 29, 3) := by decide +kernel
theorem dX2_answerOf_18 : decode cX2_answerOf 18 = .ok (.iload 4, 2) := by decide +kernel
theorem dX2_answerOf_20 : decode cX2_answerOf 20 = .ok (.iaload, 1) := by decide +kernel
theorem dX2_answerOf_21 : decode cX2_answerOf 21 = .ok (.istore 5, 2) := by decide +kernel
theorem dX2_answerOf_23 : decode cX2_answerOf 23 = .ok (.iload 5, 2) := by decide +kernel
theorem dX2_answerOf_25 : decode cX2_answerOf 25 = .ok (.ifCond .ne 7, 3) := by decide +kernel
theorem dX2_answerOf_28 : decode cX2_answerOf 28 = .ok (.iconst 0, 1) := by decide +kernel
theorem dX2_answerOf_29 : decode cX2_answerOf 29 = .ok (.goto 29, 3) := by decide +kernel
theorem dX2_answerOf_32 : decode cX2_answerOf 32 = .ok (.iload 5, 2) := by decide +kernel
theorem dX2_answerOf_34 : decode cX2_answerOf 34 = .ok (.bipush 8, 2) := by decide +kernel
theorem dX2_answerOf_36 : decode cX2_answerOf 36 = .ok (.if_icmp .eq 17, 3) := by decide +kernel
theorem dX2_answerOf_39 : decode cX2_answerOf 39 = .ok (.iload 5, 2) := by decide +kernel
theorem dX2_answerOf_41 : decode cX2_answerOf 41 = .ok (.bipush 9, 2) := by decide +kernel
theorem dX2_answerOf_43 : decode cX2_answerOf 43 = .ok (.if_icmp .eq 10, 3) := by decide +kernel
theorem dX2_answerOf_46 : decode cX2_answerOf 46 = .ok (.iload 5, 2) := by decide +kernel
theorem dX2_answerOf_48 : decode cX2_answerOf 48 = .ok (.bipush 11, 2) := by decide +kernel
theorem dX2_answerOf_50 : decode cX2_answerOf 50 = .ok (.if_icmp .ne 7, 3) := by decide +kernel
theorem dX2_answerOf_53 : decode cX2_answerOf 53 = .ok (.iconst 2, 1) := by decide +kernel
theorem dX2_answerOf_54 : decode cX2_answerOf 54 = .ok (.goto 4, 3) := by decide +kernel
theorem dX2_answerOf_57 : decode cX2_answerOf 57 = .ok (.iconst 1, 1) := by decide +kernel
theorem dX2_answerOf_58 : decode cX2_answerOf 58 = .ok (.istore 6, 2) := by decide +kernel
theorem dX2_answerOf_60 : decode cX2_answerOf 60 = .ok (.iload_n 3, 1) := by decide +kernel
theorem dX2_answerOf_61 : decode cX2_answerOf 61 = .ok (.iload 6, 2) := by decide +kernel
theorem dX2_answerOf_63 : decode cX2_answerOf 63 = .ok (.if_icmp .lt 21, 3) := by decide +kernel
theorem dX2_answerOf_66 : decode cX2_answerOf 66 = .ok (.iload_n 3, 1) := by decide +kernel
theorem dX2_answerOf_67 : decode cX2_answerOf 67 = .ok (.bipush 8, 2) := by decide +kernel
theorem dX2_answerOf_69 : decode cX2_answerOf 69 = .ok (.if_icmp .lt 18, 3) := by decide +kernel
theorem dX2_answerOf_72 : decode cX2_answerOf 72 = .ok (.iload 5, 2) := by decide +kernel
theorem dX2_answerOf_74 : decode cX2_answerOf 74 = .ok (.ifCond .eq 10, 3) := by decide +kernel
theorem dX2_answerOf_77 : decode cX2_answerOf 77 = .ok (.iload 5, 2) := by decide +kernel
theorem dX2_answerOf_79 : decode cX2_answerOf 79 = .ok (.bipush 10, 2) := by decide +kernel
theorem dX2_answerOf_81 : decode cX2_answerOf 81 = .ok (.if_icmp .ne 6, 3) := by decide +kernel
theorem dX2_answerOf_84 : decode cX2_answerOf 84 = .ok (.ldc 32, 2) := by decide +kernel
theorem dX2_answerOf_86 : decode cX2_answerOf 86 = .ok (.ireturn, 1) := by decide +kernel
theorem dX2_answerOf_87 : decode cX2_answerOf 87 = .ok (.iload 5, 2) := by decide +kernel
theorem dX2_answerOf_89 : decode cX2_answerOf 89 = .ok (.ifCond .ne 16, 3) := by decide +kernel
theorem dX2_answerOf_92 : decode cX2_answerOf 92 = .ok (.aload_n 0, 1) := by decide +kernel
theorem dX2_answerOf_93 : decode cX2_answerOf 93 = .ok (.getfield 9, 3) := by decide +kernel
theorem dX2_answerOf_96 : decode cX2_answerOf 96 = .ok (.iload_n 3, 1) := by decide +kernel
theorem dX2_answerOf_97 : decode cX2_answerOf 97 = .ok (.iload_n 2, 1) := by decide +kernel
theorem dX2_answerOf_98 : decode cX2_answerOf 98 = .ok (.iastore, 1) := by decide +kernel
theorem dX2_answerOf_99 : decode cX2_answerOf 99 = .ok (.iinc 3 1, 3) := by decide +kernel
theorem dX2_answerOf_102 : decode cX2_answerOf 102 = .ok (.goto 168, 3) := by decide +kernel
theorem dX2_answerOf_105 : decode cX2_answerOf 105 = .ok (.iload 5, 2) := by decide +kernel
theorem dX2_answerOf_107 : decode cX2_answerOf 107 = .ok (.bipush 10, 2) := by decide +kernel
theorem dX2_answerOf_109 : decode cX2_answerOf 109 = .ok (.if_icmp .ne 23, 3) := by decide +kernel
theorem dX2_answerOf_112 : decode cX2_answerOf 112 = .ok (.aload_n 0, 1) := by decide +kernel
theorem dX2_answerOf_113 : decode cX2_answerOf 113 = .ok (.getfield 9, 3) := by decide +kernel
theorem dX2_answerOf_116 : decode cX2_answerOf 116 = .ok (.iload_n 3, 1) := by decide +kernel
theorem dX2_answerOf_117 : decode cX2_answerOf 117 = .ok (.aload_n 0, 1) := by decide +kernel
theorem dX2_answerOf_118 : decode cX2_answerOf 118 = .ok (.getfield 9, 3) := by decide +kernel
theorem dX2_answerOf_121 : decode cX2_answerOf 121 = .ok (.iload_n 3, 1) := by decide +kernel
theorem dX2_answerOf_122 : decode cX2_answerOf 122 = .ok (.iconst 1, 1) := by decide +kernel
theorem dX2_answerOf_123 : decode cX2_answerOf 123 = .ok (.isub, 1) := by decide +kernel
theorem dX2_answerOf_124 : decode cX2_answerOf 124 = .ok (.iaload, 1) := by decide +kernel
theorem dX2_answerOf_125 : decode cX2_answerOf 125 = .ok (.iastore, 1) := by decide +kernel
theorem dX2_answerOf_126 : decode cX2_answerOf 126 = .ok (.iinc 3 1, 3) := by decide +kernel
theorem dX2_answerOf_129 : decode cX2_answerOf 129 = .ok (.goto 141, 3) := by decide +kernel
theorem dX2_answerOf_132 : decode cX2_answerOf 132 = .ok (.iload 5, 2) := by decide +kernel
theorem dX2_answerOf_134 : decode cX2_answerOf 134 = .ok (.bipush 11, 2) := by decide +kernel
theorem dX2_answerOf_136 : decode cX2_answerOf 136 = .ok (.if_icmp .ne 42, 3) := by decide +kernel
theorem dX2_answerOf_139 : decode cX2_answerOf 139 = .ok (.aload_n 0, 1) := by decide +kernel
theorem dX2_answerOf_140 : decode cX2_answerOf 140 = .ok (.getfield 9, 3) := by decide +kernel
theorem dX2_answerOf_143 : decode cX2_answerOf 143 = .ok (.iload_n 3, 1) := by decide +kernel
theorem dX2_answerOf_144 : decode cX2_answerOf 144 = .ok (.iconst 1, 1) := by decide +kernel
theorem dX2_answerOf_145 : decode cX2_answerOf 145 = .ok (.isub, 1) := by decide +kernel
theorem dX2_answerOf_146 : decode cX2_answerOf 146 = .ok (.iaload, 1) := by decide +kernel
theorem dX2_answerOf_147 : decode cX2_answerOf 147 = .ok (.istore 7, 2) := by decide +kernel
theorem dX2_answerOf_149 : decode cX2_answerOf 149 = .ok (.aload_n 0, 1) := by decide +kernel
theorem dX2_answerOf_150 : decode cX2_answerOf 150 = .ok (.getfield 9, 3) := by decide +kernel
theorem dX2_answerOf_153 : decode cX2_answerOf 153 = .ok (.iload_n 3, 1) := by decide +kernel
theorem dX2_answerOf_154 : decode cX2_answerOf 154 = .ok (.iconst 1, 1) := by decide +kernel
theorem dX2_answerOf_155 : decode cX2_answerOf 155 = .ok (.isub, 1) := by decide +kernel
theorem dX2_answerOf_156 : decode cX2_answerOf 156 = .ok (.aload_n 0, 1) := by decide +kernel
theorem dX2_answerOf_157 : decode cX2_answerOf 157 = .ok (.getfield 9, 3) := by decide +kernel
theorem dX2_answerOf_160 : decode cX2_answerOf 160 = .ok (.iload_n 3, 1) := by decide +kernel
theorem dX2_answerOf_161 : decode cX2_answerOf 161 = .ok (.iconst 2, 1) := by decide +kernel
theorem dX2_answerOf_162 : decode cX2_answerOf 162 = .ok (.isub, 1) := by decide +kernel
theorem dX2_answerOf_163 : decode cX2_answerOf 163 = .ok (.iaload, 1) := by decide +kernel
theorem dX2_answerOf_164 : decode cX2_answerOf 164 = .ok (.iastore, 1) := by decide +kernel
theorem dX2_answerOf_165 : decode cX2_answerOf 165 = .ok (.aload_n 0, 1) := by decide +kernel
theorem dX2_answerOf_166 : decode cX2_answerOf 166 = .ok (.getfield 9, 3) := by decide +kernel
theorem dX2_answerOf_169 : decode cX2_answerOf 169 = .ok (.iload_n 3, 1) := by decide +kernel
theorem dX2_answerOf_170 : decode cX2_answerOf 170 = .ok (.iconst 2, 1) := by decide +kernel
theorem dX2_answerOf_171 : decode cX2_answerOf 171 = .ok (.isub, 1) := by decide +kernel
theorem dX2_answerOf_172 : decode cX2_answerOf 172 = .ok (.iload 7, 2) := by decide +kernel
theorem dX2_answerOf_174 : decode cX2_answerOf 174 = .ok (.iastore, 1) := by decide +kernel
theorem dX2_answerOf_175 : decode cX2_answerOf 175 = .ok (.goto 95, 3) := by decide +kernel
theorem dX2_answerOf_178 : decode cX2_answerOf 178 = .ok (.iload 6, 2) := by decide +kernel
theorem dX2_answerOf_180 : decode cX2_answerOf 180 = .ok (.iconst 2, 1) := by decide +kernel
theorem dX2_answerOf_181 : decode cX2_answerOf 181 = .ok (.if_icmp .ne 29, 3) := by decide +kernel
theorem dX2_answerOf_184 : decode cX2_answerOf 184 = .ok (.aload_n 0, 1) := by decide +kernel
theorem dX2_answerOf_185 : decode cX2_answerOf 185 = .ok (.aload_n 1, 1) := by decide +kernel
theorem dX2_answerOf_186 : decode cX2_answerOf 186 = .ok (.iload 4, 2) := by decide +kernel
theorem dX2_answerOf_188 : decode cX2_answerOf 188 = .ok (.aload_n 0, 1) := by decide +kernel
theorem dX2_answerOf_189 : decode cX2_answerOf 189 = .ok (.getfield 9, 3) := by decide +kernel
theorem dX2_answerOf_192 : decode cX2_answerOf 192 = .ok (.iload_n 3, 1) := by decide +kernel
theorem dX2_answerOf_193 : decode cX2_answerOf 193 = .ok (.iconst 2, 1) := by decide +kernel
theorem dX2_answerOf_194 : decode cX2_answerOf 194 = .ok (.isub, 1) := by decide +kernel
theorem dX2_answerOf_195 : decode cX2_answerOf 195 = .ok (.iaload, 1) := by decide +kernel
theorem dX2_answerOf_196 : decode cX2_answerOf 196 = .ok (.aload_n 0, 1) := by decide +kernel
theorem dX2_answerOf_197 : decode cX2_answerOf 197 = .ok (.getfield 9, 3) := by decide +kernel
theorem dX2_answerOf_200 : decode cX2_answerOf 200 = .ok (.iload_n 3, 1) := by decide +kernel
theorem dX2_answerOf_201 : decode cX2_answerOf 201 = .ok (.iconst 1, 1) := by decide +kernel
theorem dX2_answerOf_202 : decode cX2_answerOf 202 = .ok (.isub, 1) := by decide +kernel
theorem dX2_answerOf_203 : decode cX2_answerOf 203 = .ok (.iaload, 1) := by decide +kernel
theorem dX2_answerOf_204 : decode cX2_answerOf 204 = .ok (.invokevirtual 33, 3) := by decide +kernel
theorem dX2_answerOf_207 : decode cX2_answerOf 207 = .ok (.goto 18, 3) := by decide +kernel
theorem dX2_answerOf_210 : decode cX2_answerOf 210 = .ok (.aload_n 0, 1) := by decide +kernel
theorem dX2_answerOf_211 : decode cX2_answerOf 211 = .ok (.aload_n 1, 1) := by decide +kernel
theorem dX2_answerOf_212 : decode cX2_answerOf 212 = .ok (.iload 4, 2) := by decide +kernel
theorem dX2_answerOf_214 : decode cX2_answerOf 214 = .ok (.aload_n 0, 1) := by decide +kernel
theorem dX2_answerOf_215 : decode cX2_answerOf 215 = .ok (.getfield 9, 3) := by decide +kernel
theorem dX2_answerOf_218 : decode cX2_answerOf 218 = .ok (.iload_n 3, 1) := by decide +kernel
theorem dX2_answerOf_219 : decode cX2_answerOf 219 = .ok (.iconst 1, 1) := by decide +kernel
theorem dX2_answerOf_220 : decode cX2_answerOf 220 = .ok (.isub, 1) := by decide +kernel
theorem dX2_answerOf_221 : decode cX2_answerOf 221 = .ok (.iaload, 1) := by decide +kernel
theorem dX2_answerOf_222 : decode cX2_answerOf 222 = .ok (.invokevirtual 37, 3) := by decide +kernel
theorem dX2_answerOf_225 : decode cX2_answerOf 225 = .ok (.istore 7, 2) := by decide +kernel
theorem dX2_answerOf_227 : decode cX2_answerOf 227 = .ok (.aload_n 0, 1) := by decide +kernel
theorem dX2_answerOf_228 : decode cX2_answerOf 228 = .ok (.aload_n 1, 1) := by decide +kernel
theorem dX2_answerOf_229 : decode cX2_answerOf 229 = .ok (.getfield 41, 3) := by decide +kernel
theorem dX2_answerOf_232 : decode cX2_answerOf 232 = .ok (.iload 4, 2) := by decide +kernel
theorem dX2_answerOf_234 : decode cX2_answerOf 234 = .ok (.iaload, 1) := by decide +kernel
theorem dX2_answerOf_235 : decode cX2_answerOf 235 = .ok (.iload 7, 2) := by decide +kernel
theorem dX2_answerOf_237 : decode cX2_answerOf 237 = .ok (.invokevirtual 44, 3) := by decide +kernel
theorem dX2_answerOf_240 : decode cX2_answerOf 240 = .ok (.ifCond .ne 6, 3) := by decide +kernel
theorem dX2_answerOf_243 : decode cX2_answerOf 243 = .ok (.ldc 32, 2) := by decide +kernel
theorem dX2_answerOf_245 : decode cX2_answerOf 245 = .ok (.ireturn, 1) := by decide +kernel
theorem dX2_answerOf_246 : decode cX2_answerOf 246 = .ok (.iload 6, 2) := by decide +kernel
theorem dX2_answerOf_248 : decode cX2_answerOf 248 = .ok (.iconst 2, 1) := by decide +kernel
theorem dX2_answerOf_249 : decode cX2_answerOf 249 = .ok (.if_icmp .ne 9, 3) := by decide +kernel
theorem dX2_answerOf_252 : decode cX2_answerOf 252 = .ok (.iload_n 3, 1) := by decide +kernel
theorem dX2_answerOf_253 : decode cX2_answerOf 253 = .ok (.iconst 1, 1) := by decide +kernel
theorem dX2_answerOf_254 : decode cX2_answerOf 254 = .ok (.isub, 1) := by decide +kernel
theorem dX2_answerOf_255 : decode cX2_answerOf 255 = .ok (.goto 4, 3) := by decide +kernel
theorem dX2_answerOf_258 : decode cX2_answerOf 258 = .ok (.iload_n 3, 1) := by decide +kernel
theorem dX2_answerOf_259 : decode cX2_answerOf 259 = .ok (.istore_n 3, 1) := by decide +kernel
theorem dX2_answerOf_260 : decode cX2_answerOf 260 = .ok (.aload_n 0, 1) := by decide +kernel
theorem dX2_answerOf_261 : decode cX2_answerOf 261 = .ok (.getfield 9, 3) := by decide +kernel
theorem dX2_answerOf_264 : decode cX2_answerOf 264 = .ok (.iload_n 3, 1) := by decide +kernel
theorem dX2_answerOf_265 : decode cX2_answerOf 265 = .ok (.iconst 1, 1) := by decide +kernel
theorem dX2_answerOf_266 : decode cX2_answerOf 266 = .ok (.isub, 1) := by decide +kernel
theorem dX2_answerOf_267 : decode cX2_answerOf 267 = .ok (.iload 7, 2) := by decide +kernel
theorem dX2_answerOf_269 : decode cX2_answerOf 269 = .ok (.iastore, 1) := by decide +kernel
theorem dX2_answerOf_270 : decode cX2_answerOf 270 = .ok (.iinc 4 1, 3) := by decide +kernel
theorem dX2_answerOf_273 : decode cX2_answerOf 273 = .ok (.goto (-268), 3) := by decide +kernel
theorem dX2_answerOf_276 : decode cX2_answerOf 276 = .ok (.iload_n 3, 1) := by decide +kernel
theorem dX2_answerOf_277 : decode cX2_answerOf 277 = .ok (.iconst 1, 1) := by decide +kernel
theorem dX2_answerOf_278 : decode cX2_answerOf 278 = .ok (.if_icmp .ne 12, 3) := by decide +kernel
theorem dX2_answerOf_281 : decode cX2_answerOf 281 = .ok (.aload_n 0, 1) := by decide +kernel
theorem dX2_answerOf_282 : decode cX2_answerOf 282 = .ok (.getfield 9, 3) := by decide +kernel
theorem dX2_answerOf_285 : decode cX2_answerOf 285 = .ok (.iconst 0, 1) := by decide +kernel
theorem dX2_answerOf_286 : decode cX2_answerOf 286 = .ok (.iaload, 1) := by decide +kernel
theorem dX2_answerOf_287 : decode cX2_answerOf 287 = .ok (.goto 5, 3) := by decide +kernel
theorem dX2_answerOf_290 : decode cX2_answerOf 290 = .ok (.ldc 32, 2) := by decide +kernel
theorem dX2_answerOf_292 : decode cX2_answerOf 292 = .ok (.ireturn, 1) := by decide +kernel
theorem dX2_joined_0 : decode cX2_joined 0 = .ok (.aload_n 1, 1) := by decide +kernel
theorem dX2_joined_1 : decode cX2_joined 1 = .ok (.getfield 29, 3) := by decide +kernel
theorem dX2_joined_4 : decode cX2_joined 4 = .ok (.iload_n 2, 1) := by decide +kernel
theorem dX2_joined_5 : decode cX2_joined 5 = .ok (.iaload, 1) := by decide +kernel
theorem dX2_joined_6 : decode cX2_joined 6 = .ok (.bipush 9, 2) := by decide +kernel
theorem dX2_joined_8 : decode cX2_joined 8 = .ok (.if_icmp .ne 8, 3) := by decide +kernel
theorem dX2_joined_11 : decode cX2_joined 11 = .ok (.iload_n 3, 1) := by decide +kernel
theorem dX2_joined_12 : decode cX2_joined 12 = .ok (.iload 4, 2) := by decide +kernel
theorem dX2_joined_14 : decode cX2_joined 14 = .ok (.iadd, 1) := by decide +kernel
theorem dX2_joined_15 : decode cX2_joined 15 = .ok (.ireturn, 1) := by decide +kernel
theorem dX2_joined_16 : decode cX2_joined 16 = .ok (.iload_n 2, 1) := by decide +kernel
theorem dX2_joined_17 : decode cX2_joined 17 = .ok (.ifCond .le 19, 3) := by decide +kernel
theorem dX2_joined_20 : decode cX2_joined 20 = .ok (.aload_n 1, 1) := by decide +kernel
theorem dX2_joined_21 : decode cX2_joined 21 = .ok (.getfield 41, 3) := by decide +kernel
theorem dX2_joined_24 : decode cX2_joined 24 = .ok (.iload_n 2, 1) := by decide +kernel
theorem dX2_joined_25 : decode cX2_joined 25 = .ok (.iconst 1, 1) := by decide +kernel
theorem dX2_joined_26 : decode cX2_joined 26 = .ok (.isub, 1) := by decide +kernel
theorem dX2_joined_27 : decode cX2_joined 27 = .ok (.iaload, 1) := by decide +kernel
theorem dX2_joined_28 : decode cX2_joined 28 = .ok (.iconst 2, 1) := by decide +kernel
theorem dX2_joined_29 : decode cX2_joined 29 = .ok (.if_icmp .ne 7, 3) := by decide +kernel
theorem dX2_joined_32 : decode cX2_joined 32 = .ok (.iconst 1, 1) := by decide +kernel
theorem dX2_joined_33 : decode cX2_joined 33 = .ok (.goto 4, 3) := by decide +kernel
theorem dX2_joined_36 : decode cX2_joined 36 = .ok (.iconst 0, 1) := by decide +kernel
theorem dX2_joined_37 : decode cX2_joined 37 = .ok (.istore 5, 2) := by decide +kernel
theorem dX2_joined_39 : decode cX2_joined 39 = .ok (.iload 5, 2) := by decide +kernel
theorem dX2_joined_41 : decode cX2_joined 41 = .ok (.ifCond .eq 14, 3) := by decide +kernel
theorem dX2_joined_44 : decode cX2_joined 44 = .ok (.iload 4, 2) := by decide +kernel
theorem dX2_joined_46 : decode cX2_joined 46 = .ok (.iload_n 3, 1) := by decide +kernel
theorem dX2_joined_47 : decode cX2_joined 47 = .ok (.isub, 1) := by decide +kernel
theorem dX2_joined_48 : decode cX2_joined 48 = .ok (.sipush 1440, 3) := by decide +kernel
theorem dX2_joined_51 : decode cX2_joined 51 = .ok (.imul, 1) := by decide +kernel
theorem dX2_joined_52 : decode cX2_joined 52 = .ok (.goto 7, 3) := by decide +kernel
theorem dX2_joined_55 : decode cX2_joined 55 = .ok (.iload 4, 2) := by decide +kernel
theorem dX2_joined_57 : decode cX2_joined 57 = .ok (.iload_n 3, 1) := by decide +kernel
theorem dX2_joined_58 : decode cX2_joined 58 = .ok (.isub, 1) := by decide +kernel
theorem dX2_joined_59 : decode cX2_joined 59 = .ok (.ireturn, 1) := by decide +kernel
theorem dX2_changed_0 : decode cX2_changed 0 = .ok (.aload_n 1, 1) := by decide +kernel
theorem dX2_changed_1 : decode cX2_changed 1 = .ok (.getfield 48, 3) := by decide +kernel
theorem dX2_changed_4 : decode cX2_changed 4 = .ok (.iload_n 2, 1) := by decide +kernel
theorem dX2_changed_5 : decode cX2_changed 5 = .ok (.iaload, 1) := by decide +kernel
theorem dX2_changed_6 : decode cX2_changed 6 = .ok (.istore 4, 2) := by decide +kernel
theorem dX2_changed_8 : decode cX2_changed 8 = .ok (.aload_n 1, 1) := by decide +kernel
theorem dX2_changed_9 : decode cX2_changed 9 = .ok (.getfield 51, 3) := by decide +kernel
theorem dX2_changed_12 : decode cX2_changed 12 = .ok (.iload_n 2, 1) := by decide +kernel
theorem dX2_changed_13 : decode cX2_changed 13 = .ok (.iaload, 1) := by decide +kernel
theorem dX2_changed_14 : decode cX2_changed 14 = .ok (.istore 5, 2) := by decide +kernel
theorem dX2_changed_16 : decode cX2_changed 16 = .ok (.aload_n 0, 1) := by decide +kernel
theorem dX2_changed_17 : decode cX2_changed 17 = .ok (.getfield 19, 3) := by decide +kernel
theorem dX2_changed_20 : decode cX2_changed 20 = .ok (.iload 4, 2) := by decide +kernel
theorem dX2_changed_22 : decode cX2_changed 22 = .ok (.invokevirtual 54, 3) := by decide +kernel
theorem dX2_changed_25 : decode cX2_changed 25 = .ok (.astore 6, 2) := by decide +kernel
theorem dX2_changed_27 : decode cX2_changed 27 = .ok (.aload_n 1, 1) := by decide +kernel
theorem dX2_changed_28 : decode cX2_changed 28 = .ok (.getfield 29, 3) := by decide +kernel
theorem dX2_changed_31 : decode cX2_changed 31 = .ok (.iload_n 2, 1) := by decide +kernel
theorem dX2_changed_32 : decode cX2_changed 32 = .ok (.iaload, 1) := by decide +kernel
theorem dX2_changed_33 : decode cX2_changed 33 = .ok (.tableswitch 149 1 7 #[43, 62, 68, 77, 105, 110, 136], 43) := by decide +kernel
theorem dX2_changed_76 : decode cX2_changed 76 = .ok (.aload 6, 2) := by decide +kernel
theorem dX2_changed_78 : decode cX2_changed 78 = .ok (.ifnonnull 8, 3) := by decide +kernel
theorem dX2_changed_81 : decode cX2_changed 81 = .ok (.ldc 32, 2) := by decide +kernel
theorem dX2_changed_83 : decode cX2_changed 83 = .ok (.goto 11, 3) := by decide +kernel
theorem dX2_changed_86 : decode cX2_changed 86 = .ok (.iload_n 3, 1) := by decide +kernel
theorem dX2_changed_87 : decode cX2_changed 87 = .ok (.aload 6, 2) := by decide +kernel
theorem dX2_changed_89 : decode cX2_changed 89 = .ok (.iload_n 3, 1) := by decide +kernel
theorem dX2_changed_90 : decode cX2_changed 90 = .ok (.invokevirtual 60, 3) := by decide +kernel
theorem dX2_changed_93 : decode cX2_changed 93 = .ok (.iadd, 1) := by decide +kernel
theorem dX2_changed_94 : decode cX2_changed 94 = .ok (.ireturn, 1) := by decide +kernel
theorem dX2_changed_95 : decode cX2_changed 95 = .ok (.iload_n 3, 1) := by decide +kernel
theorem dX2_changed_96 : decode cX2_changed 96 = .ok (.sipush 1440, 3) := by decide +kernel
theorem dX2_changed_99 : decode cX2_changed 99 = .ok (.idiv, 1) := by decide +kernel
theorem dX2_changed_100 : decode cX2_changed 100 = .ok (.ireturn, 1) := by decide +kernel
theorem dX2_changed_101 : decode cX2_changed 101 = .ok (.iload_n 3, 1) := by decide +kernel
theorem dX2_changed_102 : decode cX2_changed 102 = .ok (.sipush 1440, 3) := by decide +kernel
theorem dX2_changed_105 : decode cX2_changed 105 = .ok (.imul, 1) := by decide +kernel
theorem dX2_changed_106 : decode cX2_changed 106 = .ok (.iload 4, 2) := by decide +kernel
theorem dX2_changed_108 : decode cX2_changed 108 = .ok (.iadd, 1) := by decide +kernel
theorem dX2_changed_109 : decode cX2_changed 109 = .ok (.ireturn, 1) := by decide +kernel
theorem dX2_changed_110 : decode cX2_changed 110 = .ok (.aload 6, 2) := by decide +kernel
theorem dX2_changed_112 : decode cX2_changed 112 = .ok (.ifnonnull 8, 3) := by decide +kernel
theorem dX2_changed_115 : decode cX2_changed 115 = .ok (.ldc 32, 2) := by decide +kernel
theorem dX2_changed_117 : decode cX2_changed 117 = .ok (.goto 20, 3) := by decide +kernel
theorem dX2_changed_120 : decode cX2_changed 120 = .ok (.aload 6, 2) := by decide +kernel
theorem dX2_changed_122 : decode cX2_changed 122 = .ok (.iload_n 3, 1) := by decide +kernel
theorem dX2_changed_123 : decode cX2_changed 123 = .ok (.iload 5, 2) := by decide +kernel
theorem dX2_changed_125 : decode cX2_changed 125 = .ok (.iconst 1, 1) := by decide +kernel
theorem dX2_changed_126 : decode cX2_changed 126 = .ok (.if_icmp .ne 7, 3) := by decide +kernel
theorem dX2_changed_129 : decode cX2_changed 129 = .ok (.iconst 1, 1) := by decide +kernel
theorem dX2_changed_130 : decode cX2_changed 130 = .ok (.goto 4, 3) := by decide +kernel
theorem dX2_changed_133 : decode cX2_changed 133 = .ok (.iconst 0, 1) := by decide +kernel
theorem dX2_changed_134 : decode cX2_changed 134 = .ok (.invokevirtual 66, 3) := by decide +kernel
theorem dX2_changed_137 : decode cX2_changed 137 = .ok (.ireturn, 1) := by decide +kernel
theorem dX2_changed_138 : decode cX2_changed 138 = .ok (.iload_n 3, 1) := by decide +kernel
theorem dX2_changed_139 : decode cX2_changed 139 = .ok (.iload 4, 2) := by decide +kernel
theorem dX2_changed_141 : decode cX2_changed 141 = .ok (.iadd, 1) := by decide +kernel
theorem dX2_changed_142 : decode cX2_changed 142 = .ok (.ireturn, 1) := by decide +kernel
theorem dX2_changed_143 : decode cX2_changed 143 = .ok (.aload_n 1, 1) := by decide +kernel
theorem dX2_changed_144 : decode cX2_changed 144 = .ok (.getfield 41, 3) := by decide +kernel
theorem dX2_changed_147 : decode cX2_changed 147 = .ok (.iload_n 2, 1) := by decide +kernel
theorem dX2_changed_148 : decode cX2_changed 148 = .ok (.iaload, 1) := by decide +kernel
theorem dX2_changed_149 : decode cX2_changed 149 = .ok (.iconst 2, 1) := by decide +kernel
theorem dX2_changed_150 : decode cX2_changed 150 = .ok (.if_icmp .ne 10, 3) := by decide +kernel
theorem dX2_changed_153 : decode cX2_changed 153 = .ok (.iload_n 3, 1) := by decide +kernel
theorem dX2_changed_154 : decode cX2_changed 154 = .ok (.iload 4, 2) := by decide +kernel
theorem dX2_changed_156 : decode cX2_changed 156 = .ok (.iadd, 1) := by decide +kernel
theorem dX2_changed_157 : decode cX2_changed 157 = .ok (.goto 11, 3) := by decide +kernel
theorem dX2_changed_160 : decode cX2_changed 160 = .ok (.iload_n 3, 1) := by decide +kernel
theorem dX2_changed_161 : decode cX2_changed 161 = .ok (.iload 4, 2) := by decide +kernel
theorem dX2_changed_163 : decode cX2_changed 163 = .ok (.sipush 1440, 3) := by decide +kernel
theorem dX2_changed_166 : decode cX2_changed 166 = .ok (.imul, 1) := by decide +kernel
theorem dX2_changed_167 : decode cX2_changed 167 = .ok (.iadd, 1) := by decide +kernel
theorem dX2_changed_168 : decode cX2_changed 168 = .ok (.ireturn, 1) := by decide +kernel
theorem dX2_changed_169 : decode cX2_changed 169 = .ok (.aload_n 0, 1) := by decide +kernel
theorem dX2_changed_170 : decode cX2_changed 170 = .ok (.getfield 15, 3) := by decide +kernel
theorem dX2_changed_173 : decode cX2_changed 173 = .ok (.iload_n 3, 1) := by decide +kernel
theorem dX2_changed_174 : decode cX2_changed 174 = .ok (.iload 4, 2) := by decide +kernel
theorem dX2_changed_176 : decode cX2_changed 176 = .ok (.iload 5, 2) := by decide +kernel
theorem dX2_changed_178 : decode cX2_changed 178 = .ok (.invokevirtual 70, 3) := by decide +kernel
theorem dX2_changed_181 : decode cX2_changed 181 = .ok (.ireturn, 1) := by decide +kernel
theorem dX2_changed_182 : decode cX2_changed 182 = .ok (.ldc 32, 2) := by decide +kernel
theorem dX2_changed_184 : decode cX2_changed 184 = .ok (.ireturn, 1) := by decide +kernel
theorem dX2_isWithin_0 : decode cX2_isWithin 0 = .ok (.iload_n 1, 1) := by decide +kernel
theorem dX2_isWithin_1 : decode cX2_isWithin 1 = .ok (.tableswitch 50 0 2 #[27, 32, 41], 27) := by decide +kernel
theorem dX2_isWithin_28 : decode cX2_isWithin 28 = .ok (.iload_n 2, 1) := by decide +kernel
theorem dX2_isWithin_29 : decode cX2_isWithin 29 = .ok (.invokestatic 76, 3) := by decide +kernel
theorem dX2_isWithin_32 : decode cX2_isWithin 32 = .ok (.ireturn, 1) := by decide +kernel
theorem dX2_isWithin_33 : decode cX2_isWithin 33 = .ok (.aload_n 0, 1) := by decide +kernel
theorem dX2_isWithin_34 : decode cX2_isWithin 34 = .ok (.getfield 15, 3) := by decide +kernel
theorem dX2_isWithin_37 : decode cX2_isWithin 37 = .ok (.iload_n 2, 1) := by decide +kernel
theorem dX2_isWithin_38 : decode cX2_isWithin 38 = .ok (.invokevirtual 80, 3) := by decide +kernel
theorem dX2_isWithin_41 : decode cX2_isWithin 41 = .ok (.ireturn, 1) := by decide +kernel
theorem dX2_isWithin_42 : decode cX2_isWithin 42 = .ok (.aload_n 0, 1) := by decide +kernel
theorem dX2_isWithin_43 : decode cX2_isWithin 43 = .ok (.getfield 15, 3) := by decide +kernel
theorem dX2_isWithin_46 : decode cX2_isWithin 46 = .ok (.iload_n 2, 1) := by decide +kernel
theorem dX2_isWithin_47 : decode cX2_isWithin 47 = .ok (.invokevirtual 83, 3) := by decide +kernel
theorem dX2_isWithin_50 : decode cX2_isWithin 50 = .ok (.ireturn, 1) := by decide +kernel
theorem dX2_isWithin_51 : decode cX2_isWithin 51 = .ok (.iload_n 2, 1) := by decide +kernel
theorem dX2_isWithin_52 : decode cX2_isWithin 52 = .ok (.ldc 86, 2) := by decide +kernel
theorem dX2_isWithin_54 : decode cX2_isWithin 54 = .ok (.if_icmp .lt 13, 3) := by decide +kernel
theorem dX2_isWithin_57 : decode cX2_isWithin 57 = .ok (.iload_n 2, 1) := by decide +kernel
theorem dX2_isWithin_58 : decode cX2_isWithin 58 = .ok (.ldc 87, 2) := by decide +kernel
theorem dX2_isWithin_60 : decode cX2_isWithin 60 = .ok (.if_icmp .gt 7, 3) := by decide +kernel
theorem dX2_isWithin_63 : decode cX2_isWithin 63 = .ok (.iconst 1, 1) := by decide +kernel
theorem dX2_isWithin_64 : decode cX2_isWithin 64 = .ok (.goto 4, 3) := by decide +kernel
theorem dX2_isWithin_67 : decode cX2_isWithin 67 = .ok (.iconst 0, 1) := by decide +kernel
theorem dX2_isWithin_68 : decode cX2_isWithin 68 = .ok (.ireturn, 1) := by decide +kernel
theorem dX3_init_0 : decode cX3_init 0 = .ok (.aload_n 0, 1) := by decide +kernel
theorem dX3_init_1 : decode cX3_init 1 = .ok (.invokespecial 3, 3) := by decide +kernel
theorem dX3_init_4 : decode cX3_init 4 = .ok (.aload_n 0, 1) := by decide +kernel
theorem dX3_init_5 : decode cX3_init 5 = .ok (.new 9, 3) := by decide +kernel
theorem dX3_init_8 : decode cX3_init 8 = .ok (.dup, 1) := by decide +kernel
theorem dX3_init_9 : decode cX3_init 9 = .ok (.invokespecial 11, 3) := by decide +kernel
theorem dX3_init_12 : decode cX3_init 12 = .ok (.putfield 12, 3) := by decide +kernel
theorem dX3_init_15 : decode cX3_init 15 = .ok (.aload_n 0, 1) := by decide +kernel
theorem dX3_init_16 : decode cX3_init 16 = .ok (.new 9, 3) := by decide +kernel
theorem dX3_init_19 : decode cX3_init 19 = .ok (.dup, 1) := by decide +kernel
theorem dX3_init_20 : decode cX3_init 20 = .ok (.invokespecial 11, 3) := by decide +kernel
theorem dX3_init_23 : decode cX3_init 23 = .ok (.putfield 18, 3) := by decide +kernel
theorem dX3_init_26 : decode cX3_init 26 = .ok (.aload_n 0, 1) := by decide +kernel
theorem dX3_init_27 : decode cX3_init 27 = .ok (.bipush 50, 2) := by decide +kernel
theorem dX3_init_29 : decode cX3_init 29 = .ok (.newarray .int, 2) := by decide +kernel
theorem dX3_init_31 : decode cX3_init 31 = .ok (.putfield 21, 3) := by decide +kernel
theorem dX3_init_34 : decode cX3_init 34 = .ok (.aload_n 0, 1) := by decide +kernel
theorem dX3_init_35 : decode cX3_init 35 = .ok (.bipush 50, 2) := by decide +kernel
theorem dX3_init_37 : decode cX3_init 37 = .ok (.newarray .int, 2) := by decide +kernel
theorem dX3_init_39 : decode cX3_init 39 = .ok (.putfield 25, 3) := by decide +kernel
theorem dX3_init_42 : decode cX3_init 42 = .ok (.aload_n 0, 1) := by decide +kernel
theorem dX3_init_43 : decode cX3_init 43 = .ok (.bipush 50, 2) := by decide +kernel
theorem dX3_init_45 : decode cX3_init 45 = .ok (.newarray .int, 2) := by decide +kernel
theorem dX3_init_47 : decode cX3_init 47 = .ok (.putfield 28, 3) := by decide +kernel
theorem dX3_init_50 : decode cX3_init 50 = .ok (.aload_n 0, 1) := by decide +kernel
theorem dX3_init_51 : decode cX3_init 51 = .ok (.bipush 50, 2) := by decide +kernel
theorem dX3_init_53 : decode cX3_init 53 = .ok (.newarray .int, 2) := by decide +kernel
theorem dX3_init_55 : decode cX3_init 55 = .ok (.putfield 31, 3) := by decide +kernel
theorem dX3_init_58 : decode cX3_init 58 = .ok (.aload_n 0, 1) := by decide +kernel
theorem dX3_init_59 : decode cX3_init 59 = .ok (.aload_n 1, 1) := by decide +kernel
theorem dX3_init_60 : decode cX3_init 60 = .ok (.putfield 34, 3) := by decide +kernel
theorem dX3_init_63 : decode cX3_init 63 = .ok (.aload_n 0, 1) := by decide +kernel
theorem dX3_init_64 : decode cX3_init 64 = .ok (.aload_n 2, 1) := by decide +kernel
theorem dX3_init_65 : decode cX3_init 65 = .ok (.putfield 38, 3) := by decide +kernel
theorem dX3_init_68 : decode cX3_init 68 = .ok (.return_, 1) := by decide +kernel
theorem dX3_search_0 : decode cX3_search 0 = .ok (.aload_n 0, 1) := by decide +kernel
theorem dX3_search_1 : decode cX3_search 1 = .ok (.getfield 38, 3) := by decide +kernel
theorem dX3_search_4 : decode cX3_search 4 = .ok (.aload_n 0, 1) := by decide +kernel
theorem dX3_search_5 : decode cX3_search 5 = .ok (.getfield 38, 3) := by decide +kernel
theorem dX3_search_8 : decode cX3_search 8 = .ok (.getfield 42, 3) := by decide +kernel
theorem dX3_search_11 : decode cX3_search 11 = .ok (.getfield 48, 3) := by decide +kernel
theorem dX3_search_14 : decode cX3_search 14 = .ok (.putfield 54, 3) := by decide +kernel
theorem dX3_search_17 : decode cX3_search 17 = .ok (.aload_n 0, 1) := by decide +kernel
theorem dX3_search_18 : decode cX3_search 18 = .ok (.getfield 12, 3) := by decide +kernel
theorem dX3_search_21 : decode cX3_search 21 = .ok (.aload_n 1, 1) := by decide +kernel
theorem dX3_search_22 : decode cX3_search 22 = .ok (.invokevirtual 57, 3) := by decide +kernel
theorem dX3_search_25 : decode cX3_search 25 = .ok (.aload_n 0, 1) := by decide +kernel
theorem dX3_search_26 : decode cX3_search 26 = .ok (.aload_n 1, 1) := by decide +kernel
theorem dX3_search_27 : decode cX3_search 27 = .ok (.invokevirtual 61, 3) := by decide +kernel
theorem dX3_search_30 : decode cX3_search 30 = .ok (.aload_n 0, 1) := by decide +kernel
theorem dX3_search_31 : decode cX3_search 31 = .ok (.getfield 38, 3) := by decide +kernel
theorem dX3_search_34 : decode cX3_search 34 = .ok (.aload_n 0, 1) := by decide +kernel
theorem dX3_search_35 : decode cX3_search 35 = .ok (.getfield 12, 3) := by decide +kernel
theorem dX3_search_38 : decode cX3_search 38 = .ok (.invokevirtual 64, 3) := by decide +kernel
theorem dX3_search_41 : decode cX3_search 41 = .ok (.ifCond .eq 9, 3) := by decide +kernel
theorem dX3_search_44 : decode cX3_search 44 = .ok (.aload_n 0, 1) := by decide +kernel
theorem dX3_search_45 : decode cX3_search 45 = .ok (.iconst 0, 1) := by decide +kernel
theorem dX3_search_46 : decode cX3_search 46 = .ok (.invokevirtual 68, 3) := by decide +kernel
theorem dX3_search_49 : decode cX3_search 49 = .ok (.ireturn, 1) := by decide +kernel
theorem dX3_search_50 : decode cX3_search 50 = .ok (.iconst 0, 1) := by decide +kernel
theorem dX3_search_51 : decode cX3_search 51 = .ok (.istore_n 2, 1) := by decide +kernel
theorem dX3_search_52 : decode cX3_search 52 = .ok (.iload_n 2, 1) := by decide +kernel
theorem dX3_search_53 : decode cX3_search 53 = .ok (.aload_n 0, 1) := by decide +kernel
theorem dX3_search_54 : decode cX3_search 54 = .ok (.getfield 72, 3) := by decide +kernel
theorem dX3_search_57 : decode cX3_search 57 = .ok (.if_icmp .ge 40, 3) := by decide +kernel
theorem dX3_search_60 : decode cX3_search 60 = .ok (.aload_n 0, 1) := by decide +kernel
theorem dX3_search_61 : decode cX3_search 61 = .ok (.iload_n 2, 1) := by decide +kernel
theorem dX3_search_62 : decode cX3_search 62 = .ok (.invokevirtual 75, 3) := by decide +kernel
theorem dX3_search_65 : decode cX3_search 65 = .ok (.aload_n 0, 1) := by decide +kernel
theorem dX3_search_66 : decode cX3_search 66 = .ok (.getfield 38, 3) := by decide +kernel
theorem dX3_search_69 : decode cX3_search 69 = .ok (.aload_n 0, 1) := by decide +kernel
theorem dX3_search_70 : decode cX3_search 70 = .ok (.getfield 12, 3) := by decide +kernel
theorem dX3_search_73 : decode cX3_search 73 = .ok (.invokevirtual 64, 3) := by decide +kernel
theorem dX3_search_76 : decode cX3_search 76 = .ok (.ifCond .eq 9, 3) := by decide +kernel
theorem dX3_search_79 : decode cX3_search 79 = .ok (.aload_n 0, 1) := by decide +kernel
theorem dX3_search_80 : decode cX3_search 80 = .ok (.iconst 1, 1) := by decide +kernel
theorem dX3_search_81 : decode cX3_search 81 = .ok (.invokevirtual 68, 3) := by decide +kernel
theorem dX3_search_84 : decode cX3_search 84 = .ok (.ireturn, 1) := by decide +kernel
theorem dX3_search_85 : decode cX3_search 85 = .ok (.aload_n 0, 1) := by decide +kernel
theorem dX3_search_86 : decode cX3_search 86 = .ok (.aload_n 1, 1) := by decide +kernel
theorem dX3_search_87 : decode cX3_search 87 = .ok (.iload_n 2, 1) := by decide +kernel
theorem dX3_search_88 : decode cX3_search 88 = .ok (.invokevirtual 79, 3) := by decide +kernel
theorem dX3_search_91 : decode cX3_search 91 = .ok (.iinc 2 1, 3) := by decide +kernel
theorem dX3_search_94 : decode cX3_search 94 = .ok (.goto (-42), 3) := by decide +kernel
theorem dX3_search_97 : decode cX3_search 97 = .ok (.iconst 0, 1) := by decide +kernel
theorem dX3_search_98 : decode cX3_search 98 = .ok (.istore_n 2, 1) := by decide +kernel
theorem dX3_search_99 : decode cX3_search 99 = .ok (.iload_n 2, 1) := by decide +kernel
theorem dX3_search_100 : decode cX3_search 100 = .ok (.aload_n 0, 1) := by decide +kernel
theorem dX3_search_101 : decode cX3_search 101 = .ok (.getfield 72, 3) := by decide +kernel
theorem dX3_search_104 : decode cX3_search 104 = .ok (.if_icmp .ge 87, 3) := by decide +kernel
theorem dX3_search_107 : decode cX3_search 107 = .ok (.aload_n 0, 1) := by decide +kernel
theorem dX3_search_108 : decode cX3_search 108 = .ok (.iload_n 2, 1) := by decide +kernel
theorem dX3_search_109 : decode cX3_search 109 = .ok (.invokevirtual 75, 3) := by decide +kernel
theorem dX3_search_112 : decode cX3_search 112 = .ok (.iload_n 2, 1) := by decide +kernel
theorem dX3_search_113 : decode cX3_search 113 = .ok (.iconst 1, 1) := by decide +kernel
theorem dX3_search_114 : decode cX3_search 114 = .ok (.iadd, 1) := by decide +kernel
theorem dX3_search_115 : decode cX3_search 115 = .ok (.istore_n 3, 1) := by decide +kernel
theorem dX3_search_116 : decode cX3_search 116 = .ok (.iload_n 3, 1) := by decide +kernel
theorem dX3_search_117 : decode cX3_search 117 = .ok (.aload_n 0, 1) := by decide +kernel
theorem dX3_search_118 : decode cX3_search 118 = .ok (.getfield 72, 3) := by decide +kernel
theorem dX3_search_121 : decode cX3_search 121 = .ok (.if_icmp .ge 58, 3) := by decide +kernel
theorem dX3_search_124 : decode cX3_search 124 = .ok (.aload_n 0, 1) := by decide +kernel
theorem dX3_search_125 : decode cX3_search 125 = .ok (.getfield 21, 3) := by decide +kernel
theorem dX3_search_128 : decode cX3_search 128 = .ok (.iload_n 3, 1) := by decide +kernel
theorem dX3_search_129 : decode cX3_search 129 = .ok (.iaload, 1) := by decide +kernel
theorem dX3_search_130 : decode cX3_search 130 = .ok (.aload_n 0, 1) := by decide +kernel
theorem dX3_search_131 : decode cX3_search 131 = .ok (.getfield 21, 3) := by decide +kernel
theorem dX3_search_134 : decode cX3_search 134 = .ok (.iload_n 2, 1) := by decide +kernel
theorem dX3_search_135 : decode cX3_search 135 = .ok (.iaload, 1) := by decide +kernel
theorem dX3_search_136 : decode cX3_search 136 = .ok (.if_icmp .ne 6, 3) := by decide +kernel
theorem dX3_search_139 : decode cX3_search 139 = .ok (.goto 34, 3) := by decide +kernel
theorem dX3_search_142 : decode cX3_search 142 = .ok (.aload_n 0, 1) := by decide +kernel
theorem dX3_search_143 : decode cX3_search 143 = .ok (.iload_n 3, 1) := by decide +kernel
theorem dX3_search_144 : decode cX3_search 144 = .ok (.invokevirtual 75, 3) := by decide +kernel
theorem dX3_search_147 : decode cX3_search 147 = .ok (.aload_n 0, 1) := by decide +kernel
theorem dX3_search_148 : decode cX3_search 148 = .ok (.getfield 38, 3) := by decide +kernel
theorem dX3_search_151 : decode cX3_search 151 = .ok (.aload_n 0, 1) := by decide +kernel
theorem dX3_search_152 : decode cX3_search 152 = .ok (.getfield 12, 3) := by decide +kernel
theorem dX3_search_155 : decode cX3_search 155 = .ok (.invokevirtual 64, 3) := by decide +kernel
theorem dX3_search_158 : decode cX3_search 158 = .ok (.ifCond .eq 9, 3) := by decide +kernel
theorem dX3_search_161 : decode cX3_search 161 = .ok (.aload_n 0, 1) := by decide +kernel
theorem dX3_search_162 : decode cX3_search 162 = .ok (.iconst 2, 1) := by decide +kernel
theorem dX3_search_163 : decode cX3_search 163 = .ok (.invokevirtual 68, 3) := by decide +kernel
theorem dX3_search_166 : decode cX3_search 166 = .ok (.ireturn, 1) := by decide +kernel
theorem dX3_search_167 : decode cX3_search 167 = .ok (.aload_n 0, 1) := by decide +kernel
theorem dX3_search_168 : decode cX3_search 168 = .ok (.aload_n 1, 1) := by decide +kernel
theorem dX3_search_169 : decode cX3_search 169 = .ok (.iload_n 3, 1) := by decide +kernel
theorem dX3_search_170 : decode cX3_search 170 = .ok (.invokevirtual 79, 3) := by decide +kernel
theorem dX3_search_173 : decode cX3_search 173 = .ok (.iinc 3 1, 3) := by decide +kernel
theorem dX3_search_176 : decode cX3_search 176 = .ok (.goto (-60), 3) := by decide +kernel
theorem dX3_search_179 : decode cX3_search 179 = .ok (.aload_n 0, 1) := by decide +kernel
theorem dX3_search_180 : decode cX3_search 180 = .ok (.aload_n 1, 1) := by decide +kernel
theorem dX3_search_181 : decode cX3_search 181 = .ok (.iload_n 2, 1) := by decide +kernel
theorem dX3_search_182 : decode cX3_search 182 = .ok (.invokevirtual 79, 3) := by decide +kernel
theorem dX3_search_185 : decode cX3_search 185 = .ok (.iinc 2 1, 3) := by decide +kernel
theorem dX3_search_188 : decode cX3_search 188 = .ok (.goto (-89), 3) := by decide +kernel
theorem dX3_search_191 : decode cX3_search 191 = .ok (.aload_n 0, 1) := by decide +kernel
theorem dX3_search_192 : decode cX3_search 192 = .ok (.getfield 18, 3) := by decide +kernel
theorem dX3_search_195 : decode cX3_search 195 = .ok (.invokevirtual 83, 3) := by decide +kernel
theorem dX3_search_198 : decode cX3_search 198 = .ok (.iconst (-1), 1) := by decide +kernel
theorem dX3_search_199 : decode cX3_search 199 = .ok (.ireturn, 1) := by decide +kernel
theorem dX3_keepTrial_0 : decode cX3_keepTrial 0 = .ok (.aload_n 0, 1) := by decide +kernel
theorem dX3_keepTrial_1 : decode cX3_keepTrial 1 = .ok (.getfield 18, 3) := by decide +kernel
theorem dX3_keepTrial_4 : decode cX3_keepTrial 4 = .ok (.aload_n 0, 1) := by decide +kernel
theorem dX3_keepTrial_5 : decode cX3_keepTrial 5 = .ok (.getfield 12, 3) := by decide +kernel
theorem dX3_keepTrial_8 : decode cX3_keepTrial 8 = .ok (.invokevirtual 57, 3) := by decide +kernel
theorem dX3_keepTrial_11 : decode cX3_keepTrial 11 = .ok (.iload_n 1, 1) := by decide +kernel
theorem dX3_keepTrial_12 : decode cX3_keepTrial 12 = .ok (.ireturn, 1) := by decide +kernel
theorem dX3_put_0 : decode cX3_put 0 = .ok (.aload_n 0, 1) := by decide +kernel
theorem dX3_put_1 : decode cX3_put 1 = .ok (.getfield 12, 3) := by decide +kernel
theorem dX3_put_4 : decode cX3_put 4 = .ok (.aload_n 0, 1) := by decide +kernel
theorem dX3_put_5 : decode cX3_put 5 = .ok (.getfield 21, 3) := by decide +kernel
theorem dX3_put_8 : decode cX3_put 8 = .ok (.iload_n 1, 1) := by decide +kernel
theorem dX3_put_9 : decode cX3_put 9 = .ok (.iaload, 1) := by decide +kernel
theorem dX3_put_10 : decode cX3_put 10 = .ok (.aload_n 0, 1) := by decide +kernel
theorem dX3_put_11 : decode cX3_put 11 = .ok (.getfield 25, 3) := by decide +kernel
theorem dX3_put_14 : decode cX3_put 14 = .ok (.iload_n 1, 1) := by decide +kernel
theorem dX3_put_15 : decode cX3_put 15 = .ok (.iaload, 1) := by decide +kernel
theorem dX3_put_16 : decode cX3_put 16 = .ok (.aload_n 0, 1) := by decide +kernel
theorem dX3_put_17 : decode cX3_put 17 = .ok (.getfield 28, 3) := by decide +kernel
theorem dX3_put_20 : decode cX3_put 20 = .ok (.iload_n 1, 1) := by decide +kernel
theorem dX3_put_21 : decode cX3_put 21 = .ok (.iaload, 1) := by decide +kernel
theorem dX3_put_22 : decode cX3_put 22 = .ok (.aload_n 0, 1) := by decide +kernel
theorem dX3_put_23 : decode cX3_put 23 = .ok (.getfield 31, 3) := by decide +kernel
theorem dX3_put_26 : decode cX3_put 26 = .ok (.iload_n 1, 1) := by decide +kernel
theorem dX3_put_27 : decode cX3_put 27 = .ok (.iaload, 1) := by decide +kernel
theorem dX3_put_28 : decode cX3_put 28 = .ok (.invokevirtual 86, 3) := by decide +kernel
theorem dX3_put_31 : decode cX3_put 31 = .ok (.return_, 1) := by decide +kernel
theorem dX3_undo_0 : decode cX3_undo 0 = .ok (.aload_n 0, 1) := by decide +kernel
theorem dX3_undo_1 : decode cX3_undo 1 = .ok (.getfield 21, 3) := by decide +kernel
theorem dX3_undo_4 : decode cX3_undo 4 = .ok (.iload_n 2, 1) := by decide +kernel
theorem dX3_undo_5 : decode cX3_undo 5 = .ok (.iaload, 1) := by decide +kernel
theorem dX3_undo_6 : decode cX3_undo 6 = .ok (.istore_n 3, 1) := by decide +kernel
theorem dX3_undo_7 : decode cX3_undo 7 = .ok (.aload_n 0, 1) := by decide +kernel
theorem dX3_undo_8 : decode cX3_undo 8 = .ok (.getfield 12, 3) := by decide +kernel
theorem dX3_undo_11 : decode cX3_undo 11 = .ok (.iload_n 3, 1) := by decide +kernel
theorem dX3_undo_12 : decode cX3_undo 12 = .ok (.aload_n 1, 1) := by decide +kernel
theorem dX3_undo_13 : decode cX3_undo 13 = .ok (.getfield 90, 3) := by decide +kernel
theorem dX3_undo_16 : decode cX3_undo 16 = .ok (.iload_n 3, 1) := by decide +kernel
theorem dX3_undo_17 : decode cX3_undo 17 = .ok (.iaload, 1) := by decide +kernel
theorem dX3_undo_18 : decode cX3_undo 18 = .ok (.aload_n 1, 1) := by decide +kernel
theorem dX3_undo_19 : decode cX3_undo 19 = .ok (.getfield 93, 3) := by decide +kernel
theorem dX3_undo_22 : decode cX3_undo 22 = .ok (.iload_n 3, 1) := by decide +kernel
theorem dX3_undo_23 : decode cX3_undo 23 = .ok (.iaload, 1) := by decide +kernel
theorem dX3_undo_24 : decode cX3_undo 24 = .ok (.aload_n 1, 1) := by decide +kernel
theorem dX3_undo_25 : decode cX3_undo 25 = .ok (.getfield 96, 3) := by decide +kernel
theorem dX3_undo_28 : decode cX3_undo 28 = .ok (.iload_n 3, 1) := by decide +kernel
theorem dX3_undo_29 : decode cX3_undo 29 = .ok (.iaload, 1) := by decide +kernel
theorem dX3_undo_30 : decode cX3_undo 30 = .ok (.invokevirtual 86, 3) := by decide +kernel
theorem dX3_undo_33 : decode cX3_undo 33 = .ok (.return_, 1) := by decide +kernel
theorem dX3_listEdits_0 : decode cX3_listEdits 0 = .ok (.aload_n 0, 1) := by decide +kernel
theorem dX3_listEdits_1 : decode cX3_listEdits 1 = .ok (.iconst 0, 1) := by decide +kernel
theorem dX3_listEdits_2 : decode cX3_listEdits 2 = .ok (.putfield 72, 3) := by decide +kernel
theorem dX3_listEdits_5 : decode cX3_listEdits 5 = .ok (.iconst 0, 1) := by decide +kernel
theorem dX3_listEdits_6 : decode cX3_listEdits 6 = .ok (.istore_n 2, 1) := by decide +kernel
theorem dX3_listEdits_7 : decode cX3_listEdits 7 = .ok (.iload_n 2, 1) := by decide +kernel
theorem dX3_listEdits_8 : decode cX3_listEdits 8 = .ok (.aload_n 1, 1) := by decide +kernel
theorem dX3_listEdits_9 : decode cX3_listEdits 9 = .ok (.getfield 99, 3) := by decide +kernel
theorem dX3_listEdits_12 : decode cX3_listEdits 12 = .ok (.if_icmp .ge 179, 3) := by decide +kernel
theorem dX3_listEdits_15 : decode cX3_listEdits 15 = .ok (.aload_n 1, 1) := by decide +kernel
theorem dX3_listEdits_16 : decode cX3_listEdits 16 = .ok (.getfield 93, 3) := by decide +kernel
theorem dX3_listEdits_19 : decode cX3_listEdits 19 = .ok (.iload_n 2, 1) := by decide +kernel
theorem dX3_listEdits_20 : decode cX3_listEdits 20 = .ok (.iaload, 1) := by decide +kernel
theorem dX3_listEdits_21 : decode cX3_listEdits 21 = .ok (.istore_n 3, 1) := by decide +kernel
theorem dX3_listEdits_22 : decode cX3_listEdits 22 = .ok (.aload_n 1, 1) := by decide +kernel
theorem dX3_listEdits_23 : decode cX3_listEdits 23 = .ok (.getfield 96, 3) := by decide +kernel
theorem dX3_listEdits_26 : decode cX3_listEdits 26 = .ok (.iload_n 2, 1) := by decide +kernel
theorem dX3_listEdits_27 : decode cX3_listEdits 27 = .ok (.iaload, 1) := by decide +kernel
theorem dX3_listEdits_28 : decode cX3_listEdits 28 = .ok (.istore 4, 2) := by decide +kernel
theorem dX3_listEdits_30 : decode cX3_listEdits 30 = .ok (.aload_n 1, 1) := by decide +kernel
theorem dX3_listEdits_31 : decode cX3_listEdits 31 = .ok (.getfield 90, 3) := by decide +kernel
theorem dX3_listEdits_34 : decode cX3_listEdits 34 = .ok (.iload_n 2, 1) := by decide +kernel
theorem dX3_listEdits_35 : decode cX3_listEdits 35 = .ok (.iaload, 1) := by decide +kernel
theorem dX3_listEdits_36 : decode cX3_listEdits 36 = .ok (.tableswitch 149 1 7 #[67, 149, 149, 44, 79, 107, 138], 44) := by decide +kernel
theorem dX3_listEdits_80 : decode cX3_listEdits 80 = .ok (.aload_n 0, 1) := by decide +kernel
theorem dX3_listEdits_81 : decode cX3_listEdits 81 = .ok (.iload_n 2, 1) := by decide +kernel
theorem dX3_listEdits_82 : decode cX3_listEdits 82 = .ok (.iconst 4, 1) := by decide +kernel
theorem dX3_listEdits_83 : decode cX3_listEdits 83 = .ok (.iload_n 3, 1) := by decide +kernel
theorem dX3_listEdits_84 : decode cX3_listEdits 84 = .ok (.iconst 1, 1) := by decide +kernel
theorem dX3_listEdits_85 : decode cX3_listEdits 85 = .ok (.iload 4, 2) := by decide +kernel
theorem dX3_listEdits_87 : decode cX3_listEdits 87 = .ok (.isub, 1) := by decide +kernel
theorem dX3_listEdits_88 : decode cX3_listEdits 88 = .ok (.invokevirtual 102, 3) := by decide +kernel
theorem dX3_listEdits_91 : decode cX3_listEdits 91 = .ok (.aload_n 0, 1) := by decide +kernel
theorem dX3_listEdits_92 : decode cX3_listEdits 92 = .ok (.iload_n 2, 1) := by decide +kernel
theorem dX3_listEdits_93 : decode cX3_listEdits 93 = .ok (.iconst 4, 1) := by decide +kernel
theorem dX3_listEdits_94 : decode cX3_listEdits 94 = .ok (.iload_n 3, 1) := by decide +kernel
theorem dX3_listEdits_95 : decode cX3_listEdits 95 = .ok (.iload 4, 2) := by decide +kernel
theorem dX3_listEdits_97 : decode cX3_listEdits 97 = .ok (.invokevirtual 105, 3) := by decide +kernel
theorem dX3_listEdits_100 : decode cX3_listEdits 100 = .ok (.goto 85, 3) := by decide +kernel
theorem dX3_listEdits_103 : decode cX3_listEdits 103 = .ok (.aload_n 0, 1) := by decide +kernel
theorem dX3_listEdits_104 : decode cX3_listEdits 104 = .ok (.iload_n 2, 1) := by decide +kernel
theorem dX3_listEdits_105 : decode cX3_listEdits 105 = .ok (.iconst 1, 1) := by decide +kernel
theorem dX3_listEdits_106 : decode cX3_listEdits 106 = .ok (.iload_n 3, 1) := by decide +kernel
theorem dX3_listEdits_107 : decode cX3_listEdits 107 = .ok (.iload 4, 2) := by decide +kernel
theorem dX3_listEdits_109 : decode cX3_listEdits 109 = .ok (.invokevirtual 105, 3) := by decide +kernel
theorem dX3_listEdits_112 : decode cX3_listEdits 112 = .ok (.goto 73, 3) := by decide +kernel
theorem dX3_listEdits_115 : decode cX3_listEdits 115 = .ok (.iload_n 3, 1) := by decide +kernel
theorem dX3_listEdits_116 : decode cX3_listEdits 116 = .ok (.ifCond .eq 69, 3) := by decide +kernel
theorem dX3_listEdits_119 : decode cX3_listEdits 119 = .ok (.iload_n 3, 1) := by decide +kernel
theorem dX3_listEdits_120 : decode cX3_listEdits 120 = .ok (.sipush 1440, 3) := by decide +kernel
theorem dX3_listEdits_123 : decode cX3_listEdits 123 = .ok (.irem, 1) := by decide +kernel
theorem dX3_listEdits_124 : decode cX3_listEdits 124 = .ok (.ifCond .ne 61, 3) := by decide +kernel
theorem dX3_listEdits_127 : decode cX3_listEdits 127 = .ok (.aload_n 0, 1) := by decide +kernel
theorem dX3_listEdits_128 : decode cX3_listEdits 128 = .ok (.iload_n 2, 1) := by decide +kernel
theorem dX3_listEdits_129 : decode cX3_listEdits 129 = .ok (.bipush 6, 2) := by decide +kernel
theorem dX3_listEdits_131 : decode cX3_listEdits 131 = .ok (.iload_n 3, 1) := by decide +kernel
theorem dX3_listEdits_132 : decode cX3_listEdits 132 = .ok (.sipush 1440, 3) := by decide +kernel
theorem dX3_listEdits_135 : decode cX3_listEdits 135 = .ok (.idiv, 1) := by decide +kernel
theorem dX3_listEdits_136 : decode cX3_listEdits 136 = .ok (.iconst 0, 1) := by decide +kernel
theorem dX3_listEdits_137 : decode cX3_listEdits 137 = .ok (.invokevirtual 102, 3) := by decide +kernel
theorem dX3_listEdits_140 : decode cX3_listEdits 140 = .ok (.goto 45, 3) := by decide +kernel
theorem dX3_listEdits_143 : decode cX3_listEdits 143 = .ok (.iload_n 3, 1) := by decide +kernel
theorem dX3_listEdits_144 : decode cX3_listEdits 144 = .ok (.invokestatic 108, 3) := by decide +kernel
theorem dX3_listEdits_147 : decode cX3_listEdits 147 = .ok (.sipush 1440, 3) := by decide +kernel
theorem dX3_listEdits_150 : decode cX3_listEdits 150 = .ok (.imul, 1) := by decide +kernel
theorem dX3_listEdits_151 : decode cX3_listEdits 151 = .ok (.getstatic 113, 3) := by decide +kernel
theorem dX3_listEdits_154 : decode cX3_listEdits 154 = .ok (.iconst 5, 1) := by decide +kernel
theorem dX3_listEdits_155 : decode cX3_listEdits 155 = .ok (.iaload, 1) := by decide +kernel
theorem dX3_listEdits_156 : decode cX3_listEdits 156 = .ok (.if_icmp .gt 29, 3) := by decide +kernel
theorem dX3_listEdits_159 : decode cX3_listEdits 159 = .ok (.aload_n 0, 1) := by decide +kernel
theorem dX3_listEdits_160 : decode cX3_listEdits 160 = .ok (.iload_n 2, 1) := by decide +kernel
theorem dX3_listEdits_161 : decode cX3_listEdits 161 = .ok (.iconst 5, 1) := by decide +kernel
theorem dX3_listEdits_162 : decode cX3_listEdits 162 = .ok (.iload_n 3, 1) := by decide +kernel
theorem dX3_listEdits_163 : decode cX3_listEdits 163 = .ok (.sipush 1440, 3) := by decide +kernel
theorem dX3_listEdits_166 : decode cX3_listEdits 166 = .ok (.imul, 1) := by decide +kernel
theorem dX3_listEdits_167 : decode cX3_listEdits 167 = .ok (.iconst 0, 1) := by decide +kernel
theorem dX3_listEdits_168 : decode cX3_listEdits 168 = .ok (.invokevirtual 102, 3) := by decide +kernel
theorem dX3_listEdits_171 : decode cX3_listEdits 171 = .ok (.goto 14, 3) := by decide +kernel
theorem dX3_listEdits_174 : decode cX3_listEdits 174 = .ok (.aload_n 0, 1) := by decide +kernel
theorem dX3_listEdits_175 : decode cX3_listEdits 175 = .ok (.iload_n 2, 1) := by decide +kernel
theorem dX3_listEdits_176 : decode cX3_listEdits 176 = .ok (.iload_n 3, 1) := by decide +kernel
theorem dX3_listEdits_177 : decode cX3_listEdits 177 = .ok (.iload 4, 2) := by decide +kernel
theorem dX3_listEdits_179 : decode cX3_listEdits 179 = .ok (.invokevirtual 116, 3) := by decide +kernel
theorem dX3_listEdits_182 : decode cX3_listEdits 182 = .ok (.goto 3, 3) := by decide +kernel
theorem dX3_listEdits_185 : decode cX3_listEdits 185 = .ok (.iinc 2 1, 3) := by decide +kernel
theorem dX3_listEdits_188 : decode cX3_listEdits 188 = .ok (.goto (-181), 3) := by decide +kernel
theorem dX3_listEdits_191 : decode cX3_listEdits 191 = .ok (.return_, 1) := by decide +kernel
theorem dX3_addZones_0 : decode cX3_addZones 0 = .ok (.iconst 0, 1) := by decide +kernel
theorem dX3_addZones_1 : decode cX3_addZones 1 = .ok (.istore 5, 2) := by decide +kernel
theorem dX3_addZones_3 : decode cX3_addZones 3 = .ok (.iload 5, 2) := by decide +kernel
theorem dX3_addZones_5 : decode cX3_addZones 5 = .ok (.aload_n 0, 1) := by decide +kernel
theorem dX3_addZones_6 : decode cX3_addZones 6 = .ok (.getfield 34, 3) := by decide +kernel
theorem dX3_addZones_9 : decode cX3_addZones 9 = .ok (.getfield 120, 3) := by decide +kernel
theorem dX3_addZones_12 : decode cX3_addZones 12 = .ok (.if_icmp .ge 25, 3) := by decide +kernel
theorem dX3_addZones_15 : decode cX3_addZones 15 = .ok (.iload 5, 2) := by decide +kernel
theorem dX3_addZones_17 : decode cX3_addZones 17 = .ok (.iload_n 3, 1) := by decide +kernel
theorem dX3_addZones_18 : decode cX3_addZones 18 = .ok (.if_icmp .eq 13, 3) := by decide +kernel
theorem dX3_addZones_21 : decode cX3_addZones 21 = .ok (.aload_n 0, 1) := by decide +kernel
theorem dX3_addZones_22 : decode cX3_addZones 22 = .ok (.iload_n 1, 1) := by decide +kernel
theorem dX3_addZones_23 : decode cX3_addZones 23 = .ok (.iload_n 2, 1) := by decide +kernel
theorem dX3_addZones_24 : decode cX3_addZones 24 = .ok (.iload 5, 2) := by decide +kernel
theorem dX3_addZones_26 : decode cX3_addZones 26 = .ok (.iload 4, 2) := by decide +kernel
theorem dX3_addZones_28 : decode cX3_addZones 28 = .ok (.invokevirtual 102, 3) := by decide +kernel
theorem dX3_addZones_31 : decode cX3_addZones 31 = .ok (.iinc 5 1, 3) := by decide +kernel
theorem dX3_addZones_34 : decode cX3_addZones 34 = .ok (.goto (-31), 3) := by decide +kernel
theorem dX3_addZones_37 : decode cX3_addZones 37 = .ok (.return_, 1) := by decide +kernel
theorem dX3_addEndings_0 : decode cX3_addEndings 0 = .ok (.iconst 0, 1) := by decide +kernel
theorem dX3_addEndings_1 : decode cX3_addEndings 1 = .ok (.istore 4, 2) := by decide +kernel
theorem dX3_addEndings_3 : decode cX3_addEndings 3 = .ok (.iload 4, 2) := by decide +kernel
theorem dX3_addEndings_5 : decode cX3_addEndings 5 = .ok (.getstatic 123, 3) := by decide +kernel
theorem dX3_addEndings_8 : decode cX3_addEndings 8 = .ok (.bipush 7, 2) := by decide +kernel
theorem dX3_addEndings_10 : decode cX3_addEndings 10 = .ok (.iaload, 1) := by decide +kernel
theorem dX3_addEndings_11 : decode cX3_addEndings 11 = .ok (.if_icmp .gt 25, 3) := by decide +kernel
theorem dX3_addEndings_14 : decode cX3_addEndings 14 = .ok (.iload 4, 2) := by decide +kernel
theorem dX3_addEndings_16 : decode cX3_addEndings 16 = .ok (.iload_n 3, 1) := by decide +kernel
theorem dX3_addEndings_17 : decode cX3_addEndings 17 = .ok (.if_icmp .eq 13, 3) := by decide +kernel
theorem dX3_addEndings_20 : decode cX3_addEndings 20 = .ok (.aload_n 0, 1) := by decide +kernel
theorem dX3_addEndings_21 : decode cX3_addEndings 21 = .ok (.iload_n 1, 1) := by decide +kernel
theorem dX3_addEndings_22 : decode cX3_addEndings 22 = .ok (.bipush 7, 2) := by decide +kernel
theorem dX3_addEndings_24 : decode cX3_addEndings 24 = .ok (.iload_n 2, 1) := by decide +kernel
theorem dX3_addEndings_25 : decode cX3_addEndings 25 = .ok (.iload 4, 2) := by decide +kernel
theorem dX3_addEndings_27 : decode cX3_addEndings 27 = .ok (.invokevirtual 102, 3) := by decide +kernel
theorem dX3_addEndings_30 : decode cX3_addEndings 30 = .ok (.iinc 4 1, 3) := by decide +kernel
theorem dX3_addEndings_33 : decode cX3_addEndings 33 = .ok (.goto (-30), 3) := by decide +kernel
theorem dX3_addEndings_36 : decode cX3_addEndings 36 = .ok (.return_, 1) := by decide +kernel
theorem dX3_addEdit_0 : decode cX3_addEdit 0 = .ok (.aload_n 0, 1) := by decide +kernel
theorem dX3_addEdit_1 : decode cX3_addEdit 1 = .ok (.getfield 72, 3) := by decide +kernel
theorem dX3_addEdit_4 : decode cX3_addEdit 4 = .ok (.bipush 50, 2) := by decide +kernel
theorem dX3_addEdit_6 : decode cX3_addEdit 6 = .ok (.if_icmp .ge 54, 3) := by decide +kernel
theorem dX3_addEdit_9 : decode cX3_addEdit 9 = .ok (.aload_n 0, 1) := by decide +kernel
theorem dX3_addEdit_10 : decode cX3_addEdit 10 = .ok (.getfield 21, 3) := by decide +kernel
theorem dX3_addEdit_13 : decode cX3_addEdit 13 = .ok (.aload_n 0, 1) := by decide +kernel
theorem dX3_addEdit_14 : decode cX3_addEdit 14 = .ok (.getfield 72, 3) := by decide +kernel
theorem dX3_addEdit_17 : decode cX3_addEdit 17 = .ok (.iload_n 1, 1) := by decide +kernel
theorem dX3_addEdit_18 : decode cX3_addEdit 18 = .ok (.iastore, 1) := by decide +kernel
theorem dX3_addEdit_19 : decode cX3_addEdit 19 = .ok (.aload_n 0, 1) := by decide +kernel
theorem dX3_addEdit_20 : decode cX3_addEdit 20 = .ok (.getfield 25, 3) := by decide +kernel
theorem dX3_addEdit_23 : decode cX3_addEdit 23 = .ok (.aload_n 0, 1) := by decide +kernel
theorem dX3_addEdit_24 : decode cX3_addEdit 24 = .ok (.getfield 72, 3) := by decide +kernel
theorem dX3_addEdit_27 : decode cX3_addEdit 27 = .ok (.iload_n 2, 1) := by decide +kernel
theorem dX3_addEdit_28 : decode cX3_addEdit 28 = .ok (.iastore, 1) := by decide +kernel
theorem dX3_addEdit_29 : decode cX3_addEdit 29 = .ok (.aload_n 0, 1) := by decide +kernel
theorem dX3_addEdit_30 : decode cX3_addEdit 30 = .ok (.getfield 28, 3) := by decide +kernel
theorem dX3_addEdit_33 : decode cX3_addEdit 33 = .ok (.aload_n 0, 1) := by decide +kernel
theorem dX3_addEdit_34 : decode cX3_addEdit 34 = .ok (.getfield 72, 3) := by decide +kernel
theorem dX3_addEdit_37 : decode cX3_addEdit 37 = .ok (.iload_n 3, 1) := by decide +kernel
theorem dX3_addEdit_38 : decode cX3_addEdit 38 = .ok (.iastore, 1) := by decide +kernel
theorem dX3_addEdit_39 : decode cX3_addEdit 39 = .ok (.aload_n 0, 1) := by decide +kernel
theorem dX3_addEdit_40 : decode cX3_addEdit 40 = .ok (.getfield 31, 3) := by decide +kernel
theorem dX3_addEdit_43 : decode cX3_addEdit 43 = .ok (.aload_n 0, 1) := by decide +kernel
theorem dX3_addEdit_44 : decode cX3_addEdit 44 = .ok (.getfield 72, 3) := by decide +kernel
theorem dX3_addEdit_47 : decode cX3_addEdit 47 = .ok (.iload 4, 2) := by decide +kernel
theorem dX3_addEdit_49 : decode cX3_addEdit 49 = .ok (.iastore, 1) := by decide +kernel
theorem dX3_addEdit_50 : decode cX3_addEdit 50 = .ok (.aload_n 0, 1) := by decide +kernel
theorem dX3_addEdit_51 : decode cX3_addEdit 51 = .ok (.dup, 1) := by decide +kernel
theorem dX3_addEdit_52 : decode cX3_addEdit 52 = .ok (.getfield 72, 3) := by decide +kernel
theorem dX3_addEdit_55 : decode cX3_addEdit 55 = .ok (.iconst 1, 1) := by decide +kernel
theorem dX3_addEdit_56 : decode cX3_addEdit 56 = .ok (.iadd, 1) := by decide +kernel
theorem dX3_addEdit_57 : decode cX3_addEdit 57 = .ok (.putfield 72, 3) := by decide +kernel
theorem dX3_addEdit_60 : decode cX3_addEdit 60 = .ok (.return_, 1) := by decide +kernel
theorem dX4_init_0 : decode cX4_init 0 = .ok (.aload_n 0, 1) := by decide +kernel
theorem dX4_init_1 : decode cX4_init 1 = .ok (.invokespecial 3, 3) := by decide +kernel
theorem dX4_init_4 : decode cX4_init 4 = .ok (.aload_n 0, 1) := by decide +kernel
theorem dX4_init_5 : decode cX4_init 5 = .ok (.sipush 31251, 3) := by decide +kernel
theorem dX4_init_8 : decode cX4_init 8 = .ok (.newarray .long, 2) := by decide +kernel
theorem dX4_init_10 : decode cX4_init 10 = .ok (.putfield 9, 3) := by decide +kernel
theorem dX4_init_13 : decode cX4_init 13 = .ok (.aload_n 0, 1) := by decide +kernel
theorem dX4_init_14 : decode cX4_init 14 = .ok (.sipush 26002, 3) := by decide +kernel
theorem dX4_init_17 : decode cX4_init 17 = .ok (.newarray .int, 2) := by decide +kernel
theorem dX4_init_19 : decode cX4_init 19 = .ok (.putfield 15, 3) := by decide +kernel
theorem dX4_init_22 : decode cX4_init 22 = .ok (.return_, 1) := by decide +kernel
theorem dX4_forget_0 : decode cX4_forget 0 = .ok (.aload_n 0, 1) := by decide +kernel
theorem dX4_forget_1 : decode cX4_forget 1 = .ok (.iconst 0, 1) := by decide +kernel
theorem dX4_forget_2 : decode cX4_forget 2 = .ok (.putfield 19, 3) := by decide +kernel
theorem dX4_forget_5 : decode cX4_forget 5 = .ok (.return_, 1) := by decide +kernel
theorem dX4_gather_0 : decode cX4_gather 0 = .ok (.aload_n 0, 1) := by decide +kernel
theorem dX4_gather_1 : decode cX4_gather 1 = .ok (.getfield 19, 3) := by decide +kernel
theorem dX4_gather_4 : decode cX4_gather 4 = .ok (.ifCond .eq 20, 3) := by decide +kernel
theorem dX4_gather_7 : decode cX4_gather 7 = .ok (.iload_n 1, 1) := by decide +kernel
theorem dX4_gather_8 : decode cX4_gather 8 = .ok (.aload_n 0, 1) := by decide +kernel
theorem dX4_gather_9 : decode cX4_gather 9 = .ok (.getfield 23, 3) := by decide +kernel
theorem dX4_gather_12 : decode cX4_gather 12 = .ok (.if_icmp .ne 12, 3) := by decide +kernel
theorem dX4_gather_15 : decode cX4_gather 15 = .ok (.iload_n 2, 1) := by decide +kernel
theorem dX4_gather_16 : decode cX4_gather 16 = .ok (.aload_n 0, 1) := by decide +kernel
theorem dX4_gather_17 : decode cX4_gather 17 = .ok (.getfield 27, 3) := by decide +kernel
theorem dX4_gather_20 : decode cX4_gather 20 = .ok (.if_icmp .ne 4, 3) := by decide +kernel
theorem dX4_gather_23 : decode cX4_gather 23 = .ok (.return_, 1) := by decide +kernel
theorem dX4_gather_24 : decode cX4_gather 24 = .ok (.aload_n 0, 1) := by decide +kernel
theorem dX4_gather_25 : decode cX4_gather 25 = .ok (.iconst 1, 1) := by decide +kernel
theorem dX4_gather_26 : decode cX4_gather 26 = .ok (.putfield 19, 3) := by decide +kernel
theorem dX4_gather_29 : decode cX4_gather 29 = .ok (.aload_n 0, 1) := by decide +kernel
theorem dX4_gather_30 : decode cX4_gather 30 = .ok (.iload_n 1, 1) := by decide +kernel
theorem dX4_gather_31 : decode cX4_gather 31 = .ok (.putfield 23, 3) := by decide +kernel
theorem dX4_gather_34 : decode cX4_gather 34 = .ok (.aload_n 0, 1) := by decide +kernel
theorem dX4_gather_35 : decode cX4_gather 35 = .ok (.iload_n 2, 1) := by decide +kernel
theorem dX4_gather_36 : decode cX4_gather 36 = .ok (.putfield 27, 3) := by decide +kernel
theorem dX4_gather_39 : decode cX4_gather 39 = .ok (.iload_n 2, 1) := by decide +kernel
theorem dX4_gather_40 : decode cX4_gather 40 = .ok (.iload_n 1, 1) := by decide +kernel
theorem dX4_gather_41 : decode cX4_gather 41 = .ok (.isub, 1) := by decide +kernel
theorem dX4_gather_42 : decode cX4_gather 42 = .ok (.bipush 64, 2) := by decide +kernel
theorem dX4_gather_44 : decode cX4_gather 44 = .ok (.idiv, 1) := by decide +kernel
theorem dX4_gather_45 : decode cX4_gather 45 = .ok (.iconst 1, 1) := by decide +kernel
theorem dX4_gather_46 : decode cX4_gather 46 = .ok (.iadd, 1) := by decide +kernel
theorem dX4_gather_47 : decode cX4_gather 47 = .ok (.aload_n 0, 1) := by decide +kernel
theorem dX4_gather_48 : decode cX4_gather 48 = .ok (.getfield 9, 3) := by decide +kernel
theorem dX4_gather_51 : decode cX4_gather 51 = .ok (.arraylength, 1) := by decide +kernel
theorem dX4_gather_52 : decode cX4_gather 52 = .ok (.invokestatic 30, 3) := by decide +kernel
theorem dX4_gather_55 : decode cX4_gather 55 = .ok (.istore 5, 2) := by decide +kernel
theorem dX4_gather_57 : decode cX4_gather 57 = .ok (.iconst 0, 1) := by decide +kernel
theorem dX4_gather_58 : decode cX4_gather 58 = .ok (.istore 6, 2) := by decide +kernel
theorem dX4_gather_60 : decode cX4_gather 60 = .ok (.iload 6, 2) := by decide +kernel
theorem dX4_gather_62 : decode cX4_gather 62 = .ok (.iload 5, 2) := by decide +kernel
theorem dX4_gather_64 : decode cX4_gather 64 = .ok (.if_icmp .ge 17, 3) := by decide +kernel
theorem dX4_gather_67 : decode cX4_gather 67 = .ok (.aload_n 0, 1) := by decide +kernel
theorem dX4_gather_68 : decode cX4_gather 68 = .ok (.getfield 9, 3) := by decide +kernel
theorem dX4_gather_71 : decode cX4_gather 71 = .ok (.iload 6, 2) := by decide +kernel
theorem dX4_gather_73 : decode cX4_gather 73 = .ok (.lconst 0, 1) := by decide +kernel
theorem dX4_gather_74 : decode cX4_gather 74 = .ok (.lastore, 1) := by decide +kernel
theorem dX4_gather_75 : decode cX4_gather 75 = .ok (.iinc 6 1, 3) := by decide +kernel
theorem dX4_gather_78 : decode cX4_gather 78 = .ok (.goto (-18), 3) := by decide +kernel
theorem dX4_gather_81 : decode cX4_gather 81 = .ok (.aload_n 0, 1) := by decide +kernel
theorem dX4_gather_82 : decode cX4_gather 82 = .ok (.iload_n 1, 1) := by decide +kernel
theorem dX4_gather_83 : decode cX4_gather 83 = .ok (.invokevirtual 36, 3) := by decide +kernel
theorem dX4_gather_86 : decode cX4_gather 86 = .ok (.aload_n 0, 1) := by decide +kernel
theorem dX4_gather_87 : decode cX4_gather 87 = .ok (.iload_n 2, 1) := by decide +kernel
theorem dX4_gather_88 : decode cX4_gather 88 = .ok (.invokevirtual 36, 3) := by decide +kernel
theorem dX4_gather_91 : decode cX4_gather 91 = .ok (.iconst 0, 1) := by decide +kernel
theorem dX4_gather_92 : decode cX4_gather 92 = .ok (.istore 6, 2) := by decide +kernel
theorem dX4_gather_94 : decode cX4_gather 94 = .ok (.iload 6, 2) := by decide +kernel
theorem dX4_gather_96 : decode cX4_gather 96 = .ok (.aload_n 3, 1) := by decide +kernel
theorem dX4_gather_97 : decode cX4_gather 97 = .ok (.getfield 40, 3) := by decide +kernel
theorem dX4_gather_100 : decode cX4_gather 100 = .ok (.if_icmp .ge 36, 3) := by decide +kernel
theorem dX4_gather_103 : decode cX4_gather 103 = .ok (.aload_n 3, 1) := by decide +kernel
theorem dX4_gather_104 : decode cX4_gather 104 = .ok (.iload 6, 2) := by decide +kernel
theorem dX4_gather_106 : decode cX4_gather 106 = .ok (.invokevirtual 45, 3) := by decide +kernel
theorem dX4_gather_109 : decode cX4_gather 109 = .ok (.astore 7, 2) := by decide +kernel
theorem dX4_gather_111 : decode cX4_gather 111 = .ok (.aload 7, 2) := by decide +kernel
theorem dX4_gather_113 : decode cX4_gather 113 = .ok (.ifnull 17, 3) := by decide +kernel
theorem dX4_gather_116 : decode cX4_gather 116 = .ok (.aload_n 0, 1) := by decide +kernel
theorem dX4_gather_117 : decode cX4_gather 117 = .ok (.aload 7, 2) := by decide +kernel
theorem dX4_gather_119 : decode cX4_gather 119 = .ok (.invokevirtual 49, 3) := by decide +kernel
theorem dX4_gather_122 : decode cX4_gather 122 = .ok (.aload_n 0, 1) := by decide +kernel
theorem dX4_gather_123 : decode cX4_gather 123 = .ok (.aload 7, 2) := by decide +kernel
theorem dX4_gather_125 : decode cX4_gather 125 = .ok (.iload 4, 2) := by decide +kernel
theorem dX4_gather_127 : decode cX4_gather 127 = .ok (.invokevirtual 53, 3) := by decide +kernel
theorem dX4_gather_130 : decode cX4_gather 130 = .ok (.iinc 6 1, 3) := by decide +kernel
theorem dX4_gather_133 : decode cX4_gather 133 = .ok (.goto (-39), 3) := by decide +kernel
theorem dX4_gather_136 : decode cX4_gather 136 = .ok (.aload_n 0, 1) := by decide +kernel
theorem dX4_gather_137 : decode cX4_gather 137 = .ok (.iload 5, 2) := by decide +kernel
theorem dX4_gather_139 : decode cX4_gather 139 = .ok (.invokevirtual 57, 3) := by decide +kernel
theorem dX4_gather_142 : decode cX4_gather 142 = .ok (.return_, 1) := by decide +kernel
theorem dX4_mark_0 : decode cX4_mark 0 = .ok (.iload_n 1, 1) := by decide +kernel
theorem dX4_mark_1 : decode cX4_mark 1 = .ok (.aload_n 0, 1) := by decide +kernel
theorem dX4_mark_2 : decode cX4_mark 2 = .ok (.getfield 23, 3) := by decide +kernel
theorem dX4_mark_5 : decode cX4_mark 5 = .ok (.isub, 1) := by decide +kernel
theorem dX4_mark_6 : decode cX4_mark 6 = .ok (.istore_n 2, 1) := by decide +kernel
theorem dX4_mark_7 : decode cX4_mark 7 = .ok (.iload_n 2, 1) := by decide +kernel
theorem dX4_mark_8 : decode cX4_mark 8 = .ok (.ifCond .lt 41, 3) := by decide +kernel
theorem dX4_mark_11 : decode cX4_mark 11 = .ok (.iload_n 1, 1) := by decide +kernel
theorem dX4_mark_12 : decode cX4_mark 12 = .ok (.aload_n 0, 1) := by decide +kernel
theorem dX4_mark_13 : decode cX4_mark 13 = .ok (.getfield 27, 3) := by decide +kernel
theorem dX4_mark_16 : decode cX4_mark 16 = .ok (.if_icmp .gt 33, 3) := by decide +kernel
theorem dX4_mark_19 : decode cX4_mark 19 = .ok (.iload_n 2, 1) := by decide +kernel
theorem dX4_mark_20 : decode cX4_mark 20 = .ok (.bipush 64, 2) := by decide +kernel
theorem dX4_mark_22 : decode cX4_mark 22 = .ok (.idiv, 1) := by decide +kernel
theorem dX4_mark_23 : decode cX4_mark 23 = .ok (.aload_n 0, 1) := by decide +kernel
theorem dX4_mark_24 : decode cX4_mark 24 = .ok (.getfield 9, 3) := by decide +kernel
theorem dX4_mark_27 : decode cX4_mark 27 = .ok (.arraylength, 1) := by decide +kernel
theorem dX4_mark_28 : decode cX4_mark 28 = .ok (.if_icmp .ge 21, 3) := by decide +kernel
theorem dX4_mark_31 : decode cX4_mark 31 = .ok (.aload_n 0, 1) := by decide +kernel
theorem dX4_mark_32 : decode cX4_mark 32 = .ok (.getfield 9, 3) := by decide +kernel
theorem dX4_mark_35 : decode cX4_mark 35 = .ok (.iload_n 2, 1) := by decide +kernel
theorem dX4_mark_36 : decode cX4_mark 36 = .ok (.bipush 64, 2) := by decide +kernel
theorem dX4_mark_38 : decode cX4_mark 38 = .ok (.idiv, 1) := by decide +kernel
theorem dX4_mark_39 : decode cX4_mark 39 = .ok (.dup2, 1) := by decide +kernel
theorem dX4_mark_40 : decode cX4_mark 40 = .ok (.laload, 1) := by decide +kernel
theorem dX4_mark_41 : decode cX4_mark 41 = .ok (.lconst 1, 1) := by decide +kernel
theorem dX4_mark_42 : decode cX4_mark 42 = .ok (.iload_n 2, 1) := by decide +kernel
theorem dX4_mark_43 : decode cX4_mark 43 = .ok (.bipush 64, 2) := by decide +kernel
theorem dX4_mark_45 : decode cX4_mark 45 = .ok (.irem, 1) := by decide +kernel
theorem dX4_mark_46 : decode cX4_mark 46 = .ok (.lshl, 1) := by decide +kernel
theorem dX4_mark_47 : decode cX4_mark 47 = .ok (.lor, 1) := by decide +kernel
theorem dX4_mark_48 : decode cX4_mark 48 = .ok (.lastore, 1) := by decide +kernel
theorem dX4_mark_49 : decode cX4_mark 49 = .ok (.return_, 1) := by decide +kernel
theorem dX4_markChanges_0 : decode cX4_markChanges 0 = .ok (.aload_n 1, 1) := by decide +kernel
theorem dX4_markChanges_1 : decode cX4_markChanges 1 = .ok (.aload_n 0, 1) := by decide +kernel
theorem dX4_markChanges_2 : decode cX4_markChanges 2 = .ok (.getfield 23, 3) := by decide +kernel
theorem dX4_markChanges_5 : decode cX4_markChanges 5 = .ok (.iconst 1, 1) := by decide +kernel
theorem dX4_markChanges_6 : decode cX4_markChanges 6 = .ok (.isub, 1) := by decide +kernel
theorem dX4_markChanges_7 : decode cX4_markChanges 7 = .ok (.invokevirtual 60, 3) := by decide +kernel
theorem dX4_markChanges_10 : decode cX4_markChanges 10 = .ok (.iconst 1, 1) := by decide +kernel
theorem dX4_markChanges_11 : decode cX4_markChanges 11 = .ok (.iadd, 1) := by decide +kernel
theorem dX4_markChanges_12 : decode cX4_markChanges 12 = .ok (.istore_n 2, 1) := by decide +kernel
theorem dX4_markChanges_13 : decode cX4_markChanges 13 = .ok (.iload_n 2, 1) := by decide +kernel
theorem dX4_markChanges_14 : decode cX4_markChanges 14 = .ok (.aload_n 1, 1) := by decide +kernel
theorem dX4_markChanges_15 : decode cX4_markChanges 15 = .ok (.getfield 66, 3) := by decide +kernel
theorem dX4_markChanges_18 : decode cX4_markChanges 18 = .ok (.if_icmp .gt 56, 3) := by decide +kernel
theorem dX4_markChanges_21 : decode cX4_markChanges 21 = .ok (.aload_n 1, 1) := by decide +kernel
theorem dX4_markChanges_22 : decode cX4_markChanges 22 = .ok (.getfield 69, 3) := by decide +kernel
theorem dX4_markChanges_25 : decode cX4_markChanges 25 = .ok (.iload_n 2, 1) := by decide +kernel
theorem dX4_markChanges_26 : decode cX4_markChanges 26 = .ok (.iaload, 1) := by decide +kernel
theorem dX4_markChanges_27 : decode cX4_markChanges 27 = .ok (.aload_n 0, 1) := by decide +kernel
theorem dX4_markChanges_28 : decode cX4_markChanges 28 = .ok (.getfield 27, 3) := by decide +kernel
theorem dX4_markChanges_31 : decode cX4_markChanges 31 = .ok (.if_icmp .gt 43, 3) := by decide +kernel
theorem dX4_markChanges_34 : decode cX4_markChanges 34 = .ok (.aload_n 0, 1) := by decide +kernel
theorem dX4_markChanges_35 : decode cX4_markChanges 35 = .ok (.aload_n 1, 1) := by decide +kernel
theorem dX4_markChanges_36 : decode cX4_markChanges 36 = .ok (.getfield 69, 3) := by decide +kernel
theorem dX4_markChanges_39 : decode cX4_markChanges 39 = .ok (.iload_n 2, 1) := by decide +kernel
theorem dX4_markChanges_40 : decode cX4_markChanges 40 = .ok (.iaload, 1) := by decide +kernel
theorem dX4_markChanges_41 : decode cX4_markChanges 41 = .ok (.iconst 1, 1) := by decide +kernel
theorem dX4_markChanges_42 : decode cX4_markChanges 42 = .ok (.isub, 1) := by decide +kernel
theorem dX4_markChanges_43 : decode cX4_markChanges 43 = .ok (.invokevirtual 36, 3) := by decide +kernel
theorem dX4_markChanges_46 : decode cX4_markChanges 46 = .ok (.aload_n 0, 1) := by decide +kernel
theorem dX4_markChanges_47 : decode cX4_markChanges 47 = .ok (.aload_n 1, 1) := by decide +kernel
theorem dX4_markChanges_48 : decode cX4_markChanges 48 = .ok (.getfield 69, 3) := by decide +kernel
theorem dX4_markChanges_51 : decode cX4_markChanges 51 = .ok (.iload_n 2, 1) := by decide +kernel
theorem dX4_markChanges_52 : decode cX4_markChanges 52 = .ok (.iaload, 1) := by decide +kernel
theorem dX4_markChanges_53 : decode cX4_markChanges 53 = .ok (.invokevirtual 36, 3) := by decide +kernel
theorem dX4_markChanges_56 : decode cX4_markChanges 56 = .ok (.aload_n 0, 1) := by decide +kernel
theorem dX4_markChanges_57 : decode cX4_markChanges 57 = .ok (.aload_n 1, 1) := by decide +kernel
theorem dX4_markChanges_58 : decode cX4_markChanges 58 = .ok (.getfield 69, 3) := by decide +kernel
theorem dX4_markChanges_61 : decode cX4_markChanges 61 = .ok (.iload_n 2, 1) := by decide +kernel
theorem dX4_markChanges_62 : decode cX4_markChanges 62 = .ok (.iaload, 1) := by decide +kernel
theorem dX4_markChanges_63 : decode cX4_markChanges 63 = .ok (.iconst 1, 1) := by decide +kernel
theorem dX4_markChanges_64 : decode cX4_markChanges 64 = .ok (.iadd, 1) := by decide +kernel
theorem dX4_markChanges_65 : decode cX4_markChanges 65 = .ok (.invokevirtual 36, 3) := by decide +kernel
theorem dX4_markChanges_68 : decode cX4_markChanges 68 = .ok (.iinc 2 1, 3) := by decide +kernel
theorem dX4_markChanges_71 : decode cX4_markChanges 71 = .ok (.goto (-58), 3) := by decide +kernel
theorem dX4_markChanges_74 : decode cX4_markChanges 74 = .ok (.return_, 1) := by decide +kernel
theorem dX4_markDays_0 : decode cX4_markDays 0 = .ok (.iconst 0, 1) := by decide +kernel
theorem dX4_markDays_1 : decode cX4_markDays 1 = .ok (.aload_n 0, 1) := by decide +kernel
theorem dX4_markDays_2 : decode cX4_markDays 2 = .ok (.getfield 23, 3) := by decide +kernel
theorem dX4_markDays_5 : decode cX4_markDays 5 = .ok (.sipush 720, 3) := by decide +kernel
theorem dX4_markDays_8 : decode cX4_markDays 8 = .ok (.isub, 1) := by decide +kernel
theorem dX4_markDays_9 : decode cX4_markDays 9 = .ok (.sipush 1440, 3) := by decide +kernel
theorem dX4_markDays_12 : decode cX4_markDays 12 = .ok (.idiv, 1) := by decide +kernel
theorem dX4_markDays_13 : decode cX4_markDays 13 = .ok (.iconst 1, 1) := by decide +kernel
theorem dX4_markDays_14 : decode cX4_markDays 14 = .ok (.isub, 1) := by decide +kernel
theorem dX4_markDays_15 : decode cX4_markDays 15 = .ok (.invokestatic 72, 3) := by decide +kernel
theorem dX4_markDays_18 : decode cX4_markDays 18 = .ok (.istore_n 3, 1) := by decide +kernel
theorem dX4_markDays_19 : decode cX4_markDays 19 = .ok (.iload_n 2, 1) := by decide +kernel
theorem dX4_markDays_20 : decode cX4_markDays 20 = .ok (.iconst 1, 1) := by decide +kernel
theorem dX4_markDays_21 : decode cX4_markDays 21 = .ok (.isub, 1) := by decide +kernel
theorem dX4_markDays_22 : decode cX4_markDays 22 = .ok (.aload_n 0, 1) := by decide +kernel
theorem dX4_markDays_23 : decode cX4_markDays 23 = .ok (.getfield 27, 3) := by decide +kernel
theorem dX4_markDays_26 : decode cX4_markDays 26 = .ok (.sipush 720, 3) := by decide +kernel
theorem dX4_markDays_29 : decode cX4_markDays 29 = .ok (.iadd, 1) := by decide +kernel
theorem dX4_markDays_30 : decode cX4_markDays 30 = .ok (.sipush 1440, 3) := by decide +kernel
theorem dX4_markDays_33 : decode cX4_markDays 33 = .ok (.idiv, 1) := by decide +kernel
theorem dX4_markDays_34 : decode cX4_markDays 34 = .ok (.invokestatic 30, 3) := by decide +kernel
theorem dX4_markDays_37 : decode cX4_markDays 37 = .ok (.istore 4, 2) := by decide +kernel
theorem dX4_markDays_39 : decode cX4_markDays 39 = .ok (.aload_n 1, 1) := by decide +kernel
theorem dX4_markDays_40 : decode cX4_markDays 40 = .ok (.iload_n 3, 1) := by decide +kernel
theorem dX4_markDays_41 : decode cX4_markDays 41 = .ok (.sipush 1440, 3) := by decide +kernel
theorem dX4_markDays_44 : decode cX4_markDays 44 = .ok (.imul, 1) := by decide +kernel
theorem dX4_markDays_45 : decode cX4_markDays 45 = .ok (.sipush 720, 3) := by decide +kernel
theorem dX4_markDays_48 : decode cX4_markDays 48 = .ok (.isub, 1) := by decide +kernel
theorem dX4_markDays_49 : decode cX4_markDays 49 = .ok (.invokevirtual 60, 3) := by decide +kernel
theorem dX4_markDays_52 : decode cX4_markDays 52 = .ok (.istore 5, 2) := by decide +kernel
theorem dX4_markDays_54 : decode cX4_markDays 54 = .ok (.iload_n 3, 1) := by decide +kernel
theorem dX4_markDays_55 : decode cX4_markDays 55 = .ok (.istore 6, 2) := by decide +kernel
theorem dX4_markDays_57 : decode cX4_markDays 57 = .ok (.iload 6, 2) := by decide +kernel
theorem dX4_markDays_59 : decode cX4_markDays 59 = .ok (.iload 4, 2) := by decide +kernel
theorem dX4_markDays_61 : decode cX4_markDays 61 = .ok (.if_icmp .gt 80, 3) := by decide +kernel
theorem dX4_markDays_64 : decode cX4_markDays 64 = .ok (.iload 6, 2) := by decide +kernel
theorem dX4_markDays_66 : decode cX4_markDays 66 = .ok (.sipush 1440, 3) := by decide +kernel
theorem dX4_markDays_69 : decode cX4_markDays 69 = .ok (.imul, 1) := by decide +kernel
theorem dX4_markDays_70 : decode cX4_markDays 70 = .ok (.sipush 720, 3) := by decide +kernel
theorem dX4_markDays_73 : decode cX4_markDays 73 = .ok (.isub, 1) := by decide +kernel
theorem dX4_markDays_74 : decode cX4_markDays 74 = .ok (.istore 7, 2) := by decide +kernel
theorem dX4_markDays_76 : decode cX4_markDays 76 = .ok (.iload 5, 2) := by decide +kernel
theorem dX4_markDays_78 : decode cX4_markDays 78 = .ok (.aload_n 1, 1) := by decide +kernel
theorem dX4_markDays_79 : decode cX4_markDays 79 = .ok (.getfield 66, 3) := by decide +kernel
theorem dX4_markDays_82 : decode cX4_markDays 82 = .ok (.if_icmp .ge 23, 3) := by decide +kernel
theorem dX4_markDays_85 : decode cX4_markDays 85 = .ok (.aload_n 1, 1) := by decide +kernel
theorem dX4_markDays_86 : decode cX4_markDays 86 = .ok (.getfield 69, 3) := by decide +kernel
theorem dX4_markDays_89 : decode cX4_markDays 89 = .ok (.iload 5, 2) := by decide +kernel
theorem dX4_markDays_91 : decode cX4_markDays 91 = .ok (.iconst 1, 1) := by decide +kernel
theorem dX4_markDays_92 : decode cX4_markDays 92 = .ok (.iadd, 1) := by decide +kernel
theorem dX4_markDays_93 : decode cX4_markDays 93 = .ok (.iaload, 1) := by decide +kernel
theorem dX4_markDays_94 : decode cX4_markDays 94 = .ok (.iload 7, 2) := by decide +kernel
theorem dX4_markDays_96 : decode cX4_markDays 96 = .ok (.if_icmp .gt 9, 3) := by decide +kernel
theorem dX4_markDays_99 : decode cX4_markDays 99 = .ok (.iinc 5 1, 3) := by decide +kernel
theorem dX4_markDays_102 : decode cX4_markDays 102 = .ok (.goto (-26), 3) := by decide +kernel
theorem dX4_markDays_105 : decode cX4_markDays 105 = .ok (.aload_n 1, 1) := by decide +kernel
theorem dX4_markDays_106 : decode cX4_markDays 106 = .ok (.iload 6, 2) := by decide +kernel
theorem dX4_markDays_108 : decode cX4_markDays 108 = .ok (.iload 5, 2) := by decide +kernel
theorem dX4_markDays_110 : decode cX4_markDays 110 = .ok (.invokevirtual 75, 3) := by decide +kernel
theorem dX4_markDays_113 : decode cX4_markDays 113 = .ok (.istore 8, 2) := by decide +kernel
theorem dX4_markDays_115 : decode cX4_markDays 115 = .ok (.iload 8, 2) := by decide +kernel
theorem dX4_markDays_117 : decode cX4_markDays 117 = .ok (.iconst (-1), 1) := by decide +kernel
theorem dX4_markDays_118 : decode cX4_markDays 118 = .ok (.if_icmp .eq 17, 3) := by decide +kernel
theorem dX4_markDays_121 : decode cX4_markDays 121 = .ok (.aload_n 0, 1) := by decide +kernel
theorem dX4_markDays_122 : decode cX4_markDays 122 = .ok (.iload 8, 2) := by decide +kernel
theorem dX4_markDays_124 : decode cX4_markDays 124 = .ok (.iconst 1, 1) := by decide +kernel
theorem dX4_markDays_125 : decode cX4_markDays 125 = .ok (.isub, 1) := by decide +kernel
theorem dX4_markDays_126 : decode cX4_markDays 126 = .ok (.invokevirtual 36, 3) := by decide +kernel
theorem dX4_markDays_129 : decode cX4_markDays 129 = .ok (.aload_n 0, 1) := by decide +kernel
theorem dX4_markDays_130 : decode cX4_markDays 130 = .ok (.iload 8, 2) := by decide +kernel
theorem dX4_markDays_132 : decode cX4_markDays 132 = .ok (.invokevirtual 36, 3) := by decide +kernel
theorem dX4_markDays_135 : decode cX4_markDays 135 = .ok (.iinc 6 1, 3) := by decide +kernel
theorem dX4_markDays_138 : decode cX4_markDays 138 = .ok (.goto (-81), 3) := by decide +kernel
theorem dX4_markDays_141 : decode cX4_markDays 141 = .ok (.return_, 1) := by decide +kernel
theorem dX4_listMarks_0 : decode cX4_listMarks 0 = .ok (.aload_n 0, 1) := by decide +kernel
theorem dX4_listMarks_1 : decode cX4_listMarks 1 = .ok (.iconst 0, 1) := by decide +kernel
theorem dX4_listMarks_2 : decode cX4_listMarks 2 = .ok (.putfield 78, 3) := by decide +kernel
theorem dX4_listMarks_5 : decode cX4_listMarks 5 = .ok (.iconst 0, 1) := by decide +kernel
theorem dX4_listMarks_6 : decode cX4_listMarks 6 = .ok (.istore_n 2, 1) := by decide +kernel
theorem dX4_listMarks_7 : decode cX4_listMarks 7 = .ok (.iload_n 2, 1) := by decide +kernel
theorem dX4_listMarks_8 : decode cX4_listMarks 8 = .ok (.iload_n 1, 1) := by decide +kernel
theorem dX4_listMarks_9 : decode cX4_listMarks 9 = .ok (.if_icmp .ge 97, 3) := by decide +kernel
theorem dX4_listMarks_12 : decode cX4_listMarks 12 = .ok (.aload_n 0, 1) := by decide +kernel
theorem dX4_listMarks_13 : decode cX4_listMarks 13 = .ok (.getfield 9, 3) := by decide +kernel
theorem dX4_listMarks_16 : decode cX4_listMarks 16 = .ok (.iload_n 2, 1) := by decide +kernel
theorem dX4_listMarks_17 : decode cX4_listMarks 17 = .ok (.laload, 1) := by decide +kernel
theorem dX4_listMarks_18 : decode cX4_listMarks 18 = .ok (.lstore_n 3, 1) := by decide +kernel
theorem dX4_listMarks_19 : decode cX4_listMarks 19 = .ok (.iconst 0, 1) := by decide +kernel
theorem dX4_listMarks_20 : decode cX4_listMarks 20 = .ok (.istore 5, 2) := by decide +kernel
theorem dX4_listMarks_22 : decode cX4_listMarks 22 = .ok (.iload 5, 2) := by decide +kernel
theorem dX4_listMarks_24 : decode cX4_listMarks 24 = .ok (.bipush 64, 2) := by decide +kernel
theorem dX4_listMarks_26 : decode cX4_listMarks 26 = .ok (.if_icmp .ge 74, 3) := by decide +kernel
theorem dX4_listMarks_29 : decode cX4_listMarks 29 = .ok (.lload_n 3, 1) := by decide +kernel
theorem dX4_listMarks_30 : decode cX4_listMarks 30 = .ok (.lconst 0, 1) := by decide +kernel
theorem dX4_listMarks_31 : decode cX4_listMarks 31 = .ok (.lcmp, 1) := by decide +kernel
theorem dX4_listMarks_32 : decode cX4_listMarks 32 = .ok (.ifCond .eq 68, 3) := by decide +kernel
theorem dX4_listMarks_35 : decode cX4_listMarks 35 = .ok (.aload_n 0, 1) := by decide +kernel
theorem dX4_listMarks_36 : decode cX4_listMarks 36 = .ok (.getfield 78, 3) := by decide +kernel
theorem dX4_listMarks_39 : decode cX4_listMarks 39 = .ok (.aload_n 0, 1) := by decide +kernel
theorem dX4_listMarks_40 : decode cX4_listMarks 40 = .ok (.getfield 15, 3) := by decide +kernel
theorem dX4_listMarks_43 : decode cX4_listMarks 43 = .ok (.arraylength, 1) := by decide +kernel
theorem dX4_listMarks_44 : decode cX4_listMarks 44 = .ok (.if_icmp .ge 56, 3) := by decide +kernel
theorem dX4_listMarks_47 : decode cX4_listMarks 47 = .ok (.lload_n 3, 1) := by decide +kernel
theorem dX4_listMarks_48 : decode cX4_listMarks 48 = .ok (.lload_n 3, 1) := by decide +kernel
theorem dX4_listMarks_49 : decode cX4_listMarks 49 = .ok (.lneg, 1) := by decide +kernel
theorem dX4_listMarks_50 : decode cX4_listMarks 50 = .ok (.land, 1) := by decide +kernel
theorem dX4_listMarks_51 : decode cX4_listMarks 51 = .ok (.lstore 6, 2) := by decide +kernel
theorem dX4_listMarks_53 : decode cX4_listMarks 53 = .ok (.aload_n 0, 1) := by decide +kernel
theorem dX4_listMarks_54 : decode cX4_listMarks 54 = .ok (.getfield 15, 3) := by decide +kernel
theorem dX4_listMarks_57 : decode cX4_listMarks 57 = .ok (.aload_n 0, 1) := by decide +kernel
theorem dX4_listMarks_58 : decode cX4_listMarks 58 = .ok (.getfield 78, 3) := by decide +kernel
theorem dX4_listMarks_61 : decode cX4_listMarks 61 = .ok (.aload_n 0, 1) := by decide +kernel
theorem dX4_listMarks_62 : decode cX4_listMarks 62 = .ok (.getfield 23, 3) := by decide +kernel
theorem dX4_listMarks_65 : decode cX4_listMarks 65 = .ok (.iload_n 2, 1) := by decide +kernel
theorem dX4_listMarks_66 : decode cX4_listMarks 66 = .ok (.bipush 64, 2) := by decide +kernel
theorem dX4_listMarks_68 : decode cX4_listMarks 68 = .ok (.imul, 1) := by decide +kernel
theorem dX4_listMarks_69 : decode cX4_listMarks 69 = .ok (.iadd, 1) := by decide +kernel
theorem dX4_listMarks_70 : decode cX4_listMarks 70 = .ok (.lload 6, 2) := by decide +kernel
theorem dX4_listMarks_72 : decode cX4_listMarks 72 = .ok (.lconst 1, 1) := by decide +kernel
theorem dX4_listMarks_73 : decode cX4_listMarks 73 = .ok (.lsub, 1) := by decide +kernel
theorem dX4_listMarks_74 : decode cX4_listMarks 74 = .ok (.invokestatic 81, 3) := by decide +kernel
