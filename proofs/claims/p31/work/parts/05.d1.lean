theorem dX4_listMarks_77 : decode cX4_listMarks 77 = .ok (.iadd, 1) := by decide +kernel
theorem dX4_listMarks_78 : decode cX4_listMarks 78 = .ok (.iastore, 1) := by decide +kernel
theorem dX4_listMarks_79 : decode cX4_listMarks 79 = .ok (.aload_n 0, 1) := by decide +kernel
theorem dX4_listMarks_80 : decode cX4_listMarks 80 = .ok (.dup, 1) := by decide +kernel
theorem dX4_listMarks_81 : decode cX4_listMarks 81 = .ok (.getfield 78, 3) := by decide +kernel
theorem dX4_listMarks_84 : decode cX4_listMarks 84 = .ok (.iconst 1, 1) := by decide +kernel
theorem dX4_listMarks_85 : decode cX4_listMarks 85 = .ok (.iadd, 1) := by decide +kernel
theorem dX4_listMarks_86 : decode cX4_listMarks 86 = .ok (.putfield 78, 3) := by decide +kernel
theorem dX4_listMarks_89 : decode cX4_listMarks 89 = .ok (.lload_n 3, 1) := by decide +kernel
theorem dX4_listMarks_90 : decode cX4_listMarks 90 = .ok (.lload 6, 2) := by decide +kernel
theorem dX4_listMarks_92 : decode cX4_listMarks 92 = .ok (.lxor, 1) := by decide +kernel
theorem dX4_listMarks_93 : decode cX4_listMarks 93 = .ok (.lstore_n 3, 1) := by decide +kernel
theorem dX4_listMarks_94 : decode cX4_listMarks 94 = .ok (.iinc 5 1, 3) := by decide +kernel
theorem dX4_listMarks_97 : decode cX4_listMarks 97 = .ok (.goto (-75), 3) := by decide +kernel
theorem dX4_listMarks_100 : decode cX4_listMarks 100 = .ok (.iinc 2 1, 3) := by decide +kernel
theorem dX4_listMarks_103 : decode cX4_listMarks 103 = .ok (.goto (-96), 3) := by decide +kernel
theorem dX4_listMarks_106 : decode cX4_listMarks 106 = .ok (.return_, 1) := by decide +kernel
theorem dX5_init_0 : decode cX5_init 0 = .ok (.aload_n 0, 1) := by decide +kernel
theorem dX5_init_1 : decode cX5_init 1 = .ok (.invokespecial 3, 3) := by decide +kernel
theorem dX5_init_4 : decode cX5_init 4 = .ok (.aload_n 0, 1) := by decide +kernel
theorem dX5_init_5 : decode cX5_init 5 = .ok (.bipush 10, 2) := by decide +kernel
theorem dX5_init_7 : decode cX5_init 7 = .ok (.newarray .int, 2) := by decide +kernel
theorem dX5_init_9 : decode cX5_init 9 = .ok (.putfield 9, 3) := by decide +kernel
theorem dX5_init_12 : decode cX5_init 12 = .ok (.aload_n 0, 1) := by decide +kernel
theorem dX5_init_13 : decode cX5_init 13 = .ok (.bipush 10, 2) := by decide +kernel
theorem dX5_init_15 : decode cX5_init 15 = .ok (.newarray .int, 2) := by decide +kernel
theorem dX5_init_17 : decode cX5_init 17 = .ok (.putfield 15, 3) := by decide +kernel
theorem dX5_init_20 : decode cX5_init 20 = .ok (.aload_n 0, 1) := by decide +kernel
theorem dX5_init_21 : decode cX5_init 21 = .ok (.bipush 10, 2) := by decide +kernel
theorem dX5_init_23 : decode cX5_init 23 = .ok (.newarray .int, 2) := by decide +kernel
theorem dX5_init_25 : decode cX5_init 25 = .ok (.putfield 18, 3) := by decide +kernel
theorem dX5_init_28 : decode cX5_init 28 = .ok (.aload_n 0, 1) := by decide +kernel
theorem dX5_init_29 : decode cX5_init 29 = .ok (.bipush 10, 2) := by decide +kernel
theorem dX5_init_31 : decode cX5_init 31 = .ok (.newarray .int, 2) := by decide +kernel
theorem dX5_init_33 : decode cX5_init 33 = .ok (.putfield 21, 3) := by decide +kernel
theorem dX5_init_36 : decode cX5_init 36 = .ok (.aload_n 0, 1) := by decide +kernel
theorem dX5_init_37 : decode cX5_init 37 = .ok (.bipush 8, 2) := by decide +kernel
theorem dX5_init_39 : decode cX5_init 39 = .ok (.newarray .int, 2) := by decide +kernel
theorem dX5_init_41 : decode cX5_init 41 = .ok (.putfield 24, 3) := by decide +kernel
theorem dX5_init_44 : decode cX5_init 44 = .ok (.return_, 1) := by decide +kernel
theorem dX5_empty_0 : decode cX5_empty 0 = .ok (.aload_n 0, 1) := by decide +kernel
theorem dX5_empty_1 : decode cX5_empty 1 = .ok (.iconst 0, 1) := by decide +kernel
theorem dX5_empty_2 : decode cX5_empty 2 = .ok (.putfield 27, 3) := by decide +kernel
theorem dX5_empty_5 : decode cX5_empty 5 = .ok (.aload_n 0, 1) := by decide +kernel
theorem dX5_empty_6 : decode cX5_empty 6 = .ok (.invokevirtual 31, 3) := by decide +kernel
theorem dX5_empty_9 : decode cX5_empty 9 = .ok (.return_, 1) := by decide +kernel
theorem dX5_append_0 : decode cX5_append 0 = .ok (.aload_n 0, 1) := by decide +kernel
theorem dX5_append_1 : decode cX5_append 1 = .ok (.getfield 27, 3) := by decide +kernel
theorem dX5_append_4 : decode cX5_append 4 = .ok (.bipush 10, 2) := by decide +kernel
theorem dX5_append_6 : decode cX5_append 6 = .ok (.if_icmp .ge 26, 3) := by decide +kernel
theorem dX5_append_9 : decode cX5_append 9 = .ok (.aload_n 0, 1) := by decide +kernel
theorem dX5_append_10 : decode cX5_append 10 = .ok (.dup, 1) := by decide +kernel
theorem dX5_append_11 : decode cX5_append 11 = .ok (.getfield 27, 3) := by decide +kernel
theorem dX5_append_14 : decode cX5_append 14 = .ok (.iconst 1, 1) := by decide +kernel
theorem dX5_append_15 : decode cX5_append 15 = .ok (.iadd, 1) := by decide +kernel
theorem dX5_append_16 : decode cX5_append 16 = .ok (.putfield 27, 3) := by decide +kernel
theorem dX5_append_19 : decode cX5_append 19 = .ok (.aload_n 0, 1) := by decide +kernel
theorem dX5_append_20 : decode cX5_append 20 = .ok (.aload_n 0, 1) := by decide +kernel
theorem dX5_append_21 : decode cX5_append 21 = .ok (.getfield 27, 3) := by decide +kernel
theorem dX5_append_24 : decode cX5_append 24 = .ok (.iconst 1, 1) := by decide +kernel
theorem dX5_append_25 : decode cX5_append 25 = .ok (.isub, 1) := by decide +kernel
theorem dX5_append_26 : decode cX5_append 26 = .ok (.iload_n 1, 1) := by decide +kernel
theorem dX5_append_27 : decode cX5_append 27 = .ok (.iload_n 2, 1) := by decide +kernel
theorem dX5_append_28 : decode cX5_append 28 = .ok (.iload_n 3, 1) := by decide +kernel
theorem dX5_append_29 : decode cX5_append 29 = .ok (.invokevirtual 34, 3) := by decide +kernel
theorem dX5_append_32 : decode cX5_append 32 = .ok (.return_, 1) := by decide +kernel
theorem dX5_replace_0 : decode cX5_replace 0 = .ok (.iload_n 1, 1) := by decide +kernel
theorem dX5_replace_1 : decode cX5_replace 1 = .ok (.ifCond .lt 37, 3) := by decide +kernel
theorem dX5_replace_4 : decode cX5_replace 4 = .ok (.iload_n 1, 1) := by decide +kernel
theorem dX5_replace_5 : decode cX5_replace 5 = .ok (.aload_n 0, 1) := by decide +kernel
theorem dX5_replace_6 : decode cX5_replace 6 = .ok (.getfield 27, 3) := by decide +kernel
theorem dX5_replace_9 : decode cX5_replace 9 = .ok (.if_icmp .ge 29, 3) := by decide +kernel
theorem dX5_replace_12 : decode cX5_replace 12 = .ok (.aload_n 0, 1) := by decide +kernel
theorem dX5_replace_13 : decode cX5_replace 13 = .ok (.getfield 9, 3) := by decide +kernel
theorem dX5_replace_16 : decode cX5_replace 16 = .ok (.iload_n 1, 1) := by decide +kernel
theorem dX5_replace_17 : decode cX5_replace 17 = .ok (.iload_n 2, 1) := by decide +kernel
theorem dX5_replace_18 : decode cX5_replace 18 = .ok (.iastore, 1) := by decide +kernel
theorem dX5_replace_19 : decode cX5_replace 19 = .ok (.aload_n 0, 1) := by decide +kernel
theorem dX5_replace_20 : decode cX5_replace 20 = .ok (.getfield 15, 3) := by decide +kernel
theorem dX5_replace_23 : decode cX5_replace 23 = .ok (.iload_n 1, 1) := by decide +kernel
theorem dX5_replace_24 : decode cX5_replace 24 = .ok (.iload_n 3, 1) := by decide +kernel
theorem dX5_replace_25 : decode cX5_replace 25 = .ok (.iastore, 1) := by decide +kernel
theorem dX5_replace_26 : decode cX5_replace 26 = .ok (.aload_n 0, 1) := by decide +kernel
theorem dX5_replace_27 : decode cX5_replace 27 = .ok (.getfield 18, 3) := by decide +kernel
theorem dX5_replace_30 : decode cX5_replace 30 = .ok (.iload_n 1, 1) := by decide +kernel
theorem dX5_replace_31 : decode cX5_replace 31 = .ok (.iload 4, 2) := by decide +kernel
theorem dX5_replace_33 : decode cX5_replace 33 = .ok (.iastore, 1) := by decide +kernel
theorem dX5_replace_34 : decode cX5_replace 34 = .ok (.aload_n 0, 1) := by decide +kernel
theorem dX5_replace_35 : decode cX5_replace 35 = .ok (.invokevirtual 31, 3) := by decide +kernel
theorem dX5_replace_38 : decode cX5_replace 38 = .ok (.return_, 1) := by decide +kernel
theorem dX5_copyFrom_0 : decode cX5_copyFrom 0 = .ok (.aload_n 0, 1) := by decide +kernel
theorem dX5_copyFrom_1 : decode cX5_copyFrom 1 = .ok (.aload_n 1, 1) := by decide +kernel
theorem dX5_copyFrom_2 : decode cX5_copyFrom 2 = .ok (.getfield 27, 3) := by decide +kernel
theorem dX5_copyFrom_5 : decode cX5_copyFrom 5 = .ok (.putfield 27, 3) := by decide +kernel
theorem dX5_copyFrom_8 : decode cX5_copyFrom 8 = .ok (.iconst 0, 1) := by decide +kernel
theorem dX5_copyFrom_9 : decode cX5_copyFrom 9 = .ok (.istore_n 2, 1) := by decide +kernel
theorem dX5_copyFrom_10 : decode cX5_copyFrom 10 = .ok (.iload_n 2, 1) := by decide +kernel
theorem dX5_copyFrom_11 : decode cX5_copyFrom 11 = .ok (.aload_n 0, 1) := by decide +kernel
theorem dX5_copyFrom_12 : decode cX5_copyFrom 12 = .ok (.getfield 27, 3) := by decide +kernel
theorem dX5_copyFrom_15 : decode cX5_copyFrom 15 = .ok (.if_icmp .ge 45, 3) := by decide +kernel
theorem dX5_copyFrom_18 : decode cX5_copyFrom 18 = .ok (.aload_n 0, 1) := by decide +kernel
theorem dX5_copyFrom_19 : decode cX5_copyFrom 19 = .ok (.getfield 9, 3) := by decide +kernel
theorem dX5_copyFrom_22 : decode cX5_copyFrom 22 = .ok (.iload_n 2, 1) := by decide +kernel
theorem dX5_copyFrom_23 : decode cX5_copyFrom 23 = .ok (.aload_n 1, 1) := by decide +kernel
theorem dX5_copyFrom_24 : decode cX5_copyFrom 24 = .ok (.getfield 9, 3) := by decide +kernel
theorem dX5_copyFrom_27 : decode cX5_copyFrom 27 = .ok (.iload_n 2, 1) := by decide +kernel
theorem dX5_copyFrom_28 : decode cX5_copyFrom 28 = .ok (.iaload, 1) := by decide +kernel
theorem dX5_copyFrom_29 : decode cX5_copyFrom 29 = .ok (.iastore, 1) := by decide +kernel
theorem dX5_copyFrom_30 : decode cX5_copyFrom 30 = .ok (.aload_n 0, 1) := by decide +kernel
theorem dX5_copyFrom_31 : decode cX5_copyFrom 31 = .ok (.getfield 15, 3) := by decide +kernel
theorem dX5_copyFrom_34 : decode cX5_copyFrom 34 = .ok (.iload_n 2, 1) := by decide +kernel
theorem dX5_copyFrom_35 : decode cX5_copyFrom 35 = .ok (.aload_n 1, 1) := by decide +kernel
theorem dX5_copyFrom_36 : decode cX5_copyFrom 36 = .ok (.getfield 15, 3) := by decide +kernel
theorem dX5_copyFrom_39 : decode cX5_copyFrom 39 = .ok (.iload_n 2, 1) := by decide +kernel
theorem dX5_copyFrom_40 : decode cX5_copyFrom 40 = .ok (.iaload, 1) := by decide +kernel
theorem dX5_copyFrom_41 : decode cX5_copyFrom 41 = .ok (.iastore, 1) := by decide +kernel
theorem dX5_copyFrom_42 : decode cX5_copyFrom 42 = .ok (.aload_n 0, 1) := by decide +kernel
theorem dX5_copyFrom_43 : decode cX5_copyFrom 43 = .ok (.getfield 18, 3) := by decide +kernel
theorem dX5_copyFrom_46 : decode cX5_copyFrom 46 = .ok (.iload_n 2, 1) := by decide +kernel
theorem dX5_copyFrom_47 : decode cX5_copyFrom 47 = .ok (.aload_n 1, 1) := by decide +kernel
theorem dX5_copyFrom_48 : decode cX5_copyFrom 48 = .ok (.getfield 18, 3) := by decide +kernel
theorem dX5_copyFrom_51 : decode cX5_copyFrom 51 = .ok (.iload_n 2, 1) := by decide +kernel
theorem dX5_copyFrom_52 : decode cX5_copyFrom 52 = .ok (.iaload, 1) := by decide +kernel
theorem dX5_copyFrom_53 : decode cX5_copyFrom 53 = .ok (.iastore, 1) := by decide +kernel
theorem dX5_copyFrom_54 : decode cX5_copyFrom 54 = .ok (.iinc 2 1, 3) := by decide +kernel
theorem dX5_copyFrom_57 : decode cX5_copyFrom 57 = .ok (.goto (-47), 3) := by decide +kernel
theorem dX5_copyFrom_60 : decode cX5_copyFrom 60 = .ok (.aload_n 0, 1) := by decide +kernel
theorem dX5_copyFrom_61 : decode cX5_copyFrom 61 = .ok (.invokevirtual 31, 3) := by decide +kernel
theorem dX5_copyFrom_64 : decode cX5_copyFrom 64 = .ok (.return_, 1) := by decide +kernel
theorem dX5_fit_0 : decode cX5_fit 0 = .ok (.aload_n 0, 1) := by decide +kernel
theorem dX5_fit_1 : decode cX5_fit 1 = .ok (.iconst 0, 1) := by decide +kernel
theorem dX5_fit_2 : decode cX5_fit 2 = .ok (.putfield 38, 3) := by decide +kernel
theorem dX5_fit_5 : decode cX5_fit 5 = .ok (.iconst 0, 1) := by decide +kernel
theorem dX5_fit_6 : decode cX5_fit 6 = .ok (.istore_n 1, 1) := by decide +kernel
theorem dX5_fit_7 : decode cX5_fit 7 = .ok (.iload_n 1, 1) := by decide +kernel
theorem dX5_fit_8 : decode cX5_fit 8 = .ok (.aload_n 0, 1) := by decide +kernel
theorem dX5_fit_9 : decode cX5_fit 9 = .ok (.getfield 27, 3) := by decide +kernel
theorem dX5_fit_12 : decode cX5_fit 12 = .ok (.if_icmp .ge 56, 3) := by decide +kernel
theorem dX5_fit_15 : decode cX5_fit 15 = .ok (.aload_n 0, 1) := by decide +kernel
theorem dX5_fit_16 : decode cX5_fit 16 = .ok (.aload_n 0, 1) := by decide +kernel
theorem dX5_fit_17 : decode cX5_fit 17 = .ok (.getfield 9, 3) := by decide +kernel
theorem dX5_fit_20 : decode cX5_fit 20 = .ok (.iload_n 1, 1) := by decide +kernel
theorem dX5_fit_21 : decode cX5_fit 21 = .ok (.iaload, 1) := by decide +kernel
theorem dX5_fit_22 : decode cX5_fit 22 = .ok (.invokevirtual 41, 3) := by decide +kernel
theorem dX5_fit_25 : decode cX5_fit 25 = .ok (.ifCond .ne 9, 3) := by decide +kernel
theorem dX5_fit_28 : decode cX5_fit 28 = .ok (.aload_n 0, 1) := by decide +kernel
theorem dX5_fit_29 : decode cX5_fit 29 = .ok (.iload_n 1, 1) := by decide +kernel
theorem dX5_fit_30 : decode cX5_fit 30 = .ok (.putfield 45, 3) := by decide +kernel
theorem dX5_fit_33 : decode cX5_fit 33 = .ok (.return_, 1) := by decide +kernel
theorem dX5_fit_34 : decode cX5_fit 34 = .ok (.aload_n 0, 1) := by decide +kernel
theorem dX5_fit_35 : decode cX5_fit 35 = .ok (.getfield 21, 3) := by decide +kernel
theorem dX5_fit_38 : decode cX5_fit 38 = .ok (.iload_n 1, 1) := by decide +kernel
theorem dX5_fit_39 : decode cX5_fit 39 = .ok (.aload_n 0, 1) := by decide +kernel
theorem dX5_fit_40 : decode cX5_fit 40 = .ok (.getfield 38, 3) := by decide +kernel
theorem dX5_fit_43 : decode cX5_fit 43 = .ok (.ifCond .le 17, 3) := by decide +kernel
theorem dX5_fit_46 : decode cX5_fit 46 = .ok (.aload_n 0, 1) := by decide +kernel
theorem dX5_fit_47 : decode cX5_fit 47 = .ok (.getfield 24, 3) := by decide +kernel
theorem dX5_fit_50 : decode cX5_fit 50 = .ok (.aload_n 0, 1) := by decide +kernel
theorem dX5_fit_51 : decode cX5_fit 51 = .ok (.getfield 38, 3) := by decide +kernel
theorem dX5_fit_54 : decode cX5_fit 54 = .ok (.iconst 1, 1) := by decide +kernel
theorem dX5_fit_55 : decode cX5_fit 55 = .ok (.isub, 1) := by decide +kernel
theorem dX5_fit_56 : decode cX5_fit 56 = .ok (.iaload, 1) := by decide +kernel
theorem dX5_fit_57 : decode cX5_fit 57 = .ok (.goto 4, 3) := by decide +kernel
theorem dX5_fit_60 : decode cX5_fit 60 = .ok (.iconst (-1), 1) := by decide +kernel
theorem dX5_fit_61 : decode cX5_fit 61 = .ok (.iastore, 1) := by decide +kernel
theorem dX5_fit_62 : decode cX5_fit 62 = .ok (.iinc 1 1, 3) := by decide +kernel
theorem dX5_fit_65 : decode cX5_fit 65 = .ok (.goto (-58), 3) := by decide +kernel
theorem dX5_fit_68 : decode cX5_fit 68 = .ok (.aload_n 0, 1) := by decide +kernel
theorem dX5_fit_69 : decode cX5_fit 69 = .ok (.aload_n 0, 1) := by decide +kernel
theorem dX5_fit_70 : decode cX5_fit 70 = .ok (.getfield 38, 3) := by decide +kernel
theorem dX5_fit_73 : decode cX5_fit 73 = .ok (.iconst 1, 1) := by decide +kernel
theorem dX5_fit_74 : decode cX5_fit 74 = .ok (.if_icmp .ne 7, 3) := by decide +kernel
theorem dX5_fit_77 : decode cX5_fit 77 = .ok (.iconst (-1), 1) := by decide +kernel
theorem dX5_fit_78 : decode cX5_fit 78 = .ok (.goto 7, 3) := by decide +kernel
theorem dX5_fit_81 : decode cX5_fit 81 = .ok (.aload_n 0, 1) := by decide +kernel
theorem dX5_fit_82 : decode cX5_fit 82 = .ok (.getfield 27, 3) := by decide +kernel
theorem dX5_fit_85 : decode cX5_fit 85 = .ok (.putfield 45, 3) := by decide +kernel
theorem dX5_fit_88 : decode cX5_fit 88 = .ok (.aload_n 0, 1) := by decide +kernel
theorem dX5_fit_89 : decode cX5_fit 89 = .ok (.aload_n 0, 1) := by decide +kernel
theorem dX5_fit_90 : decode cX5_fit 90 = .ok (.getfield 24, 3) := by decide +kernel
theorem dX5_fit_93 : decode cX5_fit 93 = .ok (.iconst 0, 1) := by decide +kernel
theorem dX5_fit_94 : decode cX5_fit 94 = .ok (.iaload, 1) := by decide +kernel
theorem dX5_fit_95 : decode cX5_fit 95 = .ok (.putfield 48, 3) := by decide +kernel
theorem dX5_fit_98 : decode cX5_fit 98 = .ok (.return_, 1) := by decide +kernel
theorem dX5_fits_0 : decode cX5_fits 0 = .ok (.aload_n 0, 1) := by decide +kernel
theorem dX5_fits_1 : decode cX5_fits 1 = .ok (.getfield 38, 3) := by decide +kernel
theorem dX5_fits_4 : decode cX5_fits 4 = .ok (.ifCond .le 17, 3) := by decide +kernel
theorem dX5_fits_7 : decode cX5_fits 7 = .ok (.aload_n 0, 1) := by decide +kernel
theorem dX5_fits_8 : decode cX5_fits 8 = .ok (.getfield 24, 3) := by decide +kernel
theorem dX5_fits_11 : decode cX5_fits 11 = .ok (.aload_n 0, 1) := by decide +kernel
theorem dX5_fits_12 : decode cX5_fits 12 = .ok (.getfield 38, 3) := by decide +kernel
theorem dX5_fits_15 : decode cX5_fits 15 = .ok (.iconst 1, 1) := by decide +kernel
theorem dX5_fits_16 : decode cX5_fits 16 = .ok (.isub, 1) := by decide +kernel
theorem dX5_fits_17 : decode cX5_fits 17 = .ok (.iaload, 1) := by decide +kernel
theorem dX5_fits_18 : decode cX5_fits 18 = .ok (.goto 4, 3) := by decide +kernel
theorem dX5_fits_21 : decode cX5_fits 21 = .ok (.iconst (-1), 1) := by decide +kernel
theorem dX5_fits_22 : decode cX5_fits 22 = .ok (.istore_n 2, 1) := by decide +kernel
theorem dX5_fits_23 : decode cX5_fits 23 = .ok (.iload_n 1, 1) := by decide +kernel
theorem dX5_fits_24 : decode cX5_fits 24 = .ok (.tableswitch 155 0 10 #[60, 66, 73, 80, 87, 94, 109, 125, 155, 155, 136], 60) := by decide +kernel
theorem dX5_fits_84 : decode cX5_fits 84 = .ok (.aload_n 0, 1) := by decide +kernel
theorem dX5_fits_85 : decode cX5_fits 85 = .ok (.iconst 0, 1) := by decide +kernel
theorem dX5_fits_86 : decode cX5_fits 86 = .ok (.invokevirtual 51, 3) := by decide +kernel
theorem dX5_fits_89 : decode cX5_fits 89 = .ok (.ireturn, 1) := by decide +kernel
theorem dX5_fits_90 : decode cX5_fits 90 = .ok (.aload_n 0, 1) := by decide +kernel
theorem dX5_fits_91 : decode cX5_fits 91 = .ok (.iconst 0, 1) := by decide +kernel
theorem dX5_fits_92 : decode cX5_fits 92 = .ok (.iconst 1, 1) := by decide +kernel
theorem dX5_fits_93 : decode cX5_fits 93 = .ok (.invokevirtual 54, 3) := by decide +kernel
theorem dX5_fits_96 : decode cX5_fits 96 = .ok (.ireturn, 1) := by decide +kernel
theorem dX5_fits_97 : decode cX5_fits 97 = .ok (.aload_n 0, 1) := by decide +kernel
theorem dX5_fits_98 : decode cX5_fits 98 = .ok (.iconst 1, 1) := by decide +kernel
theorem dX5_fits_99 : decode cX5_fits 99 = .ok (.iconst 2, 1) := by decide +kernel
theorem dX5_fits_100 : decode cX5_fits 100 = .ok (.invokevirtual 54, 3) := by decide +kernel
theorem dX5_fits_103 : decode cX5_fits 103 = .ok (.ireturn, 1) := by decide +kernel
theorem dX5_fits_104 : decode cX5_fits 104 = .ok (.aload_n 0, 1) := by decide +kernel
theorem dX5_fits_105 : decode cX5_fits 105 = .ok (.iconst 2, 1) := by decide +kernel
theorem dX5_fits_106 : decode cX5_fits 106 = .ok (.iconst 1, 1) := by decide +kernel
theorem dX5_fits_107 : decode cX5_fits 107 = .ok (.invokevirtual 54, 3) := by decide +kernel
theorem dX5_fits_110 : decode cX5_fits 110 = .ok (.ireturn, 1) := by decide +kernel
theorem dX5_fits_111 : decode cX5_fits 111 = .ok (.aload_n 0, 1) := by decide +kernel
theorem dX5_fits_112 : decode cX5_fits 112 = .ok (.iconst 1, 1) := by decide +kernel
theorem dX5_fits_113 : decode cX5_fits 113 = .ok (.iconst 0, 1) := by decide +kernel
theorem dX5_fits_114 : decode cX5_fits 114 = .ok (.invokevirtual 54, 3) := by decide +kernel
theorem dX5_fits_117 : decode cX5_fits 117 = .ok (.ireturn, 1) := by decide +kernel
theorem dX5_fits_118 : decode cX5_fits 118 = .ok (.iload_n 2, 1) := by decide +kernel
theorem dX5_fits_119 : decode cX5_fits 119 = .ok (.ifCond .eq 8, 3) := by decide +kernel
theorem dX5_fits_122 : decode cX5_fits 122 = .ok (.iload_n 2, 1) := by decide +kernel
theorem dX5_fits_123 : decode cX5_fits 123 = .ok (.iconst 1, 1) := by decide +kernel
theorem dX5_fits_124 : decode cX5_fits 124 = .ok (.if_icmp .ne 7, 3) := by decide +kernel
theorem dX5_fits_127 : decode cX5_fits 127 = .ok (.iconst 1, 1) := by decide +kernel
theorem dX5_fits_128 : decode cX5_fits 128 = .ok (.goto 4, 3) := by decide +kernel
theorem dX5_fits_131 : decode cX5_fits 131 = .ok (.iconst 0, 1) := by decide +kernel
theorem dX5_fits_132 : decode cX5_fits 132 = .ok (.ireturn, 1) := by decide +kernel
theorem dX5_fits_133 : decode cX5_fits 133 = .ok (.iload_n 2, 1) := by decide +kernel
theorem dX5_fits_134 : decode cX5_fits 134 = .ok (.iconst 2, 1) := by decide +kernel
theorem dX5_fits_135 : decode cX5_fits 135 = .ok (.if_icmp .eq 8, 3) := by decide +kernel
theorem dX5_fits_138 : decode cX5_fits 138 = .ok (.iload_n 2, 1) := by decide +kernel
theorem dX5_fits_139 : decode cX5_fits 139 = .ok (.iconst 1, 1) := by decide +kernel
theorem dX5_fits_140 : decode cX5_fits 140 = .ok (.if_icmp .ne 7, 3) := by decide +kernel
theorem dX5_fits_143 : decode cX5_fits 143 = .ok (.iconst 1, 1) := by decide +kernel
theorem dX5_fits_144 : decode cX5_fits 144 = .ok (.goto 4, 3) := by decide +kernel
theorem dX5_fits_147 : decode cX5_fits 147 = .ok (.iconst 0, 1) := by decide +kernel
theorem dX5_fits_148 : decode cX5_fits 148 = .ok (.ireturn, 1) := by decide +kernel
theorem dX5_fits_149 : decode cX5_fits 149 = .ok (.iload_n 2, 1) := by decide +kernel
theorem dX5_fits_150 : decode cX5_fits 150 = .ok (.iconst 2, 1) := by decide +kernel
theorem dX5_fits_151 : decode cX5_fits 151 = .ok (.if_icmp .ne 7, 3) := by decide +kernel
theorem dX5_fits_154 : decode cX5_fits 154 = .ok (.iconst 1, 1) := by decide +kernel
theorem dX5_fits_155 : decode cX5_fits 155 = .ok (.goto 4, 3) := by decide +kernel
theorem dX5_fits_158 : decode cX5_fits 158 = .ok (.iconst 0, 1) := by decide +kernel
theorem dX5_fits_159 : decode cX5_fits 159 = .ok (.ireturn, 1) := by decide +kernel
theorem dX5_fits_160 : decode cX5_fits 160 = .ok (.iload_n 2, 1) := by decide +kernel
theorem dX5_fits_161 : decode cX5_fits 161 = .ok (.iconst (-1), 1) := by decide +kernel
theorem dX5_fits_162 : decode cX5_fits 162 = .ok (.if_icmp .eq 15, 3) := by decide +kernel
theorem dX5_fits_165 : decode cX5_fits 165 = .ok (.aload_n 0, 1) := by decide +kernel
theorem dX5_fits_166 : decode cX5_fits 166 = .ok (.iload_n 2, 1) := by decide +kernel
theorem dX5_fits_167 : decode cX5_fits 167 = .ok (.invokevirtual 51, 3) := by decide +kernel
theorem dX5_fits_170 : decode cX5_fits 170 = .ok (.ifCond .eq 7, 3) := by decide +kernel
theorem dX5_fits_173 : decode cX5_fits 173 = .ok (.iconst 1, 1) := by decide +kernel
theorem dX5_fits_174 : decode cX5_fits 174 = .ok (.goto 4, 3) := by decide +kernel
theorem dX5_fits_177 : decode cX5_fits 177 = .ok (.iconst 0, 1) := by decide +kernel
theorem dX5_fits_178 : decode cX5_fits 178 = .ok (.ireturn, 1) := by decide +kernel
theorem dX5_fits_179 : decode cX5_fits 179 = .ok (.aload_n 0, 1) := by decide +kernel
theorem dX5_fits_180 : decode cX5_fits 180 = .ok (.getfield 38, 3) := by decide +kernel
theorem dX5_fits_183 : decode cX5_fits 183 = .ok (.iconst 2, 1) := by decide +kernel
theorem dX5_fits_184 : decode cX5_fits 184 = .ok (.if_icmp .lt 27, 3) := by decide +kernel
theorem dX5_fits_187 : decode cX5_fits 187 = .ok (.aload_n 0, 1) := by decide +kernel
theorem dX5_fits_188 : decode cX5_fits 188 = .ok (.iload_n 1, 1) := by decide +kernel
theorem dX5_fits_189 : decode cX5_fits 189 = .ok (.aload_n 0, 1) := by decide +kernel
theorem dX5_fits_190 : decode cX5_fits 190 = .ok (.getfield 24, 3) := by decide +kernel
theorem dX5_fits_193 : decode cX5_fits 193 = .ok (.aload_n 0, 1) := by decide +kernel
theorem dX5_fits_194 : decode cX5_fits 194 = .ok (.getfield 38, 3) := by decide +kernel
theorem dX5_fits_197 : decode cX5_fits 197 = .ok (.iconst 2, 1) := by decide +kernel
theorem dX5_fits_198 : decode cX5_fits 198 = .ok (.isub, 1) := by decide +kernel
theorem dX5_fits_199 : decode cX5_fits 199 = .ok (.iaload, 1) := by decide +kernel
theorem dX5_fits_200 : decode cX5_fits 200 = .ok (.iload_n 2, 1) := by decide +kernel
theorem dX5_fits_201 : decode cX5_fits 201 = .ok (.invokevirtual 58, 3) := by decide +kernel
theorem dX5_fits_204 : decode cX5_fits 204 = .ok (.ifCond .eq 7, 3) := by decide +kernel
theorem dX5_fits_207 : decode cX5_fits 207 = .ok (.iconst 1, 1) := by decide +kernel
theorem dX5_fits_208 : decode cX5_fits 208 = .ok (.goto 4, 3) := by decide +kernel
theorem dX5_fits_211 : decode cX5_fits 211 = .ok (.iconst 0, 1) := by decide +kernel
theorem dX5_fits_212 : decode cX5_fits 212 = .ok (.ireturn, 1) := by decide +kernel
theorem dX5_push_0 : decode cX5_push 0 = .ok (.aload_n 0, 1) := by decide +kernel
theorem dX5_push_1 : decode cX5_push 1 = .ok (.getfield 38, 3) := by decide +kernel
theorem dX5_push_4 : decode cX5_push 4 = .ok (.bipush 8, 2) := by decide +kernel
theorem dX5_push_6 : decode cX5_push 6 = .ok (.if_icmp .lt 5, 3) := by decide +kernel
theorem dX5_push_9 : decode cX5_push 9 = .ok (.iconst 0, 1) := by decide +kernel
theorem dX5_push_10 : decode cX5_push 10 = .ok (.ireturn, 1) := by decide +kernel
theorem dX5_push_11 : decode cX5_push 11 = .ok (.aload_n 0, 1) := by decide +kernel
theorem dX5_push_12 : decode cX5_push 12 = .ok (.getfield 24, 3) := by decide +kernel
theorem dX5_push_15 : decode cX5_push 15 = .ok (.aload_n 0, 1) := by decide +kernel
theorem dX5_push_16 : decode cX5_push 16 = .ok (.getfield 38, 3) := by decide +kernel
theorem dX5_push_19 : decode cX5_push 19 = .ok (.iload_n 1, 1) := by decide +kernel
theorem dX5_push_20 : decode cX5_push 20 = .ok (.iastore, 1) := by decide +kernel
theorem dX5_push_21 : decode cX5_push 21 = .ok (.aload_n 0, 1) := by decide +kernel
theorem dX5_push_22 : decode cX5_push 22 = .ok (.dup, 1) := by decide +kernel
theorem dX5_push_23 : decode cX5_push 23 = .ok (.getfield 38, 3) := by decide +kernel
theorem dX5_push_26 : decode cX5_push 26 = .ok (.iconst 1, 1) := by decide +kernel
theorem dX5_push_27 : decode cX5_push 27 = .ok (.iadd, 1) := by decide +kernel
theorem dX5_push_28 : decode cX5_push 28 = .ok (.putfield 38, 3) := by decide +kernel
theorem dX5_push_31 : decode cX5_push 31 = .ok (.iconst 1, 1) := by decide +kernel
theorem dX5_push_32 : decode cX5_push 32 = .ok (.ireturn, 1) := by decide +kernel
theorem dX5_become_0 : decode cX5_become 0 = .ok (.aload_n 0, 1) := by decide +kernel
theorem dX5_become_1 : decode cX5_become 1 = .ok (.getfield 38, 3) := by decide +kernel
theorem dX5_become_4 : decode cX5_become 4 = .ok (.iconst 1, 1) := by decide +kernel
theorem dX5_become_5 : decode cX5_become 5 = .ok (.if_icmp .lt 18, 3) := by decide +kernel
theorem dX5_become_8 : decode cX5_become 8 = .ok (.aload_n 0, 1) := by decide +kernel
theorem dX5_become_9 : decode cX5_become 9 = .ok (.getfield 24, 3) := by decide +kernel
theorem dX5_become_12 : decode cX5_become 12 = .ok (.aload_n 0, 1) := by decide +kernel
theorem dX5_become_13 : decode cX5_become 13 = .ok (.getfield 38, 3) := by decide +kernel
theorem dX5_become_16 : decode cX5_become 16 = .ok (.iconst 1, 1) := by decide +kernel
theorem dX5_become_17 : decode cX5_become 17 = .ok (.isub, 1) := by decide +kernel
theorem dX5_become_18 : decode cX5_become 18 = .ok (.iaload, 1) := by decide +kernel
theorem dX5_become_19 : decode cX5_become 19 = .ok (.iload_n 1, 1) := by decide +kernel
theorem dX5_become_20 : decode cX5_become 20 = .ok (.if_icmp .eq 5, 3) := by decide +kernel
theorem dX5_become_23 : decode cX5_become 23 = .ok (.iconst 0, 1) := by decide +kernel
theorem dX5_become_24 : decode cX5_become 24 = .ok (.ireturn, 1) := by decide +kernel
theorem dX5_become_25 : decode cX5_become 25 = .ok (.aload_n 0, 1) := by decide +kernel
theorem dX5_become_26 : decode cX5_become 26 = .ok (.getfield 24, 3) := by decide +kernel
theorem dX5_become_29 : decode cX5_become 29 = .ok (.aload_n 0, 1) := by decide +kernel
theorem dX5_become_30 : decode cX5_become 30 = .ok (.getfield 38, 3) := by decide +kernel
theorem dX5_become_33 : decode cX5_become 33 = .ok (.iconst 1, 1) := by decide +kernel
theorem dX5_become_34 : decode cX5_become 34 = .ok (.isub, 1) := by decide +kernel
theorem dX5_become_35 : decode cX5_become 35 = .ok (.iload_n 2, 1) := by decide +kernel
theorem dX5_become_36 : decode cX5_become 36 = .ok (.iastore, 1) := by decide +kernel
theorem dX5_become_37 : decode cX5_become 37 = .ok (.iconst 1, 1) := by decide +kernel
theorem dX5_become_38 : decode cX5_become 38 = .ok (.ireturn, 1) := by decide +kernel
theorem dX5_pairFits_0 : decode cX5_pairFits 0 = .ok (.aload_n 0, 1) := by decide +kernel
theorem dX5_pairFits_1 : decode cX5_pairFits 1 = .ok (.getfield 38, 3) := by decide +kernel
theorem dX5_pairFits_4 : decode cX5_pairFits 4 = .ok (.iconst 2, 1) := by decide +kernel
theorem dX5_pairFits_5 : decode cX5_pairFits 5 = .ok (.if_icmp .ge 5, 3) := by decide +kernel
theorem dX5_pairFits_8 : decode cX5_pairFits 8 = .ok (.iconst 0, 1) := by decide +kernel
theorem dX5_pairFits_9 : decode cX5_pairFits 9 = .ok (.ireturn, 1) := by decide +kernel
theorem dX5_pairFits_10 : decode cX5_pairFits 10 = .ok (.iload_n 1, 1) := by decide +kernel
theorem dX5_pairFits_11 : decode cX5_pairFits 11 = .ok (.bipush 11, 2) := by decide +kernel
theorem dX5_pairFits_13 : decode cX5_pairFits 13 = .ok (.if_icmp .ne 29, 3) := by decide +kernel
theorem dX5_pairFits_16 : decode cX5_pairFits 16 = .ok (.aload_n 0, 1) := by decide +kernel
theorem dX5_pairFits_17 : decode cX5_pairFits 17 = .ok (.getfield 24, 3) := by decide +kernel
theorem dX5_pairFits_20 : decode cX5_pairFits 20 = .ok (.aload_n 0, 1) := by decide +kernel
theorem dX5_pairFits_21 : decode cX5_pairFits 21 = .ok (.getfield 38, 3) := by decide +kernel
theorem dX5_pairFits_24 : decode cX5_pairFits 24 = .ok (.iconst 2, 1) := by decide +kernel
theorem dX5_pairFits_25 : decode cX5_pairFits 25 = .ok (.isub, 1) := by decide +kernel
theorem dX5_pairFits_26 : decode cX5_pairFits 26 = .ok (.iload_n 3, 1) := by decide +kernel
theorem dX5_pairFits_27 : decode cX5_pairFits 27 = .ok (.iastore, 1) := by decide +kernel
theorem dX5_pairFits_28 : decode cX5_pairFits 28 = .ok (.aload_n 0, 1) := by decide +kernel
theorem dX5_pairFits_29 : decode cX5_pairFits 29 = .ok (.getfield 24, 3) := by decide +kernel
theorem dX5_pairFits_32 : decode cX5_pairFits 32 = .ok (.aload_n 0, 1) := by decide +kernel
theorem dX5_pairFits_33 : decode cX5_pairFits 33 = .ok (.getfield 38, 3) := by decide +kernel
theorem dX5_pairFits_36 : decode cX5_pairFits 36 = .ok (.iconst 1, 1) := by decide +kernel
theorem dX5_pairFits_37 : decode cX5_pairFits 37 = .ok (.isub, 1) := by decide +kernel
theorem dX5_pairFits_38 : decode cX5_pairFits 38 = .ok (.iload_n 2, 1) := by decide +kernel
theorem dX5_pairFits_39 : decode cX5_pairFits 39 = .ok (.iastore, 1) := by decide +kernel
theorem dX5_pairFits_40 : decode cX5_pairFits 40 = .ok (.iconst 1, 1) := by decide +kernel
theorem dX5_pairFits_41 : decode cX5_pairFits 41 = .ok (.ireturn, 1) := by decide +kernel
theorem dX5_pairFits_42 : decode cX5_pairFits 42 = .ok (.iload_n 1, 1) := by decide +kernel
theorem dX5_pairFits_43 : decode cX5_pairFits 43 = .ok (.bipush 8, 2) := by decide +kernel
theorem dX5_pairFits_45 : decode cX5_pairFits 45 = .ok (.if_icmp .ne 17, 3) := by decide +kernel
theorem dX5_pairFits_48 : decode cX5_pairFits 48 = .ok (.iload_n 2, 1) := by decide +kernel
theorem dX5_pairFits_49 : decode cX5_pairFits 49 = .ok (.iload_n 3, 1) := by decide +kernel
theorem dX5_pairFits_50 : decode cX5_pairFits 50 = .ok (.if_icmp .ne 12, 3) := by decide +kernel
theorem dX5_pairFits_53 : decode cX5_pairFits 53 = .ok (.iload_n 3, 1) := by decide +kernel
theorem dX5_pairFits_54 : decode cX5_pairFits 54 = .ok (.iconst 3, 1) := by decide +kernel
theorem dX5_pairFits_55 : decode cX5_pairFits 55 = .ok (.if_icmp .eq 7, 3) := by decide +kernel
theorem dX5_pairFits_58 : decode cX5_pairFits 58 = .ok (.iconst 1, 1) := by decide +kernel
theorem dX5_pairFits_59 : decode cX5_pairFits 59 = .ok (.goto 4, 3) := by decide +kernel
theorem dX5_pairFits_62 : decode cX5_pairFits 62 = .ok (.iconst 0, 1) := by decide +kernel
theorem dX5_pairFits_63 : decode cX5_pairFits 63 = .ok (.istore 4, 2) := by decide +kernel
theorem dX5_pairFits_65 : decode cX5_pairFits 65 = .ok (.iload_n 1, 1) := by decide +kernel
theorem dX5_pairFits_66 : decode cX5_pairFits 66 = .ok (.bipush 9, 2) := by decide +kernel
theorem dX5_pairFits_68 : decode cX5_pairFits 68 = .ok (.if_icmp .ne 21, 3) := by decide +kernel
theorem dX5_pairFits_71 : decode cX5_pairFits 71 = .ok (.iload_n 3, 1) := by decide +kernel
theorem dX5_pairFits_72 : decode cX5_pairFits 72 = .ok (.iconst 3, 1) := by decide +kernel
theorem dX5_pairFits_73 : decode cX5_pairFits 73 = .ok (.if_icmp .ne 16, 3) := by decide +kernel
theorem dX5_pairFits_76 : decode cX5_pairFits 76 = .ok (.iload_n 2, 1) := by decide +kernel
theorem dX5_pairFits_77 : decode cX5_pairFits 77 = .ok (.ifCond .eq 8, 3) := by decide +kernel
theorem dX5_pairFits_80 : decode cX5_pairFits 80 = .ok (.iload_n 2, 1) := by decide +kernel
theorem dX5_pairFits_81 : decode cX5_pairFits 81 = .ok (.iconst 1, 1) := by decide +kernel
theorem dX5_pairFits_82 : decode cX5_pairFits 82 = .ok (.if_icmp .ne 7, 3) := by decide +kernel
theorem dX5_pairFits_85 : decode cX5_pairFits 85 = .ok (.iconst 1, 1) := by decide +kernel
theorem dX5_pairFits_86 : decode cX5_pairFits 86 = .ok (.goto 4, 3) := by decide +kernel
theorem dX5_pairFits_89 : decode cX5_pairFits 89 = .ok (.iconst 0, 1) := by decide +kernel
theorem dX5_pairFits_90 : decode cX5_pairFits 90 = .ok (.istore 5, 2) := by decide +kernel
theorem dX5_pairFits_92 : decode cX5_pairFits 92 = .ok (.iload 4, 2) := by decide +kernel
theorem dX5_pairFits_94 : decode cX5_pairFits 94 = .ok (.ifCond .eq 15, 3) := by decide +kernel
theorem dX5_pairFits_97 : decode cX5_pairFits 97 = .ok (.aload_n 0, 1) := by decide +kernel
theorem dX5_pairFits_98 : decode cX5_pairFits 98 = .ok (.getfield 24, 3) := by decide +kernel
theorem dX5_pairFits_101 : decode cX5_pairFits 101 = .ok (.aload_n 0, 1) := by decide +kernel
theorem dX5_pairFits_102 : decode cX5_pairFits 102 = .ok (.getfield 38, 3) := by decide +kernel
theorem dX5_pairFits_105 : decode cX5_pairFits 105 = .ok (.iconst 2, 1) := by decide +kernel
theorem dX5_pairFits_106 : decode cX5_pairFits 106 = .ok (.isub, 1) := by decide +kernel
theorem dX5_pairFits_107 : decode cX5_pairFits 107 = .ok (.iconst 3, 1) := by decide +kernel
theorem dX5_pairFits_108 : decode cX5_pairFits 108 = .ok (.iastore, 1) := by decide +kernel
theorem dX5_pairFits_109 : decode cX5_pairFits 109 = .ok (.iload 4, 2) := by decide +kernel
theorem dX5_pairFits_111 : decode cX5_pairFits 111 = .ok (.ifCond .ne 8, 3) := by decide +kernel
theorem dX5_pairFits_114 : decode cX5_pairFits 114 = .ok (.iload 5, 2) := by decide +kernel
theorem dX5_pairFits_116 : decode cX5_pairFits 116 = .ok (.ifCond .eq 13, 3) := by decide +kernel
theorem dX5_pairFits_119 : decode cX5_pairFits 119 = .ok (.aload_n 0, 1) := by decide +kernel
theorem dX5_pairFits_120 : decode cX5_pairFits 120 = .ok (.dup, 1) := by decide +kernel
theorem dX5_pairFits_121 : decode cX5_pairFits 121 = .ok (.getfield 38, 3) := by decide +kernel
theorem dX5_pairFits_124 : decode cX5_pairFits 124 = .ok (.iconst 1, 1) := by decide +kernel
theorem dX5_pairFits_125 : decode cX5_pairFits 125 = .ok (.isub, 1) := by decide +kernel
theorem dX5_pairFits_126 : decode cX5_pairFits 126 = .ok (.putfield 38, 3) := by decide +kernel
theorem dX5_pairFits_129 : decode cX5_pairFits 129 = .ok (.iload 4, 2) := by decide +kernel
theorem dX5_pairFits_131 : decode cX5_pairFits 131 = .ok (.ifCond .ne 8, 3) := by decide +kernel
theorem dX5_pairFits_134 : decode cX5_pairFits 134 = .ok (.iload 5, 2) := by decide +kernel
theorem dX5_pairFits_136 : decode cX5_pairFits 136 = .ok (.ifCond .eq 7, 3) := by decide +kernel
theorem dX5_pairFits_139 : decode cX5_pairFits 139 = .ok (.iconst 1, 1) := by decide +kernel
theorem dX5_pairFits_140 : decode cX5_pairFits 140 = .ok (.goto 4, 3) := by decide +kernel
theorem dX5_pairFits_143 : decode cX5_pairFits 143 = .ok (.iconst 0, 1) := by decide +kernel
theorem dX5_pairFits_144 : decode cX5_pairFits 144 = .ok (.ireturn, 1) := by decide +kernel
theorem dX6_init_0 : decode cX6_init 0 = .ok (.aload_n 0, 1) := by decide +kernel
theorem dX6_init_1 : decode cX6_init 1 = .ok (.invokespecial 3, 3) := by decide +kernel
theorem dX6_init_4 : decode cX6_init 4 = .ok (.aload_n 0, 1) := by decide +kernel
theorem dX6_init_5 : decode cX6_init 5 = .ok (.bipush 8, 2) := by decide +kernel
theorem dX6_init_7 : decode cX6_init 7 = .ok (.newarray .int, 2) := by decide +kernel
theorem dX6_init_9 : decode cX6_init 9 = .ok (.putfield 9, 3) := by decide +kernel
theorem dX6_init_12 : decode cX6_init 12 = .ok (.aload_n 0, 1) := by decide +kernel
theorem dX6_init_13 : decode cX6_init 13 = .ok (.bipush 8, 2) := by decide +kernel
theorem dX6_init_15 : decode cX6_init 15 = .ok (.newarray .int, 2) := by decide +kernel
theorem dX6_init_17 : decode cX6_init 17 = .ok (.putfield 15, 3) := by decide +kernel
theorem dX6_init_20 : decode cX6_init 20 = .ok (.aload_n 0, 1) := by decide +kernel
theorem dX6_init_21 : decode cX6_init 21 = .ok (.sipush 800, 3) := by decide +kernel
theorem dX6_init_24 : decode cX6_init 24 = .ok (.newarray .int, 2) := by decide +kernel
theorem dX6_init_26 : decode cX6_init 26 = .ok (.putfield 18, 3) := by decide +kernel
theorem dX6_init_29 : decode cX6_init 29 = .ok (.aload_n 0, 1) := by decide +kernel
theorem dX6_init_30 : decode cX6_init 30 = .ok (.bipush 8, 2) := by decide +kernel
theorem dX6_init_32 : decode cX6_init 32 = .ok (.newarray .int, 2) := by decide +kernel
theorem dX6_init_34 : decode cX6_init 34 = .ok (.putfield 21, 3) := by decide +kernel
theorem dX6_init_37 : decode cX6_init 37 = .ok (.aload_n 0, 1) := by decide +kernel
theorem dX6_init_38 : decode cX6_init 38 = .ok (.bipush 8, 2) := by decide +kernel
theorem dX6_init_40 : decode cX6_init 40 = .ok (.newarray .int, 2) := by decide +kernel
theorem dX6_init_42 : decode cX6_init 42 = .ok (.putfield 24, 3) := by decide +kernel
theorem dX6_init_45 : decode cX6_init 45 = .ok (.aload_n 0, 1) := by decide +kernel
theorem dX6_init_46 : decode cX6_init 46 = .ok (.sipush 801, 3) := by decide +kernel
theorem dX6_init_49 : decode cX6_init 49 = .ok (.newarray .int, 2) := by decide +kernel
theorem dX6_init_51 : decode cX6_init 51 = .ok (.putfield 27, 3) := by decide +kernel
theorem dX6_init_54 : decode cX6_init 54 = .ok (.aload_n 0, 1) := by decide +kernel
theorem dX6_init_55 : decode cX6_init 55 = .ok (.sipush 801, 3) := by decide +kernel
theorem dX6_init_58 : decode cX6_init 58 = .ok (.newarray .int, 2) := by decide +kernel
theorem dX6_init_60 : decode cX6_init 60 = .ok (.putfield 30, 3) := by decide +kernel
theorem dX6_init_63 : decode cX6_init 63 = .ok (.aload_n 0, 1) := by decide +kernel
theorem dX6_init_64 : decode cX6_init 64 = .ok (.sipush 801, 3) := by decide +kernel
theorem dX6_init_67 : decode cX6_init 67 = .ok (.newarray .int, 2) := by decide +kernel
theorem dX6_init_69 : decode cX6_init 69 = .ok (.putfield 33, 3) := by decide +kernel
theorem dX6_init_72 : decode cX6_init 72 = .ok (.aload_n 0, 1) := by decide +kernel
theorem dX6_init_73 : decode cX6_init 73 = .ok (.getfield 33, 3) := by decide +kernel
theorem dX6_init_76 : decode cX6_init 76 = .ok (.iconst 0, 1) := by decide +kernel
theorem dX6_init_77 : decode cX6_init 77 = .ok (.iload_n 1, 1) := by decide +kernel
theorem dX6_init_78 : decode cX6_init 78 = .ok (.iastore, 1) := by decide +kernel
theorem dX6_init_79 : decode cX6_init 79 = .ok (.aload_n 0, 1) := by decide +kernel
theorem dX6_init_80 : decode cX6_init 80 = .ok (.getfield 30, 3) := by decide +kernel
theorem dX6_init_83 : decode cX6_init 83 = .ok (.iconst 0, 1) := by decide +kernel
theorem dX6_init_84 : decode cX6_init 84 = .ok (.ldc 36, 2) := by decide +kernel
theorem dX6_init_86 : decode cX6_init 86 = .ok (.iastore, 1) := by decide +kernel
theorem dX6_init_87 : decode cX6_init 87 = .ok (.iconst 0, 1) := by decide +kernel
theorem dX6_init_88 : decode cX6_init 88 = .ok (.istore_n 2, 1) := by decide +kernel
theorem dX6_init_89 : decode cX6_init 89 = .ok (.iload_n 2, 1) := by decide +kernel
theorem dX6_init_90 : decode cX6_init 90 = .ok (.aload_n 0, 1) := by decide +kernel
theorem dX6_init_91 : decode cX6_init 91 = .ok (.getfield 18, 3) := by decide +kernel
theorem dX6_init_94 : decode cX6_init 94 = .ok (.arraylength, 1) := by decide +kernel
theorem dX6_init_95 : decode cX6_init 95 = .ok (.if_icmp .ge 16, 3) := by decide +kernel
theorem dX6_init_98 : decode cX6_init 98 = .ok (.aload_n 0, 1) := by decide +kernel
theorem dX6_init_99 : decode cX6_init 99 = .ok (.getfield 18, 3) := by decide +kernel
theorem dX6_init_102 : decode cX6_init 102 = .ok (.iload_n 2, 1) := by decide +kernel
theorem dX6_init_103 : decode cX6_init 103 = .ok (.iconst (-1), 1) := by decide +kernel
theorem dX6_init_104 : decode cX6_init 104 = .ok (.iastore, 1) := by decide +kernel
theorem dX6_init_105 : decode cX6_init 105 = .ok (.iinc 2 1, 3) := by decide +kernel
theorem dX6_init_108 : decode cX6_init 108 = .ok (.goto (-19), 3) := by decide +kernel
theorem dX6_init_111 : decode cX6_init 111 = .ok (.return_, 1) := by decide +kernel
theorem dX6_tell_0 : decode cX6_tell 0 = .ok (.aload_n 0, 1) := by decide +kernel
theorem dX6_tell_1 : decode cX6_tell 1 = .ok (.getfield 37, 3) := by decide +kernel
theorem dX6_tell_4 : decode cX6_tell 4 = .ok (.bipush 8, 2) := by decide +kernel
theorem dX6_tell_6 : decode cX6_tell 6 = .ok (.if_icmp .lt 6, 3) := by decide +kernel
theorem dX6_tell_9 : decode cX6_tell 9 = .ok (.bipush 7, 2) := by decide +kernel
theorem dX6_tell_11 : decode cX6_tell 11 = .ok (.ireturn, 1) := by decide +kernel
theorem dX6_tell_12 : decode cX6_tell 12 = .ok (.aload_n 0, 1) := by decide +kernel
theorem dX6_tell_13 : decode cX6_tell 13 = .ok (.getfield 9, 3) := by decide +kernel
theorem dX6_tell_16 : decode cX6_tell 16 = .ok (.aload_n 0, 1) := by decide +kernel
theorem dX6_tell_17 : decode cX6_tell 17 = .ok (.getfield 37, 3) := by decide +kernel
theorem dX6_tell_20 : decode cX6_tell 20 = .ok (.iload_n 1, 1) := by decide +kernel
theorem dX6_tell_21 : decode cX6_tell 21 = .ok (.iastore, 1) := by decide +kernel
theorem dX6_tell_22 : decode cX6_tell 22 = .ok (.aload_n 0, 1) := by decide +kernel
theorem dX6_tell_23 : decode cX6_tell 23 = .ok (.getfield 15, 3) := by decide +kernel
theorem dX6_tell_26 : decode cX6_tell 26 = .ok (.aload_n 0, 1) := by decide +kernel
theorem dX6_tell_27 : decode cX6_tell 27 = .ok (.getfield 37, 3) := by decide +kernel
theorem dX6_tell_30 : decode cX6_tell 30 = .ok (.iload_n 2, 1) := by decide +kernel
theorem dX6_tell_31 : decode cX6_tell 31 = .ok (.iastore, 1) := by decide +kernel
theorem dX6_tell_32 : decode cX6_tell 32 = .ok (.aload_n 0, 1) := by decide +kernel
theorem dX6_tell_33 : decode cX6_tell 33 = .ok (.dup, 1) := by decide +kernel
theorem dX6_tell_34 : decode cX6_tell 34 = .ok (.getfield 37, 3) := by decide +kernel
theorem dX6_tell_37 : decode cX6_tell 37 = .ok (.iconst 1, 1) := by decide +kernel
theorem dX6_tell_38 : decode cX6_tell 38 = .ok (.iadd, 1) := by decide +kernel
theorem dX6_tell_39 : decode cX6_tell 39 = .ok (.putfield 37, 3) := by decide +kernel
theorem dX6_tell_42 : decode cX6_tell 42 = .ok (.aload_n 0, 1) := by decide +kernel
theorem dX6_tell_43 : decode cX6_tell 43 = .ok (.getfield 37, 3) := by decide +kernel
theorem dX6_tell_46 : decode cX6_tell 46 = .ok (.iconst 1, 1) := by decide +kernel
theorem dX6_tell_47 : decode cX6_tell 47 = .ok (.isub, 1) := by decide +kernel
theorem dX6_tell_48 : decode cX6_tell 48 = .ok (.ireturn, 1) := by decide +kernel
theorem dX6_refresh_0 : decode cX6_refresh 0 = .ok (.iconst 0, 1) := by decide +kernel
theorem dX6_refresh_1 : decode cX6_refresh 1 = .ok (.istore_n 2, 1) := by decide +kernel
theorem dX6_refresh_2 : decode cX6_refresh 2 = .ok (.iconst 0, 1) := by decide +kernel
theorem dX6_refresh_3 : decode cX6_refresh 3 = .ok (.istore_n 3, 1) := by decide +kernel
theorem dX6_refresh_4 : decode cX6_refresh 4 = .ok (.iload_n 3, 1) := by decide +kernel
theorem dX6_refresh_5 : decode cX6_refresh 5 = .ok (.aload_n 0, 1) := by decide +kernel
theorem dX6_refresh_6 : decode cX6_refresh 6 = .ok (.getfield 37, 3) := by decide +kernel
theorem dX6_refresh_9 : decode cX6_refresh 9 = .ok (.if_icmp .ge 22, 3) := by decide +kernel
theorem dX6_refresh_12 : decode cX6_refresh 12 = .ok (.aload_n 0, 1) := by decide +kernel
theorem dX6_refresh_13 : decode cX6_refresh 13 = .ok (.getfield 9, 3) := by decide +kernel
theorem dX6_refresh_16 : decode cX6_refresh 16 = .ok (.iload_n 3, 1) := by decide +kernel
theorem dX6_refresh_17 : decode cX6_refresh 17 = .ok (.iaload, 1) := by decide +kernel
theorem dX6_refresh_18 : decode cX6_refresh 18 = .ok (.iload_n 1, 1) := by decide +kernel
theorem dX6_refresh_19 : decode cX6_refresh 19 = .ok (.if_icmp .gt 6, 3) := by decide +kernel
theorem dX6_refresh_22 : decode cX6_refresh 22 = .ok (.iinc 2 1, 3) := by decide +kernel
theorem dX6_refresh_25 : decode cX6_refresh 25 = .ok (.iinc 3 1, 3) := by decide +kernel
theorem dX6_refresh_28 : decode cX6_refresh 28 = .ok (.goto (-24), 3) := by decide +kernel
theorem dX6_refresh_31 : decode cX6_refresh 31 = .ok (.iload_n 2, 1) := by decide +kernel
theorem dX6_refresh_32 : decode cX6_refresh 32 = .ok (.aload_n 0, 1) := by decide +kernel
theorem dX6_refresh_33 : decode cX6_refresh 33 = .ok (.getfield 41, 3) := by decide +kernel
theorem dX6_refresh_36 : decode cX6_refresh 36 = .ok (.if_icmp .eq 12, 3) := by decide +kernel
theorem dX6_refresh_39 : decode cX6_refresh 39 = .ok (.aload_n 0, 1) := by decide +kernel
theorem dX6_refresh_40 : decode cX6_refresh 40 = .ok (.iload_n 2, 1) := by decide +kernel
theorem dX6_refresh_41 : decode cX6_refresh 41 = .ok (.putfield 41, 3) := by decide +kernel
theorem dX6_refresh_44 : decode cX6_refresh 44 = .ok (.aload_n 0, 1) := by decide +kernel
theorem dX6_refresh_45 : decode cX6_refresh 45 = .ok (.invokevirtual 44, 3) := by decide +kernel
theorem dX6_refresh_48 : decode cX6_refresh 48 = .ok (.return_, 1) := by decide +kernel
theorem dX6_takeChanges_0 : decode cX6_takeChanges 0 = .ok (.aload_n 0, 1) := by decide +kernel
theorem dX6_takeChanges_1 : decode cX6_takeChanges 1 = .ok (.iconst 0, 1) := by decide +kernel
theorem dX6_takeChanges_2 : decode cX6_takeChanges 2 = .ok (.putfield 47, 3) := by decide +kernel
theorem dX6_takeChanges_5 : decode cX6_takeChanges 5 = .ok (.iconst 0, 1) := by decide +kernel
theorem dX6_takeChanges_6 : decode cX6_takeChanges 6 = .ok (.istore_n 1, 1) := by decide +kernel
theorem dX6_takeChanges_7 : decode cX6_takeChanges 7 = .ok (.iload_n 1, 1) := by decide +kernel
theorem dX6_takeChanges_8 : decode cX6_takeChanges 8 = .ok (.bipush 100, 2) := by decide +kernel
theorem dX6_takeChanges_10 : decode cX6_takeChanges 10 = .ok (.if_icmp .ge 44, 3) := by decide +kernel
theorem dX6_takeChanges_13 : decode cX6_takeChanges 13 = .ok (.aload_n 0, 1) := by decide +kernel
theorem dX6_takeChanges_14 : decode cX6_takeChanges 14 = .ok (.iload_n 1, 1) := by decide +kernel
theorem dX6_takeChanges_15 : decode cX6_takeChanges 15 = .ok (.invokevirtual 50, 3) := by decide +kernel
theorem dX6_takeChanges_18 : decode cX6_takeChanges 18 = .ok (.istore_n 2, 1) := by decide +kernel
theorem dX6_takeChanges_19 : decode cX6_takeChanges 19 = .ok (.iconst 0, 1) := by decide +kernel
theorem dX6_takeChanges_20 : decode cX6_takeChanges 20 = .ok (.istore_n 3, 1) := by decide +kernel
theorem dX6_takeChanges_21 : decode cX6_takeChanges 21 = .ok (.iload_n 3, 1) := by decide +kernel
theorem dX6_takeChanges_22 : decode cX6_takeChanges 22 = .ok (.iload_n 2, 1) := by decide +kernel
theorem dX6_takeChanges_23 : decode cX6_takeChanges 23 = .ok (.if_icmp .ge 25, 3) := by decide +kernel
theorem dX6_takeChanges_26 : decode cX6_takeChanges 26 = .ok (.aload_n 0, 1) := by decide +kernel
theorem dX6_takeChanges_27 : decode cX6_takeChanges 27 = .ok (.aload_n 0, 1) := by decide +kernel
theorem dX6_takeChanges_28 : decode cX6_takeChanges 28 = .ok (.getfield 21, 3) := by decide +kernel
theorem dX6_takeChanges_31 : decode cX6_takeChanges 31 = .ok (.iload_n 3, 1) := by decide +kernel
theorem dX6_takeChanges_32 : decode cX6_takeChanges 32 = .ok (.iaload, 1) := by decide +kernel
theorem dX6_takeChanges_33 : decode cX6_takeChanges 33 = .ok (.aload_n 0, 1) := by decide +kernel
theorem dX6_takeChanges_34 : decode cX6_takeChanges 34 = .ok (.getfield 24, 3) := by decide +kernel
theorem dX6_takeChanges_37 : decode cX6_takeChanges 37 = .ok (.iload_n 3, 1) := by decide +kernel
theorem dX6_takeChanges_38 : decode cX6_takeChanges 38 = .ok (.iaload, 1) := by decide +kernel
theorem dX6_takeChanges_39 : decode cX6_takeChanges 39 = .ok (.invokevirtual 54, 3) := by decide +kernel
theorem dX6_takeChanges_42 : decode cX6_takeChanges 42 = .ok (.iinc 3 1, 3) := by decide +kernel
theorem dX6_takeChanges_45 : decode cX6_takeChanges 45 = .ok (.goto (-24), 3) := by decide +kernel
theorem dX6_takeChanges_48 : decode cX6_takeChanges 48 = .ok (.iinc 1 1, 3) := by decide +kernel
theorem dX6_takeChanges_51 : decode cX6_takeChanges 51 = .ok (.goto (-44), 3) := by decide +kernel
theorem dX6_takeChanges_54 : decode cX6_takeChanges 54 = .ok (.iconst 0, 1) := by decide +kernel
theorem dX6_takeChanges_55 : decode cX6_takeChanges 55 = .ok (.istore_n 1, 1) := by decide +kernel
theorem dX6_takeChanges_56 : decode cX6_takeChanges 56 = .ok (.iload_n 1, 1) := by decide +kernel
theorem dX6_takeChanges_57 : decode cX6_takeChanges 57 = .ok (.aload_n 0, 1) := by decide +kernel
theorem dX6_takeChanges_58 : decode cX6_takeChanges 58 = .ok (.getfield 47, 3) := by decide +kernel
theorem dX6_takeChanges_61 : decode cX6_takeChanges 61 = .ok (.if_icmp .ge 28, 3) := by decide +kernel
theorem dX6_takeChanges_64 : decode cX6_takeChanges 64 = .ok (.aload_n 0, 1) := by decide +kernel
theorem dX6_takeChanges_65 : decode cX6_takeChanges 65 = .ok (.getfield 30, 3) := by decide +kernel
theorem dX6_takeChanges_68 : decode cX6_takeChanges 68 = .ok (.iload_n 1, 1) := by decide +kernel
theorem dX6_takeChanges_69 : decode cX6_takeChanges 69 = .ok (.aload_n 0, 1) := by decide +kernel
theorem dX6_takeChanges_70 : decode cX6_takeChanges 70 = .ok (.getfield 27, 3) := by decide +kernel
theorem dX6_takeChanges_73 : decode cX6_takeChanges 73 = .ok (.iload_n 1, 1) := by decide +kernel
theorem dX6_takeChanges_74 : decode cX6_takeChanges 74 = .ok (.iconst 1, 1) := by decide +kernel
theorem dX6_takeChanges_75 : decode cX6_takeChanges 75 = .ok (.iadd, 1) := by decide +kernel
theorem dX6_takeChanges_76 : decode cX6_takeChanges 76 = .ok (.iaload, 1) := by decide +kernel
theorem dX6_takeChanges_77 : decode cX6_takeChanges 77 = .ok (.ldc 36, 2) := by decide +kernel
theorem dX6_takeChanges_79 : decode cX6_takeChanges 79 = .ok (.invokestatic 58, 3) := by decide +kernel
theorem dX6_takeChanges_82 : decode cX6_takeChanges 82 = .ok (.iastore, 1) := by decide +kernel
theorem dX6_takeChanges_83 : decode cX6_takeChanges 83 = .ok (.iinc 1 1, 3) := by decide +kernel
theorem dX6_takeChanges_86 : decode cX6_takeChanges 86 = .ok (.goto (-30), 3) := by decide +kernel
theorem dX6_takeChanges_89 : decode cX6_takeChanges 89 = .ok (.aload_n 0, 1) := by decide +kernel
theorem dX6_takeChanges_90 : decode cX6_takeChanges 90 = .ok (.getfield 30, 3) := by decide +kernel
theorem dX6_takeChanges_93 : decode cX6_takeChanges 93 = .ok (.aload_n 0, 1) := by decide +kernel
theorem dX6_takeChanges_94 : decode cX6_takeChanges 94 = .ok (.getfield 47, 3) := by decide +kernel
theorem dX6_takeChanges_97 : decode cX6_takeChanges 97 = .ok (.ldc 36, 2) := by decide +kernel
theorem dX6_takeChanges_99 : decode cX6_takeChanges 99 = .ok (.iastore, 1) := by decide +kernel
theorem dX6_takeChanges_100 : decode cX6_takeChanges 100 = .ok (.return_, 1) := by decide +kernel
theorem dX6_sortYear_0 : decode cX6_sortYear 0 = .ok (.iconst 0, 1) := by decide +kernel
theorem dX6_sortYear_1 : decode cX6_sortYear 1 = .ok (.istore_n 2, 1) := by decide +kernel
theorem dX6_sortYear_2 : decode cX6_sortYear 2 = .ok (.iconst 0, 1) := by decide +kernel
theorem dX6_sortYear_3 : decode cX6_sortYear 3 = .ok (.istore_n 3, 1) := by decide +kernel
theorem dX6_sortYear_4 : decode cX6_sortYear 4 = .ok (.iload_n 3, 1) := by decide +kernel
theorem dX6_sortYear_5 : decode cX6_sortYear 5 = .ok (.aload_n 0, 1) := by decide +kernel
theorem dX6_sortYear_6 : decode cX6_sortYear 6 = .ok (.getfield 41, 3) := by decide +kernel
theorem dX6_sortYear_9 : decode cX6_sortYear 9 = .ok (.if_icmp .ge 162, 3) := by decide +kernel
theorem dX6_sortYear_12 : decode cX6_sortYear 12 = .ok (.aload_n 0, 1) := by decide +kernel
theorem dX6_sortYear_13 : decode cX6_sortYear 13 = .ok (.getfield 18, 3) := by decide +kernel
theorem dX6_sortYear_16 : decode cX6_sortYear 16 = .ok (.iload_n 3, 1) := by decide +kernel
theorem dX6_sortYear_17 : decode cX6_sortYear 17 = .ok (.bipush 100, 2) := by decide +kernel
theorem dX6_sortYear_19 : decode cX6_sortYear 19 = .ok (.imul, 1) := by decide +kernel
theorem dX6_sortYear_20 : decode cX6_sortYear 20 = .ok (.iload_n 1, 1) := by decide +kernel
theorem dX6_sortYear_21 : decode cX6_sortYear 21 = .ok (.iadd, 1) := by decide +kernel
theorem dX6_sortYear_22 : decode cX6_sortYear 22 = .ok (.iaload, 1) := by decide +kernel
theorem dX6_sortYear_23 : decode cX6_sortYear 23 = .ok (.istore 4, 2) := by decide +kernel
theorem dX6_sortYear_25 : decode cX6_sortYear 25 = .ok (.iload 4, 2) := by decide +kernel
theorem dX6_sortYear_27 : decode cX6_sortYear 27 = .ok (.iconst (-1), 1) := by decide +kernel
theorem dX6_sortYear_28 : decode cX6_sortYear 28 = .ok (.if_icmp .ne 6, 3) := by decide +kernel
theorem dX6_sortYear_31 : decode cX6_sortYear 31 = .ok (.goto 134, 3) := by decide +kernel
theorem dX6_sortYear_34 : decode cX6_sortYear 34 = .ok (.iload_n 2, 1) := by decide +kernel
theorem dX6_sortYear_35 : decode cX6_sortYear 35 = .ok (.istore 5, 2) := by decide +kernel
theorem dX6_sortYear_37 : decode cX6_sortYear 37 = .ok (.iload 5, 2) := by decide +kernel
theorem dX6_sortYear_39 : decode cX6_sortYear 39 = .ok (.ifCond .le 23, 3) := by decide +kernel
theorem dX6_sortYear_42 : decode cX6_sortYear 42 = .ok (.aload_n 0, 1) := by decide +kernel
theorem dX6_sortYear_43 : decode cX6_sortYear 43 = .ok (.getfield 21, 3) := by decide +kernel
theorem dX6_sortYear_46 : decode cX6_sortYear 46 = .ok (.iload 5, 2) := by decide +kernel
theorem dX6_sortYear_48 : decode cX6_sortYear 48 = .ok (.iconst 1, 1) := by decide +kernel
theorem dX6_sortYear_49 : decode cX6_sortYear 49 = .ok (.isub, 1) := by decide +kernel
theorem dX6_sortYear_50 : decode cX6_sortYear 50 = .ok (.iaload, 1) := by decide +kernel
theorem dX6_sortYear_51 : decode cX6_sortYear 51 = .ok (.iload 4, 2) := by decide +kernel
theorem dX6_sortYear_53 : decode cX6_sortYear 53 = .ok (.if_icmp .lt 9, 3) := by decide +kernel
theorem dX6_sortYear_56 : decode cX6_sortYear 56 = .ok (.iinc 5 (-1), 3) := by decide +kernel
theorem dX6_sortYear_59 : decode cX6_sortYear 59 = .ok (.goto (-22), 3) := by decide +kernel
theorem dX6_sortYear_62 : decode cX6_sortYear 62 = .ok (.iload 5, 2) := by decide +kernel
theorem dX6_sortYear_64 : decode cX6_sortYear 64 = .ok (.iload_n 2, 1) := by decide +kernel
theorem dX6_sortYear_65 : decode cX6_sortYear 65 = .ok (.if_icmp .ge 19, 3) := by decide +kernel
theorem dX6_sortYear_68 : decode cX6_sortYear 68 = .ok (.aload_n 0, 1) := by decide +kernel
theorem dX6_sortYear_69 : decode cX6_sortYear 69 = .ok (.getfield 21, 3) := by decide +kernel
theorem dX6_sortYear_72 : decode cX6_sortYear 72 = .ok (.iload 5, 2) := by decide +kernel
theorem dX6_sortYear_74 : decode cX6_sortYear 74 = .ok (.iaload, 1) := by decide +kernel
theorem dX6_sortYear_75 : decode cX6_sortYear 75 = .ok (.iload 4, 2) := by decide +kernel
theorem dX6_sortYear_77 : decode cX6_sortYear 77 = .ok (.if_icmp .ne 7, 3) := by decide +kernel
theorem dX6_sortYear_80 : decode cX6_sortYear 80 = .ok (.iconst 1, 1) := by decide +kernel
theorem dX6_sortYear_81 : decode cX6_sortYear 81 = .ok (.goto 4, 3) := by decide +kernel
theorem dX6_sortYear_84 : decode cX6_sortYear 84 = .ok (.iconst 0, 1) := by decide +kernel
theorem dX6_sortYear_85 : decode cX6_sortYear 85 = .ok (.istore 6, 2) := by decide +kernel
theorem dX6_sortYear_87 : decode cX6_sortYear 87 = .ok (.iload 6, 2) := by decide +kernel
theorem dX6_sortYear_89 : decode cX6_sortYear 89 = .ok (.ifCond .ne 54, 3) := by decide +kernel
theorem dX6_sortYear_92 : decode cX6_sortYear 92 = .ok (.iload_n 2, 1) := by decide +kernel
theorem dX6_sortYear_93 : decode cX6_sortYear 93 = .ok (.istore 7, 2) := by decide +kernel
theorem dX6_sortYear_95 : decode cX6_sortYear 95 = .ok (.iload 7, 2) := by decide +kernel
theorem dX6_sortYear_97 : decode cX6_sortYear 97 = .ok (.iload 5, 2) := by decide +kernel
theorem dX6_sortYear_99 : decode cX6_sortYear 99 = .ok (.if_icmp .le 41, 3) := by decide +kernel
theorem dX6_sortYear_102 : decode cX6_sortYear 102 = .ok (.aload_n 0, 1) := by decide +kernel
theorem dX6_sortYear_103 : decode cX6_sortYear 103 = .ok (.getfield 21, 3) := by decide +kernel
theorem dX6_sortYear_106 : decode cX6_sortYear 106 = .ok (.iload 7, 2) := by decide +kernel
theorem dX6_sortYear_108 : decode cX6_sortYear 108 = .ok (.aload_n 0, 1) := by decide +kernel
theorem dX6_sortYear_109 : decode cX6_sortYear 109 = .ok (.getfield 21, 3) := by decide +kernel
theorem dX6_sortYear_112 : decode cX6_sortYear 112 = .ok (.iload 7, 2) := by decide +kernel
theorem dX6_sortYear_114 : decode cX6_sortYear 114 = .ok (.iconst 1, 1) := by decide +kernel
theorem dX6_sortYear_115 : decode cX6_sortYear 115 = .ok (.isub, 1) := by decide +kernel
theorem dX6_sortYear_116 : decode cX6_sortYear 116 = .ok (.iaload, 1) := by decide +kernel
theorem dX6_sortYear_117 : decode cX6_sortYear 117 = .ok (.iastore, 1) := by decide +kernel
theorem dX6_sortYear_118 : decode cX6_sortYear 118 = .ok (.aload_n 0, 1) := by decide +kernel
theorem dX6_sortYear_119 : decode cX6_sortYear 119 = .ok (.getfield 24, 3) := by decide +kernel
theorem dX6_sortYear_122 : decode cX6_sortYear 122 = .ok (.iload 7, 2) := by decide +kernel
theorem dX6_sortYear_124 : decode cX6_sortYear 124 = .ok (.aload_n 0, 1) := by decide +kernel
theorem dX6_sortYear_125 : decode cX6_sortYear 125 = .ok (.getfield 24, 3) := by decide +kernel
theorem dX6_sortYear_128 : decode cX6_sortYear 128 = .ok (.iload 7, 2) := by decide +kernel
theorem dX6_sortYear_130 : decode cX6_sortYear 130 = .ok (.iconst 1, 1) := by decide +kernel
theorem dX6_sortYear_131 : decode cX6_sortYear 131 = .ok (.isub, 1) := by decide +kernel
theorem dX6_sortYear_132 : decode cX6_sortYear 132 = .ok (.iaload, 1) := by decide +kernel
theorem dX6_sortYear_133 : decode cX6_sortYear 133 = .ok (.iastore, 1) := by decide +kernel
theorem dX6_sortYear_134 : decode cX6_sortYear 134 = .ok (.iinc 7 (-1), 3) := by decide +kernel
theorem dX6_sortYear_137 : decode cX6_sortYear 137 = .ok (.goto (-42), 3) := by decide +kernel
theorem dX6_sortYear_140 : decode cX6_sortYear 140 = .ok (.iinc 2 1, 3) := by decide +kernel
theorem dX6_sortYear_143 : decode cX6_sortYear 143 = .ok (.aload_n 0, 1) := by decide +kernel
theorem dX6_sortYear_144 : decode cX6_sortYear 144 = .ok (.getfield 21, 3) := by decide +kernel
theorem dX6_sortYear_147 : decode cX6_sortYear 147 = .ok (.iload 5, 2) := by decide +kernel
theorem dX6_sortYear_149 : decode cX6_sortYear 149 = .ok (.iload 4, 2) := by decide +kernel
theorem dX6_sortYear_151 : decode cX6_sortYear 151 = .ok (.iastore, 1) := by decide +kernel
theorem dX6_sortYear_152 : decode cX6_sortYear 152 = .ok (.aload_n 0, 1) := by decide +kernel
theorem dX6_sortYear_153 : decode cX6_sortYear 153 = .ok (.getfield 24, 3) := by decide +kernel
theorem dX6_sortYear_156 : decode cX6_sortYear 156 = .ok (.iload 5, 2) := by decide +kernel
theorem dX6_sortYear_158 : decode cX6_sortYear 158 = .ok (.aload_n 0, 1) := by decide +kernel
theorem dX6_sortYear_159 : decode cX6_sortYear 159 = .ok (.getfield 15, 3) := by decide +kernel
theorem dX6_sortYear_162 : decode cX6_sortYear 162 = .ok (.iload_n 3, 1) := by decide +kernel
theorem dX6_sortYear_163 : decode cX6_sortYear 163 = .ok (.iaload, 1) := by decide +kernel
theorem dX6_sortYear_164 : decode cX6_sortYear 164 = .ok (.iastore, 1) := by decide +kernel
theorem dX6_sortYear_165 : decode cX6_sortYear 165 = .ok (.iinc 3 1, 3) := by decide +kernel
theorem dX6_sortYear_168 : decode cX6_sortYear 168 = .ok (.goto (-164), 3) := by decide +kernel
theorem dX6_sortYear_171 : decode cX6_sortYear 171 = .ok (.iload_n 2, 1) := by decide +kernel
theorem dX6_sortYear_172 : decode cX6_sortYear 172 = .ok (.ireturn, 1) := by decide +kernel
theorem dX6_take_0 : decode cX6_take 0 = .ok (.iload_n 1, 1) := by decide +kernel
theorem dX6_take_1 : decode cX6_take 1 = .ok (.aload_n 0, 1) := by decide +kernel
theorem dX6_take_2 : decode cX6_take 2 = .ok (.getfield 33, 3) := by decide +kernel
theorem dX6_take_5 : decode cX6_take 5 = .ok (.aload_n 0, 1) := by decide +kernel
theorem dX6_take_6 : decode cX6_take 6 = .ok (.getfield 47, 3) := by decide +kernel
theorem dX6_take_9 : decode cX6_take 9 = .ok (.iaload, 1) := by decide +kernel
theorem dX6_take_10 : decode cX6_take 10 = .ok (.isub, 1) := by decide +kernel
theorem dX6_take_11 : decode cX6_take 11 = .ok (.istore_n 3, 1) := by decide +kernel
theorem dX6_take_12 : decode cX6_take 12 = .ok (.aload_n 0, 1) := by decide +kernel
theorem dX6_take_13 : decode cX6_take 13 = .ok (.getfield 47, 3) := by decide +kernel
theorem dX6_take_16 : decode cX6_take 16 = .ok (.ifCond .eq 16, 3) := by decide +kernel
theorem dX6_take_19 : decode cX6_take 19 = .ok (.iload_n 3, 1) := by decide +kernel
theorem dX6_take_20 : decode cX6_take 20 = .ok (.aload_n 0, 1) := by decide +kernel
theorem dX6_take_21 : decode cX6_take 21 = .ok (.getfield 27, 3) := by decide +kernel
theorem dX6_take_24 : decode cX6_take 24 = .ok (.aload_n 0, 1) := by decide +kernel
theorem dX6_take_25 : decode cX6_take 25 = .ok (.getfield 47, 3) := by decide +kernel
theorem dX6_take_28 : decode cX6_take 28 = .ok (.iaload, 1) := by decide +kernel
theorem dX6_take_29 : decode cX6_take 29 = .ok (.if_icmp .le 7, 3) := by decide +kernel
theorem dX6_take_32 : decode cX6_take 32 = .ok (.iconst 1, 1) := by decide +kernel
theorem dX6_take_33 : decode cX6_take 33 = .ok (.goto 4, 3) := by decide +kernel
theorem dX6_take_36 : decode cX6_take 36 = .ok (.iconst 0, 1) := by decide +kernel
theorem dX6_take_37 : decode cX6_take 37 = .ok (.istore 4, 2) := by decide +kernel
theorem dX6_take_39 : decode cX6_take 39 = .ok (.iload_n 3, 1) := by decide +kernel
theorem dX6_take_40 : decode cX6_take 40 = .ok (.ifCond .lt 18, 3) := by decide +kernel
theorem dX6_take_43 : decode cX6_take 43 = .ok (.iload 4, 2) := by decide +kernel
theorem dX6_take_45 : decode cX6_take 45 = .ok (.ifCond .eq 13, 3) := by decide +kernel
theorem dX6_take_48 : decode cX6_take 48 = .ok (.aload_n 0, 1) := by decide +kernel
theorem dX6_take_49 : decode cX6_take 49 = .ok (.getfield 47, 3) := by decide +kernel
theorem dX6_take_52 : decode cX6_take 52 = .ok (.sipush 800, 3) := by decide +kernel
theorem dX6_take_55 : decode cX6_take 55 = .ok (.if_icmp .lt 4, 3) := by decide +kernel
theorem dX6_take_58 : decode cX6_take 58 = .ok (.return_, 1) := by decide +kernel
theorem dX6_take_59 : decode cX6_take 59 = .ok (.aload_n 0, 1) := by decide +kernel
theorem dX6_take_60 : decode cX6_take 60 = .ok (.dup, 1) := by decide +kernel
theorem dX6_take_61 : decode cX6_take 61 = .ok (.getfield 47, 3) := by decide +kernel
theorem dX6_take_64 : decode cX6_take 64 = .ok (.iconst 1, 1) := by decide +kernel
theorem dX6_take_65 : decode cX6_take 65 = .ok (.iadd, 1) := by decide +kernel
theorem dX6_take_66 : decode cX6_take 66 = .ok (.putfield 47, 3) := by decide +kernel
theorem dX6_take_69 : decode cX6_take 69 = .ok (.aload_n 0, 1) := by decide +kernel
theorem dX6_take_70 : decode cX6_take 70 = .ok (.getfield 27, 3) := by decide +kernel
theorem dX6_take_73 : decode cX6_take 73 = .ok (.aload_n 0, 1) := by decide +kernel
theorem dX6_take_74 : decode cX6_take 74 = .ok (.getfield 47, 3) := by decide +kernel
theorem dX6_take_77 : decode cX6_take 77 = .ok (.iload_n 3, 1) := by decide +kernel
theorem dX6_take_78 : decode cX6_take 78 = .ok (.iastore, 1) := by decide +kernel
theorem dX6_take_79 : decode cX6_take 79 = .ok (.aload_n 0, 1) := by decide +kernel
theorem dX6_take_80 : decode cX6_take 80 = .ok (.getfield 33, 3) := by decide +kernel
theorem dX6_take_83 : decode cX6_take 83 = .ok (.aload_n 0, 1) := by decide +kernel
theorem dX6_take_84 : decode cX6_take 84 = .ok (.getfield 47, 3) := by decide +kernel
theorem dX6_take_87 : decode cX6_take 87 = .ok (.iload_n 2, 1) := by decide +kernel
theorem dX6_take_88 : decode cX6_take 88 = .ok (.iastore, 1) := by decide +kernel
theorem dX6_take_89 : decode cX6_take 89 = .ok (.return_, 1) := by decide +kernel
theorem dX6_stretchAt_0 : decode cX6_stretchAt 0 = .ok (.iconst 0, 1) := by decide +kernel
theorem dX6_stretchAt_1 : decode cX6_stretchAt 1 = .ok (.istore_n 2, 1) := by decide +kernel
theorem dX6_stretchAt_2 : decode cX6_stretchAt 2 = .ok (.sipush 512, 3) := by decide +kernel
theorem dX6_stretchAt_5 : decode cX6_stretchAt 5 = .ok (.istore_n 3, 1) := by decide +kernel
theorem dX6_stretchAt_6 : decode cX6_stretchAt 6 = .ok (.iload_n 3, 1) := by decide +kernel
theorem dX6_stretchAt_7 : decode cX6_stretchAt 7 = .ok (.ifCond .le 36, 3) := by decide +kernel
theorem dX6_stretchAt_10 : decode cX6_stretchAt 10 = .ok (.iload_n 2, 1) := by decide +kernel
theorem dX6_stretchAt_11 : decode cX6_stretchAt 11 = .ok (.iload_n 3, 1) := by decide +kernel
theorem dX6_stretchAt_12 : decode cX6_stretchAt 12 = .ok (.iadd, 1) := by decide +kernel
theorem dX6_stretchAt_13 : decode cX6_stretchAt 13 = .ok (.aload_n 0, 1) := by decide +kernel
theorem dX6_stretchAt_14 : decode cX6_stretchAt 14 = .ok (.getfield 47, 3) := by decide +kernel
theorem dX6_stretchAt_17 : decode cX6_stretchAt 17 = .ok (.if_icmp .gt 19, 3) := by decide +kernel
theorem dX6_stretchAt_20 : decode cX6_stretchAt 20 = .ok (.aload_n 0, 1) := by decide +kernel
theorem dX6_stretchAt_21 : decode cX6_stretchAt 21 = .ok (.getfield 27, 3) := by decide +kernel
theorem dX6_stretchAt_24 : decode cX6_stretchAt 24 = .ok (.iload_n 2, 1) := by decide +kernel
theorem dX6_stretchAt_25 : decode cX6_stretchAt 25 = .ok (.iload_n 3, 1) := by decide +kernel
theorem dX6_stretchAt_26 : decode cX6_stretchAt 26 = .ok (.iadd, 1) := by decide +kernel
theorem dX6_stretchAt_27 : decode cX6_stretchAt 27 = .ok (.iaload, 1) := by decide +kernel
theorem dX6_stretchAt_28 : decode cX6_stretchAt 28 = .ok (.iload_n 1, 1) := by decide +kernel
theorem dX6_stretchAt_29 : decode cX6_stretchAt 29 = .ok (.if_icmp .gt 7, 3) := by decide +kernel
theorem dX6_stretchAt_32 : decode cX6_stretchAt 32 = .ok (.iload_n 2, 1) := by decide +kernel
theorem dX6_stretchAt_33 : decode cX6_stretchAt 33 = .ok (.iload_n 3, 1) := by decide +kernel
theorem dX6_stretchAt_34 : decode cX6_stretchAt 34 = .ok (.iadd, 1) := by decide +kernel
theorem dX6_stretchAt_35 : decode cX6_stretchAt 35 = .ok (.istore_n 2, 1) := by decide +kernel
theorem dX6_stretchAt_36 : decode cX6_stretchAt 36 = .ok (.iload_n 3, 1) := by decide +kernel
theorem dX6_stretchAt_37 : decode cX6_stretchAt 37 = .ok (.iconst 1, 1) := by decide +kernel
theorem dX6_stretchAt_38 : decode cX6_stretchAt 38 = .ok (.ishr, 1) := by decide +kernel
theorem dX6_stretchAt_39 : decode cX6_stretchAt 39 = .ok (.istore_n 3, 1) := by decide +kernel
theorem dX6_stretchAt_40 : decode cX6_stretchAt 40 = .ok (.goto (-34), 3) := by decide +kernel
theorem dX6_stretchAt_43 : decode cX6_stretchAt 43 = .ok (.iload_n 2, 1) := by decide +kernel
theorem dX6_stretchAt_44 : decode cX6_stretchAt 44 = .ok (.ireturn, 1) := by decide +kernel
theorem dX6_offsetAt_0 : decode cX6_offsetAt 0 = .ok (.aload_n 0, 1) := by decide +kernel
theorem dX6_offsetAt_1 : decode cX6_offsetAt 1 = .ok (.getfield 33, 3) := by decide +kernel
theorem dX6_offsetAt_4 : decode cX6_offsetAt 4 = .ok (.aload_n 0, 1) := by decide +kernel
theorem dX6_offsetAt_5 : decode cX6_offsetAt 5 = .ok (.iload_n 1, 1) := by decide +kernel
theorem dX6_offsetAt_6 : decode cX6_offsetAt 6 = .ok (.invokevirtual 64, 3) := by decide +kernel
theorem dX6_offsetAt_9 : decode cX6_offsetAt 9 = .ok (.iaload, 1) := by decide +kernel
theorem dX6_offsetAt_10 : decode cX6_offsetAt 10 = .ok (.ireturn, 1) := by decide +kernel
theorem dX6_momentsOf_0 : decode cX6_momentsOf 0 = .ok (.iconst 0, 1) := by decide +kernel
theorem dX6_momentsOf_1 : decode cX6_momentsOf 1 = .ok (.istore_n 2, 1) := by decide +kernel
theorem dX6_momentsOf_2 : decode cX6_momentsOf 2 = .ok (.aload_n 0, 1) := by decide +kernel
theorem dX6_momentsOf_3 : decode cX6_momentsOf 3 = .ok (.iload_n 1, 1) := by decide +kernel
theorem dX6_momentsOf_4 : decode cX6_momentsOf 4 = .ok (.sipush 720, 3) := by decide +kernel
theorem dX6_momentsOf_7 : decode cX6_momentsOf 7 = .ok (.isub, 1) := by decide +kernel
theorem dX6_momentsOf_8 : decode cX6_momentsOf 8 = .ok (.invokevirtual 64, 3) := by decide +kernel
theorem dX6_momentsOf_11 : decode cX6_momentsOf 11 = .ok (.istore_n 3, 1) := by decide +kernel
theorem dX6_momentsOf_12 : decode cX6_momentsOf 12 = .ok (.iload_n 3, 1) := by decide +kernel
theorem dX6_momentsOf_13 : decode cX6_momentsOf 13 = .ok (.aload_n 0, 1) := by decide +kernel
theorem dX6_momentsOf_14 : decode cX6_momentsOf 14 = .ok (.getfield 47, 3) := by decide +kernel
theorem dX6_momentsOf_17 : decode cX6_momentsOf 17 = .ok (.if_icmp .gt 58, 3) := by decide +kernel
theorem dX6_momentsOf_20 : decode cX6_momentsOf 20 = .ok (.aload_n 0, 1) := by decide +kernel
theorem dX6_momentsOf_21 : decode cX6_momentsOf 21 = .ok (.getfield 27, 3) := by decide +kernel
theorem dX6_momentsOf_24 : decode cX6_momentsOf 24 = .ok (.iload_n 3, 1) := by decide +kernel
theorem dX6_momentsOf_25 : decode cX6_momentsOf 25 = .ok (.iaload, 1) := by decide +kernel
theorem dX6_momentsOf_26 : decode cX6_momentsOf 26 = .ok (.iload_n 1, 1) := by decide +kernel
theorem dX6_momentsOf_27 : decode cX6_momentsOf 27 = .ok (.sipush 720, 3) := by decide +kernel
theorem dX6_momentsOf_30 : decode cX6_momentsOf 30 = .ok (.iadd, 1) := by decide +kernel
theorem dX6_momentsOf_31 : decode cX6_momentsOf 31 = .ok (.if_icmp .gt 44, 3) := by decide +kernel
theorem dX6_momentsOf_34 : decode cX6_momentsOf 34 = .ok (.iload_n 1, 1) := by decide +kernel
theorem dX6_momentsOf_35 : decode cX6_momentsOf 35 = .ok (.aload_n 0, 1) := by decide +kernel
theorem dX6_momentsOf_36 : decode cX6_momentsOf 36 = .ok (.getfield 33, 3) := by decide +kernel
theorem dX6_momentsOf_39 : decode cX6_momentsOf 39 = .ok (.iload_n 3, 1) := by decide +kernel
theorem dX6_momentsOf_40 : decode cX6_momentsOf 40 = .ok (.iaload, 1) := by decide +kernel
theorem dX6_momentsOf_41 : decode cX6_momentsOf 41 = .ok (.isub, 1) := by decide +kernel
theorem dX6_momentsOf_42 : decode cX6_momentsOf 42 = .ok (.istore 4, 2) := by decide +kernel
theorem dX6_momentsOf_44 : decode cX6_momentsOf 44 = .ok (.iload 4, 2) := by decide +kernel
theorem dX6_momentsOf_46 : decode cX6_momentsOf 46 = .ok (.aload_n 0, 1) := by decide +kernel
theorem dX6_momentsOf_47 : decode cX6_momentsOf 47 = .ok (.getfield 27, 3) := by decide +kernel
theorem dX6_momentsOf_50 : decode cX6_momentsOf 50 = .ok (.iload_n 3, 1) := by decide +kernel
theorem dX6_momentsOf_51 : decode cX6_momentsOf 51 = .ok (.iaload, 1) := by decide +kernel
theorem dX6_momentsOf_52 : decode cX6_momentsOf 52 = .ok (.if_icmp .lt 17, 3) := by decide +kernel
theorem dX6_momentsOf_55 : decode cX6_momentsOf 55 = .ok (.iload 4, 2) := by decide +kernel
theorem dX6_momentsOf_57 : decode cX6_momentsOf 57 = .ok (.aload_n 0, 1) := by decide +kernel
theorem dX6_momentsOf_58 : decode cX6_momentsOf 58 = .ok (.getfield 30, 3) := by decide +kernel
theorem dX6_momentsOf_61 : decode cX6_momentsOf 61 = .ok (.iload_n 3, 1) := by decide +kernel
theorem dX6_momentsOf_62 : decode cX6_momentsOf 62 = .ok (.iaload, 1) := by decide +kernel
theorem dX6_momentsOf_63 : decode cX6_momentsOf 63 = .ok (.if_icmp .ge 6, 3) := by decide +kernel
theorem dX6_momentsOf_66 : decode cX6_momentsOf 66 = .ok (.iinc 2 1, 3) := by decide +kernel
theorem dX6_momentsOf_69 : decode cX6_momentsOf 69 = .ok (.iinc 3 1, 3) := by decide +kernel
theorem dX6_momentsOf_72 : decode cX6_momentsOf 72 = .ok (.goto (-60), 3) := by decide +kernel
theorem dX6_momentsOf_75 : decode cX6_momentsOf 75 = .ok (.iload_n 2, 1) := by decide +kernel
theorem dX6_momentsOf_76 : decode cX6_momentsOf 76 = .ok (.ireturn, 1) := by decide +kernel
theorem dX6_momentOf_0 : decode cX6_momentOf 0 = .ok (.iconst 0, 1) := by decide +kernel
theorem dX6_momentOf_1 : decode cX6_momentOf 1 = .ok (.istore_n 3, 1) := by decide +kernel
theorem dX6_momentOf_2 : decode cX6_momentOf 2 = .ok (.aload_n 0, 1) := by decide +kernel
theorem dX6_momentOf_3 : decode cX6_momentOf 3 = .ok (.iload_n 1, 1) := by decide +kernel
theorem dX6_momentOf_4 : decode cX6_momentOf 4 = .ok (.sipush 720, 3) := by decide +kernel
theorem dX6_momentOf_7 : decode cX6_momentOf 7 = .ok (.isub, 1) := by decide +kernel
theorem dX6_momentOf_8 : decode cX6_momentOf 8 = .ok (.invokevirtual 64, 3) := by decide +kernel
theorem dX6_momentOf_11 : decode cX6_momentOf 11 = .ok (.istore 4, 2) := by decide +kernel
theorem dX6_momentOf_13 : decode cX6_momentOf 13 = .ok (.iload 4, 2) := by decide +kernel
theorem dX6_momentOf_15 : decode cX6_momentOf 15 = .ok (.aload_n 0, 1) := by decide +kernel
theorem dX6_momentOf_16 : decode cX6_momentOf 16 = .ok (.getfield 47, 3) := by decide +kernel
theorem dX6_momentOf_19 : decode cX6_momentOf 19 = .ok (.if_icmp .gt 70, 3) := by decide +kernel
theorem dX6_momentOf_22 : decode cX6_momentOf 22 = .ok (.aload_n 0, 1) := by decide +kernel
theorem dX6_momentOf_23 : decode cX6_momentOf 23 = .ok (.getfield 27, 3) := by decide +kernel
theorem dX6_momentOf_26 : decode cX6_momentOf 26 = .ok (.iload 4, 2) := by decide +kernel
theorem dX6_momentOf_28 : decode cX6_momentOf 28 = .ok (.iaload, 1) := by decide +kernel
theorem dX6_momentOf_29 : decode cX6_momentOf 29 = .ok (.iload_n 1, 1) := by decide +kernel
theorem dX6_momentOf_30 : decode cX6_momentOf 30 = .ok (.sipush 720, 3) := by decide +kernel
theorem dX6_momentOf_33 : decode cX6_momentOf 33 = .ok (.iadd, 1) := by decide +kernel
theorem dX6_momentOf_34 : decode cX6_momentOf 34 = .ok (.if_icmp .gt 55, 3) := by decide +kernel
theorem dX6_momentOf_37 : decode cX6_momentOf 37 = .ok (.iload_n 1, 1) := by decide +kernel
theorem dX6_momentOf_38 : decode cX6_momentOf 38 = .ok (.aload_n 0, 1) := by decide +kernel
theorem dX6_momentOf_39 : decode cX6_momentOf 39 = .ok (.getfield 33, 3) := by decide +kernel
theorem dX6_momentOf_42 : decode cX6_momentOf 42 = .ok (.iload 4, 2) := by decide +kernel
theorem dX6_momentOf_44 : decode cX6_momentOf 44 = .ok (.iaload, 1) := by decide +kernel
theorem dX6_momentOf_45 : decode cX6_momentOf 45 = .ok (.isub, 1) := by decide +kernel
theorem dX6_momentOf_46 : decode cX6_momentOf 46 = .ok (.istore 5, 2) := by decide +kernel
theorem dX6_momentOf_48 : decode cX6_momentOf 48 = .ok (.iload 5, 2) := by decide +kernel
theorem dX6_momentOf_50 : decode cX6_momentOf 50 = .ok (.aload_n 0, 1) := by decide +kernel
theorem dX6_momentOf_51 : decode cX6_momentOf 51 = .ok (.getfield 27, 3) := by decide +kernel
theorem dX6_momentOf_54 : decode cX6_momentOf 54 = .ok (.iload 4, 2) := by decide +kernel
theorem dX6_momentOf_56 : decode cX6_momentOf 56 = .ok (.iaload, 1) := by decide +kernel
theorem dX6_momentOf_57 : decode cX6_momentOf 57 = .ok (.if_icmp .lt 26, 3) := by decide +kernel
theorem dX6_momentOf_60 : decode cX6_momentOf 60 = .ok (.iload 5, 2) := by decide +kernel
theorem dX6_momentOf_62 : decode cX6_momentOf 62 = .ok (.aload_n 0, 1) := by decide +kernel
theorem dX6_momentOf_63 : decode cX6_momentOf 63 = .ok (.getfield 30, 3) := by decide +kernel
theorem dX6_momentOf_66 : decode cX6_momentOf 66 = .ok (.iload 4, 2) := by decide +kernel
theorem dX6_momentOf_68 : decode cX6_momentOf 68 = .ok (.iaload, 1) := by decide +kernel
theorem dX6_momentOf_69 : decode cX6_momentOf 69 = .ok (.if_icmp .ge 14, 3) := by decide +kernel
theorem dX6_momentOf_72 : decode cX6_momentOf 72 = .ok (.iload_n 3, 1) := by decide +kernel
theorem dX6_momentOf_73 : decode cX6_momentOf 73 = .ok (.iload_n 2, 1) := by decide +kernel
theorem dX6_momentOf_74 : decode cX6_momentOf 74 = .ok (.if_icmp .ne 6, 3) := by decide +kernel
theorem dX6_momentOf_77 : decode cX6_momentOf 77 = .ok (.iload 5, 2) := by decide +kernel
theorem dX6_momentOf_79 : decode cX6_momentOf 79 = .ok (.ireturn, 1) := by decide +kernel
theorem dX6_momentOf_80 : decode cX6_momentOf 80 = .ok (.iinc 3 1, 3) := by decide +kernel
theorem dX6_momentOf_83 : decode cX6_momentOf 83 = .ok (.iinc 4 1, 3) := by decide +kernel
theorem dX6_momentOf_86 : decode cX6_momentOf 86 = .ok (.goto (-73), 3) := by decide +kernel
theorem dX6_momentOf_89 : decode cX6_momentOf 89 = .ok (.iconst (-1), 1) := by decide +kernel
theorem dX6_momentOf_90 : decode cX6_momentOf 90 = .ok (.ireturn, 1) := by decide +kernel
theorem dX6_turned_0 : decode cX6_turned 0 = .ok (.iconst (-1), 1) := by decide +kernel
theorem dX6_turned_1 : decode cX6_turned 1 = .ok (.istore_n 3, 1) := by decide +kernel
theorem dX6_turned_2 : decode cX6_turned 2 = .ok (.aload_n 0, 1) := by decide +kernel
theorem dX6_turned_3 : decode cX6_turned 3 = .ok (.iload_n 1, 1) := by decide +kernel
theorem dX6_turned_4 : decode cX6_turned 4 = .ok (.sipush 720, 3) := by decide +kernel
theorem dX6_turned_7 : decode cX6_turned 7 = .ok (.isub, 1) := by decide +kernel
theorem dX6_turned_8 : decode cX6_turned 8 = .ok (.invokevirtual 64, 3) := by decide +kernel
theorem dX6_turned_11 : decode cX6_turned 11 = .ok (.istore 4, 2) := by decide +kernel
theorem dX6_turned_13 : decode cX6_turned 13 = .ok (.iload 4, 2) := by decide +kernel
theorem dX6_turned_15 : decode cX6_turned 15 = .ok (.istore 5, 2) := by decide +kernel
theorem dX6_turned_17 : decode cX6_turned 17 = .ok (.iload 5, 2) := by decide +kernel
theorem dX6_turned_19 : decode cX6_turned 19 = .ok (.aload_n 0, 1) := by decide +kernel
theorem dX6_turned_20 : decode cX6_turned 20 = .ok (.getfield 47, 3) := by decide +kernel
theorem dX6_turned_23 : decode cX6_turned 23 = .ok (.if_icmp .gt 71, 3) := by decide +kernel
theorem dX6_turned_26 : decode cX6_turned 26 = .ok (.aload_n 0, 1) := by decide +kernel
theorem dX6_turned_27 : decode cX6_turned 27 = .ok (.getfield 27, 3) := by decide +kernel
theorem dX6_turned_30 : decode cX6_turned 30 = .ok (.iload 5, 2) := by decide +kernel
theorem dX6_turned_32 : decode cX6_turned 32 = .ok (.iaload, 1) := by decide +kernel
theorem dX6_turned_33 : decode cX6_turned 33 = .ok (.iload_n 1, 1) := by decide +kernel
theorem dX6_turned_34 : decode cX6_turned 34 = .ok (.sipush 720, 3) := by decide +kernel
theorem dX6_turned_37 : decode cX6_turned 37 = .ok (.iadd, 1) := by decide +kernel
theorem dX6_turned_38 : decode cX6_turned 38 = .ok (.if_icmp .gt 56, 3) := by decide +kernel
theorem dX6_turned_41 : decode cX6_turned 41 = .ok (.iload_n 1, 1) := by decide +kernel
theorem dX6_turned_42 : decode cX6_turned 42 = .ok (.aload_n 0, 1) := by decide +kernel
theorem dX6_turned_43 : decode cX6_turned 43 = .ok (.getfield 33, 3) := by decide +kernel
theorem dX6_turned_46 : decode cX6_turned 46 = .ok (.iload 5, 2) := by decide +kernel
theorem dX6_turned_48 : decode cX6_turned 48 = .ok (.iaload, 1) := by decide +kernel
theorem dX6_turned_49 : decode cX6_turned 49 = .ok (.isub, 1) := by decide +kernel
theorem dX6_turned_50 : decode cX6_turned 50 = .ok (.istore 6, 2) := by decide +kernel
theorem dX6_turned_52 : decode cX6_turned 52 = .ok (.iload 6, 2) := by decide +kernel
theorem dX6_turned_54 : decode cX6_turned 54 = .ok (.aload_n 0, 1) := by decide +kernel
theorem dX6_turned_55 : decode cX6_turned 55 = .ok (.getfield 27, 3) := by decide +kernel
theorem dX6_turned_58 : decode cX6_turned 58 = .ok (.iload 5, 2) := by decide +kernel
theorem dX6_turned_60 : decode cX6_turned 60 = .ok (.iaload, 1) := by decide +kernel
theorem dX6_turned_61 : decode cX6_turned 61 = .ok (.if_icmp .lt 27, 3) := by decide +kernel
theorem dX6_turned_64 : decode cX6_turned 64 = .ok (.iload 6, 2) := by decide +kernel
theorem dX6_turned_66 : decode cX6_turned 66 = .ok (.aload_n 0, 1) := by decide +kernel
theorem dX6_turned_67 : decode cX6_turned 67 = .ok (.getfield 30, 3) := by decide +kernel
theorem dX6_turned_70 : decode cX6_turned 70 = .ok (.iload 5, 2) := by decide +kernel
theorem dX6_turned_72 : decode cX6_turned 72 = .ok (.iaload, 1) := by decide +kernel
theorem dX6_turned_73 : decode cX6_turned 73 = .ok (.if_icmp .ge 15, 3) := by decide +kernel
theorem dX6_turned_76 : decode cX6_turned 76 = .ok (.iload_n 2, 1) := by decide +kernel
theorem dX6_turned_77 : decode cX6_turned 77 = .ok (.ifCond .ne 8, 3) := by decide +kernel
theorem dX6_turned_80 : decode cX6_turned 80 = .ok (.iload_n 3, 1) := by decide +kernel
theorem dX6_turned_81 : decode cX6_turned 81 = .ok (.iconst (-1), 1) := by decide +kernel
theorem dX6_turned_82 : decode cX6_turned 82 = .ok (.if_icmp .ne 6, 3) := by decide +kernel
theorem dX6_turned_85 : decode cX6_turned 85 = .ok (.iload 6, 2) := by decide +kernel
theorem dX6_turned_87 : decode cX6_turned 87 = .ok (.istore_n 3, 1) := by decide +kernel
theorem dX6_turned_88 : decode cX6_turned 88 = .ok (.iinc 5 1, 3) := by decide +kernel
theorem dX6_turned_91 : decode cX6_turned 91 = .ok (.goto (-74), 3) := by decide +kernel
theorem dX6_turned_94 : decode cX6_turned 94 = .ok (.iload_n 3, 1) := by decide +kernel
theorem dX6_turned_95 : decode cX6_turned 95 = .ok (.iconst (-1), 1) := by decide +kernel
theorem dX6_turned_96 : decode cX6_turned 96 = .ok (.if_icmp .eq 5, 3) := by decide +kernel
theorem dX6_turned_99 : decode cX6_turned 99 = .ok (.iload_n 3, 1) := by decide +kernel
theorem dX6_turned_100 : decode cX6_turned 100 = .ok (.ireturn, 1) := by decide +kernel
theorem dX6_turned_101 : decode cX6_turned 101 = .ok (.iload_n 2, 1) := by decide +kernel
theorem dX6_turned_102 : decode cX6_turned 102 = .ok (.ifCond .eq 11, 3) := by decide +kernel
theorem dX6_turned_105 : decode cX6_turned 105 = .ok (.aload_n 0, 1) := by decide +kernel
theorem dX6_turned_106 : decode cX6_turned 106 = .ok (.iload_n 1, 1) := by decide +kernel
theorem dX6_turned_107 : decode cX6_turned 107 = .ok (.invokevirtual 67, 3) := by decide +kernel
theorem dX6_turned_110 : decode cX6_turned 110 = .ok (.goto 10, 3) := by decide +kernel
theorem dX6_turned_113 : decode cX6_turned 113 = .ok (.aload_n 0, 1) := by decide +kernel
theorem dX6_turned_114 : decode cX6_turned 114 = .ok (.iload_n 1, 1) := by decide +kernel
theorem dX6_turned_115 : decode cX6_turned 115 = .ok (.iload 4, 2) := by decide +kernel
theorem dX6_turned_117 : decode cX6_turned 117 = .ok (.invokevirtual 70, 3) := by decide +kernel
theorem dX6_turned_120 : decode cX6_turned 120 = .ok (.ireturn, 1) := by decide +kernel
theorem dX6_firstBehind_0 : decode cX6_firstBehind 0 = .ok (.iload_n 2, 1) := by decide +kernel
theorem dX6_firstBehind_1 : decode cX6_firstBehind 1 = .ok (.istore_n 3, 1) := by decide +kernel
theorem dX6_firstBehind_2 : decode cX6_firstBehind 2 = .ok (.iload_n 3, 1) := by decide +kernel
theorem dX6_firstBehind_3 : decode cX6_firstBehind 3 = .ok (.aload_n 0, 1) := by decide +kernel
theorem dX6_firstBehind_4 : decode cX6_firstBehind 4 = .ok (.getfield 47, 3) := by decide +kernel
theorem dX6_firstBehind_7 : decode cX6_firstBehind 7 = .ok (.if_icmp .gt 44, 3) := by decide +kernel
theorem dX6_firstBehind_10 : decode cX6_firstBehind 10 = .ok (.aload_n 0, 1) := by decide +kernel
theorem dX6_firstBehind_11 : decode cX6_firstBehind 11 = .ok (.getfield 27, 3) := by decide +kernel
theorem dX6_firstBehind_14 : decode cX6_firstBehind 14 = .ok (.iload_n 3, 1) := by decide +kernel
theorem dX6_firstBehind_15 : decode cX6_firstBehind 15 = .ok (.iaload, 1) := by decide +kernel
theorem dX6_firstBehind_16 : decode cX6_firstBehind 16 = .ok (.iload_n 1, 1) := by decide +kernel
theorem dX6_firstBehind_17 : decode cX6_firstBehind 17 = .ok (.iconst 1, 1) := by decide +kernel
theorem dX6_firstBehind_18 : decode cX6_firstBehind 18 = .ok (.iadd, 1) := by decide +kernel
theorem dX6_firstBehind_19 : decode cX6_firstBehind 19 = .ok (.aload_n 0, 1) := by decide +kernel
theorem dX6_firstBehind_20 : decode cX6_firstBehind 20 = .ok (.getfield 33, 3) := by decide +kernel
theorem dX6_firstBehind_23 : decode cX6_firstBehind 23 = .ok (.iload_n 3, 1) := by decide +kernel
theorem dX6_firstBehind_24 : decode cX6_firstBehind 24 = .ok (.iaload, 1) := by decide +kernel
theorem dX6_firstBehind_25 : decode cX6_firstBehind 25 = .ok (.isub, 1) := by decide +kernel
theorem dX6_firstBehind_26 : decode cX6_firstBehind 26 = .ok (.invokestatic 73, 3) := by decide +kernel
theorem dX6_firstBehind_29 : decode cX6_firstBehind 29 = .ok (.istore 4, 2) := by decide +kernel
theorem dX6_firstBehind_31 : decode cX6_firstBehind 31 = .ok (.iload 4, 2) := by decide +kernel
theorem dX6_firstBehind_33 : decode cX6_firstBehind 33 = .ok (.aload_n 0, 1) := by decide +kernel
theorem dX6_firstBehind_34 : decode cX6_firstBehind 34 = .ok (.getfield 30, 3) := by decide +kernel
theorem dX6_firstBehind_37 : decode cX6_firstBehind 37 = .ok (.iload_n 3, 1) := by decide +kernel
theorem dX6_firstBehind_38 : decode cX6_firstBehind 38 = .ok (.iaload, 1) := by decide +kernel
theorem dX6_firstBehind_39 : decode cX6_firstBehind 39 = .ok (.if_icmp .ge 6, 3) := by decide +kernel
theorem dX6_firstBehind_42 : decode cX6_firstBehind 42 = .ok (.iload 4, 2) := by decide +kernel
theorem dX6_firstBehind_44 : decode cX6_firstBehind 44 = .ok (.ireturn, 1) := by decide +kernel
theorem dX6_firstBehind_45 : decode cX6_firstBehind 45 = .ok (.iinc 3 1, 3) := by decide +kernel
theorem dX6_firstBehind_48 : decode cX6_firstBehind 48 = .ok (.goto (-46), 3) := by decide +kernel
theorem dX6_firstBehind_51 : decode cX6_firstBehind 51 = .ok (.iconst (-1), 1) := by decide +kernel
theorem dX6_firstBehind_52 : decode cX6_firstBehind 52 = .ok (.ireturn, 1) := by decide +kernel
theorem dX6_lastAhead_0 : decode cX6_lastAhead 0 = .ok (.aload_n 0, 1) := by decide +kernel
theorem dX6_lastAhead_1 : decode cX6_lastAhead 1 = .ok (.getfield 47, 3) := by decide +kernel
theorem dX6_lastAhead_4 : decode cX6_lastAhead 4 = .ok (.istore_n 2, 1) := by decide +kernel
theorem dX6_lastAhead_5 : decode cX6_lastAhead 5 = .ok (.iload_n 2, 1) := by decide +kernel
theorem dX6_lastAhead_6 : decode cX6_lastAhead 6 = .ok (.ifCond .lt 41, 3) := by decide +kernel
theorem dX6_lastAhead_9 : decode cX6_lastAhead 9 = .ok (.aload_n 0, 1) := by decide +kernel
theorem dX6_lastAhead_10 : decode cX6_lastAhead 10 = .ok (.getfield 30, 3) := by decide +kernel
theorem dX6_lastAhead_13 : decode cX6_lastAhead 13 = .ok (.iload_n 2, 1) := by decide +kernel
theorem dX6_lastAhead_14 : decode cX6_lastAhead 14 = .ok (.iaload, 1) := by decide +kernel
theorem dX6_lastAhead_15 : decode cX6_lastAhead 15 = .ok (.iload_n 1, 1) := by decide +kernel
theorem dX6_lastAhead_16 : decode cX6_lastAhead 16 = .ok (.aload_n 0, 1) := by decide +kernel
theorem dX6_lastAhead_17 : decode cX6_lastAhead 17 = .ok (.getfield 33, 3) := by decide +kernel
theorem dX6_lastAhead_20 : decode cX6_lastAhead 20 = .ok (.iload_n 2, 1) := by decide +kernel
theorem dX6_lastAhead_21 : decode cX6_lastAhead 21 = .ok (.iaload, 1) := by decide +kernel
theorem dX6_lastAhead_22 : decode cX6_lastAhead 22 = .ok (.isub, 1) := by decide +kernel
theorem dX6_lastAhead_23 : decode cX6_lastAhead 23 = .ok (.invokestatic 58, 3) := by decide +kernel
theorem dX6_lastAhead_26 : decode cX6_lastAhead 26 = .ok (.iconst 1, 1) := by decide +kernel
theorem dX6_lastAhead_27 : decode cX6_lastAhead 27 = .ok (.isub, 1) := by decide +kernel
theorem dX6_lastAhead_28 : decode cX6_lastAhead 28 = .ok (.istore_n 3, 1) := by decide +kernel
theorem dX6_lastAhead_29 : decode cX6_lastAhead 29 = .ok (.iload_n 3, 1) := by decide +kernel
theorem dX6_lastAhead_30 : decode cX6_lastAhead 30 = .ok (.aload_n 0, 1) := by decide +kernel
theorem dX6_lastAhead_31 : decode cX6_lastAhead 31 = .ok (.getfield 27, 3) := by decide +kernel
theorem dX6_lastAhead_34 : decode cX6_lastAhead 34 = .ok (.iload_n 2, 1) := by decide +kernel
theorem dX6_lastAhead_35 : decode cX6_lastAhead 35 = .ok (.iaload, 1) := by decide +kernel
theorem dX6_lastAhead_36 : decode cX6_lastAhead 36 = .ok (.if_icmp .lt 5, 3) := by decide +kernel
theorem dX6_lastAhead_39 : decode cX6_lastAhead 39 = .ok (.iload_n 3, 1) := by decide +kernel
theorem dX6_lastAhead_40 : decode cX6_lastAhead 40 = .ok (.ireturn, 1) := by decide +kernel
theorem dX6_lastAhead_41 : decode cX6_lastAhead 41 = .ok (.iinc 2 (-1), 3) := by decide +kernel
theorem dX6_lastAhead_44 : decode cX6_lastAhead 44 = .ok (.goto (-39), 3) := by decide +kernel
theorem dX6_lastAhead_47 : decode cX6_lastAhead 47 = .ok (.iconst (-1), 1) := by decide +kernel
theorem dX6_lastAhead_48 : decode cX6_lastAhead 48 = .ok (.ireturn, 1) := by decide +kernel
theorem dX6_firstOfDay_0 : decode cX6_firstOfDay 0 = .ok (.iload_n 1, 1) := by decide +kernel
theorem dX6_firstOfDay_1 : decode cX6_firstOfDay 1 = .ok (.sipush 1440, 3) := by decide +kernel
theorem dX6_firstOfDay_4 : decode cX6_firstOfDay 4 = .ok (.imul, 1) := by decide +kernel
theorem dX6_firstOfDay_5 : decode cX6_firstOfDay 5 = .ok (.istore_n 3, 1) := by decide +kernel
theorem dX6_firstOfDay_6 : decode cX6_firstOfDay 6 = .ok (.iload_n 3, 1) := by decide +kernel
theorem dX6_firstOfDay_7 : decode cX6_firstOfDay 7 = .ok (.sipush 1440, 3) := by decide +kernel
theorem dX6_firstOfDay_10 : decode cX6_firstOfDay 10 = .ok (.iadd, 1) := by decide +kernel
theorem dX6_firstOfDay_11 : decode cX6_firstOfDay 11 = .ok (.istore 4, 2) := by decide +kernel
theorem dX6_firstOfDay_13 : decode cX6_firstOfDay 13 = .ok (.iload_n 2, 1) := by decide +kernel
theorem dX6_firstOfDay_14 : decode cX6_firstOfDay 14 = .ok (.istore 5, 2) := by decide +kernel
theorem dX6_firstOfDay_16 : decode cX6_firstOfDay 16 = .ok (.iload 5, 2) := by decide +kernel
theorem dX6_firstOfDay_18 : decode cX6_firstOfDay 18 = .ok (.aload_n 0, 1) := by decide +kernel
theorem dX6_firstOfDay_19 : decode cX6_firstOfDay 19 = .ok (.getfield 47, 3) := by decide +kernel
theorem dX6_firstOfDay_22 : decode cX6_firstOfDay 22 = .ok (.if_icmp .gt 76, 3) := by decide +kernel
theorem dX6_firstOfDay_25 : decode cX6_firstOfDay 25 = .ok (.aload_n 0, 1) := by decide +kernel
theorem dX6_firstOfDay_26 : decode cX6_firstOfDay 26 = .ok (.getfield 27, 3) := by decide +kernel
theorem dX6_firstOfDay_29 : decode cX6_firstOfDay 29 = .ok (.iload 5, 2) := by decide +kernel
theorem dX6_firstOfDay_31 : decode cX6_firstOfDay 31 = .ok (.iaload, 1) := by decide +kernel
theorem dX6_firstOfDay_32 : decode cX6_firstOfDay 32 = .ok (.iload 4, 2) := by decide +kernel
theorem dX6_firstOfDay_34 : decode cX6_firstOfDay 34 = .ok (.sipush 720, 3) := by decide +kernel
theorem dX6_firstOfDay_37 : decode cX6_firstOfDay 37 = .ok (.iadd, 1) := by decide +kernel
theorem dX6_firstOfDay_38 : decode cX6_firstOfDay 38 = .ok (.if_icmp .ge 60, 3) := by decide +kernel
theorem dX6_firstOfDay_41 : decode cX6_firstOfDay 41 = .ok (.aload_n 0, 1) := by decide +kernel
theorem dX6_firstOfDay_42 : decode cX6_firstOfDay 42 = .ok (.getfield 27, 3) := by decide +kernel
theorem dX6_firstOfDay_45 : decode cX6_firstOfDay 45 = .ok (.iload 5, 2) := by decide +kernel
theorem dX6_firstOfDay_47 : decode cX6_firstOfDay 47 = .ok (.iaload, 1) := by decide +kernel
theorem dX6_firstOfDay_48 : decode cX6_firstOfDay 48 = .ok (.iload_n 3, 1) := by decide +kernel
theorem dX6_firstOfDay_49 : decode cX6_firstOfDay 49 = .ok (.aload_n 0, 1) := by decide +kernel
theorem dX6_firstOfDay_50 : decode cX6_firstOfDay 50 = .ok (.getfield 33, 3) := by decide +kernel
theorem dX6_firstOfDay_53 : decode cX6_firstOfDay 53 = .ok (.iload 5, 2) := by decide +kernel
theorem dX6_firstOfDay_55 : decode cX6_firstOfDay 55 = .ok (.iaload, 1) := by decide +kernel
theorem dX6_firstOfDay_56 : decode cX6_firstOfDay 56 = .ok (.isub, 1) := by decide +kernel
theorem dX6_firstOfDay_57 : decode cX6_firstOfDay 57 = .ok (.invokestatic 73, 3) := by decide +kernel
theorem dX6_firstOfDay_60 : decode cX6_firstOfDay 60 = .ok (.istore 6, 2) := by decide +kernel
theorem dX6_firstOfDay_62 : decode cX6_firstOfDay 62 = .ok (.iload 6, 2) := by decide +kernel
theorem dX6_firstOfDay_64 : decode cX6_firstOfDay 64 = .ok (.aload_n 0, 1) := by decide +kernel
theorem dX6_firstOfDay_65 : decode cX6_firstOfDay 65 = .ok (.getfield 30, 3) := by decide +kernel
theorem dX6_firstOfDay_68 : decode cX6_firstOfDay 68 = .ok (.iload 5, 2) := by decide +kernel
theorem dX6_firstOfDay_70 : decode cX6_firstOfDay 70 = .ok (.iaload, 1) := by decide +kernel
theorem dX6_firstOfDay_71 : decode cX6_firstOfDay 71 = .ok (.if_icmp .ge 21, 3) := by decide +kernel
theorem dX6_firstOfDay_74 : decode cX6_firstOfDay 74 = .ok (.iload 6, 2) := by decide +kernel
theorem dX6_firstOfDay_76 : decode cX6_firstOfDay 76 = .ok (.aload_n 0, 1) := by decide +kernel
theorem dX6_firstOfDay_77 : decode cX6_firstOfDay 77 = .ok (.getfield 33, 3) := by decide +kernel
theorem dX6_firstOfDay_80 : decode cX6_firstOfDay 80 = .ok (.iload 5, 2) := by decide +kernel
theorem dX6_firstOfDay_82 : decode cX6_firstOfDay 82 = .ok (.iaload, 1) := by decide +kernel
theorem dX6_firstOfDay_83 : decode cX6_firstOfDay 83 = .ok (.iadd, 1) := by decide +kernel
theorem dX6_firstOfDay_84 : decode cX6_firstOfDay 84 = .ok (.iload 4, 2) := by decide +kernel
theorem dX6_firstOfDay_86 : decode cX6_firstOfDay 86 = .ok (.if_icmp .ge 6, 3) := by decide +kernel
theorem dX6_firstOfDay_89 : decode cX6_firstOfDay 89 = .ok (.iload 6, 2) := by decide +kernel
theorem dX6_firstOfDay_91 : decode cX6_firstOfDay 91 = .ok (.ireturn, 1) := by decide +kernel
theorem dX6_firstOfDay_92 : decode cX6_firstOfDay 92 = .ok (.iinc 5 1, 3) := by decide +kernel
theorem dX6_firstOfDay_95 : decode cX6_firstOfDay 95 = .ok (.goto (-79), 3) := by decide +kernel
theorem dX6_firstOfDay_98 : decode cX6_firstOfDay 98 = .ok (.iconst (-1), 1) := by decide +kernel
theorem dX6_firstOfDay_99 : decode cX6_firstOfDay 99 = .ok (.ireturn, 1) := by decide +kernel
theorem dX7_init_0 : decode cX7_init 0 = .ok (.aload_n 0, 1) := by decide +kernel
theorem dX7_init_1 : decode cX7_init 1 = .ok (.invokespecial 3, 3) := by decide +kernel
theorem dX7_init_4 : decode cX7_init 4 = .ok (.aload_n 0, 1) := by decide +kernel
theorem dX7_init_5 : decode cX7_init 5 = .ok (.iconst 5, 1) := by decide +kernel
theorem dX7_init_6 : decode cX7_init 6 = .ok (.anewarray 9, 3) := by decide +kernel
theorem dX7_init_9 : decode cX7_init 9 = .ok (.putfield 11, 3) := by decide +kernel
theorem dX7_init_12 : decode cX7_init 12 = .ok (.return_, 1) := by decide +kernel
theorem dX7_at_0 : decode cX7_at 0 = .ok (.iload_n 1, 1) := by decide +kernel
theorem dX7_at_1 : decode cX7_at 1 = .ok (.ifCond .lt 20, 3) := by decide +kernel
theorem dX7_at_4 : decode cX7_at 4 = .ok (.iload_n 1, 1) := by decide +kernel
theorem dX7_at_5 : decode cX7_at 5 = .ok (.aload_n 0, 1) := by decide +kernel
theorem dX7_at_6 : decode cX7_at 6 = .ok (.getfield 17, 3) := by decide +kernel
theorem dX7_at_9 : decode cX7_at 9 = .ok (.if_icmp .ge 12, 3) := by decide +kernel
theorem dX7_at_12 : decode cX7_at 12 = .ok (.aload_n 0, 1) := by decide +kernel
theorem dX7_at_13 : decode cX7_at 13 = .ok (.getfield 11, 3) := by decide +kernel
theorem dX7_at_16 : decode cX7_at 16 = .ok (.iload_n 1, 1) := by decide +kernel
theorem dX7_at_17 : decode cX7_at 17 = .ok (.aaload, 1) := by decide +kernel
theorem dX7_at_18 : decode cX7_at 18 = .ok (.goto 4, 3) := by decide +kernel
theorem dX7_at_21 : decode cX7_at 21 = .ok (.aconst_null, 1) := by decide +kernel
theorem dX7_at_22 : decode cX7_at 22 = .ok (.areturn, 1) := by decide +kernel
theorem dX7_make_0 : decode cX7_make 0 = .ok (.aload_n 0, 1) := by decide +kernel
theorem dX7_make_1 : decode cX7_make 1 = .ok (.getfield 17, 3) := by decide +kernel
theorem dX7_make_4 : decode cX7_make 4 = .ok (.iconst 5, 1) := by decide +kernel
theorem dX7_make_5 : decode cX7_make 5 = .ok (.if_icmp .lt 5, 3) := by decide +kernel
theorem dX7_make_8 : decode cX7_make 8 = .ok (.iconst (-1), 1) := by decide +kernel
theorem dX7_make_9 : decode cX7_make 9 = .ok (.ireturn, 1) := by decide +kernel
theorem dX7_make_10 : decode cX7_make 10 = .ok (.aload_n 0, 1) := by decide +kernel
theorem dX7_make_11 : decode cX7_make 11 = .ok (.getfield 11, 3) := by decide +kernel
theorem dX7_make_14 : decode cX7_make 14 = .ok (.aload_n 0, 1) := by decide +kernel
theorem dX7_make_15 : decode cX7_make 15 = .ok (.getfield 17, 3) := by decide +kernel
theorem dX7_make_18 : decode cX7_make 18 = .ok (.new 9, 3) := by decide +kernel
theorem dX7_make_21 : decode cX7_make 21 = .ok (.dup, 1) := by decide +kernel
theorem dX7_make_22 : decode cX7_make 22 = .ok (.iload_n 1, 1) := by decide +kernel
theorem dX7_make_23 : decode cX7_make 23 = .ok (.invokespecial 21, 3) := by decide +kernel
theorem dX7_make_26 : decode cX7_make 26 = .ok (.aastore, 1) := by decide +kernel
theorem dX7_make_27 : decode cX7_make 27 = .ok (.aload_n 0, 1) := by decide +kernel
theorem dX7_make_28 : decode cX7_make 28 = .ok (.dup, 1) := by decide +kernel
theorem dX7_make_29 : decode cX7_make 29 = .ok (.getfield 17, 3) := by decide +kernel
theorem dX7_make_32 : decode cX7_make 32 = .ok (.iconst 1, 1) := by decide +kernel
theorem dX7_make_33 : decode cX7_make 33 = .ok (.iadd, 1) := by decide +kernel
theorem dX7_make_34 : decode cX7_make 34 = .ok (.putfield 17, 3) := by decide +kernel
theorem dX7_make_37 : decode cX7_make 37 = .ok (.aload_n 0, 1) := by decide +kernel
theorem dX7_make_38 : decode cX7_make 38 = .ok (.getfield 17, 3) := by decide +kernel
theorem dX7_make_41 : decode cX7_make 41 = .ok (.iconst 1, 1) := by decide +kernel
theorem dX7_make_42 : decode cX7_make 42 = .ok (.isub, 1) := by decide +kernel
theorem dX7_make_43 : decode cX7_make 43 = .ok (.ireturn, 1) := by decide +kernel
theorem dX7_refresh_0 : decode cX7_refresh 0 = .ok (.iconst 0, 1) := by decide +kernel
theorem dX7_refresh_1 : decode cX7_refresh 1 = .ok (.istore_n 2, 1) := by decide +kernel
theorem dX7_refresh_2 : decode cX7_refresh 2 = .ok (.iload_n 2, 1) := by decide +kernel
theorem dX7_refresh_3 : decode cX7_refresh 3 = .ok (.aload_n 0, 1) := by decide +kernel
theorem dX7_refresh_4 : decode cX7_refresh 4 = .ok (.getfield 17, 3) := by decide +kernel
theorem dX7_refresh_7 : decode cX7_refresh 7 = .ok (.if_icmp .ge 25, 3) := by decide +kernel
theorem dX7_refresh_10 : decode cX7_refresh 10 = .ok (.aload_n 0, 1) := by decide +kernel
theorem dX7_refresh_11 : decode cX7_refresh 11 = .ok (.getfield 11, 3) := by decide +kernel
theorem dX7_refresh_14 : decode cX7_refresh 14 = .ok (.iload_n 2, 1) := by decide +kernel
theorem dX7_refresh_15 : decode cX7_refresh 15 = .ok (.aaload, 1) := by decide +kernel
theorem dX7_refresh_16 : decode cX7_refresh 16 = .ok (.astore_n 3, 1) := by decide +kernel
theorem dX7_refresh_17 : decode cX7_refresh 17 = .ok (.aload_n 3, 1) := by decide +kernel
theorem dX7_refresh_18 : decode cX7_refresh 18 = .ok (.ifnull 8, 3) := by decide +kernel
theorem dX7_refresh_21 : decode cX7_refresh 21 = .ok (.aload_n 3, 1) := by decide +kernel
theorem dX7_refresh_22 : decode cX7_refresh 22 = .ok (.iload_n 1, 1) := by decide +kernel
theorem dX7_refresh_23 : decode cX7_refresh 23 = .ok (.invokevirtual 24, 3) := by decide +kernel
theorem dX7_refresh_26 : decode cX7_refresh 26 = .ok (.iinc 2 1, 3) := by decide +kernel
theorem dX7_refresh_29 : decode cX7_refresh 29 = .ok (.goto (-27), 3) := by decide +kernel
theorem dX7_refresh_32 : decode cX7_refresh 32 = .ok (.return_, 1) := by decide +kernel
theorem dX8_init_0 : decode cX8_init 0 = .ok (.aload_n 0, 1) := by decide +kernel
theorem dX8_init_1 : decode cX8_init 1 = .ok (.invokespecial 3, 3) := by decide +kernel
theorem dX8_init_4 : decode cX8_init 4 = .ok (.aload_n 0, 1) := by decide +kernel
theorem dX8_init_5 : decode cX8_init 5 = .ok (.new 9, 3) := by decide +kernel
theorem dX8_init_8 : decode cX8_init 8 = .ok (.dup, 1) := by decide +kernel
theorem dX8_init_9 : decode cX8_init 9 = .ok (.invokespecial 11, 3) := by decide +kernel
theorem dX8_init_12 : decode cX8_init 12 = .ok (.putfield 12, 3) := by decide +kernel
theorem dX8_init_15 : decode cX8_init 15 = .ok (.aload_n 0, 1) := by decide +kernel
theorem dX8_init_16 : decode cX8_init 16 = .ok (.new 16, 3) := by decide +kernel
theorem dX8_init_19 : decode cX8_init 19 = .ok (.dup, 1) := by decide +kernel
theorem dX8_init_20 : decode cX8_init 20 = .ok (.invokespecial 18, 3) := by decide +kernel
theorem dX8_init_23 : decode cX8_init 23 = .ok (.putfield 19, 3) := by decide +kernel
theorem dX8_init_26 : decode cX8_init 26 = .ok (.aload_n 0, 1) := by decide +kernel
theorem dX8_init_27 : decode cX8_init 27 = .ok (.bipush 6, 2) := by decide +kernel
theorem dX8_init_29 : decode cX8_init 29 = .ok (.anewarray 23, 3) := by decide +kernel
theorem dX8_init_32 : decode cX8_init 32 = .ok (.putfield 25, 3) := by decide +kernel
theorem dX8_init_35 : decode cX8_init 35 = .ok (.iconst 0, 1) := by decide +kernel
theorem dX8_init_36 : decode cX8_init 36 = .ok (.istore_n 1, 1) := by decide +kernel
theorem dX8_init_37 : decode cX8_init 37 = .ok (.iload_n 1, 1) := by decide +kernel
theorem dX8_init_38 : decode cX8_init 38 = .ok (.bipush 6, 2) := by decide +kernel
theorem dX8_init_40 : decode cX8_init 40 = .ok (.if_icmp .ge 22, 3) := by decide +kernel
theorem dX8_init_43 : decode cX8_init 43 = .ok (.aload_n 0, 1) := by decide +kernel
theorem dX8_init_44 : decode cX8_init 44 = .ok (.getfield 25, 3) := by decide +kernel
theorem dX8_init_47 : decode cX8_init 47 = .ok (.iload_n 1, 1) := by decide +kernel
theorem dX8_init_48 : decode cX8_init 48 = .ok (.new 23, 3) := by decide +kernel
theorem dX8_init_51 : decode cX8_init 51 = .ok (.dup, 1) := by decide +kernel
theorem dX8_init_52 : decode cX8_init 52 = .ok (.invokespecial 29, 3) := by decide +kernel
theorem dX8_init_55 : decode cX8_init 55 = .ok (.aastore, 1) := by decide +kernel
theorem dX8_init_56 : decode cX8_init 56 = .ok (.iinc 1 1, 3) := by decide +kernel
theorem dX8_init_59 : decode cX8_init 59 = .ok (.goto (-22), 3) := by decide +kernel
theorem dX8_init_62 : decode cX8_init 62 = .ok (.aload_n 0, 1) := by decide +kernel
theorem dX8_init_63 : decode cX8_init 63 = .ok (.new 30, 3) := by decide +kernel
theorem dX8_init_66 : decode cX8_init 66 = .ok (.dup, 1) := by decide +kernel
theorem dX8_init_67 : decode cX8_init 67 = .ok (.invokespecial 32, 3) := by decide +kernel
theorem dX8_init_70 : decode cX8_init 70 = .ok (.putfield 33, 3) := by decide +kernel
theorem dX8_init_73 : decode cX8_init 73 = .ok (.aload_n 0, 1) := by decide +kernel
theorem dX8_init_74 : decode cX8_init 74 = .ok (.new 37, 3) := by decide +kernel
theorem dX8_init_77 : decode cX8_init 77 = .ok (.dup, 1) := by decide +kernel
theorem dX8_init_78 : decode cX8_init 78 = .ok (.aload_n 0, 1) := by decide +kernel
theorem dX8_init_79 : decode cX8_init 79 = .ok (.getfield 12, 3) := by decide +kernel
theorem dX8_init_82 : decode cX8_init 82 = .ok (.aload_n 0, 1) := by decide +kernel
theorem dX8_init_83 : decode cX8_init 83 = .ok (.getfield 19, 3) := by decide +kernel
theorem dX8_init_86 : decode cX8_init 86 = .ok (.aload_n 0, 1) := by decide +kernel
theorem dX8_init_87 : decode cX8_init 87 = .ok (.getfield 33, 3) := by decide +kernel
theorem dX8_init_90 : decode cX8_init 90 = .ok (.invokespecial 39, 3) := by decide +kernel
theorem dX8_init_93 : decode cX8_init 93 = .ok (.putfield 42, 3) := by decide +kernel
theorem dX8_init_96 : decode cX8_init 96 = .ok (.aload_n 0, 1) := by decide +kernel
theorem dX8_init_97 : decode cX8_init 97 = .ok (.new 46, 3) := by decide +kernel
theorem dX8_init_100 : decode cX8_init 100 = .ok (.dup, 1) := by decide +kernel
theorem dX8_init_101 : decode cX8_init 101 = .ok (.aload_n 0, 1) := by decide +kernel
theorem dX8_init_102 : decode cX8_init 102 = .ok (.getfield 19, 3) := by decide +kernel
theorem dX8_init_105 : decode cX8_init 105 = .ok (.aload_n 0, 1) := by decide +kernel
theorem dX8_init_106 : decode cX8_init 106 = .ok (.getfield 42, 3) := by decide +kernel
theorem dX8_init_109 : decode cX8_init 109 = .ok (.invokespecial 48, 3) := by decide +kernel
theorem dX8_init_112 : decode cX8_init 112 = .ok (.putfield 51, 3) := by decide +kernel
theorem dX8_init_115 : decode cX8_init 115 = .ok (.aload_n 0, 1) := by decide +kernel
theorem dX8_init_116 : decode cX8_init 116 = .ok (.ldc 55, 2) := by decide +kernel
theorem dX8_init_118 : decode cX8_init 118 = .ok (.putfield 56, 3) := by decide +kernel
theorem dX8_init_121 : decode cX8_init 121 = .ok (.return_, 1) := by decide +kernel
theorem dX8_month_0 : decode cX8_month 0 = .ok (.iload_n 1, 1) := by decide +kernel
theorem dX8_month_1 : decode cX8_month 1 = .ok (.invokestatic 60, 3) := by decide +kernel
theorem dX8_month_4 : decode cX8_month 4 = .ok (.ifCond .eq 14, 3) := by decide +kernel
theorem dX8_month_7 : decode cX8_month 7 = .ok (.iload_n 2, 1) := by decide +kernel
theorem dX8_month_8 : decode cX8_month 8 = .ok (.iconst 1, 1) := by decide +kernel
theorem dX8_month_9 : decode cX8_month 9 = .ok (.if_icmp .lt 9, 3) := by decide +kernel
theorem dX8_month_12 : decode cX8_month 12 = .ok (.iload_n 2, 1) := by decide +kernel
theorem dX8_month_13 : decode cX8_month 13 = .ok (.bipush 40, 2) := by decide +kernel
theorem dX8_month_15 : decode cX8_month 15 = .ok (.if_icmp .le 5, 3) := by decide +kernel
theorem dX8_month_18 : decode cX8_month 18 = .ok (.iconst (-1), 1) := by decide +kernel
theorem dX8_month_19 : decode cX8_month 19 = .ok (.ireturn, 1) := by decide +kernel
theorem dX8_month_20 : decode cX8_month 20 = .ok (.aload_n 0, 1) := by decide +kernel
theorem dX8_month_21 : decode cX8_month 21 = .ok (.getfield 19, 3) := by decide +kernel
theorem dX8_month_24 : decode cX8_month 24 = .ok (.getfield 64, 3) := by decide +kernel
theorem dX8_month_27 : decode cX8_month 27 = .ok (.ifCond .le 6, 3) := by decide +kernel
theorem dX8_month_30 : decode cX8_month 30 = .ok (.bipush (-3), 2) := by decide +kernel
theorem dX8_month_32 : decode cX8_month 32 = .ok (.ireturn, 1) := by decide +kernel
theorem dX8_month_33 : decode cX8_month 33 = .ok (.aload_n 0, 1) := by decide +kernel
theorem dX8_month_34 : decode cX8_month 34 = .ok (.getfield 12, 3) := by decide +kernel
theorem dX8_month_37 : decode cX8_month 37 = .ok (.getfield 67, 3) := by decide +kernel
theorem dX8_month_40 : decode cX8_month 40 = .ok (.iload_n 1, 1) := by decide +kernel
theorem dX8_month_41 : decode cX8_month 41 = .ok (.iaload, 1) := by decide +kernel
theorem dX8_month_42 : decode cX8_month 42 = .ok (.istore_n 3, 1) := by decide +kernel
theorem dX8_month_43 : decode cX8_month 43 = .ok (.aload_n 0, 1) := by decide +kernel
theorem dX8_month_44 : decode cX8_month 44 = .ok (.getfield 12, 3) := by decide +kernel
theorem dX8_month_47 : decode cX8_month 47 = .ok (.getfield 67, 3) := by decide +kernel
theorem dX8_month_50 : decode cX8_month 50 = .ok (.iload_n 1, 1) := by decide +kernel
theorem dX8_month_51 : decode cX8_month 51 = .ok (.iload_n 2, 1) := by decide +kernel
theorem dX8_month_52 : decode cX8_month 52 = .ok (.iastore, 1) := by decide +kernel
theorem dX8_month_53 : decode cX8_month 53 = .ok (.aload_n 0, 1) := by decide +kernel
theorem dX8_month_54 : decode cX8_month 54 = .ok (.getfield 12, 3) := by decide +kernel
theorem dX8_month_57 : decode cX8_month 57 = .ok (.invokevirtual 71, 3) := by decide +kernel
theorem dX8_month_60 : decode cX8_month 60 = .ok (.iload_n 3, 1) := by decide +kernel
theorem dX8_month_61 : decode cX8_month 61 = .ok (.ireturn, 1) := by decide +kernel
theorem dX8_leap_0 : decode cX8_leap 0 = .ok (.iload_n 1, 1) := by decide +kernel
theorem dX8_leap_1 : decode cX8_leap 1 = .ok (.iconst 2, 1) := by decide +kernel
theorem dX8_leap_2 : decode cX8_leap 2 = .ok (.if_icmp .lt 27, 3) := by decide +kernel
theorem dX8_leap_5 : decode cX8_leap 5 = .ok (.iload_n 1, 1) := by decide +kernel
theorem dX8_leap_6 : decode cX8_leap 6 = .ok (.bipush 50, 2) := by decide +kernel
theorem dX8_leap_8 : decode cX8_leap 8 = .ok (.if_icmp .gt 21, 3) := by decide +kernel
theorem dX8_leap_11 : decode cX8_leap 11 = .ok (.iload_n 2, 1) := by decide +kernel
theorem dX8_leap_12 : decode cX8_leap 12 = .ok (.iconst 2, 1) := by decide +kernel
theorem dX8_leap_13 : decode cX8_leap 13 = .ok (.if_icmp .lt 16, 3) := by decide +kernel
theorem dX8_leap_16 : decode cX8_leap 16 = .ok (.iload_n 2, 1) := by decide +kernel
theorem dX8_leap_17 : decode cX8_leap 17 = .ok (.bipush 100, 2) := by decide +kernel
theorem dX8_leap_19 : decode cX8_leap 19 = .ok (.if_icmp .gt 10, 3) := by decide +kernel
theorem dX8_leap_22 : decode cX8_leap 22 = .ok (.iload_n 3, 1) := by decide +kernel
theorem dX8_leap_23 : decode cX8_leap 23 = .ok (.invokestatic 60, 3) := by decide +kernel
theorem dX8_leap_26 : decode cX8_leap 26 = .ok (.ifCond .ne 5, 3) := by decide +kernel
theorem dX8_leap_29 : decode cX8_leap 29 = .ok (.iconst (-1), 1) := by decide +kernel
theorem dX8_leap_30 : decode cX8_leap 30 = .ok (.ireturn, 1) := by decide +kernel
theorem dX8_leap_31 : decode cX8_leap 31 = .ok (.aload_n 0, 1) := by decide +kernel
theorem dX8_leap_32 : decode cX8_leap 32 = .ok (.getfield 19, 3) := by decide +kernel
theorem dX8_leap_35 : decode cX8_leap 35 = .ok (.getfield 64, 3) := by decide +kernel
theorem dX8_leap_38 : decode cX8_leap 38 = .ok (.ifCond .le 6, 3) := by decide +kernel
theorem dX8_leap_41 : decode cX8_leap 41 = .ok (.bipush (-3), 2) := by decide +kernel
theorem dX8_leap_43 : decode cX8_leap 43 = .ok (.ireturn, 1) := by decide +kernel
theorem dX8_leap_44 : decode cX8_leap 44 = .ok (.aload_n 0, 1) := by decide +kernel
theorem dX8_leap_45 : decode cX8_leap 45 = .ok (.getfield 12, 3) := by decide +kernel
theorem dX8_leap_48 : decode cX8_leap 48 = .ok (.iload_n 1, 1) := by decide +kernel
theorem dX8_leap_49 : decode cX8_leap 49 = .ok (.putfield 74, 3) := by decide +kernel
theorem dX8_leap_52 : decode cX8_leap 52 = .ok (.aload_n 0, 1) := by decide +kernel
theorem dX8_leap_53 : decode cX8_leap 53 = .ok (.getfield 12, 3) := by decide +kernel
theorem dX8_leap_56 : decode cX8_leap 56 = .ok (.iload_n 2, 1) := by decide +kernel
theorem dX8_leap_57 : decode cX8_leap 57 = .ok (.putfield 77, 3) := by decide +kernel
theorem dX8_leap_60 : decode cX8_leap 60 = .ok (.aload_n 0, 1) := by decide +kernel
theorem dX8_leap_61 : decode cX8_leap 61 = .ok (.getfield 12, 3) := by decide +kernel
theorem dX8_leap_64 : decode cX8_leap 64 = .ok (.iload_n 3, 1) := by decide +kernel
theorem dX8_leap_65 : decode cX8_leap 65 = .ok (.putfield 80, 3) := by decide +kernel
theorem dX8_leap_68 : decode cX8_leap 68 = .ok (.aload_n 0, 1) := by decide +kernel
theorem dX8_leap_69 : decode cX8_leap 69 = .ok (.getfield 12, 3) := by decide +kernel
theorem dX8_leap_72 : decode cX8_leap 72 = .ok (.invokevirtual 71, 3) := by decide +kernel
theorem dX8_leap_75 : decode cX8_leap 75 = .ok (.iconst 1, 1) := by decide +kernel
theorem dX8_leap_76 : decode cX8_leap 76 = .ok (.ireturn, 1) := by decide +kernel
theorem dX8_week_0 : decode cX8_week 0 = .ok (.iload_n 1, 1) := by decide +kernel
theorem dX8_week_1 : decode cX8_week 1 = .ok (.iconst 2, 1) := by decide +kernel
theorem dX8_week_2 : decode cX8_week 2 = .ok (.if_icmp .lt 19, 3) := by decide +kernel
theorem dX8_week_5 : decode cX8_week 5 = .ok (.iload_n 1, 1) := by decide +kernel
theorem dX8_week_6 : decode cX8_week 6 = .ok (.bipush 10, 2) := by decide +kernel
theorem dX8_week_8 : decode cX8_week 8 = .ok (.if_icmp .gt 13, 3) := by decide +kernel
theorem dX8_week_11 : decode cX8_week 11 = .ok (.iload_n 2, 1) := by decide +kernel
theorem dX8_week_12 : decode cX8_week 12 = .ok (.ifCond .lt 9, 3) := by decide +kernel
theorem dX8_week_15 : decode cX8_week 15 = .ok (.iload_n 2, 1) := by decide +kernel
theorem dX8_week_16 : decode cX8_week 16 = .ok (.bipush 9, 2) := by decide +kernel
theorem dX8_week_18 : decode cX8_week 18 = .ok (.if_icmp .le 5, 3) := by decide +kernel
theorem dX8_week_21 : decode cX8_week 21 = .ok (.iconst (-1), 1) := by decide +kernel
theorem dX8_week_22 : decode cX8_week 22 = .ok (.ireturn, 1) := by decide +kernel
theorem dX8_week_23 : decode cX8_week 23 = .ok (.aload_n 0, 1) := by decide +kernel
theorem dX8_week_24 : decode cX8_week 24 = .ok (.getfield 19, 3) := by decide +kernel
theorem dX8_week_27 : decode cX8_week 27 = .ok (.getfield 64, 3) := by decide +kernel
theorem dX8_week_30 : decode cX8_week 30 = .ok (.ifCond .le 6, 3) := by decide +kernel
theorem dX8_week_33 : decode cX8_week 33 = .ok (.bipush (-3), 2) := by decide +kernel
theorem dX8_week_35 : decode cX8_week 35 = .ok (.ireturn, 1) := by decide +kernel
theorem dX8_week_36 : decode cX8_week 36 = .ok (.aload_n 0, 1) := by decide +kernel
theorem dX8_week_37 : decode cX8_week 37 = .ok (.getfield 12, 3) := by decide +kernel
theorem dX8_week_40 : decode cX8_week 40 = .ok (.iload_n 1, 1) := by decide +kernel
theorem dX8_week_41 : decode cX8_week 41 = .ok (.putfield 83, 3) := by decide +kernel
theorem dX8_week_44 : decode cX8_week 44 = .ok (.aload_n 0, 1) := by decide +kernel
theorem dX8_week_45 : decode cX8_week 45 = .ok (.getfield 12, 3) := by decide +kernel
theorem dX8_week_48 : decode cX8_week 48 = .ok (.iload_n 2, 1) := by decide +kernel
theorem dX8_week_49 : decode cX8_week 49 = .ok (.putfield 86, 3) := by decide +kernel
theorem dX8_week_52 : decode cX8_week 52 = .ok (.iconst 1, 1) := by decide +kernel
theorem dX8_week_53 : decode cX8_week 53 = .ok (.ireturn, 1) := by decide +kernel
theorem dX8_day_0 : decode cX8_day 0 = .ok (.iload_n 1, 1) := by decide +kernel
theorem dX8_day_1 : decode cX8_day 1 = .ok (.invokestatic 89, 3) := by decide +kernel
theorem dX8_day_4 : decode cX8_day 4 = .ok (.ifCond .eq 17, 3) := by decide +kernel
theorem dX8_day_7 : decode cX8_day 7 = .ok (.iload_n 2, 1) := by decide +kernel
theorem dX8_day_8 : decode cX8_day 8 = .ok (.ifCond .lt 13, 3) := by decide +kernel
theorem dX8_day_11 : decode cX8_day 11 = .ok (.iload_n 2, 1) := by decide +kernel
theorem dX8_day_12 : decode cX8_day 12 = .ok (.bipush 100, 2) := by decide +kernel
theorem dX8_day_14 : decode cX8_day 14 = .ok (.idiv, 1) := by decide +kernel
theorem dX8_day_15 : decode cX8_day 15 = .ok (.invokestatic 60, 3) := by decide +kernel
theorem dX8_day_18 : decode cX8_day 18 = .ok (.ifCond .ne 5, 3) := by decide +kernel
theorem dX8_day_21 : decode cX8_day 21 = .ok (.iconst (-1), 1) := by decide +kernel
theorem dX8_day_22 : decode cX8_day 22 = .ok (.ireturn, 1) := by decide +kernel
theorem dX8_day_23 : decode cX8_day 23 = .ok (.iload_n 2, 1) := by decide +kernel
theorem dX8_day_24 : decode cX8_day 24 = .ok (.bipush 100, 2) := by decide +kernel
theorem dX8_day_26 : decode cX8_day 26 = .ok (.idiv, 1) := by decide +kernel
theorem dX8_day_27 : decode cX8_day 27 = .ok (.istore_n 3, 1) := by decide +kernel
theorem dX8_day_28 : decode cX8_day 28 = .ok (.iload_n 2, 1) := by decide +kernel
theorem dX8_day_29 : decode cX8_day 29 = .ok (.bipush 100, 2) := by decide +kernel
theorem dX8_day_31 : decode cX8_day 31 = .ok (.irem, 1) := by decide +kernel
theorem dX8_day_32 : decode cX8_day 32 = .ok (.istore 4, 2) := by decide +kernel
theorem dX8_day_34 : decode cX8_day 34 = .ok (.iload 4, 2) := by decide +kernel
theorem dX8_day_36 : decode cX8_day 36 = .ok (.aload_n 0, 1) := by decide +kernel
theorem dX8_day_37 : decode cX8_day 37 = .ok (.getfield 12, 3) := by decide +kernel
theorem dX8_day_40 : decode cX8_day 40 = .ok (.iload_n 1, 1) := by decide +kernel
theorem dX8_day_41 : decode cX8_day 41 = .ok (.iload_n 3, 1) := by decide +kernel
theorem dX8_day_42 : decode cX8_day 42 = .ok (.invokevirtual 92, 3) := by decide +kernel
theorem dX8_day_45 : decode cX8_day 45 = .ok (.if_icmp .lt 5, 3) := by decide +kernel
theorem dX8_day_48 : decode cX8_day 48 = .ok (.iconst (-1), 1) := by decide +kernel
theorem dX8_day_49 : decode cX8_day 49 = .ok (.ireturn, 1) := by decide +kernel
theorem dX8_day_50 : decode cX8_day 50 = .ok (.aload_n 0, 1) := by decide +kernel
theorem dX8_day_51 : decode cX8_day 51 = .ok (.getfield 12, 3) := by decide +kernel
theorem dX8_day_54 : decode cX8_day 54 = .ok (.iload_n 1, 1) := by decide +kernel
theorem dX8_day_55 : decode cX8_day 55 = .ok (.iload_n 3, 1) := by decide +kernel
theorem dX8_day_56 : decode cX8_day 56 = .ok (.invokevirtual 96, 3) := by decide +kernel
theorem dX8_day_59 : decode cX8_day 59 = .ok (.iload 4, 2) := by decide +kernel
theorem dX8_day_61 : decode cX8_day 61 = .ok (.iadd, 1) := by decide +kernel
theorem dX8_day_62 : decode cX8_day 62 = .ok (.ireturn, 1) := by decide +kernel
theorem dX8_date_0 : decode cX8_date 0 = .ok (.aload_n 0, 1) := by decide +kernel
theorem dX8_date_1 : decode cX8_date 1 = .ok (.getfield 12, 3) := by decide +kernel
theorem dX8_date_4 : decode cX8_date 4 = .ok (.iload_n 1, 1) := by decide +kernel
theorem dX8_date_5 : decode cX8_date 5 = .ok (.invokevirtual 99, 3) := by decide +kernel
theorem dX8_date_8 : decode cX8_date 8 = .ok (.ifCond .eq 12, 3) := by decide +kernel
theorem dX8_date_11 : decode cX8_date 11 = .ok (.iload_n 2, 1) := by decide +kernel
theorem dX8_date_12 : decode cX8_date 12 = .ok (.ifCond .lt 8, 3) := by decide +kernel
theorem dX8_date_15 : decode cX8_date 15 = .ok (.iload_n 2, 1) := by decide +kernel
theorem dX8_date_16 : decode cX8_date 16 = .ok (.iconst 3, 1) := by decide +kernel
theorem dX8_date_17 : decode cX8_date 17 = .ok (.if_icmp .le 5, 3) := by decide +kernel
theorem dX8_date_20 : decode cX8_date 20 = .ok (.iconst (-1), 1) := by decide +kernel
theorem dX8_date_21 : decode cX8_date 21 = .ok (.ireturn, 1) := by decide +kernel
theorem dX8_date_22 : decode cX8_date 22 = .ok (.iload_n 2, 1) := by decide +kernel
theorem dX8_date_23 : decode cX8_date 23 = .ok (.iconst 3, 1) := by decide +kernel
theorem dX8_date_24 : decode cX8_date 24 = .ok (.if_icmp .ne 12, 3) := by decide +kernel
theorem dX8_date_27 : decode cX8_date 27 = .ok (.aload_n 0, 1) := by decide +kernel
theorem dX8_date_28 : decode cX8_date 28 = .ok (.getfield 12, 3) := by decide +kernel
theorem dX8_date_31 : decode cX8_date 31 = .ok (.iload_n 1, 1) := by decide +kernel
theorem dX8_date_32 : decode cX8_date 32 = .ok (.invokevirtual 102, 3) := by decide +kernel
theorem dX8_date_35 : decode cX8_date 35 = .ok (.ireturn, 1) := by decide +kernel
theorem dX8_date_36 : decode cX8_date 36 = .ok (.aload_n 0, 1) := by decide +kernel
theorem dX8_date_37 : decode cX8_date 37 = .ok (.getfield 12, 3) := by decide +kernel
theorem dX8_date_40 : decode cX8_date 40 = .ok (.iload_n 1, 1) := by decide +kernel
theorem dX8_date_41 : decode cX8_date 41 = .ok (.invokevirtual 106, 3) := by decide +kernel
theorem dX8_date_44 : decode cX8_date 44 = .ok (.istore_n 3, 1) := by decide +kernel
theorem dX8_date_45 : decode cX8_date 45 = .ok (.iload_n 2, 1) := by decide +kernel
theorem dX8_date_46 : decode cX8_date 46 = .ok (.ifCond .ne 5, 3) := by decide +kernel
theorem dX8_date_49 : decode cX8_date 49 = .ok (.iload_n 3, 1) := by decide +kernel
theorem dX8_date_50 : decode cX8_date 50 = .ok (.ireturn, 1) := by decide +kernel
theorem dX8_date_51 : decode cX8_date 51 = .ok (.aload_n 0, 1) := by decide +kernel
theorem dX8_date_52 : decode cX8_date 52 = .ok (.getfield 12, 3) := by decide +kernel
theorem dX8_date_55 : decode cX8_date 55 = .ok (.iload_n 3, 1) := by decide +kernel
theorem dX8_date_56 : decode cX8_date 56 = .ok (.iload_n 1, 1) := by decide +kernel
theorem dX8_date_57 : decode cX8_date 57 = .ok (.invokevirtual 109, 3) := by decide +kernel
theorem dX8_date_60 : decode cX8_date 60 = .ok (.istore 4, 2) := by decide +kernel
theorem dX8_date_62 : decode cX8_date 62 = .ok (.iload_n 2, 1) := by decide +kernel
theorem dX8_date_63 : decode cX8_date 63 = .ok (.iconst 1, 1) := by decide +kernel
theorem dX8_date_64 : decode cX8_date 64 = .ok (.if_icmp .ne 8, 3) := by decide +kernel
theorem dX8_date_67 : decode cX8_date 67 = .ok (.iload 4, 2) := by decide +kernel
theorem dX8_date_69 : decode cX8_date 69 = .ok (.goto 15, 3) := by decide +kernel
theorem dX8_date_72 : decode cX8_date 72 = .ok (.iload_n 1, 1) := by decide +kernel
theorem dX8_date_73 : decode cX8_date 73 = .ok (.aload_n 0, 1) := by decide +kernel
theorem dX8_date_74 : decode cX8_date 74 = .ok (.getfield 12, 3) := by decide +kernel
theorem dX8_date_77 : decode cX8_date 77 = .ok (.iload_n 3, 1) := by decide +kernel
theorem dX8_date_78 : decode cX8_date 78 = .ok (.iload 4, 2) := by decide +kernel
theorem dX8_date_80 : decode cX8_date 80 = .ok (.invokevirtual 96, 3) := by decide +kernel
theorem dX8_date_83 : decode cX8_date 83 = .ok (.isub, 1) := by decide +kernel
theorem dX8_date_84 : decode cX8_date 84 = .ok (.ireturn, 1) := by decide +kernel
theorem dX8_months_0 : decode cX8_months 0 = .ok (.aload_n 0, 1) := by decide +kernel
theorem dX8_months_1 : decode cX8_months 1 = .ok (.getfield 12, 3) := by decide +kernel
theorem dX8_months_4 : decode cX8_months 4 = .ok (.iload_n 1, 1) := by decide +kernel
theorem dX8_months_5 : decode cX8_months 5 = .ok (.invokevirtual 99, 3) := by decide +kernel
theorem dX8_months_8 : decode cX8_months 8 = .ok (.ifCond .eq 26, 3) := by decide +kernel
theorem dX8_months_11 : decode cX8_months 11 = .ok (.iload_n 2, 1) := by decide +kernel
theorem dX8_months_12 : decode cX8_months 12 = .ok (.sipush (-9999), 3) := by decide +kernel
theorem dX8_months_15 : decode cX8_months 15 = .ok (.if_icmp .lt 19, 3) := by decide +kernel
theorem dX8_months_18 : decode cX8_months 18 = .ok (.iload_n 2, 1) := by decide +kernel
theorem dX8_months_19 : decode cX8_months 19 = .ok (.sipush 9999, 3) := by decide +kernel
theorem dX8_months_22 : decode cX8_months 22 = .ok (.if_icmp .gt 12, 3) := by decide +kernel
theorem dX8_months_25 : decode cX8_months 25 = .ok (.iload_n 3, 1) := by decide +kernel
theorem dX8_months_26 : decode cX8_months 26 = .ok (.ifCond .lt 8, 3) := by decide +kernel
theorem dX8_months_29 : decode cX8_months 29 = .ok (.iload_n 3, 1) := by decide +kernel
theorem dX8_months_30 : decode cX8_months 30 = .ok (.iconst 2, 1) := by decide +kernel
theorem dX8_months_31 : decode cX8_months 31 = .ok (.if_icmp .le 5, 3) := by decide +kernel
theorem dX8_months_34 : decode cX8_months 34 = .ok (.iconst (-1), 1) := by decide +kernel
theorem dX8_months_35 : decode cX8_months 35 = .ok (.ireturn, 1) := by decide +kernel
theorem dX8_months_36 : decode cX8_months 36 = .ok (.aload_n 0, 1) := by decide +kernel
theorem dX8_months_37 : decode cX8_months 37 = .ok (.getfield 12, 3) := by decide +kernel
theorem dX8_months_40 : decode cX8_months 40 = .ok (.iload_n 1, 1) := by decide +kernel
theorem dX8_months_41 : decode cX8_months 41 = .ok (.iload_n 2, 1) := by decide +kernel
theorem dX8_months_42 : decode cX8_months 42 = .ok (.iload_n 3, 1) := by decide +kernel
theorem dX8_months_43 : decode cX8_months 43 = .ok (.invokevirtual 112, 3) := by decide +kernel
theorem dX8_months_46 : decode cX8_months 46 = .ok (.istore 4, 2) := by decide +kernel
theorem dX8_months_48 : decode cX8_months 48 = .ok (.iload 4, 2) := by decide +kernel
theorem dX8_months_50 : decode cX8_months 50 = .ok (.iconst (-1), 1) := by decide +kernel
theorem dX8_months_51 : decode cX8_months 51 = .ok (.if_icmp .ne 8, 3) := by decide +kernel
theorem dX8_months_54 : decode cX8_months 54 = .ok (.bipush (-6), 2) := by decide +kernel
theorem dX8_months_56 : decode cX8_months 56 = .ok (.goto 5, 3) := by decide +kernel
theorem dX8_months_59 : decode cX8_months 59 = .ok (.iload 4, 2) := by decide +kernel
theorem dX8_months_61 : decode cX8_months 61 = .ok (.ireturn, 1) := by decide +kernel
theorem dX8_nth_0 : decode cX8_nth 0 = .ok (.iload_n 1, 1) := by decide +kernel
theorem dX8_nth_1 : decode cX8_nth 1 = .ok (.ifCond .lt 43, 3) := by decide +kernel
theorem dX8_nth_4 : decode cX8_nth 4 = .ok (.iload_n 1, 1) := by decide +kernel
theorem dX8_nth_5 : decode cX8_nth 5 = .ok (.bipush 100, 2) := by decide +kernel
theorem dX8_nth_7 : decode cX8_nth 7 = .ok (.idiv, 1) := by decide +kernel
theorem dX8_nth_8 : decode cX8_nth 8 = .ok (.invokestatic 89, 3) := by decide +kernel
theorem dX8_nth_11 : decode cX8_nth 11 = .ok (.ifCond .eq 33, 3) := by decide +kernel
theorem dX8_nth_14 : decode cX8_nth 14 = .ok (.iload_n 1, 1) := by decide +kernel
theorem dX8_nth_15 : decode cX8_nth 15 = .ok (.bipush 100, 2) := by decide +kernel
theorem dX8_nth_17 : decode cX8_nth 17 = .ok (.irem, 1) := by decide +kernel
theorem dX8_nth_18 : decode cX8_nth 18 = .ok (.invokestatic 60, 3) := by decide +kernel
theorem dX8_nth_21 : decode cX8_nth 21 = .ok (.ifCond .eq 23, 3) := by decide +kernel
theorem dX8_nth_24 : decode cX8_nth 24 = .ok (.aload_n 0, 1) := by decide +kernel
theorem dX8_nth_25 : decode cX8_nth 25 = .ok (.getfield 12, 3) := by decide +kernel
theorem dX8_nth_28 : decode cX8_nth 28 = .ok (.iload_n 2, 1) := by decide +kernel
theorem dX8_nth_29 : decode cX8_nth 29 = .ok (.invokevirtual 116, 3) := by decide +kernel
theorem dX8_nth_32 : decode cX8_nth 32 = .ok (.ifCond .eq 12, 3) := by decide +kernel
theorem dX8_nth_35 : decode cX8_nth 35 = .ok (.iload_n 3, 1) := by decide +kernel
theorem dX8_nth_36 : decode cX8_nth 36 = .ok (.ifCond .lt 8, 3) := by decide +kernel
theorem dX8_nth_39 : decode cX8_nth 39 = .ok (.iload_n 3, 1) := by decide +kernel
theorem dX8_nth_40 : decode cX8_nth 40 = .ok (.iconst 4, 1) := by decide +kernel
theorem dX8_nth_41 : decode cX8_nth 41 = .ok (.if_icmp .le 5, 3) := by decide +kernel
theorem dX8_nth_44 : decode cX8_nth 44 = .ok (.iconst (-1), 1) := by decide +kernel
theorem dX8_nth_45 : decode cX8_nth 45 = .ok (.ireturn, 1) := by decide +kernel
theorem dX8_nth_46 : decode cX8_nth 46 = .ok (.aload_n 0, 1) := by decide +kernel
theorem dX8_nth_47 : decode cX8_nth 47 = .ok (.getfield 12, 3) := by decide +kernel
theorem dX8_nth_50 : decode cX8_nth 50 = .ok (.iload_n 1, 1) := by decide +kernel
theorem dX8_nth_51 : decode cX8_nth 51 = .ok (.bipush 100, 2) := by decide +kernel
theorem dX8_nth_53 : decode cX8_nth 53 = .ok (.idiv, 1) := by decide +kernel
theorem dX8_nth_54 : decode cX8_nth 54 = .ok (.iload_n 1, 1) := by decide +kernel
theorem dX8_nth_55 : decode cX8_nth 55 = .ok (.bipush 100, 2) := by decide +kernel
theorem dX8_nth_57 : decode cX8_nth 57 = .ok (.irem, 1) := by decide +kernel
theorem dX8_nth_58 : decode cX8_nth 58 = .ok (.iload_n 2, 1) := by decide +kernel
theorem dX8_nth_59 : decode cX8_nth 59 = .ok (.iload_n 3, 1) := by decide +kernel
theorem dX8_nth_60 : decode cX8_nth 60 = .ok (.invokevirtual 119, 3) := by decide +kernel
theorem dX8_nth_63 : decode cX8_nth 63 = .ok (.istore 4, 2) := by decide +kernel
theorem dX8_nth_65 : decode cX8_nth 65 = .ok (.iload 4, 2) := by decide +kernel
theorem dX8_nth_67 : decode cX8_nth 67 = .ok (.iconst (-1), 1) := by decide +kernel
theorem dX8_nth_68 : decode cX8_nth 68 = .ok (.if_icmp .ne 8, 3) := by decide +kernel
theorem dX8_nth_71 : decode cX8_nth 71 = .ok (.bipush (-6), 2) := by decide +kernel
theorem dX8_nth_73 : decode cX8_nth 73 = .ok (.goto 5, 3) := by decide +kernel
theorem dX8_nth_76 : decode cX8_nth 76 = .ok (.iload 4, 2) := by decide +kernel
theorem dX8_nth_78 : decode cX8_nth 78 = .ok (.ireturn, 1) := by decide +kernel
theorem dX8_zone_0 : decode cX8_zone 0 = .ok (.iload_n 1, 1) := by decide +kernel
theorem dX8_zone_1 : decode cX8_zone 1 = .ok (.invokestatic 123, 3) := by decide +kernel
theorem dX8_zone_4 : decode cX8_zone 4 = .ok (.ifCond .ne 5, 3) := by decide +kernel
theorem dX8_zone_7 : decode cX8_zone 7 = .ok (.iconst (-1), 1) := by decide +kernel
theorem dX8_zone_8 : decode cX8_zone 8 = .ok (.ireturn, 1) := by decide +kernel
theorem dX8_zone_9 : decode cX8_zone 9 = .ok (.aload_n 0, 1) := by decide +kernel
theorem dX8_zone_10 : decode cX8_zone 10 = .ok (.getfield 19, 3) := by decide +kernel
theorem dX8_zone_13 : decode cX8_zone 13 = .ok (.getfield 64, 3) := by decide +kernel
theorem dX8_zone_16 : decode cX8_zone 16 = .ok (.iconst 5, 1) := by decide +kernel
theorem dX8_zone_17 : decode cX8_zone 17 = .ok (.if_icmp .lt 6, 3) := by decide +kernel
theorem dX8_zone_20 : decode cX8_zone 20 = .ok (.bipush (-2), 2) := by decide +kernel
theorem dX8_zone_22 : decode cX8_zone 22 = .ok (.ireturn, 1) := by decide +kernel
theorem dX8_zone_23 : decode cX8_zone 23 = .ok (.aload_n 0, 1) := by decide +kernel
theorem dX8_zone_24 : decode cX8_zone 24 = .ok (.getfield 33, 3) := by decide +kernel
theorem dX8_zone_27 : decode cX8_zone 27 = .ok (.invokevirtual 126, 3) := by decide +kernel
theorem dX8_zone_30 : decode cX8_zone 30 = .ok (.aload_n 0, 1) := by decide +kernel
theorem dX8_zone_31 : decode cX8_zone 31 = .ok (.getfield 19, 3) := by decide +kernel
theorem dX8_zone_34 : decode cX8_zone 34 = .ok (.iload_n 1, 1) := by decide +kernel
theorem dX8_zone_35 : decode cX8_zone 35 = .ok (.invokevirtual 129, 3) := by decide +kernel
theorem dX8_zone_38 : decode cX8_zone 38 = .ok (.ireturn, 1) := by decide +kernel
theorem dX8_rule_0 : decode cX8_rule 0 = .ok (.aload_n 0, 1) := by decide +kernel
theorem dX8_rule_1 : decode cX8_rule 1 = .ok (.getfield 19, 3) := by decide +kernel
theorem dX8_rule_4 : decode cX8_rule 4 = .ok (.iload_n 1, 1) := by decide +kernel
theorem dX8_rule_5 : decode cX8_rule 5 = .ok (.invokevirtual 132, 3) := by decide +kernel
theorem dX8_rule_8 : decode cX8_rule 8 = .ok (.astore 6, 2) := by decide +kernel
theorem dX8_rule_10 : decode cX8_rule 10 = .ok (.aload 6, 2) := by decide +kernel
theorem dX8_rule_12 : decode cX8_rule 12 = .ok (.ifnull 27, 3) := by decide +kernel
theorem dX8_rule_15 : decode cX8_rule 15 = .ok (.iload_n 2, 1) := by decide +kernel
theorem dX8_rule_16 : decode cX8_rule 16 = .ok (.ifCond .lt 23, 3) := by decide +kernel
theorem dX8_rule_19 : decode cX8_rule 19 = .ok (.iload_n 2, 1) := by decide +kernel
theorem dX8_rule_20 : decode cX8_rule 20 = .ok (.bipush 100, 2) := by decide +kernel
theorem dX8_rule_22 : decode cX8_rule 22 = .ok (.idiv, 1) := by decide +kernel
theorem dX8_rule_23 : decode cX8_rule 23 = .ok (.bipush 100, 2) := by decide +kernel
theorem dX8_rule_25 : decode cX8_rule 25 = .ok (.if_icmp .ge 14, 3) := by decide +kernel
theorem dX8_rule_28 : decode cX8_rule 28 = .ok (.iload_n 2, 1) := by decide +kernel
theorem dX8_rule_29 : decode cX8_rule 29 = .ok (.bipush 100, 2) := by decide +kernel
theorem dX8_rule_31 : decode cX8_rule 31 = .ok (.idiv, 1) := by decide +kernel
theorem dX8_rule_32 : decode cX8_rule 32 = .ok (.iload_n 2, 1) := by decide +kernel
theorem dX8_rule_33 : decode cX8_rule 33 = .ok (.bipush 100, 2) := by decide +kernel
theorem dX8_rule_35 : decode cX8_rule 35 = .ok (.irem, 1) := by decide +kernel
theorem dX8_rule_36 : decode cX8_rule 36 = .ok (.if_icmp .le 5, 3) := by decide +kernel
theorem dX8_rule_39 : decode cX8_rule 39 = .ok (.iconst (-1), 1) := by decide +kernel
theorem dX8_rule_40 : decode cX8_rule 40 = .ok (.ireturn, 1) := by decide +kernel
theorem dX8_rule_41 : decode cX8_rule 41 = .ok (.iload_n 3, 1) := by decide +kernel
theorem dX8_rule_42 : decode cX8_rule 42 = .ok (.sipush 1000, 3) := by decide +kernel
theorem dX8_rule_45 : decode cX8_rule 45 = .ok (.idiv, 1) := by decide +kernel
theorem dX8_rule_46 : decode cX8_rule 46 = .ok (.istore 7, 2) := by decide +kernel
theorem dX8_rule_48 : decode cX8_rule 48 = .ok (.iload_n 3, 1) := by decide +kernel
theorem dX8_rule_49 : decode cX8_rule 49 = .ok (.bipush 10, 2) := by decide +kernel
theorem dX8_rule_51 : decode cX8_rule 51 = .ok (.idiv, 1) := by decide +kernel
theorem dX8_rule_52 : decode cX8_rule 52 = .ok (.bipush 100, 2) := by decide +kernel
theorem dX8_rule_54 : decode cX8_rule 54 = .ok (.irem, 1) := by decide +kernel
theorem dX8_rule_55 : decode cX8_rule 55 = .ok (.istore 8, 2) := by decide +kernel
theorem dX8_rule_57 : decode cX8_rule 57 = .ok (.iload_n 3, 1) := by decide +kernel
theorem dX8_rule_58 : decode cX8_rule 58 = .ok (.bipush 10, 2) := by decide +kernel
theorem dX8_rule_60 : decode cX8_rule 60 = .ok (.irem, 1) := by decide +kernel
theorem dX8_rule_61 : decode cX8_rule 61 = .ok (.istore 9, 2) := by decide +kernel
theorem dX8_rule_63 : decode cX8_rule 63 = .ok (.iload_n 3, 1) := by decide +kernel
theorem dX8_rule_64 : decode cX8_rule 64 = .ok (.ifCond .lt 45, 3) := by decide +kernel
theorem dX8_rule_67 : decode cX8_rule 67 = .ok (.iload 7, 2) := by decide +kernel
theorem dX8_rule_69 : decode cX8_rule 69 = .ok (.invokestatic 60, 3) := by decide +kernel
theorem dX8_rule_72 : decode cX8_rule 72 = .ok (.ifCond .eq 37, 3) := by decide +kernel
theorem dX8_rule_75 : decode cX8_rule 75 = .ok (.aload_n 0, 1) := by decide +kernel
theorem dX8_rule_76 : decode cX8_rule 76 = .ok (.getfield 12, 3) := by decide +kernel
theorem dX8_rule_79 : decode cX8_rule 79 = .ok (.iload 8, 2) := by decide +kernel
theorem dX8_rule_81 : decode cX8_rule 81 = .ok (.invokevirtual 116, 3) := by decide +kernel
theorem dX8_rule_84 : decode cX8_rule 84 = .ok (.ifCond .eq 25, 3) := by decide +kernel
theorem dX8_rule_87 : decode cX8_rule 87 = .ok (.iload 9, 2) := by decide +kernel
theorem dX8_rule_89 : decode cX8_rule 89 = .ok (.iconst 4, 1) := by decide +kernel
theorem dX8_rule_90 : decode cX8_rule 90 = .ok (.if_icmp .gt 19, 3) := by decide +kernel
theorem dX8_rule_93 : decode cX8_rule 93 = .ok (.iload 4, 2) := by decide +kernel
theorem dX8_rule_95 : decode cX8_rule 95 = .ok (.invokestatic 136, 3) := by decide +kernel
theorem dX8_rule_98 : decode cX8_rule 98 = .ok (.ifCond .eq 11, 3) := by decide +kernel
theorem dX8_rule_101 : decode cX8_rule 101 = .ok (.iload 5, 2) := by decide +kernel
theorem dX8_rule_103 : decode cX8_rule 103 = .ok (.invokestatic 123, 3) := by decide +kernel
theorem dX8_rule_106 : decode cX8_rule 106 = .ok (.ifCond .ne 5, 3) := by decide +kernel
theorem dX8_rule_109 : decode cX8_rule 109 = .ok (.iconst (-1), 1) := by decide +kernel
theorem dX8_rule_110 : decode cX8_rule 110 = .ok (.ireturn, 1) := by decide +kernel
theorem dX8_rule_111 : decode cX8_rule 111 = .ok (.aload 6, 2) := by decide +kernel
theorem dX8_rule_113 : decode cX8_rule 113 = .ok (.getfield 139, 3) := by decide +kernel
theorem dX8_rule_116 : decode cX8_rule 116 = .ok (.bipush 8, 2) := by decide +kernel
theorem dX8_rule_118 : decode cX8_rule 118 = .ok (.if_icmp .lt 6, 3) := by decide +kernel
theorem dX8_rule_121 : decode cX8_rule 121 = .ok (.bipush (-2), 2) := by decide +kernel
theorem dX8_rule_123 : decode cX8_rule 123 = .ok (.ireturn, 1) := by decide +kernel
theorem dX8_rule_124 : decode cX8_rule 124 = .ok (.aload 6, 2) := by decide +kernel
theorem dX8_rule_126 : decode cX8_rule 126 = .ok (.aload_n 0, 1) := by decide +kernel
theorem dX8_rule_127 : decode cX8_rule 127 = .ok (.getfield 144, 3) := by decide +kernel
theorem dX8_rule_130 : decode cX8_rule 130 = .ok (.iload 5, 2) := by decide +kernel
theorem dX8_rule_132 : decode cX8_rule 132 = .ok (.invokevirtual 147, 3) := by decide +kernel
theorem dX8_rule_135 : decode cX8_rule 135 = .ok (.istore 10, 2) := by decide +kernel
theorem dX8_rule_137 : decode cX8_rule 137 = .ok (.iload_n 2, 1) := by decide +kernel
theorem dX8_rule_138 : decode cX8_rule 138 = .ok (.bipush 100, 2) := by decide +kernel
theorem dX8_rule_140 : decode cX8_rule 140 = .ok (.idiv, 1) := by decide +kernel
theorem dX8_rule_141 : decode cX8_rule 141 = .ok (.istore 11, 2) := by decide +kernel
theorem dX8_rule_143 : decode cX8_rule 143 = .ok (.iload 11, 2) := by decide +kernel
theorem dX8_rule_145 : decode cX8_rule 145 = .ok (.iload_n 2, 1) := by decide +kernel
theorem dX8_rule_146 : decode cX8_rule 146 = .ok (.bipush 100, 2) := by decide +kernel
theorem dX8_rule_148 : decode cX8_rule 148 = .ok (.irem, 1) := by decide +kernel
theorem dX8_rule_149 : decode cX8_rule 149 = .ok (.if_icmp .gt 55, 3) := by decide +kernel
theorem dX8_rule_152 : decode cX8_rule 152 = .ok (.aload_n 0, 1) := by decide +kernel
theorem dX8_rule_153 : decode cX8_rule 153 = .ok (.getfield 12, 3) := by decide +kernel
theorem dX8_rule_156 : decode cX8_rule 156 = .ok (.iload 11, 2) := by decide +kernel
theorem dX8_rule_158 : decode cX8_rule 158 = .ok (.iload 7, 2) := by decide +kernel
theorem dX8_rule_160 : decode cX8_rule 160 = .ok (.iload 8, 2) := by decide +kernel
theorem dX8_rule_162 : decode cX8_rule 162 = .ok (.iload 9, 2) := by decide +kernel
theorem dX8_rule_164 : decode cX8_rule 164 = .ok (.invokevirtual 119, 3) := by decide +kernel
theorem dX8_rule_167 : decode cX8_rule 167 = .ok (.istore 12, 2) := by decide +kernel
theorem dX8_rule_169 : decode cX8_rule 169 = .ok (.iload 12, 2) := by decide +kernel
theorem dX8_rule_171 : decode cX8_rule 171 = .ok (.iconst (-1), 1) := by decide +kernel
theorem dX8_rule_172 : decode cX8_rule 172 = .ok (.if_icmp .eq 26, 3) := by decide +kernel
theorem dX8_rule_175 : decode cX8_rule 175 = .ok (.aload 6, 2) := by decide +kernel
theorem dX8_rule_177 : decode cX8_rule 177 = .ok (.getfield 150, 3) := by decide +kernel
theorem dX8_rule_180 : decode cX8_rule 180 = .ok (.iload 10, 2) := by decide +kernel
theorem dX8_rule_182 : decode cX8_rule 182 = .ok (.bipush 100, 2) := by decide +kernel
theorem dX8_rule_184 : decode cX8_rule 184 = .ok (.imul, 1) := by decide +kernel
theorem dX8_rule_185 : decode cX8_rule 185 = .ok (.iload 11, 2) := by decide +kernel
theorem dX8_rule_187 : decode cX8_rule 187 = .ok (.iadd, 1) := by decide +kernel
theorem dX8_rule_188 : decode cX8_rule 188 = .ok (.iload 12, 2) := by decide +kernel
theorem dX8_rule_190 : decode cX8_rule 190 = .ok (.sipush 1440, 3) := by decide +kernel
theorem dX8_rule_193 : decode cX8_rule 193 = .ok (.imul, 1) := by decide +kernel
theorem dX8_rule_194 : decode cX8_rule 194 = .ok (.iload 4, 2) := by decide +kernel
theorem dX8_rule_196 : decode cX8_rule 196 = .ok (.iadd, 1) := by decide +kernel
theorem dX8_rule_197 : decode cX8_rule 197 = .ok (.iastore, 1) := by decide +kernel
theorem dX8_rule_198 : decode cX8_rule 198 = .ok (.iinc 11 1, 3) := by decide +kernel
theorem dX8_rule_201 : decode cX8_rule 201 = .ok (.goto (-58), 3) := by decide +kernel
theorem dX8_rule_204 : decode cX8_rule 204 = .ok (.aload_n 0, 1) := by decide +kernel
theorem dX8_rule_205 : decode cX8_rule 205 = .ok (.getfield 33, 3) := by decide +kernel
theorem dX8_rule_208 : decode cX8_rule 208 = .ok (.invokevirtual 126, 3) := by decide +kernel
theorem dX8_rule_211 : decode cX8_rule 211 = .ok (.aload 6, 2) := by decide +kernel
theorem dX8_rule_213 : decode cX8_rule 213 = .ok (.getfield 139, 3) := by decide +kernel
theorem dX8_rule_216 : decode cX8_rule 216 = .ok (.ireturn, 1) := by decide +kernel
theorem dX8_today_0 : decode cX8_today 0 = .ok (.iload_n 1, 1) := by decide +kernel
theorem dX8_today_1 : decode cX8_today 1 = .ok (.aload_n 0, 1) := by decide +kernel
theorem dX8_today_2 : decode cX8_today 2 = .ok (.getfield 144, 3) := by decide +kernel
theorem dX8_today_5 : decode cX8_today 5 = .ok (.if_icmp .lt 9, 3) := by decide +kernel
theorem dX8_today_8 : decode cX8_today 8 = .ok (.iload_n 1, 1) := by decide +kernel
theorem dX8_today_9 : decode cX8_today 9 = .ok (.ldc 55, 2) := by decide +kernel
theorem dX8_today_11 : decode cX8_today 11 = .ok (.if_icmp .le 5, 3) := by decide +kernel
theorem dX8_today_14 : decode cX8_today 14 = .ok (.iconst (-1), 1) := by decide +kernel
theorem dX8_today_15 : decode cX8_today 15 = .ok (.ireturn, 1) := by decide +kernel
theorem dX8_today_16 : decode cX8_today 16 = .ok (.aload_n 0, 1) := by decide +kernel
theorem dX8_today_17 : decode cX8_today 17 = .ok (.getfield 144, 3) := by decide +kernel
theorem dX8_today_20 : decode cX8_today 20 = .ok (.istore_n 2, 1) := by decide +kernel
theorem dX8_today_21 : decode cX8_today 21 = .ok (.aload_n 0, 1) := by decide +kernel
theorem dX8_today_22 : decode cX8_today 22 = .ok (.iload_n 1, 1) := by decide +kernel
theorem dX8_today_23 : decode cX8_today 23 = .ok (.putfield 144, 3) := by decide +kernel
theorem dX8_today_26 : decode cX8_today 26 = .ok (.iload_n 2, 1) := by decide +kernel
theorem dX8_today_27 : decode cX8_today 27 = .ok (.ireturn, 1) := by decide +kernel
theorem dX8_known_0 : decode cX8_known 0 = .ok (.iload_n 1, 1) := by decide +kernel
theorem dX8_known_1 : decode cX8_known 1 = .ok (.ifCond .lt 9, 3) := by decide +kernel
theorem dX8_known_4 : decode cX8_known 4 = .ok (.iload_n 1, 1) := by decide +kernel
theorem dX8_known_5 : decode cX8_known 5 = .ok (.ldc 55, 2) := by decide +kernel
theorem dX8_known_7 : decode cX8_known 7 = .ok (.if_icmp .le 5, 3) := by decide +kernel
theorem dX8_known_10 : decode cX8_known 10 = .ok (.iconst (-1), 1) := by decide +kernel
theorem dX8_known_11 : decode cX8_known 11 = .ok (.ireturn, 1) := by decide +kernel
theorem dX8_known_12 : decode cX8_known 12 = .ok (.aload_n 0, 1) := by decide +kernel
theorem dX8_known_13 : decode cX8_known 13 = .ok (.getfield 56, 3) := by decide +kernel
theorem dX8_known_16 : decode cX8_known 16 = .ok (.istore_n 2, 1) := by decide +kernel
theorem dX8_known_17 : decode cX8_known 17 = .ok (.aload_n 0, 1) := by decide +kernel
theorem dX8_known_18 : decode cX8_known 18 = .ok (.iload_n 1, 1) := by decide +kernel
theorem dX8_known_19 : decode cX8_known 19 = .ok (.putfield 56, 3) := by decide +kernel
theorem dX8_known_22 : decode cX8_known 22 = .ok (.aload_n 0, 1) := by decide +kernel
theorem dX8_known_23 : decode cX8_known 23 = .ok (.getfield 33, 3) := by decide +kernel
theorem dX8_known_26 : decode cX8_known 26 = .ok (.invokevirtual 126, 3) := by decide +kernel
theorem dX8_known_29 : decode cX8_known 29 = .ok (.iload_n 2, 1) := by decide +kernel
theorem dX8_known_30 : decode cX8_known 30 = .ok (.ireturn, 1) := by decide +kernel
theorem dX8_changes_0 : decode cX8_changes 0 = .ok (.aload_n 0, 1) := by decide +kernel
theorem dX8_changes_1 : decode cX8_changes 1 = .ok (.iload_n 1, 1) := by decide +kernel
theorem dX8_changes_2 : decode cX8_changes 2 = .ok (.invokevirtual 153, 3) := by decide +kernel
theorem dX8_changes_5 : decode cX8_changes 5 = .ok (.astore_n 2, 1) := by decide +kernel
theorem dX8_changes_6 : decode cX8_changes 6 = .ok (.aload_n 2, 1) := by decide +kernel
theorem dX8_changes_7 : decode cX8_changes 7 = .ok (.ifnonnull 7, 3) := by decide +kernel
theorem dX8_changes_10 : decode cX8_changes 10 = .ok (.iconst (-1), 1) := by decide +kernel
