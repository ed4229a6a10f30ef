theorem dX9_runs_7 : decode cX9_runs 7 = .ok (.iconst 0, 1) := by decide +kernel
theorem dX9_runs_8 : decode cX9_runs 8 = .ok (.istore_n 3, 1) := by decide +kernel
theorem dX9_runs_9 : decode cX9_runs 9 = .ok (.iload_n 3, 1) := by decide +kernel
theorem dX9_runs_10 : decode cX9_runs 10 = .ok (.aload_n 0, 1) := by decide +kernel
theorem dX9_runs_11 : decode cX9_runs 11 = .ok (.getfield 200, 3) := by decide +kernel
theorem dX9_runs_14 : decode cX9_runs 14 = .ok (.if_icmp .ge 20, 3) := by decide +kernel
theorem dX9_runs_17 : decode cX9_runs 17 = .ok (.iload_n 2, 1) := by decide +kernel
theorem dX9_runs_18 : decode cX9_runs 18 = .ok (.ifCond .eq 16, 3) := by decide +kernel
theorem dX9_runs_21 : decode cX9_runs 21 = .ok (.aload_n 0, 1) := by decide +kernel
theorem dX9_runs_22 : decode cX9_runs 22 = .ok (.iload_n 3, 1) := by decide +kernel
theorem dX9_runs_23 : decode cX9_runs 23 = .ok (.iload_n 1, 1) := by decide +kernel
theorem dX9_runs_24 : decode cX9_runs 24 = .ok (.invokevirtual 249, 3) := by decide +kernel
theorem dX9_runs_27 : decode cX9_runs 27 = .ok (.istore_n 2, 1) := by decide +kernel
theorem dX9_runs_28 : decode cX9_runs 28 = .ok (.iinc 3 1, 3) := by decide +kernel
theorem dX9_runs_31 : decode cX9_runs 31 = .ok (.goto (-22), 3) := by decide +kernel
theorem dX9_runs_34 : decode cX9_runs 34 = .ok (.iload_n 2, 1) := by decide +kernel
theorem dX9_runs_35 : decode cX9_runs 35 = .ok (.ireturn, 1) := by decide +kernel
theorem dX9_run_0 : decode cX9_run 0 = .ok (.iload_n 1, 1) := by decide +kernel
theorem dX9_run_1 : decode cX9_run 1 = .ok (.invokestatic 194, 3) := by decide +kernel
theorem dX9_run_4 : decode cX9_run 4 = .ok (.ifCond .eq 10, 3) := by decide +kernel
theorem dX9_run_7 : decode cX9_run 7 = .ok (.iload_n 2, 1) := by decide +kernel
theorem dX9_run_8 : decode cX9_run 8 = .ok (.invokestatic 179, 3) := by decide +kernel
theorem dX9_run_11 : decode cX9_run 11 = .ok (.ifCond .ne 6, 3) := by decide +kernel
theorem dX9_run_14 : decode cX9_run 14 = .ok (.ldc 252, 2) := by decide +kernel
theorem dX9_run_16 : decode cX9_run 16 = .ok (.ireturn, 1) := by decide +kernel
theorem dX9_run_17 : decode cX9_run 17 = .ok (.aload_n 0, 1) := by decide +kernel
theorem dX9_run_18 : decode cX9_run 18 = .ok (.iload_n 1, 1) := by decide +kernel
theorem dX9_run_19 : decode cX9_run 19 = .ok (.invokevirtual 219, 3) := by decide +kernel
theorem dX9_run_22 : decode cX9_run 22 = .ok (.aload_n 0, 1) := by decide +kernel
theorem dX9_run_23 : decode cX9_run 23 = .ok (.invokevirtual 222, 3) := by decide +kernel
theorem dX9_run_26 : decode cX9_run 26 = .ok (.bipush (-6), 2) := by decide +kernel
theorem dX9_run_28 : decode cX9_run 28 = .ok (.if_icmp .ne 20, 3) := by decide +kernel
theorem dX9_run_31 : decode cX9_run 31 = .ok (.aload_n 0, 1) := by decide +kernel
theorem dX9_run_32 : decode cX9_run 32 = .ok (.iload_n 2, 1) := by decide +kernel
theorem dX9_run_33 : decode cX9_run 33 = .ok (.invokevirtual 253, 3) := by decide +kernel
theorem dX9_run_36 : decode cX9_run 36 = .ok (.ifCond .eq 12, 3) := by decide +kernel
theorem dX9_run_39 : decode cX9_run 39 = .ok (.aload_n 0, 1) := by decide +kernel
theorem dX9_run_40 : decode cX9_run 40 = .ok (.getfield 100, 3) := by decide +kernel
theorem dX9_run_43 : decode cX9_run 43 = .ok (.iconst 0, 1) := by decide +kernel
theorem dX9_run_44 : decode cX9_run 44 = .ok (.iaload, 1) := by decide +kernel
theorem dX9_run_45 : decode cX9_run 45 = .ok (.goto 5, 3) := by decide +kernel
theorem dX9_run_48 : decode cX9_run 48 = .ok (.ldc 252, 2) := by decide +kernel
theorem dX9_run_50 : decode cX9_run 50 = .ok (.ireturn, 1) := by decide +kernel
theorem dX9_isLaw_0 : decode cX9_isLaw 0 = .ok (.iload_n 1, 1) := by decide +kernel
theorem dX9_isLaw_1 : decode cX9_isLaw 1 = .ok (.ifCond .ge 5, 3) := by decide +kernel
theorem dX9_isLaw_4 : decode cX9_isLaw 4 = .ok (.iconst 0, 1) := by decide +kernel
theorem dX9_isLaw_5 : decode cX9_isLaw 5 = .ok (.ireturn, 1) := by decide +kernel
theorem dX9_isLaw_6 : decode cX9_isLaw 6 = .ok (.iload_n 1, 1) := by decide +kernel
theorem dX9_isLaw_7 : decode cX9_isLaw 7 = .ok (.bipush 10, 2) := by decide +kernel
theorem dX9_isLaw_9 : decode cX9_isLaw 9 = .ok (.irem, 1) := by decide +kernel
theorem dX9_isLaw_10 : decode cX9_isLaw 10 = .ok (.tableswitch 113 0 4 #[34, 47, 75, 34, 96], 34) := by decide +kernel
theorem dX9_isLaw_44 : decode cX9_isLaw 44 = .ok (.iload_n 1, 1) := by decide +kernel
theorem dX9_isLaw_45 : decode cX9_isLaw 45 = .ok (.bipush 10, 2) := by decide +kernel
theorem dX9_isLaw_47 : decode cX9_isLaw 47 = .ok (.idiv, 1) := by decide +kernel
theorem dX9_isLaw_48 : decode cX9_isLaw 48 = .ok (.ifCond .ne 7, 3) := by decide +kernel
theorem dX9_isLaw_51 : decode cX9_isLaw 51 = .ok (.iconst 1, 1) := by decide +kernel
theorem dX9_isLaw_52 : decode cX9_isLaw 52 = .ok (.goto 4, 3) := by decide +kernel
theorem dX9_isLaw_55 : decode cX9_isLaw 55 = .ok (.iconst 0, 1) := by decide +kernel
theorem dX9_isLaw_56 : decode cX9_isLaw 56 = .ok (.ireturn, 1) := by decide +kernel
theorem dX9_isLaw_57 : decode cX9_isLaw 57 = .ok (.aload_n 0, 1) := by decide +kernel
theorem dX9_isLaw_58 : decode cX9_isLaw 58 = .ok (.iload_n 1, 1) := by decide +kernel
theorem dX9_isLaw_59 : decode cX9_isLaw 59 = .ok (.bipush 10, 2) := by decide +kernel
theorem dX9_isLaw_61 : decode cX9_isLaw 61 = .ok (.idiv, 1) := by decide +kernel
theorem dX9_isLaw_62 : decode cX9_isLaw 62 = .ok (.invokevirtual 162, 3) := by decide +kernel
theorem dX9_isLaw_65 : decode cX9_isLaw 65 = .ok (.ifCond .eq 18, 3) := by decide +kernel
theorem dX9_isLaw_68 : decode cX9_isLaw 68 = .ok (.iload_n 2, 1) := by decide +kernel
theorem dX9_isLaw_69 : decode cX9_isLaw 69 = .ok (.iconst 0, 1) := by decide +kernel
theorem dX9_isLaw_70 : decode cX9_isLaw 70 = .ok (.sipush 1439, 3) := by decide +kernel
theorem dX9_isLaw_73 : decode cX9_isLaw 73 = .ok (.invokestatic 131, 3) := by decide +kernel
theorem dX9_isLaw_76 : decode cX9_isLaw 76 = .ok (.ifCond .eq 7, 3) := by decide +kernel
theorem dX9_isLaw_79 : decode cX9_isLaw 79 = .ok (.iconst 1, 1) := by decide +kernel
theorem dX9_isLaw_80 : decode cX9_isLaw 80 = .ok (.goto 4, 3) := by decide +kernel
theorem dX9_isLaw_83 : decode cX9_isLaw 83 = .ok (.iconst 0, 1) := by decide +kernel
theorem dX9_isLaw_84 : decode cX9_isLaw 84 = .ok (.ireturn, 1) := by decide +kernel
theorem dX9_isLaw_85 : decode cX9_isLaw 85 = .ok (.aload_n 0, 1) := by decide +kernel
theorem dX9_isLaw_86 : decode cX9_isLaw 86 = .ok (.iload_n 1, 1) := by decide +kernel
theorem dX9_isLaw_87 : decode cX9_isLaw 87 = .ok (.bipush 10, 2) := by decide +kernel
theorem dX9_isLaw_89 : decode cX9_isLaw 89 = .ok (.idiv, 1) := by decide +kernel
theorem dX9_isLaw_90 : decode cX9_isLaw 90 = .ok (.invokevirtual 162, 3) := by decide +kernel
theorem dX9_isLaw_93 : decode cX9_isLaw 93 = .ok (.ifCond .eq 11, 3) := by decide +kernel
theorem dX9_isLaw_96 : decode cX9_isLaw 96 = .ok (.iload_n 2, 1) := by decide +kernel
theorem dX9_isLaw_97 : decode cX9_isLaw 97 = .ok (.ifCond .ne 7, 3) := by decide +kernel
theorem dX9_isLaw_100 : decode cX9_isLaw 100 = .ok (.iconst 1, 1) := by decide +kernel
theorem dX9_isLaw_101 : decode cX9_isLaw 101 = .ok (.goto 4, 3) := by decide +kernel
theorem dX9_isLaw_104 : decode cX9_isLaw 104 = .ok (.iconst 0, 1) := by decide +kernel
theorem dX9_isLaw_105 : decode cX9_isLaw 105 = .ok (.ireturn, 1) := by decide +kernel
theorem dX9_isLaw_106 : decode cX9_isLaw 106 = .ok (.iload_n 1, 1) := by decide +kernel
theorem dX9_isLaw_107 : decode cX9_isLaw 107 = .ok (.bipush 10, 2) := by decide +kernel
theorem dX9_isLaw_109 : decode cX9_isLaw 109 = .ok (.idiv, 1) := by decide +kernel
theorem dX9_isLaw_110 : decode cX9_isLaw 110 = .ok (.ifCond .ne 11, 3) := by decide +kernel
theorem dX9_isLaw_113 : decode cX9_isLaw 113 = .ok (.iload_n 2, 1) := by decide +kernel
theorem dX9_isLaw_114 : decode cX9_isLaw 114 = .ok (.ifCond .ne 7, 3) := by decide +kernel
theorem dX9_isLaw_117 : decode cX9_isLaw 117 = .ok (.iconst 1, 1) := by decide +kernel
theorem dX9_isLaw_118 : decode cX9_isLaw 118 = .ok (.goto 4, 3) := by decide +kernel
theorem dX9_isLaw_121 : decode cX9_isLaw 121 = .ok (.iconst 0, 1) := by decide +kernel
theorem dX9_isLaw_122 : decode cX9_isLaw 122 = .ok (.ireturn, 1) := by decide +kernel
theorem dX9_isLaw_123 : decode cX9_isLaw 123 = .ok (.iconst 0, 1) := by decide +kernel
theorem dX9_isLaw_124 : decode cX9_isLaw 124 = .ok (.ireturn, 1) := by decide +kernel
theorem dX9_wallOf_0 : decode cX9_wallOf 0 = .ok (.iload_n 2, 1) := by decide +kernel
theorem dX9_wallOf_1 : decode cX9_wallOf 1 = .ok (.aload_n 0, 1) := by decide +kernel
theorem dX9_wallOf_2 : decode cX9_wallOf 2 = .ok (.iload_n 1, 1) := by decide +kernel
theorem dX9_wallOf_3 : decode cX9_wallOf 3 = .ok (.iload_n 2, 1) := by decide +kernel
theorem dX9_wallOf_4 : decode cX9_wallOf 4 = .ok (.invokevirtual 182, 3) := by decide +kernel
theorem dX9_wallOf_7 : decode cX9_wallOf 7 = .ok (.iadd, 1) := by decide +kernel
theorem dX9_wallOf_8 : decode cX9_wallOf 8 = .ok (.istore_n 3, 1) := by decide +kernel
theorem dX9_wallOf_9 : decode cX9_wallOf 9 = .ok (.aload_n 0, 1) := by decide +kernel
theorem dX9_wallOf_10 : decode cX9_wallOf 10 = .ok (.iload_n 3, 1) := by decide +kernel
theorem dX9_wallOf_11 : decode cX9_wallOf 11 = .ok (.invokevirtual 185, 3) := by decide +kernel
theorem dX9_wallOf_14 : decode cX9_wallOf 14 = .ok (.ifCond .eq 7, 3) := by decide +kernel
theorem dX9_wallOf_17 : decode cX9_wallOf 17 = .ok (.iload_n 3, 1) := by decide +kernel
theorem dX9_wallOf_18 : decode cX9_wallOf 18 = .ok (.goto 4, 3) := by decide +kernel
theorem dX9_wallOf_21 : decode cX9_wallOf 21 = .ok (.iconst (-1), 1) := by decide +kernel
theorem dX9_wallOf_22 : decode cX9_wallOf 22 = .ok (.ireturn, 1) := by decide +kernel
theorem dX9_isKept_0 : decode cX9_isKept 0 = .ok (.aload_n 0, 1) := by decide +kernel
theorem dX9_isKept_1 : decode cX9_isKept 1 = .ok (.iload_n 3, 1) := by decide +kernel
theorem dX9_isKept_2 : decode cX9_isKept 2 = .ok (.invokevirtual 253, 3) := by decide +kernel
theorem dX9_isKept_5 : decode cX9_isKept 5 = .ok (.ifCond .ne 5, 3) := by decide +kernel
theorem dX9_isKept_8 : decode cX9_isKept 8 = .ok (.iconst 0, 1) := by decide +kernel
theorem dX9_isKept_9 : decode cX9_isKept 9 = .ok (.ireturn, 1) := by decide +kernel
theorem dX9_isKept_10 : decode cX9_isKept 10 = .ok (.aload_n 0, 1) := by decide +kernel
theorem dX9_isKept_11 : decode cX9_isKept 11 = .ok (.getfield 100, 3) := by decide +kernel
theorem dX9_isKept_14 : decode cX9_isKept 14 = .ok (.iconst 0, 1) := by decide +kernel
theorem dX9_isKept_15 : decode cX9_isKept 15 = .ok (.iaload, 1) := by decide +kernel
theorem dX9_isKept_16 : decode cX9_isKept 16 = .ok (.istore 4, 2) := by decide +kernel
theorem dX9_isKept_18 : decode cX9_isKept 18 = .ok (.aload_n 0, 1) := by decide +kernel
theorem dX9_isKept_19 : decode cX9_isKept 19 = .ok (.getfield 97, 3) := by decide +kernel
theorem dX9_isKept_22 : decode cX9_isKept 22 = .ok (.iconst 0, 1) := by decide +kernel
theorem dX9_isKept_23 : decode cX9_isKept 23 = .ok (.iaload, 1) := by decide +kernel
theorem dX9_isKept_24 : decode cX9_isKept 24 = .ok (.ifCond .ne 7, 3) := by decide +kernel
theorem dX9_isKept_27 : decode cX9_isKept 27 = .ok (.iconst 1, 1) := by decide +kernel
theorem dX9_isKept_28 : decode cX9_isKept 28 = .ok (.goto 4, 3) := by decide +kernel
theorem dX9_isKept_31 : decode cX9_isKept 31 = .ok (.iconst 0, 1) := by decide +kernel
theorem dX9_isKept_32 : decode cX9_isKept 32 = .ok (.istore 5, 2) := by decide +kernel
theorem dX9_isKept_34 : decode cX9_isKept 34 = .ok (.iload_n 1, 1) := by decide +kernel
theorem dX9_isKept_35 : decode cX9_isKept 35 = .ok (.bipush 10, 2) := by decide +kernel
theorem dX9_isKept_37 : decode cX9_isKept 37 = .ok (.idiv, 1) := by decide +kernel
theorem dX9_isKept_38 : decode cX9_isKept 38 = .ok (.istore 6, 2) := by decide +kernel
theorem dX9_isKept_40 : decode cX9_isKept 40 = .ok (.iload_n 1, 1) := by decide +kernel
theorem dX9_isKept_41 : decode cX9_isKept 41 = .ok (.bipush 10, 2) := by decide +kernel
theorem dX9_isKept_43 : decode cX9_isKept 43 = .ok (.irem, 1) := by decide +kernel
theorem dX9_isKept_44 : decode cX9_isKept 44 = .ok (.tableswitch 181 0 3 #[32, 55, 93, 159], 32) := by decide +kernel
theorem dX9_isKept_76 : decode cX9_isKept 76 = .ok (.iload 5, 2) := by decide +kernel
theorem dX9_isKept_78 : decode cX9_isKept 78 = .ok (.ifCond .eq 19, 3) := by decide +kernel
theorem dX9_isKept_81 : decode cX9_isKept 81 = .ok (.iload 4, 2) := by decide +kernel
theorem dX9_isKept_83 : decode cX9_isKept 83 = .ok (.i2l, 1) := by decide +kernel
theorem dX9_isKept_84 : decode cX9_isKept 84 = .ok (.iload_n 3, 1) := by decide +kernel
theorem dX9_isKept_85 : decode cX9_isKept 85 = .ok (.i2l, 1) := by decide +kernel
theorem dX9_isKept_86 : decode cX9_isKept 86 = .ok (.iload_n 2, 1) := by decide +kernel
theorem dX9_isKept_87 : decode cX9_isKept 87 = .ok (.i2l, 1) := by decide +kernel
theorem dX9_isKept_88 : decode cX9_isKept 88 = .ok (.ladd, 1) := by decide +kernel
theorem dX9_isKept_89 : decode cX9_isKept 89 = .ok (.lcmp, 1) := by decide +kernel
theorem dX9_isKept_90 : decode cX9_isKept 90 = .ok (.ifCond .lt 7, 3) := by decide +kernel
theorem dX9_isKept_93 : decode cX9_isKept 93 = .ok (.iconst 1, 1) := by decide +kernel
theorem dX9_isKept_94 : decode cX9_isKept 94 = .ok (.goto 4, 3) := by decide +kernel
theorem dX9_isKept_97 : decode cX9_isKept 97 = .ok (.iconst 0, 1) := by decide +kernel
theorem dX9_isKept_98 : decode cX9_isKept 98 = .ok (.ireturn, 1) := by decide +kernel
theorem dX9_isKept_99 : decode cX9_isKept 99 = .ok (.iload 5, 2) := by decide +kernel
theorem dX9_isKept_101 : decode cX9_isKept 101 = .ok (.ifCond .eq 34, 3) := by decide +kernel
theorem dX9_isKept_104 : decode cX9_isKept 104 = .ok (.aload_n 0, 1) := by decide +kernel
theorem dX9_isKept_105 : decode cX9_isKept 105 = .ok (.iload 6, 2) := by decide +kernel
theorem dX9_isKept_107 : decode cX9_isKept 107 = .ok (.iload 4, 2) := by decide +kernel
theorem dX9_isKept_109 : decode cX9_isKept 109 = .ok (.invokevirtual 256, 3) := by decide +kernel
theorem dX9_isKept_112 : decode cX9_isKept 112 = .ok (.ifCond .lt 23, 3) := by decide +kernel
theorem dX9_isKept_115 : decode cX9_isKept 115 = .ok (.aload_n 0, 1) := by decide +kernel
theorem dX9_isKept_116 : decode cX9_isKept 116 = .ok (.iload 6, 2) := by decide +kernel
theorem dX9_isKept_118 : decode cX9_isKept 118 = .ok (.iload 4, 2) := by decide +kernel
theorem dX9_isKept_120 : decode cX9_isKept 120 = .ok (.invokevirtual 256, 3) := by decide +kernel
theorem dX9_isKept_123 : decode cX9_isKept 123 = .ok (.sipush 1440, 3) := by decide +kernel
theorem dX9_isKept_126 : decode cX9_isKept 126 = .ok (.irem, 1) := by decide +kernel
theorem dX9_isKept_127 : decode cX9_isKept 127 = .ok (.iload_n 2, 1) := by decide +kernel
theorem dX9_isKept_128 : decode cX9_isKept 128 = .ok (.if_icmp .ne 7, 3) := by decide +kernel
theorem dX9_isKept_131 : decode cX9_isKept 131 = .ok (.iconst 1, 1) := by decide +kernel
theorem dX9_isKept_132 : decode cX9_isKept 132 = .ok (.goto 4, 3) := by decide +kernel
theorem dX9_isKept_135 : decode cX9_isKept 135 = .ok (.iconst 0, 1) := by decide +kernel
theorem dX9_isKept_136 : decode cX9_isKept 136 = .ok (.ireturn, 1) := by decide +kernel
theorem dX9_isKept_137 : decode cX9_isKept 137 = .ok (.iload 5, 2) := by decide +kernel
theorem dX9_isKept_139 : decode cX9_isKept 139 = .ok (.ifCond .eq 62, 3) := by decide +kernel
theorem dX9_isKept_142 : decode cX9_isKept 142 = .ok (.aload_n 0, 1) := by decide +kernel
theorem dX9_isKept_143 : decode cX9_isKept 143 = .ok (.iload 6, 2) := by decide +kernel
theorem dX9_isKept_145 : decode cX9_isKept 145 = .ok (.iload 4, 2) := by decide +kernel
theorem dX9_isKept_147 : decode cX9_isKept 147 = .ok (.invokevirtual 256, 3) := by decide +kernel
theorem dX9_isKept_150 : decode cX9_isKept 150 = .ok (.ifCond .lt 51, 3) := by decide +kernel
theorem dX9_isKept_153 : decode cX9_isKept 153 = .ok (.aload_n 0, 1) := by decide +kernel
theorem dX9_isKept_154 : decode cX9_isKept 154 = .ok (.iload 6, 2) := by decide +kernel
theorem dX9_isKept_156 : decode cX9_isKept 156 = .ok (.iload_n 3, 1) := by decide +kernel
theorem dX9_isKept_157 : decode cX9_isKept 157 = .ok (.invokevirtual 256, 3) := by decide +kernel
theorem dX9_isKept_160 : decode cX9_isKept 160 = .ok (.ifCond .lt 41, 3) := by decide +kernel
theorem dX9_isKept_163 : decode cX9_isKept 163 = .ok (.aload_n 0, 1) := by decide +kernel
theorem dX9_isKept_164 : decode cX9_isKept 164 = .ok (.aload_n 0, 1) := by decide +kernel
theorem dX9_isKept_165 : decode cX9_isKept 165 = .ok (.iload 6, 2) := by decide +kernel
theorem dX9_isKept_167 : decode cX9_isKept 167 = .ok (.iload 4, 2) := by decide +kernel
theorem dX9_isKept_169 : decode cX9_isKept 169 = .ok (.invokevirtual 256, 3) := by decide +kernel
theorem dX9_isKept_172 : decode cX9_isKept 172 = .ok (.sipush 1440, 3) := by decide +kernel
theorem dX9_isKept_175 : decode cX9_isKept 175 = .ok (.idiv, 1) := by decide +kernel
theorem dX9_isKept_176 : decode cX9_isKept 176 = .ok (.invokevirtual 149, 3) := by decide +kernel
theorem dX9_isKept_179 : decode cX9_isKept 179 = .ok (.aload_n 0, 1) := by decide +kernel
theorem dX9_isKept_180 : decode cX9_isKept 180 = .ok (.aload_n 0, 1) := by decide +kernel
theorem dX9_isKept_181 : decode cX9_isKept 181 = .ok (.iload 6, 2) := by decide +kernel
theorem dX9_isKept_183 : decode cX9_isKept 183 = .ok (.iload_n 3, 1) := by decide +kernel
theorem dX9_isKept_184 : decode cX9_isKept 184 = .ok (.invokevirtual 256, 3) := by decide +kernel
theorem dX9_isKept_187 : decode cX9_isKept 187 = .ok (.sipush 1440, 3) := by decide +kernel
theorem dX9_isKept_190 : decode cX9_isKept 190 = .ok (.idiv, 1) := by decide +kernel
theorem dX9_isKept_191 : decode cX9_isKept 191 = .ok (.invokevirtual 149, 3) := by decide +kernel
theorem dX9_isKept_194 : decode cX9_isKept 194 = .ok (.if_icmp .ne 7, 3) := by decide +kernel
theorem dX9_isKept_197 : decode cX9_isKept 197 = .ok (.iconst 1, 1) := by decide +kernel
theorem dX9_isKept_198 : decode cX9_isKept 198 = .ok (.goto 4, 3) := by decide +kernel
theorem dX9_isKept_201 : decode cX9_isKept 201 = .ok (.iconst 0, 1) := by decide +kernel
theorem dX9_isKept_202 : decode cX9_isKept 202 = .ok (.ireturn, 1) := by decide +kernel
theorem dX9_isKept_203 : decode cX9_isKept 203 = .ok (.aload_n 0, 1) := by decide +kernel
theorem dX9_isKept_204 : decode cX9_isKept 204 = .ok (.getfield 97, 3) := by decide +kernel
theorem dX9_isKept_207 : decode cX9_isKept 207 = .ok (.iconst 0, 1) := by decide +kernel
theorem dX9_isKept_208 : decode cX9_isKept 208 = .ok (.iaload, 1) := by decide +kernel
theorem dX9_isKept_209 : decode cX9_isKept 209 = .ok (.iconst 3, 1) := by decide +kernel
theorem dX9_isKept_210 : decode cX9_isKept 210 = .ok (.if_icmp .ne 13, 3) := by decide +kernel
theorem dX9_isKept_213 : decode cX9_isKept 213 = .ok (.iload 4, 2) := by decide +kernel
theorem dX9_isKept_215 : decode cX9_isKept 215 = .ok (.iload_n 2, 1) := by decide +kernel
theorem dX9_isKept_216 : decode cX9_isKept 216 = .ok (.if_icmp .lt 7, 3) := by decide +kernel
theorem dX9_isKept_219 : decode cX9_isKept 219 = .ok (.iconst 1, 1) := by decide +kernel
theorem dX9_isKept_220 : decode cX9_isKept 220 = .ok (.goto 4, 3) := by decide +kernel
theorem dX9_isKept_223 : decode cX9_isKept 223 = .ok (.iconst 0, 1) := by decide +kernel
theorem dX9_isKept_224 : decode cX9_isKept 224 = .ok (.ireturn, 1) := by decide +kernel
theorem dX9_isKept_225 : decode cX9_isKept 225 = .ok (.iconst 1, 1) := by decide +kernel
theorem dX9_isKept_226 : decode cX9_isKept 226 = .ok (.ireturn, 1) := by decide +kernel
theorem dX9_keeps_0 : decode cX9_keeps 0 = .ok (.iload_n 1, 1) := by decide +kernel
theorem dX9_keeps_1 : decode cX9_keeps 1 = .ok (.invokestatic 194, 3) := by decide +kernel
theorem dX9_keeps_4 : decode cX9_keeps 4 = .ok (.ifCond .eq 20, 3) := by decide +kernel
theorem dX9_keeps_7 : decode cX9_keeps 7 = .ok (.aload_n 0, 1) := by decide +kernel
theorem dX9_keeps_8 : decode cX9_keeps 8 = .ok (.iload_n 2, 1) := by decide +kernel
theorem dX9_keeps_9 : decode cX9_keeps 9 = .ok (.iload_n 3, 1) := by decide +kernel
theorem dX9_keeps_10 : decode cX9_keeps 10 = .ok (.invokevirtual 259, 3) := by decide +kernel
theorem dX9_keeps_13 : decode cX9_keeps 13 = .ok (.ifCond .eq 11, 3) := by decide +kernel
theorem dX9_keeps_16 : decode cX9_keeps 16 = .ok (.iload 4, 2) := by decide +kernel
theorem dX9_keeps_18 : decode cX9_keeps 18 = .ok (.invokestatic 179, 3) := by decide +kernel
theorem dX9_keeps_21 : decode cX9_keeps 21 = .ok (.ifCond .ne 5, 3) := by decide +kernel
theorem dX9_keeps_24 : decode cX9_keeps 24 = .ok (.iconst (-1), 1) := by decide +kernel
theorem dX9_keeps_25 : decode cX9_keeps 25 = .ok (.ireturn, 1) := by decide +kernel
theorem dX9_keeps_26 : decode cX9_keeps 26 = .ok (.aload_n 0, 1) := by decide +kernel
theorem dX9_keeps_27 : decode cX9_keeps 27 = .ok (.iload_n 1, 1) := by decide +kernel
theorem dX9_keeps_28 : decode cX9_keeps 28 = .ok (.invokevirtual 219, 3) := by decide +kernel
theorem dX9_keeps_31 : decode cX9_keeps 31 = .ok (.aload_n 0, 1) := by decide +kernel
theorem dX9_keeps_32 : decode cX9_keeps 32 = .ok (.invokevirtual 222, 3) := by decide +kernel
theorem dX9_keeps_35 : decode cX9_keeps 35 = .ok (.bipush (-6), 2) := by decide +kernel
theorem dX9_keeps_37 : decode cX9_keeps 37 = .ok (.if_icmp .eq 8, 3) := by decide +kernel
theorem dX9_keeps_40 : decode cX9_keeps 40 = .ok (.bipush (-4), 2) := by decide +kernel
theorem dX9_keeps_42 : decode cX9_keeps 42 = .ok (.goto 19, 3) := by decide +kernel
theorem dX9_keeps_45 : decode cX9_keeps 45 = .ok (.aload_n 0, 1) := by decide +kernel
theorem dX9_keeps_46 : decode cX9_keeps 46 = .ok (.iload_n 2, 1) := by decide +kernel
theorem dX9_keeps_47 : decode cX9_keeps 47 = .ok (.iload_n 3, 1) := by decide +kernel
theorem dX9_keeps_48 : decode cX9_keeps 48 = .ok (.iload 4, 2) := by decide +kernel
theorem dX9_keeps_50 : decode cX9_keeps 50 = .ok (.invokevirtual 262, 3) := by decide +kernel
theorem dX9_keeps_53 : decode cX9_keeps 53 = .ok (.ifCond .eq 7, 3) := by decide +kernel
theorem dX9_keeps_56 : decode cX9_keeps 56 = .ok (.iconst 1, 1) := by decide +kernel
theorem dX9_keeps_57 : decode cX9_keeps 57 = .ok (.goto 4, 3) := by decide +kernel
theorem dX9_keeps_60 : decode cX9_keeps 60 = .ok (.iconst 0, 1) := by decide +kernel
theorem dX9_keeps_61 : decode cX9_keeps 61 = .ok (.ireturn, 1) := by decide +kernel
theorem dX9_addOdd_0 : decode cX9_addOdd 0 = .ok (.iload_n 1, 1) := by decide +kernel
theorem dX9_addOdd_1 : decode cX9_addOdd 1 = .ok (.iload_n 2, 1) := by decide +kernel
theorem dX9_addOdd_2 : decode cX9_addOdd 2 = .ok (.if_icmp .lt 28, 3) := by decide +kernel
theorem dX9_addOdd_5 : decode cX9_addOdd 5 = .ok (.iload_n 1, 1) := by decide +kernel
theorem dX9_addOdd_6 : decode cX9_addOdd 6 = .ok (.iload_n 3, 1) := by decide +kernel
theorem dX9_addOdd_7 : decode cX9_addOdd 7 = .ok (.if_icmp .gt 23, 3) := by decide +kernel
theorem dX9_addOdd_10 : decode cX9_addOdd 10 = .ok (.aload_n 0, 1) := by decide +kernel
theorem dX9_addOdd_11 : decode cX9_addOdd 11 = .ok (.getfield 113, 3) := by decide +kernel
theorem dX9_addOdd_14 : decode cX9_addOdd 14 = .ok (.aload_n 0, 1) := by decide +kernel
theorem dX9_addOdd_15 : decode cX9_addOdd 15 = .ok (.getfield 265, 3) := by decide +kernel
theorem dX9_addOdd_18 : decode cX9_addOdd 18 = .ok (.iload_n 1, 1) := by decide +kernel
theorem dX9_addOdd_19 : decode cX9_addOdd 19 = .ok (.iastore, 1) := by decide +kernel
theorem dX9_addOdd_20 : decode cX9_addOdd 20 = .ok (.aload_n 0, 1) := by decide +kernel
theorem dX9_addOdd_21 : decode cX9_addOdd 21 = .ok (.dup, 1) := by decide +kernel
theorem dX9_addOdd_22 : decode cX9_addOdd 22 = .ok (.getfield 265, 3) := by decide +kernel
theorem dX9_addOdd_25 : decode cX9_addOdd 25 = .ok (.iconst 1, 1) := by decide +kernel
theorem dX9_addOdd_26 : decode cX9_addOdd 26 = .ok (.iadd, 1) := by decide +kernel
theorem dX9_addOdd_27 : decode cX9_addOdd 27 = .ok (.putfield 265, 3) := by decide +kernel
theorem dX9_addOdd_30 : decode cX9_addOdd 30 = .ok (.return_, 1) := by decide +kernel
theorem dX9_sink_0 : decode cX9_sink 0 = .ok (.iload_n 1, 1) := by decide +kernel
theorem dX9_sink_1 : decode cX9_sink 1 = .ok (.istore_n 3, 1) := by decide +kernel
theorem dX9_sink_2 : decode cX9_sink 2 = .ok (.iconst 1, 1) := by decide +kernel
theorem dX9_sink_3 : decode cX9_sink 3 = .ok (.istore 4, 2) := by decide +kernel
theorem dX9_sink_5 : decode cX9_sink 5 = .ok (.iload 4, 2) := by decide +kernel
theorem dX9_sink_7 : decode cX9_sink 7 = .ok (.ifCond .eq 121, 3) := by decide +kernel
theorem dX9_sink_10 : decode cX9_sink 10 = .ok (.iconst 2, 1) := by decide +kernel
theorem dX9_sink_11 : decode cX9_sink 11 = .ok (.iload_n 3, 1) := by decide +kernel
theorem dX9_sink_12 : decode cX9_sink 12 = .ok (.imul, 1) := by decide +kernel
theorem dX9_sink_13 : decode cX9_sink 13 = .ok (.iconst 1, 1) := by decide +kernel
theorem dX9_sink_14 : decode cX9_sink 14 = .ok (.iadd, 1) := by decide +kernel
theorem dX9_sink_15 : decode cX9_sink 15 = .ok (.iload_n 2, 1) := by decide +kernel
theorem dX9_sink_16 : decode cX9_sink 16 = .ok (.if_icmp .ge 112, 3) := by decide +kernel
theorem dX9_sink_19 : decode cX9_sink 19 = .ok (.iconst 2, 1) := by decide +kernel
theorem dX9_sink_20 : decode cX9_sink 20 = .ok (.iload_n 3, 1) := by decide +kernel
theorem dX9_sink_21 : decode cX9_sink 21 = .ok (.imul, 1) := by decide +kernel
theorem dX9_sink_22 : decode cX9_sink 22 = .ok (.iconst 1, 1) := by decide +kernel
theorem dX9_sink_23 : decode cX9_sink 23 = .ok (.iadd, 1) := by decide +kernel
theorem dX9_sink_24 : decode cX9_sink 24 = .ok (.istore 5, 2) := by decide +kernel
theorem dX9_sink_26 : decode cX9_sink 26 = .ok (.iload 5, 2) := by decide +kernel
theorem dX9_sink_28 : decode cX9_sink 28 = .ok (.iconst 1, 1) := by decide +kernel
theorem dX9_sink_29 : decode cX9_sink 29 = .ok (.iadd, 1) := by decide +kernel
theorem dX9_sink_30 : decode cX9_sink 30 = .ok (.iload_n 2, 1) := by decide +kernel
theorem dX9_sink_31 : decode cX9_sink 31 = .ok (.if_icmp .ge 29, 3) := by decide +kernel
theorem dX9_sink_34 : decode cX9_sink 34 = .ok (.aload_n 0, 1) := by decide +kernel
theorem dX9_sink_35 : decode cX9_sink 35 = .ok (.getfield 113, 3) := by decide +kernel
theorem dX9_sink_38 : decode cX9_sink 38 = .ok (.iload 5, 2) := by decide +kernel
theorem dX9_sink_40 : decode cX9_sink 40 = .ok (.iconst 1, 1) := by decide +kernel
theorem dX9_sink_41 : decode cX9_sink 41 = .ok (.iadd, 1) := by decide +kernel
theorem dX9_sink_42 : decode cX9_sink 42 = .ok (.iaload, 1) := by decide +kernel
theorem dX9_sink_43 : decode cX9_sink 43 = .ok (.aload_n 0, 1) := by decide +kernel
theorem dX9_sink_44 : decode cX9_sink 44 = .ok (.getfield 113, 3) := by decide +kernel
theorem dX9_sink_47 : decode cX9_sink 47 = .ok (.iload 5, 2) := by decide +kernel
theorem dX9_sink_49 : decode cX9_sink 49 = .ok (.iaload, 1) := by decide +kernel
theorem dX9_sink_50 : decode cX9_sink 50 = .ok (.if_icmp .le 10, 3) := by decide +kernel
theorem dX9_sink_53 : decode cX9_sink 53 = .ok (.iload 5, 2) := by decide +kernel
theorem dX9_sink_55 : decode cX9_sink 55 = .ok (.iconst 1, 1) := by decide +kernel
theorem dX9_sink_56 : decode cX9_sink 56 = .ok (.iadd, 1) := by decide +kernel
theorem dX9_sink_57 : decode cX9_sink 57 = .ok (.goto 5, 3) := by decide +kernel
theorem dX9_sink_60 : decode cX9_sink 60 = .ok (.iload 5, 2) := by decide +kernel
theorem dX9_sink_62 : decode cX9_sink 62 = .ok (.istore 5, 2) := by decide +kernel
theorem dX9_sink_64 : decode cX9_sink 64 = .ok (.aload_n 0, 1) := by decide +kernel
theorem dX9_sink_65 : decode cX9_sink 65 = .ok (.getfield 113, 3) := by decide +kernel
theorem dX9_sink_68 : decode cX9_sink 68 = .ok (.iload 5, 2) := by decide +kernel
theorem dX9_sink_70 : decode cX9_sink 70 = .ok (.iaload, 1) := by decide +kernel
theorem dX9_sink_71 : decode cX9_sink 71 = .ok (.aload_n 0, 1) := by decide +kernel
theorem dX9_sink_72 : decode cX9_sink 72 = .ok (.getfield 113, 3) := by decide +kernel
theorem dX9_sink_75 : decode cX9_sink 75 = .ok (.iload_n 3, 1) := by decide +kernel
theorem dX9_sink_76 : decode cX9_sink 76 = .ok (.iaload, 1) := by decide +kernel
theorem dX9_sink_77 : decode cX9_sink 77 = .ok (.if_icmp .le 7, 3) := by decide +kernel
theorem dX9_sink_80 : decode cX9_sink 80 = .ok (.iconst 1, 1) := by decide +kernel
theorem dX9_sink_81 : decode cX9_sink 81 = .ok (.goto 4, 3) := by decide +kernel
theorem dX9_sink_84 : decode cX9_sink 84 = .ok (.iconst 0, 1) := by decide +kernel
theorem dX9_sink_85 : decode cX9_sink 85 = .ok (.istore 4, 2) := by decide +kernel
theorem dX9_sink_87 : decode cX9_sink 87 = .ok (.iload 4, 2) := by decide +kernel
theorem dX9_sink_89 : decode cX9_sink 89 = .ok (.ifCond .eq 36, 3) := by decide +kernel
theorem dX9_sink_92 : decode cX9_sink 92 = .ok (.aload_n 0, 1) := by decide +kernel
theorem dX9_sink_93 : decode cX9_sink 93 = .ok (.getfield 113, 3) := by decide +kernel
theorem dX9_sink_96 : decode cX9_sink 96 = .ok (.iload 5, 2) := by decide +kernel
theorem dX9_sink_98 : decode cX9_sink 98 = .ok (.iaload, 1) := by decide +kernel
theorem dX9_sink_99 : decode cX9_sink 99 = .ok (.istore 6, 2) := by decide +kernel
theorem dX9_sink_101 : decode cX9_sink 101 = .ok (.aload_n 0, 1) := by decide +kernel
theorem dX9_sink_102 : decode cX9_sink 102 = .ok (.getfield 113, 3) := by decide +kernel
theorem dX9_sink_105 : decode cX9_sink 105 = .ok (.iload 5, 2) := by decide +kernel
theorem dX9_sink_107 : decode cX9_sink 107 = .ok (.aload_n 0, 1) := by decide +kernel
theorem dX9_sink_108 : decode cX9_sink 108 = .ok (.getfield 113, 3) := by decide +kernel
theorem dX9_sink_111 : decode cX9_sink 111 = .ok (.iload_n 3, 1) := by decide +kernel
theorem dX9_sink_112 : decode cX9_sink 112 = .ok (.iaload, 1) := by decide +kernel
theorem dX9_sink_113 : decode cX9_sink 113 = .ok (.iastore, 1) := by decide +kernel
theorem dX9_sink_114 : decode cX9_sink 114 = .ok (.aload_n 0, 1) := by decide +kernel
theorem dX9_sink_115 : decode cX9_sink 115 = .ok (.getfield 113, 3) := by decide +kernel
theorem dX9_sink_118 : decode cX9_sink 118 = .ok (.iload_n 3, 1) := by decide +kernel
theorem dX9_sink_119 : decode cX9_sink 119 = .ok (.iload 6, 2) := by decide +kernel
theorem dX9_sink_121 : decode cX9_sink 121 = .ok (.iastore, 1) := by decide +kernel
theorem dX9_sink_122 : decode cX9_sink 122 = .ok (.iload 5, 2) := by decide +kernel
theorem dX9_sink_124 : decode cX9_sink 124 = .ok (.istore_n 3, 1) := by decide +kernel
theorem dX9_sink_125 : decode cX9_sink 125 = .ok (.goto (-120), 3) := by decide +kernel
theorem dX9_sink_128 : decode cX9_sink 128 = .ok (.return_, 1) := by decide +kernel
theorem dX9_findOdds_0 : decode cX9_findOdds 0 = .ok (.aload_n 0, 1) := by decide +kernel
theorem dX9_findOdds_1 : decode cX9_findOdds 1 = .ok (.iconst 0, 1) := by decide +kernel
theorem dX9_findOdds_2 : decode cX9_findOdds 2 = .ok (.putfield 265, 3) := by decide +kernel
theorem dX9_findOdds_5 : decode cX9_findOdds 5 = .ok (.aload_n 0, 1) := by decide +kernel
theorem dX9_findOdds_6 : decode cX9_findOdds 6 = .ok (.iload_n 1, 1) := by decide +kernel
theorem dX9_findOdds_7 : decode cX9_findOdds 7 = .ok (.iload_n 1, 1) := by decide +kernel
theorem dX9_findOdds_8 : decode cX9_findOdds 8 = .ok (.iload_n 2, 1) := by decide +kernel
theorem dX9_findOdds_9 : decode cX9_findOdds 9 = .ok (.invokevirtual 268, 3) := by decide +kernel
theorem dX9_findOdds_12 : decode cX9_findOdds 12 = .ok (.aload_n 0, 1) := by decide +kernel
theorem dX9_findOdds_13 : decode cX9_findOdds 13 = .ok (.iload_n 2, 1) := by decide +kernel
theorem dX9_findOdds_14 : decode cX9_findOdds 14 = .ok (.iload_n 1, 1) := by decide +kernel
theorem dX9_findOdds_15 : decode cX9_findOdds 15 = .ok (.iload_n 2, 1) := by decide +kernel
theorem dX9_findOdds_16 : decode cX9_findOdds 16 = .ok (.invokevirtual 268, 3) := by decide +kernel
theorem dX9_findOdds_19 : decode cX9_findOdds 19 = .ok (.iconst 0, 1) := by decide +kernel
theorem dX9_findOdds_20 : decode cX9_findOdds 20 = .ok (.istore_n 3, 1) := by decide +kernel
theorem dX9_findOdds_21 : decode cX9_findOdds 21 = .ok (.iload_n 3, 1) := by decide +kernel
theorem dX9_findOdds_22 : decode cX9_findOdds 22 = .ok (.aload_n 0, 1) := by decide +kernel
theorem dX9_findOdds_23 : decode cX9_findOdds 23 = .ok (.getfield 135, 3) := by decide +kernel
theorem dX9_findOdds_26 : decode cX9_findOdds 26 = .ok (.if_icmp .ge 178, 3) := by decide +kernel
theorem dX9_findOdds_29 : decode cX9_findOdds 29 = .ok (.aload_n 0, 1) := by decide +kernel
theorem dX9_findOdds_30 : decode cX9_findOdds 30 = .ok (.iload_n 3, 1) := by decide +kernel
theorem dX9_findOdds_31 : decode cX9_findOdds 31 = .ok (.invokevirtual 171, 3) := by decide +kernel
theorem dX9_findOdds_34 : decode cX9_findOdds 34 = .ok (.iconst 1, 1) := by decide +kernel
theorem dX9_findOdds_35 : decode cX9_findOdds 35 = .ok (.istore 4, 2) := by decide +kernel
theorem dX9_findOdds_37 : decode cX9_findOdds 37 = .ok (.iload 4, 2) := by decide +kernel
theorem dX9_findOdds_39 : decode cX9_findOdds 39 = .ok (.aload_n 0, 1) := by decide +kernel
theorem dX9_findOdds_40 : decode cX9_findOdds 40 = .ok (.getfield 67, 3) := by decide +kernel
theorem dX9_findOdds_43 : decode cX9_findOdds 43 = .ok (.iload_n 3, 1) := by decide +kernel
theorem dX9_findOdds_44 : decode cX9_findOdds 44 = .ok (.iaload, 1) := by decide +kernel
theorem dX9_findOdds_45 : decode cX9_findOdds 45 = .ok (.if_icmp .gt 52, 3) := by decide +kernel
theorem dX9_findOdds_48 : decode cX9_findOdds 48 = .ok (.aload_n 0, 1) := by decide +kernel
theorem dX9_findOdds_49 : decode cX9_findOdds 49 = .ok (.getfield 61, 3) := by decide +kernel
theorem dX9_findOdds_52 : decode cX9_findOdds 52 = .ok (.sipush 801, 3) := by decide +kernel
theorem dX9_findOdds_55 : decode cX9_findOdds 55 = .ok (.iload_n 3, 1) := by decide +kernel
theorem dX9_findOdds_56 : decode cX9_findOdds 56 = .ok (.imul, 1) := by decide +kernel
theorem dX9_findOdds_57 : decode cX9_findOdds 57 = .ok (.iload 4, 2) := by decide +kernel
theorem dX9_findOdds_59 : decode cX9_findOdds 59 = .ok (.iadd, 1) := by decide +kernel
theorem dX9_findOdds_60 : decode cX9_findOdds 60 = .ok (.iaload, 1) := by decide +kernel
theorem dX9_findOdds_61 : decode cX9_findOdds 61 = .ok (.istore 5, 2) := by decide +kernel
theorem dX9_findOdds_63 : decode cX9_findOdds 63 = .ok (.aload_n 0, 1) := by decide +kernel
theorem dX9_findOdds_64 : decode cX9_findOdds 64 = .ok (.iload 5, 2) := by decide +kernel
theorem dX9_findOdds_66 : decode cX9_findOdds 66 = .ok (.iconst 1, 1) := by decide +kernel
theorem dX9_findOdds_67 : decode cX9_findOdds 67 = .ok (.isub, 1) := by decide +kernel
theorem dX9_findOdds_68 : decode cX9_findOdds 68 = .ok (.iload_n 1, 1) := by decide +kernel
theorem dX9_findOdds_69 : decode cX9_findOdds 69 = .ok (.iload_n 2, 1) := by decide +kernel
theorem dX9_findOdds_70 : decode cX9_findOdds 70 = .ok (.invokevirtual 268, 3) := by decide +kernel
theorem dX9_findOdds_73 : decode cX9_findOdds 73 = .ok (.aload_n 0, 1) := by decide +kernel
theorem dX9_findOdds_74 : decode cX9_findOdds 74 = .ok (.iload 5, 2) := by decide +kernel
theorem dX9_findOdds_76 : decode cX9_findOdds 76 = .ok (.iload_n 1, 1) := by decide +kernel
theorem dX9_findOdds_77 : decode cX9_findOdds 77 = .ok (.iload_n 2, 1) := by decide +kernel
theorem dX9_findOdds_78 : decode cX9_findOdds 78 = .ok (.invokevirtual 268, 3) := by decide +kernel
theorem dX9_findOdds_81 : decode cX9_findOdds 81 = .ok (.aload_n 0, 1) := by decide +kernel
theorem dX9_findOdds_82 : decode cX9_findOdds 82 = .ok (.iload 5, 2) := by decide +kernel
theorem dX9_findOdds_84 : decode cX9_findOdds 84 = .ok (.iconst 1, 1) := by decide +kernel
theorem dX9_findOdds_85 : decode cX9_findOdds 85 = .ok (.iadd, 1) := by decide +kernel
theorem dX9_findOdds_86 : decode cX9_findOdds 86 = .ok (.iload_n 1, 1) := by decide +kernel
theorem dX9_findOdds_87 : decode cX9_findOdds 87 = .ok (.iload_n 2, 1) := by decide +kernel
theorem dX9_findOdds_88 : decode cX9_findOdds 88 = .ok (.invokevirtual 268, 3) := by decide +kernel
theorem dX9_findOdds_91 : decode cX9_findOdds 91 = .ok (.iinc 4 1, 3) := by decide +kernel
theorem dX9_findOdds_94 : decode cX9_findOdds 94 = .ok (.goto (-57), 3) := by decide +kernel
theorem dX9_findOdds_97 : decode cX9_findOdds 97 = .ok (.iload_n 1, 1) := by decide +kernel
theorem dX9_findOdds_98 : decode cX9_findOdds 98 = .ok (.sipush 1440, 3) := by decide +kernel
theorem dX9_findOdds_101 : decode cX9_findOdds 101 = .ok (.idiv, 1) := by decide +kernel
theorem dX9_findOdds_102 : decode cX9_findOdds 102 = .ok (.iconst 2, 1) := by decide +kernel
theorem dX9_findOdds_103 : decode cX9_findOdds 103 = .ok (.isub, 1) := by decide +kernel
theorem dX9_findOdds_104 : decode cX9_findOdds 104 = .ok (.istore 4, 2) := by decide +kernel
theorem dX9_findOdds_106 : decode cX9_findOdds 106 = .ok (.iload_n 2, 1) := by decide +kernel
theorem dX9_findOdds_107 : decode cX9_findOdds 107 = .ok (.sipush 1440, 3) := by decide +kernel
theorem dX9_findOdds_110 : decode cX9_findOdds 110 = .ok (.idiv, 1) := by decide +kernel
theorem dX9_findOdds_111 : decode cX9_findOdds 111 = .ok (.iconst 2, 1) := by decide +kernel
theorem dX9_findOdds_112 : decode cX9_findOdds 112 = .ok (.iadd, 1) := by decide +kernel
theorem dX9_findOdds_113 : decode cX9_findOdds 113 = .ok (.istore 5, 2) := by decide +kernel
theorem dX9_findOdds_115 : decode cX9_findOdds 115 = .ok (.iload 4, 2) := by decide +kernel
theorem dX9_findOdds_117 : decode cX9_findOdds 117 = .ok (.ifCond .ge 7, 3) := by decide +kernel
theorem dX9_findOdds_120 : decode cX9_findOdds 120 = .ok (.iconst 0, 1) := by decide +kernel
theorem dX9_findOdds_121 : decode cX9_findOdds 121 = .ok (.goto 5, 3) := by decide +kernel
theorem dX9_findOdds_124 : decode cX9_findOdds 124 = .ok (.iload 4, 2) := by decide +kernel
theorem dX9_findOdds_126 : decode cX9_findOdds 126 = .ok (.istore 6, 2) := by decide +kernel
theorem dX9_findOdds_128 : decode cX9_findOdds 128 = .ok (.iload 6, 2) := by decide +kernel
theorem dX9_findOdds_130 : decode cX9_findOdds 130 = .ok (.iload 5, 2) := by decide +kernel
theorem dX9_findOdds_132 : decode cX9_findOdds 132 = .ok (.if_icmp .gt 66, 3) := by decide +kernel
theorem dX9_findOdds_135 : decode cX9_findOdds 135 = .ok (.aload_n 0, 1) := by decide +kernel
theorem dX9_findOdds_136 : decode cX9_findOdds 136 = .ok (.iload 6, 2) := by decide +kernel
theorem dX9_findOdds_138 : decode cX9_findOdds 138 = .ok (.invokevirtual 141, 3) := by decide +kernel
theorem dX9_findOdds_141 : decode cX9_findOdds 141 = .ok (.ifCond .eq 57, 3) := by decide +kernel
theorem dX9_findOdds_144 : decode cX9_findOdds 144 = .ok (.aload_n 0, 1) := by decide +kernel
theorem dX9_findOdds_145 : decode cX9_findOdds 145 = .ok (.iload_n 3, 1) := by decide +kernel
theorem dX9_findOdds_146 : decode cX9_findOdds 146 = .ok (.sipush 1440, 3) := by decide +kernel
theorem dX9_findOdds_149 : decode cX9_findOdds 149 = .ok (.iload 6, 2) := by decide +kernel
theorem dX9_findOdds_151 : decode cX9_findOdds 151 = .ok (.imul, 1) := by decide +kernel
theorem dX9_findOdds_152 : decode cX9_findOdds 152 = .ok (.sipush 1440, 3) := by decide +kernel
theorem dX9_findOdds_155 : decode cX9_findOdds 155 = .ok (.iload 6, 2) := by decide +kernel
theorem dX9_findOdds_157 : decode cX9_findOdds 157 = .ok (.imul, 1) := by decide +kernel
theorem dX9_findOdds_158 : decode cX9_findOdds 158 = .ok (.sipush 1440, 3) := by decide +kernel
theorem dX9_findOdds_161 : decode cX9_findOdds 161 = .ok (.iadd, 1) := by decide +kernel
theorem dX9_findOdds_162 : decode cX9_findOdds 162 = .ok (.iconst 1, 1) := by decide +kernel
theorem dX9_findOdds_163 : decode cX9_findOdds 163 = .ok (.isub, 1) := by decide +kernel
theorem dX9_findOdds_164 : decode cX9_findOdds 164 = .ok (.invokevirtual 236, 3) := by decide +kernel
theorem dX9_findOdds_167 : decode cX9_findOdds 167 = .ok (.istore 7, 2) := by decide +kernel
theorem dX9_findOdds_169 : decode cX9_findOdds 169 = .ok (.iload 7, 2) := by decide +kernel
theorem dX9_findOdds_171 : decode cX9_findOdds 171 = .ok (.ifCond .lt 21, 3) := by decide +kernel
theorem dX9_findOdds_174 : decode cX9_findOdds 174 = .ok (.aload_n 0, 1) := by decide +kernel
theorem dX9_findOdds_175 : decode cX9_findOdds 175 = .ok (.iload 7, 2) := by decide +kernel
theorem dX9_findOdds_177 : decode cX9_findOdds 177 = .ok (.iload_n 1, 1) := by decide +kernel
theorem dX9_findOdds_178 : decode cX9_findOdds 178 = .ok (.iload_n 2, 1) := by decide +kernel
theorem dX9_findOdds_179 : decode cX9_findOdds 179 = .ok (.invokevirtual 268, 3) := by decide +kernel
theorem dX9_findOdds_182 : decode cX9_findOdds 182 = .ok (.aload_n 0, 1) := by decide +kernel
theorem dX9_findOdds_183 : decode cX9_findOdds 183 = .ok (.iload 7, 2) := by decide +kernel
theorem dX9_findOdds_185 : decode cX9_findOdds 185 = .ok (.iconst 1, 1) := by decide +kernel
theorem dX9_findOdds_186 : decode cX9_findOdds 186 = .ok (.isub, 1) := by decide +kernel
theorem dX9_findOdds_187 : decode cX9_findOdds 187 = .ok (.iload_n 1, 1) := by decide +kernel
theorem dX9_findOdds_188 : decode cX9_findOdds 188 = .ok (.iload_n 2, 1) := by decide +kernel
theorem dX9_findOdds_189 : decode cX9_findOdds 189 = .ok (.invokevirtual 268, 3) := by decide +kernel
theorem dX9_findOdds_192 : decode cX9_findOdds 192 = .ok (.iinc 6 1, 3) := by decide +kernel
theorem dX9_findOdds_195 : decode cX9_findOdds 195 = .ok (.goto (-67), 3) := by decide +kernel
theorem dX9_findOdds_198 : decode cX9_findOdds 198 = .ok (.iinc 3 1, 3) := by decide +kernel
theorem dX9_findOdds_201 : decode cX9_findOdds 201 = .ok (.goto (-180), 3) := by decide +kernel
theorem dX9_findOdds_204 : decode cX9_findOdds 204 = .ok (.aload_n 0, 1) := by decide +kernel
theorem dX9_findOdds_205 : decode cX9_findOdds 205 = .ok (.getfield 265, 3) := by decide +kernel
theorem dX9_findOdds_208 : decode cX9_findOdds 208 = .ok (.iconst 2, 1) := by decide +kernel
theorem dX9_findOdds_209 : decode cX9_findOdds 209 = .ok (.idiv, 1) := by decide +kernel
theorem dX9_findOdds_210 : decode cX9_findOdds 210 = .ok (.istore_n 3, 1) := by decide +kernel
theorem dX9_findOdds_211 : decode cX9_findOdds 211 = .ok (.iload_n 3, 1) := by decide +kernel
theorem dX9_findOdds_212 : decode cX9_findOdds 212 = .ok (.ifCond .lt 18, 3) := by decide +kernel
theorem dX9_findOdds_215 : decode cX9_findOdds 215 = .ok (.aload_n 0, 1) := by decide +kernel
theorem dX9_findOdds_216 : decode cX9_findOdds 216 = .ok (.iload_n 3, 1) := by decide +kernel
theorem dX9_findOdds_217 : decode cX9_findOdds 217 = .ok (.aload_n 0, 1) := by decide +kernel
theorem dX9_findOdds_218 : decode cX9_findOdds 218 = .ok (.getfield 265, 3) := by decide +kernel
theorem dX9_findOdds_221 : decode cX9_findOdds 221 = .ok (.invokevirtual 272, 3) := by decide +kernel
theorem dX9_findOdds_224 : decode cX9_findOdds 224 = .ok (.iinc 3 (-1), 3) := by decide +kernel
theorem dX9_findOdds_227 : decode cX9_findOdds 227 = .ok (.goto (-16), 3) := by decide +kernel
theorem dX9_findOdds_230 : decode cX9_findOdds 230 = .ok (.aload_n 0, 1) := by decide +kernel
theorem dX9_findOdds_231 : decode cX9_findOdds 231 = .ok (.getfield 265, 3) := by decide +kernel
theorem dX9_findOdds_234 : decode cX9_findOdds 234 = .ok (.iconst 1, 1) := by decide +kernel
theorem dX9_findOdds_235 : decode cX9_findOdds 235 = .ok (.isub, 1) := by decide +kernel
theorem dX9_findOdds_236 : decode cX9_findOdds 236 = .ok (.istore_n 3, 1) := by decide +kernel
theorem dX9_findOdds_237 : decode cX9_findOdds 237 = .ok (.iload_n 3, 1) := by decide +kernel
theorem dX9_findOdds_238 : decode cX9_findOdds 238 = .ok (.ifCond .le 43, 3) := by decide +kernel
theorem dX9_findOdds_241 : decode cX9_findOdds 241 = .ok (.aload_n 0, 1) := by decide +kernel
theorem dX9_findOdds_242 : decode cX9_findOdds 242 = .ok (.getfield 113, 3) := by decide +kernel
theorem dX9_findOdds_245 : decode cX9_findOdds 245 = .ok (.iconst 0, 1) := by decide +kernel
theorem dX9_findOdds_246 : decode cX9_findOdds 246 = .ok (.iaload, 1) := by decide +kernel
theorem dX9_findOdds_247 : decode cX9_findOdds 247 = .ok (.istore 4, 2) := by decide +kernel
theorem dX9_findOdds_249 : decode cX9_findOdds 249 = .ok (.aload_n 0, 1) := by decide +kernel
theorem dX9_findOdds_250 : decode cX9_findOdds 250 = .ok (.getfield 113, 3) := by decide +kernel
theorem dX9_findOdds_253 : decode cX9_findOdds 253 = .ok (.iconst 0, 1) := by decide +kernel
theorem dX9_findOdds_254 : decode cX9_findOdds 254 = .ok (.aload_n 0, 1) := by decide +kernel
theorem dX9_findOdds_255 : decode cX9_findOdds 255 = .ok (.getfield 113, 3) := by decide +kernel
theorem dX9_findOdds_258 : decode cX9_findOdds 258 = .ok (.iload_n 3, 1) := by decide +kernel
theorem dX9_findOdds_259 : decode cX9_findOdds 259 = .ok (.iaload, 1) := by decide +kernel
theorem dX9_findOdds_260 : decode cX9_findOdds 260 = .ok (.iastore, 1) := by decide +kernel
theorem dX9_findOdds_261 : decode cX9_findOdds 261 = .ok (.aload_n 0, 1) := by decide +kernel
theorem dX9_findOdds_262 : decode cX9_findOdds 262 = .ok (.getfield 113, 3) := by decide +kernel
theorem dX9_findOdds_265 : decode cX9_findOdds 265 = .ok (.iload_n 3, 1) := by decide +kernel
theorem dX9_findOdds_266 : decode cX9_findOdds 266 = .ok (.iload 4, 2) := by decide +kernel
theorem dX9_findOdds_268 : decode cX9_findOdds 268 = .ok (.iastore, 1) := by decide +kernel
theorem dX9_findOdds_269 : decode cX9_findOdds 269 = .ok (.aload_n 0, 1) := by decide +kernel
theorem dX9_findOdds_270 : decode cX9_findOdds 270 = .ok (.iconst 0, 1) := by decide +kernel
theorem dX9_findOdds_271 : decode cX9_findOdds 271 = .ok (.iload_n 3, 1) := by decide +kernel
theorem dX9_findOdds_272 : decode cX9_findOdds 272 = .ok (.invokevirtual 272, 3) := by decide +kernel
theorem dX9_findOdds_275 : decode cX9_findOdds 275 = .ok (.iinc 3 (-1), 3) := by decide +kernel
theorem dX9_findOdds_278 : decode cX9_findOdds 278 = .ok (.goto (-41), 3) := by decide +kernel
theorem dX9_findOdds_281 : decode cX9_findOdds 281 = .ok (.iconst 0, 1) := by decide +kernel
theorem dX9_findOdds_282 : decode cX9_findOdds 282 = .ok (.istore_n 3, 1) := by decide +kernel
theorem dX9_findOdds_283 : decode cX9_findOdds 283 = .ok (.iconst 0, 1) := by decide +kernel
theorem dX9_findOdds_284 : decode cX9_findOdds 284 = .ok (.istore 4, 2) := by decide +kernel
theorem dX9_findOdds_286 : decode cX9_findOdds 286 = .ok (.iload 4, 2) := by decide +kernel
theorem dX9_findOdds_288 : decode cX9_findOdds 288 = .ok (.aload_n 0, 1) := by decide +kernel
theorem dX9_findOdds_289 : decode cX9_findOdds 289 = .ok (.getfield 265, 3) := by decide +kernel
theorem dX9_findOdds_292 : decode cX9_findOdds 292 = .ok (.if_icmp .ge 47, 3) := by decide +kernel
theorem dX9_findOdds_295 : decode cX9_findOdds 295 = .ok (.iload_n 3, 1) := by decide +kernel
theorem dX9_findOdds_296 : decode cX9_findOdds 296 = .ok (.ifCond .eq 21, 3) := by decide +kernel
theorem dX9_findOdds_299 : decode cX9_findOdds 299 = .ok (.aload_n 0, 1) := by decide +kernel
theorem dX9_findOdds_300 : decode cX9_findOdds 300 = .ok (.getfield 113, 3) := by decide +kernel
theorem dX9_findOdds_303 : decode cX9_findOdds 303 = .ok (.iload 4, 2) := by decide +kernel
theorem dX9_findOdds_305 : decode cX9_findOdds 305 = .ok (.iaload, 1) := by decide +kernel
theorem dX9_findOdds_306 : decode cX9_findOdds 306 = .ok (.aload_n 0, 1) := by decide +kernel
theorem dX9_findOdds_307 : decode cX9_findOdds 307 = .ok (.getfield 113, 3) := by decide +kernel
theorem dX9_findOdds_310 : decode cX9_findOdds 310 = .ok (.iload_n 3, 1) := by decide +kernel
theorem dX9_findOdds_311 : decode cX9_findOdds 311 = .ok (.iconst 1, 1) := by decide +kernel
theorem dX9_findOdds_312 : decode cX9_findOdds 312 = .ok (.isub, 1) := by decide +kernel
theorem dX9_findOdds_313 : decode cX9_findOdds 313 = .ok (.iaload, 1) := by decide +kernel
theorem dX9_findOdds_314 : decode cX9_findOdds 314 = .ok (.if_icmp .eq 19, 3) := by decide +kernel
theorem dX9_findOdds_317 : decode cX9_findOdds 317 = .ok (.aload_n 0, 1) := by decide +kernel
theorem dX9_findOdds_318 : decode cX9_findOdds 318 = .ok (.getfield 113, 3) := by decide +kernel
theorem dX9_findOdds_321 : decode cX9_findOdds 321 = .ok (.iload_n 3, 1) := by decide +kernel
theorem dX9_findOdds_322 : decode cX9_findOdds 322 = .ok (.aload_n 0, 1) := by decide +kernel
theorem dX9_findOdds_323 : decode cX9_findOdds 323 = .ok (.getfield 113, 3) := by decide +kernel
theorem dX9_findOdds_326 : decode cX9_findOdds 326 = .ok (.iload 4, 2) := by decide +kernel
theorem dX9_findOdds_328 : decode cX9_findOdds 328 = .ok (.iaload, 1) := by decide +kernel
theorem dX9_findOdds_329 : decode cX9_findOdds 329 = .ok (.iastore, 1) := by decide +kernel
theorem dX9_findOdds_330 : decode cX9_findOdds 330 = .ok (.iinc 3 1, 3) := by decide +kernel
theorem dX9_findOdds_333 : decode cX9_findOdds 333 = .ok (.iinc 4 1, 3) := by decide +kernel
theorem dX9_findOdds_336 : decode cX9_findOdds 336 = .ok (.goto (-50), 3) := by decide +kernel
theorem dX9_findOdds_339 : decode cX9_findOdds 339 = .ok (.aload_n 0, 1) := by decide +kernel
theorem dX9_findOdds_340 : decode cX9_findOdds 340 = .ok (.iload_n 3, 1) := by decide +kernel
theorem dX9_findOdds_341 : decode cX9_findOdds 341 = .ok (.putfield 265, 3) := by decide +kernel
theorem dX9_findOdds_344 : decode cX9_findOdds 344 = .ok (.return_, 1) := by decide +kernel
theorem dX9_areOdds_0 : decode cX9_areOdds 0 = .ok (.iload_n 0, 1) := by decide +kernel
theorem dX9_areOdds_1 : decode cX9_areOdds 1 = .ok (.invokestatic 179, 3) := by decide +kernel
theorem dX9_areOdds_4 : decode cX9_areOdds 4 = .ok (.ifCond .eq 28, 3) := by decide +kernel
theorem dX9_areOdds_7 : decode cX9_areOdds 7 = .ok (.iload_n 1, 1) := by decide +kernel
theorem dX9_areOdds_8 : decode cX9_areOdds 8 = .ok (.invokestatic 179, 3) := by decide +kernel
theorem dX9_areOdds_11 : decode cX9_areOdds 11 = .ok (.ifCond .eq 21, 3) := by decide +kernel
theorem dX9_areOdds_14 : decode cX9_areOdds 14 = .ok (.iload_n 0, 1) := by decide +kernel
theorem dX9_areOdds_15 : decode cX9_areOdds 15 = .ok (.iload_n 1, 1) := by decide +kernel
theorem dX9_areOdds_16 : decode cX9_areOdds 16 = .ok (.if_icmp .gt 16, 3) := by decide +kernel
theorem dX9_areOdds_19 : decode cX9_areOdds 19 = .ok (.iload_n 1, 1) := by decide +kernel
theorem dX9_areOdds_20 : decode cX9_areOdds 20 = .ok (.iload_n 0, 1) := by decide +kernel
theorem dX9_areOdds_21 : decode cX9_areOdds 21 = .ok (.isub, 1) := by decide +kernel
theorem dX9_areOdds_22 : decode cX9_areOdds 22 = .ok (.ldc_w 276, 3) := by decide +kernel
theorem dX9_areOdds_25 : decode cX9_areOdds 25 = .ok (.if_icmp .gt 7, 3) := by decide +kernel
theorem dX9_areOdds_28 : decode cX9_areOdds 28 = .ok (.iconst 1, 1) := by decide +kernel
theorem dX9_areOdds_29 : decode cX9_areOdds 29 = .ok (.goto 4, 3) := by decide +kernel
theorem dX9_areOdds_32 : decode cX9_areOdds 32 = .ok (.iconst 0, 1) := by decide +kernel
theorem dX9_areOdds_33 : decode cX9_areOdds 33 = .ok (.ireturn, 1) := by decide +kernel
theorem dX9_odds_0 : decode cX9_odds 0 = .ok (.iload_n 1, 1) := by decide +kernel
theorem dX9_odds_1 : decode cX9_odds 1 = .ok (.iload_n 2, 1) := by decide +kernel
theorem dX9_odds_2 : decode cX9_odds 2 = .ok (.invokestatic 277, 3) := by decide +kernel
theorem dX9_odds_5 : decode cX9_odds 5 = .ok (.ifCond .ne 5, 3) := by decide +kernel
theorem dX9_odds_8 : decode cX9_odds 8 = .ok (.iconst (-1), 1) := by decide +kernel
theorem dX9_odds_9 : decode cX9_odds 9 = .ok (.ireturn, 1) := by decide +kernel
theorem dX9_odds_10 : decode cX9_odds 10 = .ok (.aload_n 0, 1) := by decide +kernel
theorem dX9_odds_11 : decode cX9_odds 11 = .ok (.iload_n 1, 1) := by decide +kernel
theorem dX9_odds_12 : decode cX9_odds 12 = .ok (.iload_n 2, 1) := by decide +kernel
theorem dX9_odds_13 : decode cX9_odds 13 = .ok (.invokevirtual 280, 3) := by decide +kernel
theorem dX9_odds_16 : decode cX9_odds 16 = .ok (.aload_n 0, 1) := by decide +kernel
theorem dX9_odds_17 : decode cX9_odds 17 = .ok (.getfield 265, 3) := by decide +kernel
theorem dX9_odds_20 : decode cX9_odds 20 = .ok (.ireturn, 1) := by decide +kernel
theorem dX9_odd_0 : decode cX9_odd 0 = .ok (.iload_n 1, 1) := by decide +kernel
theorem dX9_odd_1 : decode cX9_odd 1 = .ok (.iload_n 2, 1) := by decide +kernel
theorem dX9_odd_2 : decode cX9_odd 2 = .ok (.invokestatic 277, 3) := by decide +kernel
theorem dX9_odd_5 : decode cX9_odd 5 = .ok (.ifCond .ne 5, 3) := by decide +kernel
theorem dX9_odd_8 : decode cX9_odd 8 = .ok (.iconst (-1), 1) := by decide +kernel
theorem dX9_odd_9 : decode cX9_odd 9 = .ok (.ireturn, 1) := by decide +kernel
theorem dX9_odd_10 : decode cX9_odd 10 = .ok (.aload_n 0, 1) := by decide +kernel
theorem dX9_odd_11 : decode cX9_odd 11 = .ok (.iload_n 1, 1) := by decide +kernel
theorem dX9_odd_12 : decode cX9_odd 12 = .ok (.iload_n 2, 1) := by decide +kernel
theorem dX9_odd_13 : decode cX9_odd 13 = .ok (.invokevirtual 280, 3) := by decide +kernel
theorem dX9_odd_16 : decode cX9_odd 16 = .ok (.iload_n 3, 1) := by decide +kernel
theorem dX9_odd_17 : decode cX9_odd 17 = .ok (.ifCond .lt 20, 3) := by decide +kernel
theorem dX9_odd_20 : decode cX9_odd 20 = .ok (.iload_n 3, 1) := by decide +kernel
theorem dX9_odd_21 : decode cX9_odd 21 = .ok (.aload_n 0, 1) := by decide +kernel
theorem dX9_odd_22 : decode cX9_odd 22 = .ok (.getfield 265, 3) := by decide +kernel
theorem dX9_odd_25 : decode cX9_odd 25 = .ok (.if_icmp .ge 12, 3) := by decide +kernel
theorem dX9_odd_28 : decode cX9_odd 28 = .ok (.aload_n 0, 1) := by decide +kernel
theorem dX9_odd_29 : decode cX9_odd 29 = .ok (.getfield 113, 3) := by decide +kernel
theorem dX9_odd_32 : decode cX9_odd 32 = .ok (.iload_n 3, 1) := by decide +kernel
theorem dX9_odd_33 : decode cX9_odd 33 = .ok (.iaload, 1) := by decide +kernel
theorem dX9_odd_34 : decode cX9_odd 34 = .ok (.goto 4, 3) := by decide +kernel
theorem dX9_odd_37 : decode cX9_odd 37 = .ok (.iconst (-1), 1) := by decide +kernel
theorem dX9_odd_38 : decode cX9_odd 38 = .ok (.ireturn, 1) := by decide +kernel
theorem dX9_isRow_0 : decode cX9_isRow 0 = .ok (.iload_n 0, 1) := by decide +kernel
theorem dX9_isRow_1 : decode cX9_isRow 1 = .ok (.invokestatic 179, 3) := by decide +kernel
theorem dX9_isRow_4 : decode cX9_isRow 4 = .ok (.ifCond .eq 25, 3) := by decide +kernel
theorem dX9_isRow_7 : decode cX9_isRow 7 = .ok (.iload_n 1, 1) := by decide +kernel
theorem dX9_isRow_8 : decode cX9_isRow 8 = .ok (.iconst 0, 1) := by decide +kernel
theorem dX9_isRow_9 : decode cX9_isRow 9 = .ok (.iload_n 2, 1) := by decide +kernel
theorem dX9_isRow_10 : decode cX9_isRow 10 = .ok (.invokestatic 131, 3) := by decide +kernel
theorem dX9_isRow_13 : decode cX9_isRow 13 = .ok (.ifCond .eq 16, 3) := by decide +kernel
theorem dX9_isRow_16 : decode cX9_isRow 16 = .ok (.iload_n 0, 1) := by decide +kernel
theorem dX9_isRow_17 : decode cX9_isRow 17 = .ok (.iload_n 1, 1) := by decide +kernel
theorem dX9_isRow_18 : decode cX9_isRow 18 = .ok (.iadd, 1) := by decide +kernel
theorem dX9_isRow_19 : decode cX9_isRow 19 = .ok (.invokestatic 179, 3) := by decide +kernel
theorem dX9_isRow_22 : decode cX9_isRow 22 = .ok (.ifCond .eq 7, 3) := by decide +kernel
theorem dX9_isRow_25 : decode cX9_isRow 25 = .ok (.iconst 1, 1) := by decide +kernel
theorem dX9_isRow_26 : decode cX9_isRow 26 = .ok (.goto 4, 3) := by decide +kernel
theorem dX9_isRow_29 : decode cX9_isRow 29 = .ok (.iconst 0, 1) := by decide +kernel
theorem dX9_isRow_30 : decode cX9_isRow 30 = .ok (.ireturn, 1) := by decide +kernel
theorem dX9_firstBroken_0 : decode cX9_firstBroken 0 = .ok (.iconst 0, 1) := by decide +kernel
theorem dX9_firstBroken_1 : decode cX9_firstBroken 1 = .ok (.istore_n 3, 1) := by decide +kernel
theorem dX9_firstBroken_2 : decode cX9_firstBroken 2 = .ok (.iload_n 3, 1) := by decide +kernel
theorem dX9_firstBroken_3 : decode cX9_firstBroken 3 = .ok (.aload_n 0, 1) := by decide +kernel
theorem dX9_firstBroken_4 : decode cX9_firstBroken 4 = .ok (.getfield 265, 3) := by decide +kernel
theorem dX9_firstBroken_7 : decode cX9_firstBroken 7 = .ok (.if_icmp .ge 31, 3) := by decide +kernel
theorem dX9_firstBroken_10 : decode cX9_firstBroken 10 = .ok (.aload_n 0, 1) := by decide +kernel
theorem dX9_firstBroken_11 : decode cX9_firstBroken 11 = .ok (.iload_n 1, 1) := by decide +kernel
theorem dX9_firstBroken_12 : decode cX9_firstBroken 12 = .ok (.iload_n 2, 1) := by decide +kernel
theorem dX9_firstBroken_13 : decode cX9_firstBroken 13 = .ok (.aload_n 0, 1) := by decide +kernel
theorem dX9_firstBroken_14 : decode cX9_firstBroken 14 = .ok (.getfield 113, 3) := by decide +kernel
theorem dX9_firstBroken_17 : decode cX9_firstBroken 17 = .ok (.iload_n 3, 1) := by decide +kernel
theorem dX9_firstBroken_18 : decode cX9_firstBroken 18 = .ok (.iaload, 1) := by decide +kernel
theorem dX9_firstBroken_19 : decode cX9_firstBroken 19 = .ok (.invokevirtual 262, 3) := by decide +kernel
theorem dX9_firstBroken_22 : decode cX9_firstBroken 22 = .ok (.ifCond .ne 10, 3) := by decide +kernel
theorem dX9_firstBroken_25 : decode cX9_firstBroken 25 = .ok (.aload_n 0, 1) := by decide +kernel
theorem dX9_firstBroken_26 : decode cX9_firstBroken 26 = .ok (.getfield 113, 3) := by decide +kernel
theorem dX9_firstBroken_29 : decode cX9_firstBroken 29 = .ok (.iload_n 3, 1) := by decide +kernel
theorem dX9_firstBroken_30 : decode cX9_firstBroken 30 = .ok (.iaload, 1) := by decide +kernel
theorem dX9_firstBroken_31 : decode cX9_firstBroken 31 = .ok (.ireturn, 1) := by decide +kernel
theorem dX9_firstBroken_32 : decode cX9_firstBroken 32 = .ok (.iinc 3 1, 3) := by decide +kernel
theorem dX9_firstBroken_35 : decode cX9_firstBroken 35 = .ok (.goto (-33), 3) := by decide +kernel
theorem dX9_firstBroken_38 : decode cX9_firstBroken 38 = .ok (.bipush (-6), 2) := by decide +kernel
theorem dX9_firstBroken_40 : decode cX9_firstBroken 40 = .ok (.ireturn, 1) := by decide +kernel
theorem dX9_least_0 : decode cX9_least 0 = .ok (.iload_n 1, 1) := by decide +kernel
theorem dX9_least_1 : decode cX9_least 1 = .ok (.invokestatic 194, 3) := by decide +kernel
theorem dX9_least_4 : decode cX9_least 4 = .ok (.ifCond .eq 25, 3) := by decide +kernel
theorem dX9_least_7 : decode cX9_least 7 = .ok (.aload_n 0, 1) := by decide +kernel
theorem dX9_least_8 : decode cX9_least 8 = .ok (.iload_n 2, 1) := by decide +kernel
theorem dX9_least_9 : decode cX9_least 9 = .ok (.iload_n 3, 1) := by decide +kernel
theorem dX9_least_10 : decode cX9_least 10 = .ok (.invokevirtual 259, 3) := by decide +kernel
theorem dX9_least_13 : decode cX9_least 13 = .ok (.ifCond .eq 16, 3) := by decide +kernel
theorem dX9_least_16 : decode cX9_least 16 = .ok (.iload 4, 2) := by decide +kernel
theorem dX9_least_18 : decode cX9_least 18 = .ok (.iload 5, 2) := by decide +kernel
theorem dX9_least_20 : decode cX9_least 20 = .ok (.ldc_w 276, 3) := by decide +kernel
theorem dX9_least_23 : decode cX9_least 23 = .ok (.invokestatic 283, 3) := by decide +kernel
theorem dX9_least_26 : decode cX9_least 26 = .ok (.ifCond .ne 5, 3) := by decide +kernel
theorem dX9_least_29 : decode cX9_least 29 = .ok (.iconst (-1), 1) := by decide +kernel
theorem dX9_least_30 : decode cX9_least 30 = .ok (.ireturn, 1) := by decide +kernel
theorem dX9_least_31 : decode cX9_least 31 = .ok (.aload_n 0, 1) := by decide +kernel
theorem dX9_least_32 : decode cX9_least 32 = .ok (.iload_n 1, 1) := by decide +kernel
theorem dX9_least_33 : decode cX9_least 33 = .ok (.invokevirtual 219, 3) := by decide +kernel
theorem dX9_least_36 : decode cX9_least 36 = .ok (.aload_n 0, 1) := by decide +kernel
theorem dX9_least_37 : decode cX9_least 37 = .ok (.invokevirtual 222, 3) := by decide +kernel
theorem dX9_least_40 : decode cX9_least 40 = .ok (.bipush (-6), 2) := by decide +kernel
theorem dX9_least_42 : decode cX9_least 42 = .ok (.if_icmp .eq 6, 3) := by decide +kernel
theorem dX9_least_45 : decode cX9_least 45 = .ok (.bipush (-4), 2) := by decide +kernel
theorem dX9_least_47 : decode cX9_least 47 = .ok (.ireturn, 1) := by decide +kernel
theorem dX9_least_48 : decode cX9_least 48 = .ok (.aload_n 0, 1) := by decide +kernel
theorem dX9_least_49 : decode cX9_least 49 = .ok (.iload 4, 2) := by decide +kernel
theorem dX9_least_51 : decode cX9_least 51 = .ok (.iload 4, 2) := by decide +kernel
theorem dX9_least_53 : decode cX9_least 53 = .ok (.iload 5, 2) := by decide +kernel
theorem dX9_least_55 : decode cX9_least 55 = .ok (.iadd, 1) := by decide +kernel
theorem dX9_least_56 : decode cX9_least 56 = .ok (.invokevirtual 280, 3) := by decide +kernel
theorem dX9_least_59 : decode cX9_least 59 = .ok (.aload_n 0, 1) := by decide +kernel
theorem dX9_least_60 : decode cX9_least 60 = .ok (.iload_n 2, 1) := by decide +kernel
theorem dX9_least_61 : decode cX9_least 61 = .ok (.iload_n 3, 1) := by decide +kernel
theorem dX9_least_62 : decode cX9_least 62 = .ok (.invokevirtual 286, 3) := by decide +kernel
theorem dX9_least_65 : decode cX9_least 65 = .ok (.ireturn, 1) := by decide +kernel
theorem dX9_changeLine_0 : decode cX9_changeLine 0 = .ok (.iload_n 2, 1) := by decide +kernel
theorem dX9_changeLine_1 : decode cX9_changeLine 1 = .ok (.istore_n 3, 1) := by decide +kernel
theorem dX9_changeLine_2 : decode cX9_changeLine 2 = .ok (.aload_n 0, 1) := by decide +kernel
theorem dX9_changeLine_3 : decode cX9_changeLine 3 = .ok (.getfield 88, 3) := by decide +kernel
theorem dX9_changeLine_6 : decode cX9_changeLine 6 = .ok (.iload_n 1, 1) := by decide +kernel
theorem dX9_changeLine_7 : decode cX9_changeLine 7 = .ok (.iaload, 1) := by decide +kernel
theorem dX9_changeLine_8 : decode cX9_changeLine 8 = .ok (.iconst 4, 1) := by decide +kernel
theorem dX9_changeLine_9 : decode cX9_changeLine 9 = .ok (.if_icmp .ne 26, 3) := by decide +kernel
theorem dX9_changeLine_12 : decode cX9_changeLine 12 = .ok (.iload_n 3, 1) := by decide +kernel
theorem dX9_changeLine_13 : decode cX9_changeLine 13 = .ok (.ifCond .ne 19, 3) := by decide +kernel
theorem dX9_changeLine_16 : decode cX9_changeLine 16 = .ok (.aload_n 0, 1) := by decide +kernel
theorem dX9_changeLine_17 : decode cX9_changeLine 17 = .ok (.getfield 94, 3) := by decide +kernel
theorem dX9_changeLine_20 : decode cX9_changeLine 20 = .ok (.iload_n 1, 1) := by decide +kernel
theorem dX9_changeLine_21 : decode cX9_changeLine 21 = .ok (.iconst 1, 1) := by decide +kernel
theorem dX9_changeLine_22 : decode cX9_changeLine 22 = .ok (.aload_n 0, 1) := by decide +kernel
theorem dX9_changeLine_23 : decode cX9_changeLine 23 = .ok (.getfield 94, 3) := by decide +kernel
theorem dX9_changeLine_26 : decode cX9_changeLine 26 = .ok (.iload_n 1, 1) := by decide +kernel
theorem dX9_changeLine_27 : decode cX9_changeLine 27 = .ok (.iaload, 1) := by decide +kernel
theorem dX9_changeLine_28 : decode cX9_changeLine 28 = .ok (.isub, 1) := by decide +kernel
theorem dX9_changeLine_29 : decode cX9_changeLine 29 = .ok (.iastore, 1) := by decide +kernel
theorem dX9_changeLine_30 : decode cX9_changeLine 30 = .ok (.iconst 1, 1) := by decide +kernel
theorem dX9_changeLine_31 : decode cX9_changeLine 31 = .ok (.ireturn, 1) := by decide +kernel
theorem dX9_changeLine_32 : decode cX9_changeLine 32 = .ok (.iinc 3 (-1), 3) := by decide +kernel
theorem dX9_changeLine_35 : decode cX9_changeLine 35 = .ok (.aload_n 0, 1) := by decide +kernel
theorem dX9_changeLine_36 : decode cX9_changeLine 36 = .ok (.getfield 88, 3) := by decide +kernel
theorem dX9_changeLine_39 : decode cX9_changeLine 39 = .ok (.iload_n 1, 1) := by decide +kernel
theorem dX9_changeLine_40 : decode cX9_changeLine 40 = .ok (.iaload, 1) := by decide +kernel
theorem dX9_changeLine_41 : decode cX9_changeLine 41 = .ok (.iconst 4, 1) := by decide +kernel
theorem dX9_changeLine_42 : decode cX9_changeLine 42 = .ok (.if_icmp .eq 13, 3) := by decide +kernel
theorem dX9_changeLine_45 : decode cX9_changeLine 45 = .ok (.aload_n 0, 1) := by decide +kernel
theorem dX9_changeLine_46 : decode cX9_changeLine 46 = .ok (.getfield 88, 3) := by decide +kernel
theorem dX9_changeLine_49 : decode cX9_changeLine 49 = .ok (.iload_n 1, 1) := by decide +kernel
theorem dX9_changeLine_50 : decode cX9_changeLine 50 = .ok (.iaload, 1) := by decide +kernel
theorem dX9_changeLine_51 : decode cX9_changeLine 51 = .ok (.iconst 1, 1) := by decide +kernel
theorem dX9_changeLine_52 : decode cX9_changeLine 52 = .ok (.if_icmp .ne 51, 3) := by decide +kernel
theorem dX9_changeLine_55 : decode cX9_changeLine 55 = .ok (.iconst 0, 1) := by decide +kernel
theorem dX9_changeLine_56 : decode cX9_changeLine 56 = .ok (.istore 4, 2) := by decide +kernel
theorem dX9_changeLine_58 : decode cX9_changeLine 58 = .ok (.iload 4, 2) := by decide +kernel
theorem dX9_changeLine_60 : decode cX9_changeLine 60 = .ok (.aload_n 0, 1) := by decide +kernel
theorem dX9_changeLine_61 : decode cX9_changeLine 61 = .ok (.getfield 135, 3) := by decide +kernel
theorem dX9_changeLine_64 : decode cX9_changeLine 64 = .ok (.if_icmp .ge 37, 3) := by decide +kernel
theorem dX9_changeLine_67 : decode cX9_changeLine 67 = .ok (.iload 4, 2) := by decide +kernel
theorem dX9_changeLine_69 : decode cX9_changeLine 69 = .ok (.aload_n 0, 1) := by decide +kernel
theorem dX9_changeLine_70 : decode cX9_changeLine 70 = .ok (.getfield 91, 3) := by decide +kernel
theorem dX9_changeLine_73 : decode cX9_changeLine 73 = .ok (.iload_n 1, 1) := by decide +kernel
theorem dX9_changeLine_74 : decode cX9_changeLine 74 = .ok (.iaload, 1) := by decide +kernel
theorem dX9_changeLine_75 : decode cX9_changeLine 75 = .ok (.if_icmp .eq 20, 3) := by decide +kernel
theorem dX9_changeLine_78 : decode cX9_changeLine 78 = .ok (.iload_n 3, 1) := by decide +kernel
theorem dX9_changeLine_79 : decode cX9_changeLine 79 = .ok (.ifCond .ne 13, 3) := by decide +kernel
theorem dX9_changeLine_82 : decode cX9_changeLine 82 = .ok (.aload_n 0, 1) := by decide +kernel
theorem dX9_changeLine_83 : decode cX9_changeLine 83 = .ok (.getfield 91, 3) := by decide +kernel
theorem dX9_changeLine_86 : decode cX9_changeLine 86 = .ok (.iload_n 1, 1) := by decide +kernel
theorem dX9_changeLine_87 : decode cX9_changeLine 87 = .ok (.iload 4, 2) := by decide +kernel
theorem dX9_changeLine_89 : decode cX9_changeLine 89 = .ok (.iastore, 1) := by decide +kernel
theorem dX9_changeLine_90 : decode cX9_changeLine 90 = .ok (.iconst 1, 1) := by decide +kernel
theorem dX9_changeLine_91 : decode cX9_changeLine 91 = .ok (.ireturn, 1) := by decide +kernel
theorem dX9_changeLine_92 : decode cX9_changeLine 92 = .ok (.iinc 3 (-1), 3) := by decide +kernel
theorem dX9_changeLine_95 : decode cX9_changeLine 95 = .ok (.iinc 4 1, 3) := by decide +kernel
theorem dX9_changeLine_98 : decode cX9_changeLine 98 = .ok (.goto (-40), 3) := by decide +kernel
theorem dX9_changeLine_101 : decode cX9_changeLine 101 = .ok (.iconst 0, 1) := by decide +kernel
theorem dX9_changeLine_102 : decode cX9_changeLine 102 = .ok (.ireturn, 1) := by decide +kernel
theorem dX9_changeLine_103 : decode cX9_changeLine 103 = .ok (.aload_n 0, 1) := by decide +kernel
theorem dX9_changeLine_104 : decode cX9_changeLine 104 = .ok (.getfield 88, 3) := by decide +kernel
theorem dX9_changeLine_107 : decode cX9_changeLine 107 = .ok (.iload_n 1, 1) := by decide +kernel
theorem dX9_changeLine_108 : decode cX9_changeLine 108 = .ok (.iaload, 1) := by decide +kernel
theorem dX9_changeLine_109 : decode cX9_changeLine 109 = .ok (.iconst 5, 1) := by decide +kernel
theorem dX9_changeLine_110 : decode cX9_changeLine 110 = .ok (.if_icmp .ne 53, 3) := by decide +kernel
theorem dX9_changeLine_113 : decode cX9_changeLine 113 = .ok (.iload_n 3, 1) := by decide +kernel
theorem dX9_changeLine_114 : decode cX9_changeLine 114 = .ok (.ifCond .ne 25, 3) := by decide +kernel
theorem dX9_changeLine_117 : decode cX9_changeLine 117 = .ok (.aload_n 0, 1) := by decide +kernel
theorem dX9_changeLine_118 : decode cX9_changeLine 118 = .ok (.getfield 91, 3) := by decide +kernel
theorem dX9_changeLine_121 : decode cX9_changeLine 121 = .ok (.iload_n 1, 1) := by decide +kernel
theorem dX9_changeLine_122 : decode cX9_changeLine 122 = .ok (.iaload, 1) := by decide +kernel
theorem dX9_changeLine_123 : decode cX9_changeLine 123 = .ok (.ifCond .eq 16, 3) := by decide +kernel
theorem dX9_changeLine_126 : decode cX9_changeLine 126 = .ok (.aload_n 0, 1) := by decide +kernel
theorem dX9_changeLine_127 : decode cX9_changeLine 127 = .ok (.getfield 91, 3) := by decide +kernel
theorem dX9_changeLine_130 : decode cX9_changeLine 130 = .ok (.iload_n 1, 1) := by decide +kernel
theorem dX9_changeLine_131 : decode cX9_changeLine 131 = .ok (.iaload, 1) := by decide +kernel
theorem dX9_changeLine_132 : decode cX9_changeLine 132 = .ok (.sipush 1440, 3) := by decide +kernel
theorem dX9_changeLine_135 : decode cX9_changeLine 135 = .ok (.irem, 1) := by decide +kernel
theorem dX9_changeLine_136 : decode cX9_changeLine 136 = .ok (.ifCond .eq 5, 3) := by decide +kernel
theorem dX9_changeLine_139 : decode cX9_changeLine 139 = .ok (.iconst 0, 1) := by decide +kernel
theorem dX9_changeLine_140 : decode cX9_changeLine 140 = .ok (.ireturn, 1) := by decide +kernel
theorem dX9_changeLine_141 : decode cX9_changeLine 141 = .ok (.aload_n 0, 1) := by decide +kernel
theorem dX9_changeLine_142 : decode cX9_changeLine 142 = .ok (.getfield 88, 3) := by decide +kernel
theorem dX9_changeLine_145 : decode cX9_changeLine 145 = .ok (.iload_n 1, 1) := by decide +kernel
theorem dX9_changeLine_146 : decode cX9_changeLine 146 = .ok (.bipush 6, 2) := by decide +kernel
theorem dX9_changeLine_148 : decode cX9_changeLine 148 = .ok (.iastore, 1) := by decide +kernel
theorem dX9_changeLine_149 : decode cX9_changeLine 149 = .ok (.aload_n 0, 1) := by decide +kernel
theorem dX9_changeLine_150 : decode cX9_changeLine 150 = .ok (.getfield 91, 3) := by decide +kernel
theorem dX9_changeLine_153 : decode cX9_changeLine 153 = .ok (.iload_n 1, 1) := by decide +kernel
theorem dX9_changeLine_154 : decode cX9_changeLine 154 = .ok (.dup2, 1) := by decide +kernel
theorem dX9_changeLine_155 : decode cX9_changeLine 155 = .ok (.iaload, 1) := by decide +kernel
theorem dX9_changeLine_156 : decode cX9_changeLine 156 = .ok (.sipush 1440, 3) := by decide +kernel
theorem dX9_changeLine_159 : decode cX9_changeLine 159 = .ok (.idiv, 1) := by decide +kernel
theorem dX9_changeLine_160 : decode cX9_changeLine 160 = .ok (.iastore, 1) := by decide +kernel
theorem dX9_changeLine_161 : decode cX9_changeLine 161 = .ok (.iconst 1, 1) := by decide +kernel
theorem dX9_changeLine_162 : decode cX9_changeLine 162 = .ok (.ireturn, 1) := by decide +kernel
theorem dX9_changeLine_163 : decode cX9_changeLine 163 = .ok (.aload_n 0, 1) := by decide +kernel
theorem dX9_changeLine_164 : decode cX9_changeLine 164 = .ok (.getfield 88, 3) := by decide +kernel
theorem dX9_changeLine_167 : decode cX9_changeLine 167 = .ok (.iload_n 1, 1) := by decide +kernel
theorem dX9_changeLine_168 : decode cX9_changeLine 168 = .ok (.iaload, 1) := by decide +kernel
theorem dX9_changeLine_169 : decode cX9_changeLine 169 = .ok (.bipush 6, 2) := by decide +kernel
theorem dX9_changeLine_171 : decode cX9_changeLine 171 = .ok (.if_icmp .ne 52, 3) := by decide +kernel
theorem dX9_changeLine_174 : decode cX9_changeLine 174 = .ok (.iload_n 3, 1) := by decide +kernel
theorem dX9_changeLine_175 : decode cX9_changeLine 175 = .ok (.ifCond .ne 25, 3) := by decide +kernel
theorem dX9_changeLine_178 : decode cX9_changeLine 178 = .ok (.aload_n 0, 1) := by decide +kernel
theorem dX9_changeLine_179 : decode cX9_changeLine 179 = .ok (.getfield 91, 3) := by decide +kernel
theorem dX9_changeLine_182 : decode cX9_changeLine 182 = .ok (.iload_n 1, 1) := by decide +kernel
theorem dX9_changeLine_183 : decode cX9_changeLine 183 = .ok (.iaload, 1) := by decide +kernel
theorem dX9_changeLine_184 : decode cX9_changeLine 184 = .ok (.sipush 1440, 3) := by decide +kernel
theorem dX9_changeLine_187 : decode cX9_changeLine 187 = .ok (.imul, 1) := by decide +kernel
theorem dX9_changeLine_188 : decode cX9_changeLine 188 = .ok (.sipush (-9999), 3) := by decide +kernel
theorem dX9_changeLine_191 : decode cX9_changeLine 191 = .ok (.sipush 9999, 3) := by decide +kernel
theorem dX9_changeLine_194 : decode cX9_changeLine 194 = .ok (.invokestatic 131, 3) := by decide +kernel
theorem dX9_changeLine_197 : decode cX9_changeLine 197 = .ok (.ifCond .ne 5, 3) := by decide +kernel
theorem dX9_changeLine_200 : decode cX9_changeLine 200 = .ok (.iconst 0, 1) := by decide +kernel
theorem dX9_changeLine_201 : decode cX9_changeLine 201 = .ok (.ireturn, 1) := by decide +kernel
theorem dX9_changeLine_202 : decode cX9_changeLine 202 = .ok (.aload_n 0, 1) := by decide +kernel
theorem dX9_changeLine_203 : decode cX9_changeLine 203 = .ok (.getfield 88, 3) := by decide +kernel
theorem dX9_changeLine_206 : decode cX9_changeLine 206 = .ok (.iload_n 1, 1) := by decide +kernel
theorem dX9_changeLine_207 : decode cX9_changeLine 207 = .ok (.iconst 5, 1) := by decide +kernel
theorem dX9_changeLine_208 : decode cX9_changeLine 208 = .ok (.iastore, 1) := by decide +kernel
theorem dX9_changeLine_209 : decode cX9_changeLine 209 = .ok (.aload_n 0, 1) := by decide +kernel
theorem dX9_changeLine_210 : decode cX9_changeLine 210 = .ok (.getfield 91, 3) := by decide +kernel
theorem dX9_changeLine_213 : decode cX9_changeLine 213 = .ok (.iload_n 1, 1) := by decide +kernel
theorem dX9_changeLine_214 : decode cX9_changeLine 214 = .ok (.dup2, 1) := by decide +kernel
theorem dX9_changeLine_215 : decode cX9_changeLine 215 = .ok (.iaload, 1) := by decide +kernel
theorem dX9_changeLine_216 : decode cX9_changeLine 216 = .ok (.sipush 1440, 3) := by decide +kernel
theorem dX9_changeLine_219 : decode cX9_changeLine 219 = .ok (.imul, 1) := by decide +kernel
theorem dX9_changeLine_220 : decode cX9_changeLine 220 = .ok (.iastore, 1) := by decide +kernel
theorem dX9_changeLine_221 : decode cX9_changeLine 221 = .ok (.iconst 1, 1) := by decide +kernel
theorem dX9_changeLine_222 : decode cX9_changeLine 222 = .ok (.ireturn, 1) := by decide +kernel
theorem dX9_changeLine_223 : decode cX9_changeLine 223 = .ok (.aload_n 0, 1) := by decide +kernel
theorem dX9_changeLine_224 : decode cX9_changeLine 224 = .ok (.getfield 88, 3) := by decide +kernel
theorem dX9_changeLine_227 : decode cX9_changeLine 227 = .ok (.iload_n 1, 1) := by decide +kernel
theorem dX9_changeLine_228 : decode cX9_changeLine 228 = .ok (.iaload, 1) := by decide +kernel
theorem dX9_changeLine_229 : decode cX9_changeLine 229 = .ok (.bipush 7, 2) := by decide +kernel
theorem dX9_changeLine_231 : decode cX9_changeLine 231 = .ok (.if_icmp .ne 46, 3) := by decide +kernel
theorem dX9_changeLine_234 : decode cX9_changeLine 234 = .ok (.iconst 0, 1) := by decide +kernel
theorem dX9_changeLine_235 : decode cX9_changeLine 235 = .ok (.istore 4, 2) := by decide +kernel
theorem dX9_changeLine_237 : decode cX9_changeLine 237 = .ok (.iload 4, 2) := by decide +kernel
theorem dX9_changeLine_239 : decode cX9_changeLine 239 = .ok (.iconst 3, 1) := by decide +kernel
theorem dX9_changeLine_240 : decode cX9_changeLine 240 = .ok (.if_icmp .ge 37, 3) := by decide +kernel
theorem dX9_changeLine_243 : decode cX9_changeLine 243 = .ok (.iload 4, 2) := by decide +kernel
theorem dX9_changeLine_245 : decode cX9_changeLine 245 = .ok (.aload_n 0, 1) := by decide +kernel
theorem dX9_changeLine_246 : decode cX9_changeLine 246 = .ok (.getfield 94, 3) := by decide +kernel
theorem dX9_changeLine_249 : decode cX9_changeLine 249 = .ok (.iload_n 1, 1) := by decide +kernel
theorem dX9_changeLine_250 : decode cX9_changeLine 250 = .ok (.iaload, 1) := by decide +kernel
theorem dX9_changeLine_251 : decode cX9_changeLine 251 = .ok (.if_icmp .eq 20, 3) := by decide +kernel
theorem dX9_changeLine_254 : decode cX9_changeLine 254 = .ok (.iload_n 3, 1) := by decide +kernel
theorem dX9_changeLine_255 : decode cX9_changeLine 255 = .ok (.ifCond .ne 13, 3) := by decide +kernel
theorem dX9_changeLine_258 : decode cX9_changeLine 258 = .ok (.aload_n 0, 1) := by decide +kernel
theorem dX9_changeLine_259 : decode cX9_changeLine 259 = .ok (.getfield 94, 3) := by decide +kernel
theorem dX9_changeLine_262 : decode cX9_changeLine 262 = .ok (.iload_n 1, 1) := by decide +kernel
theorem dX9_changeLine_263 : decode cX9_changeLine 263 = .ok (.iload 4, 2) := by decide +kernel
theorem dX9_changeLine_265 : decode cX9_changeLine 265 = .ok (.iastore, 1) := by decide +kernel
theorem dX9_changeLine_266 : decode cX9_changeLine 266 = .ok (.iconst 1, 1) := by decide +kernel
theorem dX9_changeLine_267 : decode cX9_changeLine 267 = .ok (.ireturn, 1) := by decide +kernel
theorem dX9_changeLine_268 : decode cX9_changeLine 268 = .ok (.iinc 3 (-1), 3) := by decide +kernel
theorem dX9_changeLine_271 : decode cX9_changeLine 271 = .ok (.iinc 4 1, 3) := by decide +kernel
theorem dX9_changeLine_274 : decode cX9_changeLine 274 = .ok (.goto (-37), 3) := by decide +kernel
theorem dX9_changeLine_277 : decode cX9_changeLine 277 = .ok (.iconst 0, 1) := by decide +kernel
theorem dX9_changeLine_278 : decode cX9_changeLine 278 = .ok (.ireturn, 1) := by decide +kernel
theorem dX9_isRight_0 : decode cX9_isRight 0 = .ok (.aload_n 0, 1) := by decide +kernel
theorem dX9_isRight_1 : decode cX9_isRight 1 = .ok (.invokevirtual 222, 3) := by decide +kernel
theorem dX9_isRight_4 : decode cX9_isRight 4 = .ok (.bipush (-6), 2) := by decide +kernel
theorem dX9_isRight_6 : decode cX9_isRight 6 = .ok (.if_icmp .ne 18, 3) := by decide +kernel
theorem dX9_isRight_9 : decode cX9_isRight 9 = .ok (.aload_n 0, 1) := by decide +kernel
theorem dX9_isRight_10 : decode cX9_isRight 10 = .ok (.iload_n 1, 1) := by decide +kernel
theorem dX9_isRight_11 : decode cX9_isRight 11 = .ok (.iload_n 2, 1) := by decide +kernel
theorem dX9_isRight_12 : decode cX9_isRight 12 = .ok (.invokevirtual 286, 3) := by decide +kernel
theorem dX9_isRight_15 : decode cX9_isRight 15 = .ok (.bipush (-6), 2) := by decide +kernel
theorem dX9_isRight_17 : decode cX9_isRight 17 = .ok (.if_icmp .ne 7, 3) := by decide +kernel
theorem dX9_isRight_20 : decode cX9_isRight 20 = .ok (.iconst 1, 1) := by decide +kernel
theorem dX9_isRight_21 : decode cX9_isRight 21 = .ok (.goto 4, 3) := by decide +kernel
theorem dX9_isRight_24 : decode cX9_isRight 24 = .ok (.iconst 0, 1) := by decide +kernel
theorem dX9_isRight_25 : decode cX9_isRight 25 = .ok (.ireturn, 1) := by decide +kernel
theorem dX9_keepMended_0 : decode cX9_keepMended 0 = .ok (.aload_n 0, 1) := by decide +kernel
theorem dX9_keepMended_1 : decode cX9_keepMended 1 = .ok (.aload_n 0, 1) := by decide +kernel
theorem dX9_keepMended_2 : decode cX9_keepMended 2 = .ok (.getfield 200, 3) := by decide +kernel
theorem dX9_keepMended_5 : decode cX9_keepMended 5 = .ok (.putfield 289, 3) := by decide +kernel
theorem dX9_keepMended_8 : decode cX9_keepMended 8 = .ok (.iconst 0, 1) := by decide +kernel
theorem dX9_keepMended_9 : decode cX9_keepMended 9 = .ok (.istore_n 1, 1) := by decide +kernel
theorem dX9_keepMended_10 : decode cX9_keepMended 10 = .ok (.iload_n 1, 1) := by decide +kernel
theorem dX9_keepMended_11 : decode cX9_keepMended 11 = .ok (.aload_n 0, 1) := by decide +kernel
theorem dX9_keepMended_12 : decode cX9_keepMended 12 = .ok (.getfield 200, 3) := by decide +kernel
theorem dX9_keepMended_15 : decode cX9_keepMended 15 = .ok (.if_icmp .ge 45, 3) := by decide +kernel
theorem dX9_keepMended_18 : decode cX9_keepMended 18 = .ok (.aload_n 0, 1) := by decide +kernel
theorem dX9_keepMended_19 : decode cX9_keepMended 19 = .ok (.getfield 103, 3) := by decide +kernel
theorem dX9_keepMended_22 : decode cX9_keepMended 22 = .ok (.iload_n 1, 1) := by decide +kernel
theorem dX9_keepMended_23 : decode cX9_keepMended 23 = .ok (.aload_n 0, 1) := by decide +kernel
theorem dX9_keepMended_24 : decode cX9_keepMended 24 = .ok (.getfield 88, 3) := by decide +kernel
theorem dX9_keepMended_27 : decode cX9_keepMended 27 = .ok (.iload_n 1, 1) := by decide +kernel
theorem dX9_keepMended_28 : decode cX9_keepMended 28 = .ok (.iaload, 1) := by decide +kernel
theorem dX9_keepMended_29 : decode cX9_keepMended 29 = .ok (.iastore, 1) := by decide +kernel
theorem dX9_keepMended_30 : decode cX9_keepMended 30 = .ok (.aload_n 0, 1) := by decide +kernel
theorem dX9_keepMended_31 : decode cX9_keepMended 31 = .ok (.getfield 106, 3) := by decide +kernel
theorem dX9_keepMended_34 : decode cX9_keepMended 34 = .ok (.iload_n 1, 1) := by decide +kernel
theorem dX9_keepMended_35 : decode cX9_keepMended 35 = .ok (.aload_n 0, 1) := by decide +kernel
theorem dX9_keepMended_36 : decode cX9_keepMended 36 = .ok (.getfield 91, 3) := by decide +kernel
theorem dX9_keepMended_39 : decode cX9_keepMended 39 = .ok (.iload_n 1, 1) := by decide +kernel
theorem dX9_keepMended_40 : decode cX9_keepMended 40 = .ok (.iaload, 1) := by decide +kernel
theorem dX9_keepMended_41 : decode cX9_keepMended 41 = .ok (.iastore, 1) := by decide +kernel
theorem dX9_keepMended_42 : decode cX9_keepMended 42 = .ok (.aload_n 0, 1) := by decide +kernel
theorem dX9_keepMended_43 : decode cX9_keepMended 43 = .ok (.getfield 109, 3) := by decide +kernel
theorem dX9_keepMended_46 : decode cX9_keepMended 46 = .ok (.iload_n 1, 1) := by decide +kernel
theorem dX9_keepMended_47 : decode cX9_keepMended 47 = .ok (.aload_n 0, 1) := by decide +kernel
theorem dX9_keepMended_48 : decode cX9_keepMended 48 = .ok (.getfield 94, 3) := by decide +kernel
theorem dX9_keepMended_51 : decode cX9_keepMended 51 = .ok (.iload_n 1, 1) := by decide +kernel
theorem dX9_keepMended_52 : decode cX9_keepMended 52 = .ok (.iaload, 1) := by decide +kernel
theorem dX9_keepMended_53 : decode cX9_keepMended 53 = .ok (.iastore, 1) := by decide +kernel
theorem dX9_keepMended_54 : decode cX9_keepMended 54 = .ok (.iinc 1 1, 3) := by decide +kernel
theorem dX9_keepMended_57 : decode cX9_keepMended 57 = .ok (.goto (-47), 3) := by decide +kernel
theorem dX9_keepMended_60 : decode cX9_keepMended 60 = .ok (.return_, 1) := by decide +kernel
theorem dX9_mendsOne_0 : decode cX9_mendsOne 0 = .ok (.iconst 0, 1) := by decide +kernel
theorem dX9_mendsOne_1 : decode cX9_mendsOne 1 = .ok (.istore 4, 2) := by decide +kernel
theorem dX9_mendsOne_3 : decode cX9_mendsOne 3 = .ok (.iload 4, 2) := by decide +kernel
theorem dX9_mendsOne_5 : decode cX9_mendsOne 5 = .ok (.aload_n 0, 1) := by decide +kernel
theorem dX9_mendsOne_6 : decode cX9_mendsOne 6 = .ok (.getfield 85, 3) := by decide +kernel
theorem dX9_mendsOne_9 : decode cX9_mendsOne 9 = .ok (.iload_n 1, 1) := by decide +kernel
theorem dX9_mendsOne_10 : decode cX9_mendsOne 10 = .ok (.iaload, 1) := by decide +kernel
theorem dX9_mendsOne_11 : decode cX9_mendsOne 11 = .ok (.if_icmp .ge 57, 3) := by decide +kernel
theorem dX9_mendsOne_14 : decode cX9_mendsOne 14 = .ok (.iconst 1, 1) := by decide +kernel
theorem dX9_mendsOne_15 : decode cX9_mendsOne 15 = .ok (.istore 5, 2) := by decide +kernel
theorem dX9_mendsOne_17 : decode cX9_mendsOne 17 = .ok (.iconst 0, 1) := by decide +kernel
theorem dX9_mendsOne_18 : decode cX9_mendsOne 18 = .ok (.istore 6, 2) := by decide +kernel
theorem dX9_mendsOne_20 : decode cX9_mendsOne 20 = .ok (.iload 5, 2) := by decide +kernel
theorem dX9_mendsOne_22 : decode cX9_mendsOne 22 = .ok (.ifCond .eq 40, 3) := by decide +kernel
theorem dX9_mendsOne_25 : decode cX9_mendsOne 25 = .ok (.aload_n 0, 1) := by decide +kernel
theorem dX9_mendsOne_26 : decode cX9_mendsOne 26 = .ok (.iload_n 1, 1) := by decide +kernel
theorem dX9_mendsOne_27 : decode cX9_mendsOne 27 = .ok (.invokevirtual 219, 3) := by decide +kernel
theorem dX9_mendsOne_30 : decode cX9_mendsOne 30 = .ok (.aload_n 0, 1) := by decide +kernel
theorem dX9_mendsOne_31 : decode cX9_mendsOne 31 = .ok (.iload 4, 2) := by decide +kernel
theorem dX9_mendsOne_33 : decode cX9_mendsOne 33 = .ok (.iload 6, 2) := by decide +kernel
theorem dX9_mendsOne_35 : decode cX9_mendsOne 35 = .ok (.invokevirtual 292, 3) := by decide +kernel
theorem dX9_mendsOne_38 : decode cX9_mendsOne 38 = .ok (.istore 5, 2) := by decide +kernel
theorem dX9_mendsOne_40 : decode cX9_mendsOne 40 = .ok (.iload 5, 2) := by decide +kernel
theorem dX9_mendsOne_42 : decode cX9_mendsOne 42 = .ok (.ifCond .eq 14, 3) := by decide +kernel
theorem dX9_mendsOne_45 : decode cX9_mendsOne 45 = .ok (.aload_n 0, 1) := by decide +kernel
theorem dX9_mendsOne_46 : decode cX9_mendsOne 46 = .ok (.iload_n 2, 1) := by decide +kernel
theorem dX9_mendsOne_47 : decode cX9_mendsOne 47 = .ok (.iload_n 3, 1) := by decide +kernel
theorem dX9_mendsOne_48 : decode cX9_mendsOne 48 = .ok (.invokevirtual 295, 3) := by decide +kernel
theorem dX9_mendsOne_51 : decode cX9_mendsOne 51 = .ok (.ifCond .eq 5, 3) := by decide +kernel
theorem dX9_mendsOne_54 : decode cX9_mendsOne 54 = .ok (.iconst 1, 1) := by decide +kernel
theorem dX9_mendsOne_55 : decode cX9_mendsOne 55 = .ok (.ireturn, 1) := by decide +kernel
theorem dX9_mendsOne_56 : decode cX9_mendsOne 56 = .ok (.iinc 6 1, 3) := by decide +kernel
theorem dX9_mendsOne_59 : decode cX9_mendsOne 59 = .ok (.goto (-39), 3) := by decide +kernel
theorem dX9_mendsOne_62 : decode cX9_mendsOne 62 = .ok (.iinc 4 1, 3) := by decide +kernel
theorem dX9_mendsOne_65 : decode cX9_mendsOne 65 = .ok (.goto (-62), 3) := by decide +kernel
theorem dX9_mendsOne_68 : decode cX9_mendsOne 68 = .ok (.iconst 0, 1) := by decide +kernel
theorem dX9_mendsOne_69 : decode cX9_mendsOne 69 = .ok (.ireturn, 1) := by decide +kernel
theorem dX9_mendsTwo_0 : decode cX9_mendsTwo 0 = .ok (.iconst 0, 1) := by decide +kernel
theorem dX9_mendsTwo_1 : decode cX9_mendsTwo 1 = .ok (.istore 4, 2) := by decide +kernel
theorem dX9_mendsTwo_3 : decode cX9_mendsTwo 3 = .ok (.iload 4, 2) := by decide +kernel
theorem dX9_mendsTwo_5 : decode cX9_mendsTwo 5 = .ok (.aload_n 0, 1) := by decide +kernel
theorem dX9_mendsTwo_6 : decode cX9_mendsTwo 6 = .ok (.getfield 85, 3) := by decide +kernel
theorem dX9_mendsTwo_9 : decode cX9_mendsTwo 9 = .ok (.iload_n 1, 1) := by decide +kernel
theorem dX9_mendsTwo_10 : decode cX9_mendsTwo 10 = .ok (.iaload, 1) := by decide +kernel
theorem dX9_mendsTwo_11 : decode cX9_mendsTwo 11 = .ok (.if_icmp .ge 127, 3) := by decide +kernel
theorem dX9_mendsTwo_14 : decode cX9_mendsTwo 14 = .ok (.iconst 1, 1) := by decide +kernel
theorem dX9_mendsTwo_15 : decode cX9_mendsTwo 15 = .ok (.istore 5, 2) := by decide +kernel
theorem dX9_mendsTwo_17 : decode cX9_mendsTwo 17 = .ok (.iconst 0, 1) := by decide +kernel
theorem dX9_mendsTwo_18 : decode cX9_mendsTwo 18 = .ok (.istore 6, 2) := by decide +kernel
theorem dX9_mendsTwo_20 : decode cX9_mendsTwo 20 = .ok (.iload 5, 2) := by decide +kernel
theorem dX9_mendsTwo_22 : decode cX9_mendsTwo 22 = .ok (.ifCond .eq 110, 3) := by decide +kernel
theorem dX9_mendsTwo_25 : decode cX9_mendsTwo 25 = .ok (.aload_n 0, 1) := by decide +kernel
theorem dX9_mendsTwo_26 : decode cX9_mendsTwo 26 = .ok (.iload_n 1, 1) := by decide +kernel
theorem dX9_mendsTwo_27 : decode cX9_mendsTwo 27 = .ok (.invokevirtual 219, 3) := by decide +kernel
theorem dX9_mendsTwo_30 : decode cX9_mendsTwo 30 = .ok (.aload_n 0, 1) := by decide +kernel
theorem dX9_mendsTwo_31 : decode cX9_mendsTwo 31 = .ok (.iload 4, 2) := by decide +kernel
theorem dX9_mendsTwo_33 : decode cX9_mendsTwo 33 = .ok (.iload 6, 2) := by decide +kernel
theorem dX9_mendsTwo_35 : decode cX9_mendsTwo 35 = .ok (.invokevirtual 292, 3) := by decide +kernel
theorem dX9_mendsTwo_38 : decode cX9_mendsTwo 38 = .ok (.istore 5, 2) := by decide +kernel
theorem dX9_mendsTwo_40 : decode cX9_mendsTwo 40 = .ok (.iload 4, 2) := by decide +kernel
theorem dX9_mendsTwo_42 : decode cX9_mendsTwo 42 = .ok (.iconst 1, 1) := by decide +kernel
theorem dX9_mendsTwo_43 : decode cX9_mendsTwo 43 = .ok (.iadd, 1) := by decide +kernel
theorem dX9_mendsTwo_44 : decode cX9_mendsTwo 44 = .ok (.istore 7, 2) := by decide +kernel
theorem dX9_mendsTwo_46 : decode cX9_mendsTwo 46 = .ok (.iload 7, 2) := by decide +kernel
theorem dX9_mendsTwo_48 : decode cX9_mendsTwo 48 = .ok (.aload_n 0, 1) := by decide +kernel
theorem dX9_mendsTwo_49 : decode cX9_mendsTwo 49 = .ok (.getfield 85, 3) := by decide +kernel
theorem dX9_mendsTwo_52 : decode cX9_mendsTwo 52 = .ok (.iload_n 1, 1) := by decide +kernel
theorem dX9_mendsTwo_53 : decode cX9_mendsTwo 53 = .ok (.iaload, 1) := by decide +kernel
theorem dX9_mendsTwo_54 : decode cX9_mendsTwo 54 = .ok (.if_icmp .ge 72, 3) := by decide +kernel
theorem dX9_mendsTwo_57 : decode cX9_mendsTwo 57 = .ok (.iload 5, 2) := by decide +kernel
theorem dX9_mendsTwo_59 : decode cX9_mendsTwo 59 = .ok (.ifCond .eq 67, 3) := by decide +kernel
theorem dX9_mendsTwo_62 : decode cX9_mendsTwo 62 = .ok (.iconst 1, 1) := by decide +kernel
theorem dX9_mendsTwo_63 : decode cX9_mendsTwo 63 = .ok (.istore 8, 2) := by decide +kernel
theorem dX9_mendsTwo_65 : decode cX9_mendsTwo 65 = .ok (.iconst 0, 1) := by decide +kernel
theorem dX9_mendsTwo_66 : decode cX9_mendsTwo 66 = .ok (.istore 9, 2) := by decide +kernel
theorem dX9_mendsTwo_68 : decode cX9_mendsTwo 68 = .ok (.iload 8, 2) := by decide +kernel
theorem dX9_mendsTwo_70 : decode cX9_mendsTwo 70 = .ok (.ifCond .eq 50, 3) := by decide +kernel
theorem dX9_mendsTwo_73 : decode cX9_mendsTwo 73 = .ok (.aload_n 0, 1) := by decide +kernel
theorem dX9_mendsTwo_74 : decode cX9_mendsTwo 74 = .ok (.iload_n 1, 1) := by decide +kernel
theorem dX9_mendsTwo_75 : decode cX9_mendsTwo 75 = .ok (.invokevirtual 219, 3) := by decide +kernel
theorem dX9_mendsTwo_78 : decode cX9_mendsTwo 78 = .ok (.aload_n 0, 1) := by decide +kernel
theorem dX9_mendsTwo_79 : decode cX9_mendsTwo 79 = .ok (.iload 4, 2) := by decide +kernel
theorem dX9_mendsTwo_81 : decode cX9_mendsTwo 81 = .ok (.iload 6, 2) := by decide +kernel
theorem dX9_mendsTwo_83 : decode cX9_mendsTwo 83 = .ok (.invokevirtual 292, 3) := by decide +kernel
theorem dX9_mendsTwo_86 : decode cX9_mendsTwo 86 = .ok (.istore 10, 2) := by decide +kernel
theorem dX9_mendsTwo_88 : decode cX9_mendsTwo 88 = .ok (.aload_n 0, 1) := by decide +kernel
theorem dX9_mendsTwo_89 : decode cX9_mendsTwo 89 = .ok (.iload 7, 2) := by decide +kernel
theorem dX9_mendsTwo_91 : decode cX9_mendsTwo 91 = .ok (.iload 9, 2) := by decide +kernel
theorem dX9_mendsTwo_93 : decode cX9_mendsTwo 93 = .ok (.invokevirtual 292, 3) := by decide +kernel
theorem dX9_mendsTwo_96 : decode cX9_mendsTwo 96 = .ok (.istore 8, 2) := by decide +kernel
theorem dX9_mendsTwo_98 : decode cX9_mendsTwo 98 = .ok (.iload 8, 2) := by decide +kernel
theorem dX9_mendsTwo_100 : decode cX9_mendsTwo 100 = .ok (.ifCond .eq 14, 3) := by decide +kernel
theorem dX9_mendsTwo_103 : decode cX9_mendsTwo 103 = .ok (.aload_n 0, 1) := by decide +kernel
theorem dX9_mendsTwo_104 : decode cX9_mendsTwo 104 = .ok (.iload_n 2, 1) := by decide +kernel
theorem dX9_mendsTwo_105 : decode cX9_mendsTwo 105 = .ok (.iload_n 3, 1) := by decide +kernel
theorem dX9_mendsTwo_106 : decode cX9_mendsTwo 106 = .ok (.invokevirtual 295, 3) := by decide +kernel
theorem dX9_mendsTwo_109 : decode cX9_mendsTwo 109 = .ok (.ifCond .eq 5, 3) := by decide +kernel
theorem dX9_mendsTwo_112 : decode cX9_mendsTwo 112 = .ok (.iconst 1, 1) := by decide +kernel
theorem dX9_mendsTwo_113 : decode cX9_mendsTwo 113 = .ok (.ireturn, 1) := by decide +kernel
theorem dX9_mendsTwo_114 : decode cX9_mendsTwo 114 = .ok (.iinc 9 1, 3) := by decide +kernel
theorem dX9_mendsTwo_117 : decode cX9_mendsTwo 117 = .ok (.goto (-49), 3) := by decide +kernel
theorem dX9_mendsTwo_120 : decode cX9_mendsTwo 120 = .ok (.iinc 7 1, 3) := by decide +kernel
theorem dX9_mendsTwo_123 : decode cX9_mendsTwo 123 = .ok (.goto (-77), 3) := by decide +kernel
theorem dX9_mendsTwo_126 : decode cX9_mendsTwo 126 = .ok (.iinc 6 1, 3) := by decide +kernel
theorem dX9_mendsTwo_129 : decode cX9_mendsTwo 129 = .ok (.goto (-109), 3) := by decide +kernel
theorem dX9_mendsTwo_132 : decode cX9_mendsTwo 132 = .ok (.iinc 4 1, 3) := by decide +kernel
theorem dX9_mendsTwo_135 : decode cX9_mendsTwo 135 = .ok (.goto (-132), 3) := by decide +kernel
theorem dX9_mendsTwo_138 : decode cX9_mendsTwo 138 = .ok (.iconst 0, 1) := by decide +kernel
theorem dX9_mendsTwo_139 : decode cX9_mendsTwo 139 = .ok (.ireturn, 1) := by decide +kernel
theorem dX9_mend_0 : decode cX9_mend 0 = .ok (.iload_n 1, 1) := by decide +kernel
theorem dX9_mend_1 : decode cX9_mend 1 = .ok (.invokestatic 194, 3) := by decide +kernel
theorem dX9_mend_4 : decode cX9_mend 4 = .ok (.ifCond .eq 25, 3) := by decide +kernel
theorem dX9_mend_7 : decode cX9_mend 7 = .ok (.aload_n 0, 1) := by decide +kernel
theorem dX9_mend_8 : decode cX9_mend 8 = .ok (.iload_n 2, 1) := by decide +kernel
theorem dX9_mend_9 : decode cX9_mend 9 = .ok (.iload_n 3, 1) := by decide +kernel
theorem dX9_mend_10 : decode cX9_mend 10 = .ok (.invokevirtual 259, 3) := by decide +kernel
theorem dX9_mend_13 : decode cX9_mend 13 = .ok (.ifCond .eq 16, 3) := by decide +kernel
theorem dX9_mend_16 : decode cX9_mend 16 = .ok (.iload 4, 2) := by decide +kernel
theorem dX9_mend_18 : decode cX9_mend 18 = .ok (.iload 5, 2) := by decide +kernel
theorem dX9_mend_20 : decode cX9_mend 20 = .ok (.ldc_w 298, 3) := by decide +kernel
theorem dX9_mend_23 : decode cX9_mend 23 = .ok (.invokestatic 283, 3) := by decide +kernel
theorem dX9_mend_26 : decode cX9_mend 26 = .ok (.ifCond .ne 5, 3) := by decide +kernel
theorem dX9_mend_29 : decode cX9_mend 29 = .ok (.iconst (-1), 1) := by decide +kernel
theorem dX9_mend_30 : decode cX9_mend 30 = .ok (.ireturn, 1) := by decide +kernel
theorem dX9_mend_31 : decode cX9_mend 31 = .ok (.aload_n 0, 1) := by decide +kernel
theorem dX9_mend_32 : decode cX9_mend 32 = .ok (.iload 4, 2) := by decide +kernel
theorem dX9_mend_34 : decode cX9_mend 34 = .ok (.iload 4, 2) := by decide +kernel
theorem dX9_mend_36 : decode cX9_mend 36 = .ok (.iload 5, 2) := by decide +kernel
theorem dX9_mend_38 : decode cX9_mend 38 = .ok (.iadd, 1) := by decide +kernel
theorem dX9_mend_39 : decode cX9_mend 39 = .ok (.invokevirtual 280, 3) := by decide +kernel
theorem dX9_mend_42 : decode cX9_mend 42 = .ok (.aload_n 0, 1) := by decide +kernel
theorem dX9_mend_43 : decode cX9_mend 43 = .ok (.iload_n 1, 1) := by decide +kernel
theorem dX9_mend_44 : decode cX9_mend 44 = .ok (.invokevirtual 219, 3) := by decide +kernel
theorem dX9_mend_47 : decode cX9_mend 47 = .ok (.aload_n 0, 1) := by decide +kernel
theorem dX9_mend_48 : decode cX9_mend 48 = .ok (.iload_n 2, 1) := by decide +kernel
theorem dX9_mend_49 : decode cX9_mend 49 = .ok (.iload_n 3, 1) := by decide +kernel
theorem dX9_mend_50 : decode cX9_mend 50 = .ok (.invokevirtual 295, 3) := by decide +kernel
theorem dX9_mend_53 : decode cX9_mend 53 = .ok (.ifCond .eq 7, 3) := by decide +kernel
theorem dX9_mend_56 : decode cX9_mend 56 = .ok (.iconst 0, 1) := by decide +kernel
theorem dX9_mend_57 : decode cX9_mend 57 = .ok (.goto 33, 3) := by decide +kernel
theorem dX9_mend_60 : decode cX9_mend 60 = .ok (.aload_n 0, 1) := by decide +kernel
theorem dX9_mend_61 : decode cX9_mend 61 = .ok (.iload_n 1, 1) := by decide +kernel
theorem dX9_mend_62 : decode cX9_mend 62 = .ok (.iload_n 2, 1) := by decide +kernel
theorem dX9_mend_63 : decode cX9_mend 63 = .ok (.iload_n 3, 1) := by decide +kernel
theorem dX9_mend_64 : decode cX9_mend 64 = .ok (.invokevirtual 299, 3) := by decide +kernel
theorem dX9_mend_67 : decode cX9_mend 67 = .ok (.ifCond .eq 7, 3) := by decide +kernel
theorem dX9_mend_70 : decode cX9_mend 70 = .ok (.iconst 1, 1) := by decide +kernel
theorem dX9_mend_71 : decode cX9_mend 71 = .ok (.goto 19, 3) := by decide +kernel
theorem dX9_mend_74 : decode cX9_mend 74 = .ok (.aload_n 0, 1) := by decide +kernel
theorem dX9_mend_75 : decode cX9_mend 75 = .ok (.iload_n 1, 1) := by decide +kernel
theorem dX9_mend_76 : decode cX9_mend 76 = .ok (.iload_n 2, 1) := by decide +kernel
theorem dX9_mend_77 : decode cX9_mend 77 = .ok (.iload_n 3, 1) := by decide +kernel
theorem dX9_mend_78 : decode cX9_mend 78 = .ok (.invokevirtual 302, 3) := by decide +kernel
theorem dX9_mend_81 : decode cX9_mend 81 = .ok (.ifCond .eq 7, 3) := by decide +kernel
theorem dX9_mend_84 : decode cX9_mend 84 = .ok (.iconst 2, 1) := by decide +kernel
theorem dX9_mend_85 : decode cX9_mend 85 = .ok (.goto 5, 3) := by decide +kernel
theorem dX9_mend_88 : decode cX9_mend 88 = .ok (.bipush (-6), 2) := by decide +kernel
theorem dX9_mend_90 : decode cX9_mend 90 = .ok (.istore 6, 2) := by decide +kernel
theorem dX9_mend_92 : decode cX9_mend 92 = .ok (.iload 6, 2) := by decide +kernel
theorem dX9_mend_94 : decode cX9_mend 94 = .ok (.ifCond .lt 7, 3) := by decide +kernel
theorem dX9_mend_97 : decode cX9_mend 97 = .ok (.aload_n 0, 1) := by decide +kernel
theorem dX9_mend_98 : decode cX9_mend 98 = .ok (.invokevirtual 305, 3) := by decide +kernel
theorem dX9_mend_101 : decode cX9_mend 101 = .ok (.iload 6, 2) := by decide +kernel
theorem dX9_mend_103 : decode cX9_mend 103 = .ok (.ireturn, 1) := by decide +kernel
theorem dX9_mended_0 : decode cX9_mended 0 = .ok (.iload_n 1, 1) := by decide +kernel
theorem dX9_mended_1 : decode cX9_mended 1 = .ok (.ifCond .lt 20, 3) := by decide +kernel
theorem dX9_mended_4 : decode cX9_mended 4 = .ok (.iload_n 1, 1) := by decide +kernel
theorem dX9_mended_5 : decode cX9_mended 5 = .ok (.aload_n 0, 1) := by decide +kernel
theorem dX9_mended_6 : decode cX9_mended 6 = .ok (.getfield 289, 3) := by decide +kernel
theorem dX9_mended_9 : decode cX9_mended 9 = .ok (.if_icmp .ge 12, 3) := by decide +kernel
theorem dX9_mended_12 : decode cX9_mended 12 = .ok (.iload_n 2, 1) := by decide +kernel
theorem dX9_mended_13 : decode cX9_mended 13 = .ok (.iconst 0, 1) := by decide +kernel
theorem dX9_mended_14 : decode cX9_mended 14 = .ok (.iconst 2, 1) := by decide +kernel
theorem dX9_mended_15 : decode cX9_mended 15 = .ok (.invokestatic 131, 3) := by decide +kernel
theorem dX9_mended_18 : decode cX9_mended 18 = .ok (.ifCond .ne 6, 3) := by decide +kernel
theorem dX9_mended_21 : decode cX9_mended 21 = .ok (.ldc 252, 2) := by decide +kernel
theorem dX9_mended_23 : decode cX9_mended 23 = .ok (.ireturn, 1) := by decide +kernel
theorem dX9_mended_24 : decode cX9_mended 24 = .ok (.iload_n 2, 1) := by decide +kernel
theorem dX9_mended_25 : decode cX9_mended 25 = .ok (.ifCond .ne 12, 3) := by decide +kernel
theorem dX9_mended_28 : decode cX9_mended 28 = .ok (.aload_n 0, 1) := by decide +kernel
theorem dX9_mended_29 : decode cX9_mended 29 = .ok (.getfield 103, 3) := by decide +kernel
theorem dX9_mended_32 : decode cX9_mended 32 = .ok (.iload_n 1, 1) := by decide +kernel
theorem dX9_mended_33 : decode cX9_mended 33 = .ok (.iaload, 1) := by decide +kernel
theorem dX9_mended_34 : decode cX9_mended 34 = .ok (.goto 23, 3) := by decide +kernel
theorem dX9_mended_37 : decode cX9_mended 37 = .ok (.iload_n 2, 1) := by decide +kernel
theorem dX9_mended_38 : decode cX9_mended 38 = .ok (.iconst 1, 1) := by decide +kernel
theorem dX9_mended_39 : decode cX9_mended 39 = .ok (.if_icmp .ne 12, 3) := by decide +kernel
theorem dX9_mended_42 : decode cX9_mended 42 = .ok (.aload_n 0, 1) := by decide +kernel
theorem dX9_mended_43 : decode cX9_mended 43 = .ok (.getfield 106, 3) := by decide +kernel
theorem dX9_mended_46 : decode cX9_mended 46 = .ok (.iload_n 1, 1) := by decide +kernel
theorem dX9_mended_47 : decode cX9_mended 47 = .ok (.iaload, 1) := by decide +kernel
theorem dX9_mended_48 : decode cX9_mended 48 = .ok (.goto 9, 3) := by decide +kernel
theorem dX9_mended_51 : decode cX9_mended 51 = .ok (.aload_n 0, 1) := by decide +kernel
theorem dX9_mended_52 : decode cX9_mended 52 = .ok (.getfield 109, 3) := by decide +kernel
theorem dX9_mended_55 : decode cX9_mended 55 = .ok (.iload_n 1, 1) := by decide +kernel
theorem dX9_mended_56 : decode cX9_mended 56 = .ok (.iaload, 1) := by decide +kernel
theorem dX9_mended_57 : decode cX9_mended 57 = .ok (.ireturn, 1) := by decide +kernel
theorem dX9_meetings_0 : decode cX9_meetings 0 = .ok (.aload_n 0, 1) := by decide +kernel
theorem dX9_meetings_1 : decode cX9_meetings 1 = .ok (.iload_n 1, 1) := by decide +kernel
theorem dX9_meetings_2 : decode cX9_meetings 2 = .ok (.invokevirtual 162, 3) := by decide +kernel
theorem dX9_meetings_5 : decode cX9_meetings 5 = .ok (.ifCond .eq 71, 3) := by decide +kernel
theorem dX9_meetings_8 : decode cX9_meetings 8 = .ok (.iload_n 2, 1) := by decide +kernel
theorem dX9_meetings_9 : decode cX9_meetings 9 = .ok (.ifCond .lt 67, 3) := by decide +kernel
theorem dX9_meetings_12 : decode cX9_meetings 12 = .ok (.iload_n 2, 1) := by decide +kernel
theorem dX9_meetings_13 : decode cX9_meetings 13 = .ok (.bipush 10, 2) := by decide +kernel
theorem dX9_meetings_15 : decode cX9_meetings 15 = .ok (.idiv, 1) := by decide +kernel
theorem dX9_meetings_16 : decode cX9_meetings 16 = .ok (.sipush 1440, 3) := by decide +kernel
theorem dX9_meetings_19 : decode cX9_meetings 19 = .ok (.if_icmp .ge 57, 3) := by decide +kernel
theorem dX9_meetings_22 : decode cX9_meetings 22 = .ok (.iload_n 2, 1) := by decide +kernel
theorem dX9_meetings_23 : decode cX9_meetings 23 = .ok (.bipush 10, 2) := by decide +kernel
theorem dX9_meetings_25 : decode cX9_meetings 25 = .ok (.irem, 1) := by decide +kernel
theorem dX9_meetings_26 : decode cX9_meetings 26 = .ok (.aload_n 0, 1) := by decide +kernel
theorem dX9_meetings_27 : decode cX9_meetings 27 = .ok (.getfield 23, 3) := by decide +kernel
theorem dX9_meetings_30 : decode cX9_meetings 30 = .ok (.if_icmp .ge 46, 3) := by decide +kernel
theorem dX9_meetings_33 : decode cX9_meetings 33 = .ok (.aload_n 0, 1) := by decide +kernel
theorem dX9_meetings_34 : decode cX9_meetings 34 = .ok (.iload_n 3, 1) := by decide +kernel
theorem dX9_meetings_35 : decode cX9_meetings 35 = .ok (.invokevirtual 141, 3) := by decide +kernel
theorem dX9_meetings_38 : decode cX9_meetings 38 = .ok (.ifCond .eq 38, 3) := by decide +kernel
theorem dX9_meetings_41 : decode cX9_meetings 41 = .ok (.aload_n 0, 1) := by decide +kernel
theorem dX9_meetings_42 : decode cX9_meetings 42 = .ok (.iload 4, 2) := by decide +kernel
theorem dX9_meetings_44 : decode cX9_meetings 44 = .ok (.invokevirtual 141, 3) := by decide +kernel
theorem dX9_meetings_47 : decode cX9_meetings 47 = .ok (.ifCond .eq 29, 3) := by decide +kernel
theorem dX9_meetings_50 : decode cX9_meetings 50 = .ok (.iload_n 3, 1) := by decide +kernel
theorem dX9_meetings_51 : decode cX9_meetings 51 = .ok (.iload 4, 2) := by decide +kernel
theorem dX9_meetings_53 : decode cX9_meetings 53 = .ok (.if_icmp .gt 23, 3) := by decide +kernel
theorem dX9_meetings_56 : decode cX9_meetings 56 = .ok (.iload 4, 2) := by decide +kernel
theorem dX9_meetings_58 : decode cX9_meetings 58 = .ok (.iload_n 3, 1) := by decide +kernel
theorem dX9_meetings_59 : decode cX9_meetings 59 = .ok (.isub, 1) := by decide +kernel
theorem dX9_meetings_60 : decode cX9_meetings 60 = .ok (.sipush 4000, 3) := by decide +kernel
theorem dX9_meetings_63 : decode cX9_meetings 63 = .ok (.if_icmp .gt 13, 3) := by decide +kernel
theorem dX9_meetings_66 : decode cX9_meetings 66 = .ok (.iload 5, 2) := by decide +kernel
theorem dX9_meetings_68 : decode cX9_meetings 68 = .ok (.iconst 0, 1) := by decide +kernel
theorem dX9_meetings_69 : decode cX9_meetings 69 = .ok (.iconst 2, 1) := by decide +kernel
theorem dX9_meetings_70 : decode cX9_meetings 70 = .ok (.invokestatic 131, 3) := by decide +kernel
theorem dX9_meetings_73 : decode cX9_meetings 73 = .ok (.ifCond .ne 5, 3) := by decide +kernel
theorem dX9_meetings_76 : decode cX9_meetings 76 = .ok (.iconst (-1), 1) := by decide +kernel
theorem dX9_meetings_77 : decode cX9_meetings 77 = .ok (.ireturn, 1) := by decide +kernel
theorem dX9_meetings_78 : decode cX9_meetings 78 = .ok (.iconst 0, 1) := by decide +kernel
theorem dX9_meetings_79 : decode cX9_meetings 79 = .ok (.istore 6, 2) := by decide +kernel
theorem dX9_meetings_81 : decode cX9_meetings 81 = .ok (.iload_n 3, 1) := by decide +kernel
theorem dX9_meetings_82 : decode cX9_meetings 82 = .ok (.istore 7, 2) := by decide +kernel
theorem dX9_meetings_84 : decode cX9_meetings 84 = .ok (.iload 7, 2) := by decide +kernel
theorem dX9_meetings_86 : decode cX9_meetings 86 = .ok (.iload 4, 2) := by decide +kernel
theorem dX9_meetings_88 : decode cX9_meetings 88 = .ok (.if_icmp .gt 76, 3) := by decide +kernel
theorem dX9_meetings_91 : decode cX9_meetings 91 = .ok (.aload_n 0, 1) := by decide +kernel
theorem dX9_meetings_92 : decode cX9_meetings 92 = .ok (.iload 7, 2) := by decide +kernel
theorem dX9_meetings_94 : decode cX9_meetings 94 = .ok (.invokevirtual 149, 3) := by decide +kernel
theorem dX9_meetings_97 : decode cX9_meetings 97 = .ok (.iload_n 2, 1) := by decide +kernel
theorem dX9_meetings_98 : decode cX9_meetings 98 = .ok (.bipush 10, 2) := by decide +kernel
theorem dX9_meetings_100 : decode cX9_meetings 100 = .ok (.irem, 1) := by decide +kernel
theorem dX9_meetings_101 : decode cX9_meetings 101 = .ok (.if_icmp .ne 57, 3) := by decide +kernel
theorem dX9_meetings_104 : decode cX9_meetings 104 = .ok (.aload_n 0, 1) := by decide +kernel
theorem dX9_meetings_105 : decode cX9_meetings 105 = .ok (.iload_n 1, 1) := by decide +kernel
theorem dX9_meetings_106 : decode cX9_meetings 106 = .ok (.sipush 1440, 3) := by decide +kernel
theorem dX9_meetings_109 : decode cX9_meetings 109 = .ok (.iload 7, 2) := by decide +kernel
theorem dX9_meetings_111 : decode cX9_meetings 111 = .ok (.imul, 1) := by decide +kernel
theorem dX9_meetings_112 : decode cX9_meetings 112 = .ok (.iload_n 2, 1) := by decide +kernel
theorem dX9_meetings_113 : decode cX9_meetings 113 = .ok (.bipush 10, 2) := by decide +kernel
theorem dX9_meetings_115 : decode cX9_meetings 115 = .ok (.idiv, 1) := by decide +kernel
theorem dX9_meetings_116 : decode cX9_meetings 116 = .ok (.iadd, 1) := by decide +kernel
theorem dX9_meetings_117 : decode cX9_meetings 117 = .ok (.iconst (-1), 1) := by decide +kernel
theorem dX9_meetings_118 : decode cX9_meetings 118 = .ok (.invokevirtual 191, 3) := by decide +kernel
theorem dX9_meetings_121 : decode cX9_meetings 121 = .ok (.istore 8, 2) := by decide +kernel
theorem dX9_meetings_123 : decode cX9_meetings 123 = .ok (.iload 6, 2) := by decide +kernel
theorem dX9_meetings_125 : decode cX9_meetings 125 = .ok (.iload 5, 2) := by decide +kernel
theorem dX9_meetings_127 : decode cX9_meetings 127 = .ok (.iconst 2, 1) := by decide +kernel
theorem dX9_meetings_128 : decode cX9_meetings 128 = .ok (.if_icmp .eq 22, 3) := by decide +kernel
theorem dX9_meetings_131 : decode cX9_meetings 131 = .ok (.iload 5, 2) := by decide +kernel
theorem dX9_meetings_133 : decode cX9_meetings 133 = .ok (.ifCond .ne 11, 3) := by decide +kernel
theorem dX9_meetings_136 : decode cX9_meetings 136 = .ok (.iload 8, 2) := by decide +kernel
theorem dX9_meetings_138 : decode cX9_meetings 138 = .ok (.ifCond .ne 16, 3) := by decide +kernel
theorem dX9_meetings_141 : decode cX9_meetings 141 = .ok (.goto 9, 3) := by decide +kernel
theorem dX9_meetings_144 : decode cX9_meetings 144 = .ok (.iload 8, 2) := by decide +kernel
theorem dX9_meetings_146 : decode cX9_meetings 146 = .ok (.iconst 1, 1) := by decide +kernel
theorem dX9_meetings_147 : decode cX9_meetings 147 = .ok (.if_icmp .le 7, 3) := by decide +kernel
theorem dX9_meetings_150 : decode cX9_meetings 150 = .ok (.iconst 1, 1) := by decide +kernel
theorem dX9_meetings_151 : decode cX9_meetings 151 = .ok (.goto 4, 3) := by decide +kernel
theorem dX9_meetings_154 : decode cX9_meetings 154 = .ok (.iconst 0, 1) := by decide +kernel
theorem dX9_meetings_155 : decode cX9_meetings 155 = .ok (.iadd, 1) := by decide +kernel
theorem dX9_meetings_156 : decode cX9_meetings 156 = .ok (.istore 6, 2) := by decide +kernel
theorem dX9_meetings_158 : decode cX9_meetings 158 = .ok (.iinc 7 1, 3) := by decide +kernel
theorem dX9_meetings_161 : decode cX9_meetings 161 = .ok (.goto (-77), 3) := by decide +kernel
theorem dX9_meetings_164 : decode cX9_meetings 164 = .ok (.iload 6, 2) := by decide +kernel
theorem dX9_meetings_166 : decode cX9_meetings 166 = .ok (.ireturn, 1) := by decide +kernel
theorem dX9_count_0 : decode cX9_count 0 = .ok (.iconst 0, 1) := by decide +kernel
theorem dX9_count_1 : decode cX9_count 1 = .ok (.istore_n 2, 1) := by decide +kernel
theorem dX9_count_2 : decode cX9_count 2 = .ok (.iconst 0, 1) := by decide +kernel
theorem dX9_count_3 : decode cX9_count 3 = .ok (.istore_n 3, 1) := by decide +kernel
theorem dX9_count_4 : decode cX9_count 4 = .ok (.iload_n 3, 1) := by decide +kernel
theorem dX9_count_5 : decode cX9_count 5 = .ok (.bipush 6, 2) := by decide +kernel
theorem dX9_count_7 : decode cX9_count 7 = .ok (.if_icmp .ge 18, 3) := by decide +kernel
theorem dX9_count_10 : decode cX9_count 10 = .ok (.iload_n 2, 1) := by decide +kernel
theorem dX9_count_11 : decode cX9_count 11 = .ok (.aload_n 0, 1) := by decide +kernel
theorem dX9_count_12 : decode cX9_count 12 = .ok (.getfield 85, 3) := by decide +kernel
theorem dX9_count_15 : decode cX9_count 15 = .ok (.iload_n 3, 1) := by decide +kernel
theorem dX9_count_16 : decode cX9_count 16 = .ok (.iaload, 1) := by decide +kernel
theorem dX9_count_17 : decode cX9_count 17 = .ok (.iadd, 1) := by decide +kernel
theorem dX9_count_18 : decode cX9_count 18 = .ok (.istore_n 2, 1) := by decide +kernel
theorem dX9_count_19 : decode cX9_count 19 = .ok (.iinc 3 1, 3) := by decide +kernel
theorem dX9_count_22 : decode cX9_count 22 = .ok (.goto (-18), 3) := by decide +kernel
theorem dX9_count_25 : decode cX9_count 25 = .ok (.iload_n 1, 1) := by decide +kernel
theorem dX9_count_26 : decode cX9_count 26 = .ok (.ifCond .ne 10, 3) := by decide +kernel
theorem dX9_count_29 : decode cX9_count 29 = .ok (.aload_n 0, 1) := by decide +kernel
theorem dX9_count_30 : decode cX9_count 30 = .ok (.getfield 135, 3) := by decide +kernel
theorem dX9_count_33 : decode cX9_count 33 = .ok (.goto 37, 3) := by decide +kernel
theorem dX9_count_36 : decode cX9_count 36 = .ok (.iload_n 1, 1) := by decide +kernel
theorem dX9_count_37 : decode cX9_count 37 = .ok (.iconst 1, 1) := by decide +kernel
theorem dX9_count_38 : decode cX9_count 38 = .ok (.if_icmp .ne 7, 3) := by decide +kernel
theorem dX9_count_41 : decode cX9_count 41 = .ok (.iload_n 2, 1) := by decide +kernel
theorem dX9_count_42 : decode cX9_count 42 = .ok (.goto 28, 3) := by decide +kernel
theorem dX9_count_45 : decode cX9_count 45 = .ok (.iload_n 1, 1) := by decide +kernel
theorem dX9_count_46 : decode cX9_count 46 = .ok (.iconst 2, 1) := by decide +kernel
theorem dX9_count_47 : decode cX9_count 47 = .ok (.if_icmp .ne 10, 3) := by decide +kernel
theorem dX9_count_50 : decode cX9_count 50 = .ok (.aload_n 0, 1) := by decide +kernel
theorem dX9_count_51 : decode cX9_count 51 = .ok (.getfield 165, 3) := by decide +kernel
theorem dX9_count_54 : decode cX9_count 54 = .ok (.goto 16, 3) := by decide +kernel
theorem dX9_count_57 : decode cX9_count 57 = .ok (.iload_n 1, 1) := by decide +kernel
theorem dX9_count_58 : decode cX9_count 58 = .ok (.iconst 3, 1) := by decide +kernel
theorem dX9_count_59 : decode cX9_count 59 = .ok (.if_icmp .ne 10, 3) := by decide +kernel
theorem dX9_count_62 : decode cX9_count 62 = .ok (.aload_n 0, 1) := by decide +kernel
theorem dX9_count_63 : decode cX9_count 63 = .ok (.invokevirtual 127, 3) := by decide +kernel
theorem dX9_count_66 : decode cX9_count 66 = .ok (.goto 4, 3) := by decide +kernel
theorem dX9_count_69 : decode cX9_count 69 = .ok (.iconst (-1), 1) := by decide +kernel
theorem dX9_count_70 : decode cX9_count 70 = .ok (.ireturn, 1) := by decide +kernel
theorem dJ13_bitCount_95d88_0 : decode cJ13_bitCount_95d88 0 = .ok (.lload_n 0, 1) := by decide +kernel
theorem dJ13_bitCount_95d88_1 : decode cJ13_bitCount_95d88 1 = .ok (.lload_n 0, 1) := by decide +kernel
theorem dJ13_bitCount_95d88_2 : decode cJ13_bitCount_95d88 2 = .ok (.iconst 1, 1) := by decide +kernel
theorem dJ13_bitCount_95d88_3 : decode cJ13_bitCount_95d88 3 = .ok (.lushr, 1) := by decide +kernel
theorem dJ13_bitCount_95d88_4 : decode cJ13_bitCount_95d88 4 = .ok (.ldc2_w 314, 3) := by decide +kernel
theorem dJ13_bitCount_95d88_7 : decode cJ13_bitCount_95d88 7 = .ok (.land, 1) := by decide +kernel
theorem dJ13_bitCount_95d88_8 : decode cJ13_bitCount_95d88 8 = .ok (.lsub, 1) := by decide +kernel
theorem dJ13_bitCount_95d88_9 : decode cJ13_bitCount_95d88 9 = .ok (.lstore_n 0, 1) := by decide +kernel
theorem dJ13_bitCount_95d88_10 : decode cJ13_bitCount_95d88 10 = .ok (.lload_n 0, 1) := by decide +kernel
theorem dJ13_bitCount_95d88_11 : decode cJ13_bitCount_95d88 11 = .ok (.ldc2_w 316, 3) := by decide +kernel
theorem dJ13_bitCount_95d88_14 : decode cJ13_bitCount_95d88 14 = .ok (.land, 1) := by decide +kernel
theorem dJ13_bitCount_95d88_15 : decode cJ13_bitCount_95d88 15 = .ok (.lload_n 0, 1) := by decide +kernel
theorem dJ13_bitCount_95d88_16 : decode cJ13_bitCount_95d88 16 = .ok (.iconst 2, 1) := by decide +kernel
theorem dJ13_bitCount_95d88_17 : decode cJ13_bitCount_95d88 17 = .ok (.lushr, 1) := by decide +kernel
theorem dJ13_bitCount_95d88_18 : decode cJ13_bitCount_95d88 18 = .ok (.ldc2_w 316, 3) := by decide +kernel
theorem dJ13_bitCount_95d88_21 : decode cJ13_bitCount_95d88 21 = .ok (.land, 1) := by decide +kernel
theorem dJ13_bitCount_95d88_22 : decode cJ13_bitCount_95d88 22 = .ok (.ladd, 1) := by decide +kernel
theorem dJ13_bitCount_95d88_23 : decode cJ13_bitCount_95d88 23 = .ok (.lstore_n 0, 1) := by decide +kernel
theorem dJ13_bitCount_95d88_24 : decode cJ13_bitCount_95d88 24 = .ok (.lload_n 0, 1) := by decide +kernel
theorem dJ13_bitCount_95d88_25 : decode cJ13_bitCount_95d88 25 = .ok (.lload_n 0, 1) := by decide +kernel
theorem dJ13_bitCount_95d88_26 : decode cJ13_bitCount_95d88 26 = .ok (.iconst 4, 1) := by decide +kernel
theorem dJ13_bitCount_95d88_27 : decode cJ13_bitCount_95d88 27 = .ok (.lushr, 1) := by decide +kernel
theorem dJ13_bitCount_95d88_28 : decode cJ13_bitCount_95d88 28 = .ok (.ladd, 1) := by decide +kernel
theorem dJ13_bitCount_95d88_29 : decode cJ13_bitCount_95d88 29 = .ok (.ldc2_w 318, 3) := by decide +kernel
theorem dJ13_bitCount_95d88_32 : decode cJ13_bitCount_95d88 32 = .ok (.land, 1) := by decide +kernel
theorem dJ13_bitCount_95d88_33 : decode cJ13_bitCount_95d88 33 = .ok (.lstore_n 0, 1) := by decide +kernel
theorem dJ13_bitCount_95d88_34 : decode cJ13_bitCount_95d88 34 = .ok (.lload_n 0, 1) := by decide +kernel
theorem dJ13_bitCount_95d88_35 : decode cJ13_bitCount_95d88 35 = .ok (.lload_n 0, 1) := by decide +kernel
theorem dJ13_bitCount_95d88_36 : decode cJ13_bitCount_95d88 36 = .ok (.bipush 8, 2) := by decide +kernel
theorem dJ13_bitCount_95d88_38 : decode cJ13_bitCount_95d88 38 = .ok (.lushr, 1) := by decide +kernel
theorem dJ13_bitCount_95d88_39 : decode cJ13_bitCount_95d88 39 = .ok (.ladd, 1) := by decide +kernel
theorem dJ13_bitCount_95d88_40 : decode cJ13_bitCount_95d88 40 = .ok (.lstore_n 0, 1) := by decide +kernel
theorem dJ13_bitCount_95d88_41 : decode cJ13_bitCount_95d88 41 = .ok (.lload_n 0, 1) := by decide +kernel
theorem dJ13_bitCount_95d88_42 : decode cJ13_bitCount_95d88 42 = .ok (.lload_n 0, 1) := by decide +kernel
theorem dJ13_bitCount_95d88_43 : decode cJ13_bitCount_95d88 43 = .ok (.bipush 16, 2) := by decide +kernel
theorem dJ13_bitCount_95d88_45 : decode cJ13_bitCount_95d88 45 = .ok (.lushr, 1) := by decide +kernel
theorem dJ13_bitCount_95d88_46 : decode cJ13_bitCount_95d88 46 = .ok (.ladd, 1) := by decide +kernel
theorem dJ13_bitCount_95d88_47 : decode cJ13_bitCount_95d88 47 = .ok (.lstore_n 0, 1) := by decide +kernel
theorem dJ13_bitCount_95d88_48 : decode cJ13_bitCount_95d88 48 = .ok (.lload_n 0, 1) := by decide +kernel
theorem dJ13_bitCount_95d88_49 : decode cJ13_bitCount_95d88 49 = .ok (.lload_n 0, 1) := by decide +kernel
theorem dJ13_bitCount_95d88_50 : decode cJ13_bitCount_95d88 50 = .ok (.bipush 32, 2) := by decide +kernel
theorem dJ13_bitCount_95d88_52 : decode cJ13_bitCount_95d88 52 = .ok (.lushr, 1) := by decide +kernel
theorem dJ13_bitCount_95d88_53 : decode cJ13_bitCount_95d88 53 = .ok (.ladd, 1) := by decide +kernel
theorem dJ13_bitCount_95d88_54 : decode cJ13_bitCount_95d88 54 = .ok (.lstore_n 0, 1) := by decide +kernel
theorem dJ13_bitCount_95d88_55 : decode cJ13_bitCount_95d88 55 = .ok (.lload_n 0, 1) := by decide +kernel
theorem dJ13_bitCount_95d88_56 : decode cJ13_bitCount_95d88 56 = .ok (.l2i, 1) := by decide +kernel
theorem dJ13_bitCount_95d88_57 : decode cJ13_bitCount_95d88 57 = .ok (.bipush 127, 2) := by decide +kernel
theorem dJ13_bitCount_95d88_59 : decode cJ13_bitCount_95d88 59 = .ok (.iand, 1) := by decide +kernel
theorem dJ13_bitCount_95d88_60 : decode cJ13_bitCount_95d88 60 = .ok (.ireturn, 1) := by decide +kernel
theorem dJ9_floorMod_7cf53_0 : decode cJ9_floorMod_7cf53 0 = .ok (.iload_n 0, 1) := by decide +kernel
theorem dJ9_floorMod_7cf53_1 : decode cJ9_floorMod_7cf53 1 = .ok (.iload_n 1, 1) := by decide +kernel
theorem dJ9_floorMod_7cf53_2 : decode cJ9_floorMod_7cf53 2 = .ok (.irem, 1) := by decide +kernel
theorem dJ9_floorMod_7cf53_3 : decode cJ9_floorMod_7cf53 3 = .ok (.istore_n 2, 1) := by decide +kernel
theorem dJ9_floorMod_7cf53_4 : decode cJ9_floorMod_7cf53 4 = .ok (.iload_n 0, 1) := by decide +kernel
theorem dJ9_floorMod_7cf53_5 : decode cJ9_floorMod_7cf53 5 = .ok (.iload_n 1, 1) := by decide +kernel
theorem dJ9_floorMod_7cf53_6 : decode cJ9_floorMod_7cf53 6 = .ok (.ixor, 1) := by decide +kernel
theorem dJ9_floorMod_7cf53_7 : decode cJ9_floorMod_7cf53 7 = .ok (.ifCond .ge 11, 3) := by decide +kernel
theorem dJ9_floorMod_7cf53_10 : decode cJ9_floorMod_7cf53 10 = .ok (.iload_n 2, 1) := by decide +kernel
theorem dJ9_floorMod_7cf53_11 : decode cJ9_floorMod_7cf53 11 = .ok (.ifCond .eq 7, 3) := by decide +kernel
theorem dJ9_floorMod_7cf53_14 : decode cJ9_floorMod_7cf53 14 = .ok (.iload_n 2, 1) := by decide +kernel
theorem dJ9_floorMod_7cf53_15 : decode cJ9_floorMod_7cf53 15 = .ok (.iload_n 1, 1) := by decide +kernel
theorem dJ9_floorMod_7cf53_16 : decode cJ9_floorMod_7cf53 16 = .ok (.iadd, 1) := by decide +kernel
theorem dJ9_floorMod_7cf53_17 : decode cJ9_floorMod_7cf53 17 = .ok (.ireturn, 1) := by decide +kernel
theorem dJ9_floorMod_7cf53_18 : decode cJ9_floorMod_7cf53 18 = .ok (.iload_n 2, 1) := by decide +kernel
theorem dJ9_floorMod_7cf53_19 : decode cJ9_floorMod_7cf53 19 = .ok (.ireturn, 1) := by decide +kernel
theorem dJ9_abs_0f7a4_0 : decode cJ9_abs_0f7a4 0 = .ok (.iload_n 0, 1) := by decide +kernel
theorem dJ9_abs_0f7a4_1 : decode cJ9_abs_0f7a4 1 = .ok (.ifCond .ge 8, 3) := by decide +kernel
theorem dJ9_abs_0f7a4_4 : decode cJ9_abs_0f7a4 4 = .ok (.iload_n 0, 1) := by decide +kernel
theorem dJ9_abs_0f7a4_5 : decode cJ9_abs_0f7a4 5 = .ok (.ineg, 1) := by decide +kernel
theorem dJ9_abs_0f7a4_6 : decode cJ9_abs_0f7a4 6 = .ok (.goto 4, 3) := by decide +kernel
theorem dJ9_abs_0f7a4_9 : decode cJ9_abs_0f7a4 9 = .ok (.iload_n 0, 1) := by decide +kernel
theorem dJ9_abs_0f7a4_10 : decode cJ9_abs_0f7a4 10 = .ok (.ireturn, 1) := by decide +kernel
theorem dJ9_max_7cf53_0 : decode cJ9_max_7cf53 0 = .ok (.iload_n 0, 1) := by decide +kernel
theorem dJ9_max_7cf53_1 : decode cJ9_max_7cf53 1 = .ok (.iload_n 1, 1) := by decide +kernel
theorem dJ9_max_7cf53_2 : decode cJ9_max_7cf53 2 = .ok (.if_icmp .lt 7, 3) := by decide +kernel
theorem dJ9_max_7cf53_5 : decode cJ9_max_7cf53 5 = .ok (.iload_n 0, 1) := by decide +kernel
theorem dJ9_max_7cf53_6 : decode cJ9_max_7cf53 6 = .ok (.goto 4, 3) := by decide +kernel
theorem dJ9_max_7cf53_9 : decode cJ9_max_7cf53 9 = .ok (.iload_n 1, 1) := by decide +kernel
theorem dJ9_max_7cf53_10 : decode cJ9_max_7cf53 10 = .ok (.ireturn, 1) := by decide +kernel
theorem dJ9_min_7cf53_0 : decode cJ9_min_7cf53 0 = .ok (.iload_n 0, 1) := by decide +kernel
theorem dJ9_min_7cf53_1 : decode cJ9_min_7cf53 1 = .ok (.iload_n 1, 1) := by decide +kernel
theorem dJ9_min_7cf53_2 : decode cJ9_min_7cf53 2 = .ok (.if_icmp .gt 7, 3) := by decide +kernel
theorem dJ9_min_7cf53_5 : decode cJ9_min_7cf53 5 = .ok (.iload_n 0, 1) := by decide +kernel
theorem dJ9_min_7cf53_6 : decode cJ9_min_7cf53 6 = .ok (.goto 4, 3) := by decide +kernel
theorem dJ9_min_7cf53_9 : decode cJ9_min_7cf53 9 = .ok (.iload_n 1, 1) := by decide +kernel
theorem dJ9_min_7cf53_10 : decode cJ9_min_7cf53 10 = .ok (.ireturn, 1) := by decide +kernel
