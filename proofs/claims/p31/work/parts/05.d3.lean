theorem dX9_rule_186 : decode cX9_rule 186 = .ok (.iload_n 1, 1) := by decide +kernel
theorem dX9_rule_187 : decode cX9_rule 187 = .ok (.dup2, 1) := by decide +kernel
theorem dX9_rule_188 : decode cX9_rule 188 = .ok (.iaload, 1) := by decide +kernel
theorem dX9_rule_189 : decode cX9_rule 189 = .ok (.iconst 1, 1) := by decide +kernel
theorem dX9_rule_190 : decode cX9_rule 190 = .ok (.iadd, 1) := by decide +kernel
theorem dX9_rule_191 : decode cX9_rule 191 = .ok (.iastore, 1) := by decide +kernel
theorem dX9_rule_192 : decode cX9_rule 192 = .ok (.aload_n 0, 1) := by decide +kernel
theorem dX9_rule_193 : decode cX9_rule 193 = .ok (.invokevirtual 159, 3) := by decide +kernel
theorem dX9_rule_196 : decode cX9_rule 196 = .ok (.aload_n 0, 1) := by decide +kernel
theorem dX9_rule_197 : decode cX9_rule 197 = .ok (.getfield 50, 3) := by decide +kernel
theorem dX9_rule_200 : decode cX9_rule 200 = .ok (.iload_n 1, 1) := by decide +kernel
theorem dX9_rule_201 : decode cX9_rule 201 = .ok (.iaload, 1) := by decide +kernel
theorem dX9_rule_202 : decode cX9_rule 202 = .ok (.ireturn, 1) := by decide +kernel
theorem dX9_today_0 : decode cX9_today 0 = .ok (.iload_n 1, 1) := by decide +kernel
theorem dX9_today_1 : decode cX9_today 1 = .ok (.aload_n 0, 1) := by decide +kernel
theorem dX9_today_2 : decode cX9_today 2 = .ok (.getfield 165, 3) := by decide +kernel
theorem dX9_today_5 : decode cX9_today 5 = .ok (.ldc 53, 2) := by decide +kernel
theorem dX9_today_7 : decode cX9_today 7 = .ok (.invokestatic 131, 3) := by decide +kernel
theorem dX9_today_10 : decode cX9_today 10 = .ok (.ifCond .ne 5, 3) := by decide +kernel
theorem dX9_today_13 : decode cX9_today 13 = .ok (.iconst (-1), 1) := by decide +kernel
theorem dX9_today_14 : decode cX9_today 14 = .ok (.ireturn, 1) := by decide +kernel
theorem dX9_today_15 : decode cX9_today 15 = .ok (.aload_n 0, 1) := by decide +kernel
theorem dX9_today_16 : decode cX9_today 16 = .ok (.getfield 165, 3) := by decide +kernel
theorem dX9_today_19 : decode cX9_today 19 = .ok (.istore_n 2, 1) := by decide +kernel
theorem dX9_today_20 : decode cX9_today 20 = .ok (.aload_n 0, 1) := by decide +kernel
theorem dX9_today_21 : decode cX9_today 21 = .ok (.iload_n 1, 1) := by decide +kernel
theorem dX9_today_22 : decode cX9_today 22 = .ok (.putfield 165, 3) := by decide +kernel
theorem dX9_today_25 : decode cX9_today 25 = .ok (.iload_n 2, 1) := by decide +kernel
theorem dX9_today_26 : decode cX9_today 26 = .ok (.ireturn, 1) := by decide +kernel
theorem dX9_known_0 : decode cX9_known 0 = .ok (.iload_n 1, 1) := by decide +kernel
theorem dX9_known_1 : decode cX9_known 1 = .ok (.iconst 0, 1) := by decide +kernel
theorem dX9_known_2 : decode cX9_known 2 = .ok (.ldc 53, 2) := by decide +kernel
theorem dX9_known_4 : decode cX9_known 4 = .ok (.invokestatic 131, 3) := by decide +kernel
theorem dX9_known_7 : decode cX9_known 7 = .ok (.ifCond .ne 5, 3) := by decide +kernel
theorem dX9_known_10 : decode cX9_known 10 = .ok (.iconst (-1), 1) := by decide +kernel
theorem dX9_known_11 : decode cX9_known 11 = .ok (.ireturn, 1) := by decide +kernel
theorem dX9_known_12 : decode cX9_known 12 = .ok (.aload_n 0, 1) := by decide +kernel
theorem dX9_known_13 : decode cX9_known 13 = .ok (.getfield 54, 3) := by decide +kernel
theorem dX9_known_16 : decode cX9_known 16 = .ok (.istore_n 2, 1) := by decide +kernel
theorem dX9_known_17 : decode cX9_known 17 = .ok (.aload_n 0, 1) := by decide +kernel
theorem dX9_known_18 : decode cX9_known 18 = .ok (.iload_n 1, 1) := by decide +kernel
theorem dX9_known_19 : decode cX9_known 19 = .ok (.putfield 54, 3) := by decide +kernel
theorem dX9_known_22 : decode cX9_known 22 = .ok (.aload_n 0, 1) := by decide +kernel
theorem dX9_known_23 : decode cX9_known 23 = .ok (.invokevirtual 159, 3) := by decide +kernel
theorem dX9_known_26 : decode cX9_known 26 = .ok (.iload_n 2, 1) := by decide +kernel
theorem dX9_known_27 : decode cX9_known 27 = .ok (.ireturn, 1) := by decide +kernel
theorem dX9_say_0 : decode cX9_say 0 = .ok (.iload_n 1, 1) := by decide +kernel
theorem dX9_say_1 : decode cX9_say 1 = .ok (.istore 4, 2) := by decide +kernel
theorem dX9_say_3 : decode cX9_say 3 = .ok (.iload 4, 2) := by decide +kernel
theorem dX9_say_5 : decode cX9_say 5 = .ok (.ifCond .le 22, 3) := by decide +kernel
theorem dX9_say_8 : decode cX9_say 8 = .ok (.aload_n 0, 1) := by decide +kernel
theorem dX9_say_9 : decode cX9_say 9 = .ok (.getfield 70, 3) := by decide +kernel
theorem dX9_say_12 : decode cX9_say 12 = .ok (.iload 4, 2) := by decide +kernel
theorem dX9_say_14 : decode cX9_say 14 = .ok (.iconst 1, 1) := by decide +kernel
theorem dX9_say_15 : decode cX9_say 15 = .ok (.isub, 1) := by decide +kernel
theorem dX9_say_16 : decode cX9_say 16 = .ok (.iaload, 1) := by decide +kernel
theorem dX9_say_17 : decode cX9_say 17 = .ok (.iload_n 2, 1) := by decide +kernel
theorem dX9_say_18 : decode cX9_say 18 = .ok (.if_icmp .le 9, 3) := by decide +kernel
theorem dX9_say_21 : decode cX9_say 21 = .ok (.iinc 4 (-1), 3) := by decide +kernel
theorem dX9_say_24 : decode cX9_say 24 = .ok (.goto (-21), 3) := by decide +kernel
theorem dX9_say_27 : decode cX9_say 27 = .ok (.iload 4, 2) := by decide +kernel
theorem dX9_say_29 : decode cX9_say 29 = .ok (.ifCond .le 28, 3) := by decide +kernel
theorem dX9_say_32 : decode cX9_say 32 = .ok (.aload_n 0, 1) := by decide +kernel
theorem dX9_say_33 : decode cX9_say 33 = .ok (.getfield 70, 3) := by decide +kernel
theorem dX9_say_36 : decode cX9_say 36 = .ok (.iload 4, 2) := by decide +kernel
theorem dX9_say_38 : decode cX9_say 38 = .ok (.iconst 1, 1) := by decide +kernel
theorem dX9_say_39 : decode cX9_say 39 = .ok (.isub, 1) := by decide +kernel
theorem dX9_say_40 : decode cX9_say 40 = .ok (.iaload, 1) := by decide +kernel
theorem dX9_say_41 : decode cX9_say 41 = .ok (.iload_n 2, 1) := by decide +kernel
theorem dX9_say_42 : decode cX9_say 42 = .ok (.if_icmp .ne 15, 3) := by decide +kernel
theorem dX9_say_45 : decode cX9_say 45 = .ok (.aload_n 0, 1) := by decide +kernel
theorem dX9_say_46 : decode cX9_say 46 = .ok (.getfield 73, 3) := by decide +kernel
theorem dX9_say_49 : decode cX9_say 49 = .ok (.iload 4, 2) := by decide +kernel
theorem dX9_say_51 : decode cX9_say 51 = .ok (.iconst 1, 1) := by decide +kernel
theorem dX9_say_52 : decode cX9_say 52 = .ok (.isub, 1) := by decide +kernel
theorem dX9_say_53 : decode cX9_say 53 = .ok (.iload_n 3, 1) := by decide +kernel
theorem dX9_say_54 : decode cX9_say 54 = .ok (.iastore, 1) := by decide +kernel
theorem dX9_say_55 : decode cX9_say 55 = .ok (.iload_n 1, 1) := by decide +kernel
theorem dX9_say_56 : decode cX9_say 56 = .ok (.ireturn, 1) := by decide +kernel
theorem dX9_say_57 : decode cX9_say 57 = .ok (.iload_n 1, 1) := by decide +kernel
theorem dX9_say_58 : decode cX9_say 58 = .ok (.istore 5, 2) := by decide +kernel
theorem dX9_say_60 : decode cX9_say 60 = .ok (.iload 5, 2) := by decide +kernel
theorem dX9_say_62 : decode cX9_say 62 = .ok (.iload 4, 2) := by decide +kernel
theorem dX9_say_64 : decode cX9_say 64 = .ok (.if_icmp .le 41, 3) := by decide +kernel
theorem dX9_say_67 : decode cX9_say 67 = .ok (.aload_n 0, 1) := by decide +kernel
theorem dX9_say_68 : decode cX9_say 68 = .ok (.getfield 70, 3) := by decide +kernel
theorem dX9_say_71 : decode cX9_say 71 = .ok (.iload 5, 2) := by decide +kernel
theorem dX9_say_73 : decode cX9_say 73 = .ok (.aload_n 0, 1) := by decide +kernel
theorem dX9_say_74 : decode cX9_say 74 = .ok (.getfield 70, 3) := by decide +kernel
theorem dX9_say_77 : decode cX9_say 77 = .ok (.iload 5, 2) := by decide +kernel
theorem dX9_say_79 : decode cX9_say 79 = .ok (.iconst 1, 1) := by decide +kernel
theorem dX9_say_80 : decode cX9_say 80 = .ok (.isub, 1) := by decide +kernel
theorem dX9_say_81 : decode cX9_say 81 = .ok (.iaload, 1) := by decide +kernel
theorem dX9_say_82 : decode cX9_say 82 = .ok (.iastore, 1) := by decide +kernel
theorem dX9_say_83 : decode cX9_say 83 = .ok (.aload_n 0, 1) := by decide +kernel
theorem dX9_say_84 : decode cX9_say 84 = .ok (.getfield 73, 3) := by decide +kernel
theorem dX9_say_87 : decode cX9_say 87 = .ok (.iload 5, 2) := by decide +kernel
theorem dX9_say_89 : decode cX9_say 89 = .ok (.aload_n 0, 1) := by decide +kernel
theorem dX9_say_90 : decode cX9_say 90 = .ok (.getfield 73, 3) := by decide +kernel
theorem dX9_say_93 : decode cX9_say 93 = .ok (.iload 5, 2) := by decide +kernel
theorem dX9_say_95 : decode cX9_say 95 = .ok (.iconst 1, 1) := by decide +kernel
theorem dX9_say_96 : decode cX9_say 96 = .ok (.isub, 1) := by decide +kernel
theorem dX9_say_97 : decode cX9_say 97 = .ok (.iaload, 1) := by decide +kernel
theorem dX9_say_98 : decode cX9_say 98 = .ok (.iastore, 1) := by decide +kernel
theorem dX9_say_99 : decode cX9_say 99 = .ok (.iinc 5 (-1), 3) := by decide +kernel
theorem dX9_say_102 : decode cX9_say 102 = .ok (.goto (-42), 3) := by decide +kernel
theorem dX9_say_105 : decode cX9_say 105 = .ok (.aload_n 0, 1) := by decide +kernel
theorem dX9_say_106 : decode cX9_say 106 = .ok (.getfield 70, 3) := by decide +kernel
theorem dX9_say_109 : decode cX9_say 109 = .ok (.iload 4, 2) := by decide +kernel
theorem dX9_say_111 : decode cX9_say 111 = .ok (.iload_n 2, 1) := by decide +kernel
theorem dX9_say_112 : decode cX9_say 112 = .ok (.iastore, 1) := by decide +kernel
theorem dX9_say_113 : decode cX9_say 113 = .ok (.aload_n 0, 1) := by decide +kernel
theorem dX9_say_114 : decode cX9_say 114 = .ok (.getfield 73, 3) := by decide +kernel
theorem dX9_say_117 : decode cX9_say 117 = .ok (.iload 4, 2) := by decide +kernel
theorem dX9_say_119 : decode cX9_say 119 = .ok (.iload_n 3, 1) := by decide +kernel
theorem dX9_say_120 : decode cX9_say 120 = .ok (.iastore, 1) := by decide +kernel
theorem dX9_say_121 : decode cX9_say 121 = .ok (.iload_n 1, 1) := by decide +kernel
theorem dX9_say_122 : decode cX9_say 122 = .ok (.iconst 1, 1) := by decide +kernel
theorem dX9_say_123 : decode cX9_say 123 = .ok (.iadd, 1) := by decide +kernel
theorem dX9_say_124 : decode cX9_say 124 = .ok (.ireturn, 1) := by decide +kernel
theorem dX9_find_0 : decode cX9_find 0 = .ok (.aload_n 0, 1) := by decide +kernel
theorem dX9_find_1 : decode cX9_find 1 = .ok (.getfield 57, 3) := by decide +kernel
theorem dX9_find_4 : decode cX9_find 4 = .ok (.iload_n 1, 1) := by decide +kernel
theorem dX9_find_5 : decode cX9_find 5 = .ok (.baload, 1) := by decide +kernel
theorem dX9_find_6 : decode cX9_find 6 = .ok (.ifCond .eq 4, 3) := by decide +kernel
theorem dX9_find_9 : decode cX9_find 9 = .ok (.return_, 1) := by decide +kernel
theorem dX9_find_10 : decode cX9_find 10 = .ok (.iconst 0, 1) := by decide +kernel
theorem dX9_find_11 : decode cX9_find 11 = .ok (.istore_n 2, 1) := by decide +kernel
theorem dX9_find_12 : decode cX9_find 12 = .ok (.bipush 8, 2) := by decide +kernel
theorem dX9_find_14 : decode cX9_find 14 = .ok (.iload_n 1, 1) := by decide +kernel
theorem dX9_find_15 : decode cX9_find 15 = .ok (.imul, 1) := by decide +kernel
theorem dX9_find_16 : decode cX9_find 16 = .ok (.istore_n 3, 1) := by decide +kernel
theorem dX9_find_17 : decode cX9_find 17 = .ok (.iload_n 3, 1) := by decide +kernel
theorem dX9_find_18 : decode cX9_find 18 = .ok (.bipush 8, 2) := by decide +kernel
theorem dX9_find_20 : decode cX9_find 20 = .ok (.iload_n 1, 1) := by decide +kernel
theorem dX9_find_21 : decode cX9_find 21 = .ok (.imul, 1) := by decide +kernel
theorem dX9_find_22 : decode cX9_find 22 = .ok (.aload_n 0, 1) := by decide +kernel
theorem dX9_find_23 : decode cX9_find 23 = .ok (.getfield 50, 3) := by decide +kernel
theorem dX9_find_26 : decode cX9_find 26 = .ok (.iload_n 1, 1) := by decide +kernel
theorem dX9_find_27 : decode cX9_find 27 = .ok (.iaload, 1) := by decide +kernel
theorem dX9_find_28 : decode cX9_find 28 = .ok (.iadd, 1) := by decide +kernel
theorem dX9_find_29 : decode cX9_find 29 = .ok (.if_icmp .ge 120, 3) := by decide +kernel
theorem dX9_find_32 : decode cX9_find 32 = .ok (.aload_n 0, 1) := by decide +kernel
theorem dX9_find_33 : decode cX9_find 33 = .ok (.getfield 32, 3) := by decide +kernel
theorem dX9_find_36 : decode cX9_find 36 = .ok (.iload_n 3, 1) := by decide +kernel
theorem dX9_find_37 : decode cX9_find 37 = .ok (.iaload, 1) := by decide +kernel
theorem dX9_find_38 : decode cX9_find 38 = .ok (.istore 4, 2) := by decide +kernel
theorem dX9_find_40 : decode cX9_find 40 = .ok (.iload 4, 2) := by decide +kernel
theorem dX9_find_42 : decode cX9_find 42 = .ok (.aload_n 0, 1) := by decide +kernel
theorem dX9_find_43 : decode cX9_find 43 = .ok (.getfield 35, 3) := by decide +kernel
theorem dX9_find_46 : decode cX9_find 46 = .ok (.iload_n 3, 1) := by decide +kernel
theorem dX9_find_47 : decode cX9_find 47 = .ok (.iaload, 1) := by decide +kernel
theorem dX9_find_48 : decode cX9_find 48 = .ok (.if_icmp .gt 95, 3) := by decide +kernel
theorem dX9_find_51 : decode cX9_find 51 = .ok (.aload_n 0, 1) := by decide +kernel
theorem dX9_find_52 : decode cX9_find 52 = .ok (.getfield 47, 3) := by decide +kernel
theorem dX9_find_55 : decode cX9_find 55 = .ok (.iload_n 3, 1) := by decide +kernel
theorem dX9_find_56 : decode cX9_find 56 = .ok (.iaload, 1) := by decide +kernel
theorem dX9_find_57 : decode cX9_find 57 = .ok (.aload_n 0, 1) := by decide +kernel
theorem dX9_find_58 : decode cX9_find 58 = .ok (.getfield 54, 3) := by decide +kernel
theorem dX9_find_61 : decode cX9_find 61 = .ok (.if_icmp .gt 82, 3) := by decide +kernel
theorem dX9_find_64 : decode cX9_find 64 = .ok (.aload_n 0, 1) := by decide +kernel
theorem dX9_find_65 : decode cX9_find 65 = .ok (.bipush 12, 2) := by decide +kernel
theorem dX9_find_67 : decode cX9_find 67 = .ok (.iload 4, 2) := by decide +kernel
theorem dX9_find_69 : decode cX9_find 69 = .ok (.imul, 1) := by decide +kernel
theorem dX9_find_70 : decode cX9_find 70 = .ok (.aload_n 0, 1) := by decide +kernel
theorem dX9_find_71 : decode cX9_find 71 = .ok (.getfield 38, 3) := by decide +kernel
theorem dX9_find_74 : decode cX9_find 74 = .ok (.iload_n 3, 1) := by decide +kernel
theorem dX9_find_75 : decode cX9_find 75 = .ok (.iaload, 1) := by decide +kernel
theorem dX9_find_76 : decode cX9_find 76 = .ok (.sipush 1000, 3) := by decide +kernel
theorem dX9_find_79 : decode cX9_find 79 = .ok (.idiv, 1) := by decide +kernel
theorem dX9_find_80 : decode cX9_find 80 = .ok (.iadd, 1) := by decide +kernel
theorem dX9_find_81 : decode cX9_find 81 = .ok (.aload_n 0, 1) := by decide +kernel
theorem dX9_find_82 : decode cX9_find 82 = .ok (.getfield 38, 3) := by decide +kernel
theorem dX9_find_85 : decode cX9_find 85 = .ok (.iload_n 3, 1) := by decide +kernel
theorem dX9_find_86 : decode cX9_find 86 = .ok (.iaload, 1) := by decide +kernel
theorem dX9_find_87 : decode cX9_find 87 = .ok (.bipush 10, 2) := by decide +kernel
theorem dX9_find_89 : decode cX9_find 89 = .ok (.idiv, 1) := by decide +kernel
theorem dX9_find_90 : decode cX9_find 90 = .ok (.bipush 100, 2) := by decide +kernel
theorem dX9_find_92 : decode cX9_find 92 = .ok (.irem, 1) := by decide +kernel
theorem dX9_find_93 : decode cX9_find 93 = .ok (.aload_n 0, 1) := by decide +kernel
theorem dX9_find_94 : decode cX9_find 94 = .ok (.getfield 38, 3) := by decide +kernel
theorem dX9_find_97 : decode cX9_find 97 = .ok (.iload_n 3, 1) := by decide +kernel
theorem dX9_find_98 : decode cX9_find 98 = .ok (.iaload, 1) := by decide +kernel
theorem dX9_find_99 : decode cX9_find 99 = .ok (.bipush 10, 2) := by decide +kernel
theorem dX9_find_101 : decode cX9_find 101 = .ok (.irem, 1) := by decide +kernel
theorem dX9_find_102 : decode cX9_find 102 = .ok (.invokevirtual 156, 3) := by decide +kernel
theorem dX9_find_105 : decode cX9_find 105 = .ok (.istore 5, 2) := by decide +kernel
theorem dX9_find_107 : decode cX9_find 107 = .ok (.iload 5, 2) := by decide +kernel
theorem dX9_find_109 : decode cX9_find 109 = .ok (.ifCond .lt 28, 3) := by decide +kernel
theorem dX9_find_112 : decode cX9_find 112 = .ok (.aload_n 0, 1) := by decide +kernel
theorem dX9_find_113 : decode cX9_find 113 = .ok (.iload_n 2, 1) := by decide +kernel
theorem dX9_find_114 : decode cX9_find 114 = .ok (.sipush 1440, 3) := by decide +kernel
theorem dX9_find_117 : decode cX9_find 117 = .ok (.iload 5, 2) := by decide +kernel
theorem dX9_find_119 : decode cX9_find 119 = .ok (.imul, 1) := by decide +kernel
theorem dX9_find_120 : decode cX9_find 120 = .ok (.aload_n 0, 1) := by decide +kernel
theorem dX9_find_121 : decode cX9_find 121 = .ok (.getfield 41, 3) := by decide +kernel
theorem dX9_find_124 : decode cX9_find 124 = .ok (.iload_n 3, 1) := by decide +kernel
theorem dX9_find_125 : decode cX9_find 125 = .ok (.iaload, 1) := by decide +kernel
theorem dX9_find_126 : decode cX9_find 126 = .ok (.iadd, 1) := by decide +kernel
theorem dX9_find_127 : decode cX9_find 127 = .ok (.aload_n 0, 1) := by decide +kernel
theorem dX9_find_128 : decode cX9_find 128 = .ok (.getfield 44, 3) := by decide +kernel
theorem dX9_find_131 : decode cX9_find 131 = .ok (.iload_n 3, 1) := by decide +kernel
theorem dX9_find_132 : decode cX9_find 132 = .ok (.iaload, 1) := by decide +kernel
theorem dX9_find_133 : decode cX9_find 133 = .ok (.invokevirtual 168, 3) := by decide +kernel
theorem dX9_find_136 : decode cX9_find 136 = .ok (.istore_n 2, 1) := by decide +kernel
theorem dX9_find_137 : decode cX9_find 137 = .ok (.iinc 4 1, 3) := by decide +kernel
theorem dX9_find_140 : decode cX9_find 140 = .ok (.goto (-100), 3) := by decide +kernel
theorem dX9_find_143 : decode cX9_find 143 = .ok (.iinc 3 1, 3) := by decide +kernel
theorem dX9_find_146 : decode cX9_find 146 = .ok (.goto (-129), 3) := by decide +kernel
theorem dX9_find_149 : decode cX9_find 149 = .ok (.sipush 801, 3) := by decide +kernel
theorem dX9_find_152 : decode cX9_find 152 = .ok (.iload_n 1, 1) := by decide +kernel
theorem dX9_find_153 : decode cX9_find 153 = .ok (.imul, 1) := by decide +kernel
theorem dX9_find_154 : decode cX9_find 154 = .ok (.istore_n 3, 1) := by decide +kernel
theorem dX9_find_155 : decode cX9_find 155 = .ok (.aload_n 0, 1) := by decide +kernel
theorem dX9_find_156 : decode cX9_find 156 = .ok (.getfield 61, 3) := by decide +kernel
theorem dX9_find_159 : decode cX9_find 159 = .ok (.iload_n 3, 1) := by decide +kernel
theorem dX9_find_160 : decode cX9_find 160 = .ok (.iconst 0, 1) := by decide +kernel
theorem dX9_find_161 : decode cX9_find 161 = .ok (.iastore, 1) := by decide +kernel
theorem dX9_find_162 : decode cX9_find 162 = .ok (.aload_n 0, 1) := by decide +kernel
theorem dX9_find_163 : decode cX9_find 163 = .ok (.getfield 64, 3) := by decide +kernel
theorem dX9_find_166 : decode cX9_find 166 = .ok (.iload_n 3, 1) := by decide +kernel
theorem dX9_find_167 : decode cX9_find 167 = .ok (.aload_n 0, 1) := by decide +kernel
theorem dX9_find_168 : decode cX9_find 168 = .ok (.getfield 29, 3) := by decide +kernel
theorem dX9_find_171 : decode cX9_find 171 = .ok (.iload_n 1, 1) := by decide +kernel
theorem dX9_find_172 : decode cX9_find 172 = .ok (.iaload, 1) := by decide +kernel
theorem dX9_find_173 : decode cX9_find 173 = .ok (.iastore, 1) := by decide +kernel
theorem dX9_find_174 : decode cX9_find 174 = .ok (.iconst 0, 1) := by decide +kernel
theorem dX9_find_175 : decode cX9_find 175 = .ok (.istore 4, 2) := by decide +kernel
theorem dX9_find_177 : decode cX9_find 177 = .ok (.iconst 0, 1) := by decide +kernel
theorem dX9_find_178 : decode cX9_find 178 = .ok (.istore 5, 2) := by decide +kernel
theorem dX9_find_180 : decode cX9_find 180 = .ok (.iload 5, 2) := by decide +kernel
theorem dX9_find_182 : decode cX9_find 182 = .ok (.iload_n 2, 1) := by decide +kernel
theorem dX9_find_183 : decode cX9_find 183 = .ok (.if_icmp .ge 82, 3) := by decide +kernel
theorem dX9_find_186 : decode cX9_find 186 = .ok (.aload_n 0, 1) := by decide +kernel
theorem dX9_find_187 : decode cX9_find 187 = .ok (.getfield 70, 3) := by decide +kernel
theorem dX9_find_190 : decode cX9_find 190 = .ok (.iload 5, 2) := by decide +kernel
theorem dX9_find_192 : decode cX9_find 192 = .ok (.iaload, 1) := by decide +kernel
theorem dX9_find_193 : decode cX9_find 193 = .ok (.aload_n 0, 1) := by decide +kernel
theorem dX9_find_194 : decode cX9_find 194 = .ok (.getfield 64, 3) := by decide +kernel
theorem dX9_find_197 : decode cX9_find 197 = .ok (.iload_n 3, 1) := by decide +kernel
theorem dX9_find_198 : decode cX9_find 198 = .ok (.iload 4, 2) := by decide +kernel
theorem dX9_find_200 : decode cX9_find 200 = .ok (.iadd, 1) := by decide +kernel
theorem dX9_find_201 : decode cX9_find 201 = .ok (.iaload, 1) := by decide +kernel
theorem dX9_find_202 : decode cX9_find 202 = .ok (.isub, 1) := by decide +kernel
theorem dX9_find_203 : decode cX9_find 203 = .ok (.istore 6, 2) := by decide +kernel
theorem dX9_find_205 : decode cX9_find 205 = .ok (.iload 6, 2) := by decide +kernel
theorem dX9_find_207 : decode cX9_find 207 = .ok (.ifCond .lt 52, 3) := by decide +kernel
theorem dX9_find_210 : decode cX9_find 210 = .ok (.iload 4, 2) := by decide +kernel
theorem dX9_find_212 : decode cX9_find 212 = .ok (.ifCond .eq 17, 3) := by decide +kernel
theorem dX9_find_215 : decode cX9_find 215 = .ok (.iload 6, 2) := by decide +kernel
theorem dX9_find_217 : decode cX9_find 217 = .ok (.aload_n 0, 1) := by decide +kernel
theorem dX9_find_218 : decode cX9_find 218 = .ok (.getfield 61, 3) := by decide +kernel
theorem dX9_find_221 : decode cX9_find 221 = .ok (.iload_n 3, 1) := by decide +kernel
theorem dX9_find_222 : decode cX9_find 222 = .ok (.iload 4, 2) := by decide +kernel
theorem dX9_find_224 : decode cX9_find 224 = .ok (.iadd, 1) := by decide +kernel
theorem dX9_find_225 : decode cX9_find 225 = .ok (.iaload, 1) := by decide +kernel
theorem dX9_find_226 : decode cX9_find 226 = .ok (.if_icmp .le 33, 3) := by decide +kernel
theorem dX9_find_229 : decode cX9_find 229 = .ok (.iinc 4 1, 3) := by decide +kernel
theorem dX9_find_232 : decode cX9_find 232 = .ok (.aload_n 0, 1) := by decide +kernel
theorem dX9_find_233 : decode cX9_find 233 = .ok (.getfield 61, 3) := by decide +kernel
theorem dX9_find_236 : decode cX9_find 236 = .ok (.iload_n 3, 1) := by decide +kernel
theorem dX9_find_237 : decode cX9_find 237 = .ok (.iload 4, 2) := by decide +kernel
theorem dX9_find_239 : decode cX9_find 239 = .ok (.iadd, 1) := by decide +kernel
theorem dX9_find_240 : decode cX9_find 240 = .ok (.iload 6, 2) := by decide +kernel
theorem dX9_find_242 : decode cX9_find 242 = .ok (.iastore, 1) := by decide +kernel
theorem dX9_find_243 : decode cX9_find 243 = .ok (.aload_n 0, 1) := by decide +kernel
theorem dX9_find_244 : decode cX9_find 244 = .ok (.getfield 64, 3) := by decide +kernel
theorem dX9_find_247 : decode cX9_find 247 = .ok (.iload_n 3, 1) := by decide +kernel
theorem dX9_find_248 : decode cX9_find 248 = .ok (.iload 4, 2) := by decide +kernel
theorem dX9_find_250 : decode cX9_find 250 = .ok (.iadd, 1) := by decide +kernel
theorem dX9_find_251 : decode cX9_find 251 = .ok (.aload_n 0, 1) := by decide +kernel
theorem dX9_find_252 : decode cX9_find 252 = .ok (.getfield 73, 3) := by decide +kernel
theorem dX9_find_255 : decode cX9_find 255 = .ok (.iload 5, 2) := by decide +kernel
theorem dX9_find_257 : decode cX9_find 257 = .ok (.iaload, 1) := by decide +kernel
theorem dX9_find_258 : decode cX9_find 258 = .ok (.iastore, 1) := by decide +kernel
theorem dX9_find_259 : decode cX9_find 259 = .ok (.iinc 5 1, 3) := by decide +kernel
theorem dX9_find_262 : decode cX9_find 262 = .ok (.goto (-82), 3) := by decide +kernel
theorem dX9_find_265 : decode cX9_find 265 = .ok (.aload_n 0, 1) := by decide +kernel
theorem dX9_find_266 : decode cX9_find 266 = .ok (.getfield 67, 3) := by decide +kernel
theorem dX9_find_269 : decode cX9_find 269 = .ok (.iload_n 1, 1) := by decide +kernel
theorem dX9_find_270 : decode cX9_find 270 = .ok (.iload 4, 2) := by decide +kernel
theorem dX9_find_272 : decode cX9_find 272 = .ok (.iastore, 1) := by decide +kernel
theorem dX9_find_273 : decode cX9_find 273 = .ok (.aload_n 0, 1) := by decide +kernel
theorem dX9_find_274 : decode cX9_find 274 = .ok (.getfield 57, 3) := by decide +kernel
theorem dX9_find_277 : decode cX9_find 277 = .ok (.iload_n 1, 1) := by decide +kernel
theorem dX9_find_278 : decode cX9_find 278 = .ok (.iconst 1, 1) := by decide +kernel
theorem dX9_find_279 : decode cX9_find 279 = .ok (.bastore, 1) := by decide +kernel
theorem dX9_find_280 : decode cX9_find 280 = .ok (.return_, 1) := by decide +kernel
theorem dX9_changes_0 : decode cX9_changes 0 = .ok (.aload_n 0, 1) := by decide +kernel
theorem dX9_changes_1 : decode cX9_changes 1 = .ok (.iload_n 1, 1) := by decide +kernel
theorem dX9_changes_2 : decode cX9_changes 2 = .ok (.invokevirtual 162, 3) := by decide +kernel
theorem dX9_changes_5 : decode cX9_changes 5 = .ok (.ifCond .ne 5, 3) := by decide +kernel
theorem dX9_changes_8 : decode cX9_changes 8 = .ok (.iconst (-1), 1) := by decide +kernel
theorem dX9_changes_9 : decode cX9_changes 9 = .ok (.ireturn, 1) := by decide +kernel
theorem dX9_changes_10 : decode cX9_changes 10 = .ok (.aload_n 0, 1) := by decide +kernel
theorem dX9_changes_11 : decode cX9_changes 11 = .ok (.iload_n 1, 1) := by decide +kernel
theorem dX9_changes_12 : decode cX9_changes 12 = .ok (.invokevirtual 171, 3) := by decide +kernel
theorem dX9_changes_15 : decode cX9_changes 15 = .ok (.aload_n 0, 1) := by decide +kernel
theorem dX9_changes_16 : decode cX9_changes 16 = .ok (.getfield 67, 3) := by decide +kernel
theorem dX9_changes_19 : decode cX9_changes 19 = .ok (.iload_n 1, 1) := by decide +kernel
theorem dX9_changes_20 : decode cX9_changes 20 = .ok (.iaload, 1) := by decide +kernel
theorem dX9_changes_21 : decode cX9_changes 21 = .ok (.ireturn, 1) := by decide +kernel
theorem dX9_change_0 : decode cX9_change 0 = .ok (.aload_n 0, 1) := by decide +kernel
theorem dX9_change_1 : decode cX9_change 1 = .ok (.iload_n 1, 1) := by decide +kernel
theorem dX9_change_2 : decode cX9_change 2 = .ok (.invokevirtual 162, 3) := by decide +kernel
theorem dX9_change_5 : decode cX9_change 5 = .ok (.ifCond .eq 33, 3) := by decide +kernel
theorem dX9_change_8 : decode cX9_change 8 = .ok (.iload_n 2, 1) := by decide +kernel
theorem dX9_change_9 : decode cX9_change 9 = .ok (.ifCond .lt 29, 3) := by decide +kernel
theorem dX9_change_12 : decode cX9_change 12 = .ok (.iload_n 2, 1) := by decide +kernel
theorem dX9_change_13 : decode cX9_change 13 = .ok (.aload_n 0, 1) := by decide +kernel
theorem dX9_change_14 : decode cX9_change 14 = .ok (.iload_n 1, 1) := by decide +kernel
theorem dX9_change_15 : decode cX9_change 15 = .ok (.invokevirtual 175, 3) := by decide +kernel
theorem dX9_change_18 : decode cX9_change 18 = .ok (.if_icmp .ge 20, 3) := by decide +kernel
theorem dX9_change_21 : decode cX9_change 21 = .ok (.aload_n 0, 1) := by decide +kernel
theorem dX9_change_22 : decode cX9_change 22 = .ok (.getfield 61, 3) := by decide +kernel
theorem dX9_change_25 : decode cX9_change 25 = .ok (.sipush 801, 3) := by decide +kernel
theorem dX9_change_28 : decode cX9_change 28 = .ok (.iload_n 1, 1) := by decide +kernel
theorem dX9_change_29 : decode cX9_change 29 = .ok (.imul, 1) := by decide +kernel
theorem dX9_change_30 : decode cX9_change 30 = .ok (.iconst 1, 1) := by decide +kernel
theorem dX9_change_31 : decode cX9_change 31 = .ok (.iadd, 1) := by decide +kernel
theorem dX9_change_32 : decode cX9_change 32 = .ok (.iload_n 2, 1) := by decide +kernel
theorem dX9_change_33 : decode cX9_change 33 = .ok (.iadd, 1) := by decide +kernel
theorem dX9_change_34 : decode cX9_change 34 = .ok (.iaload, 1) := by decide +kernel
theorem dX9_change_35 : decode cX9_change 35 = .ok (.goto 4, 3) := by decide +kernel
theorem dX9_change_38 : decode cX9_change 38 = .ok (.iconst (-1), 1) := by decide +kernel
theorem dX9_change_39 : decode cX9_change 39 = .ok (.ireturn, 1) := by decide +kernel
theorem dX9_offsetAt_0 : decode cX9_offsetAt 0 = .ok (.aload_n 0, 1) := by decide +kernel
theorem dX9_offsetAt_1 : decode cX9_offsetAt 1 = .ok (.iload_n 1, 1) := by decide +kernel
theorem dX9_offsetAt_2 : decode cX9_offsetAt 2 = .ok (.invokevirtual 171, 3) := by decide +kernel
theorem dX9_offsetAt_5 : decode cX9_offsetAt 5 = .ok (.iconst 0, 1) := by decide +kernel
theorem dX9_offsetAt_6 : decode cX9_offsetAt 6 = .ok (.istore_n 3, 1) := by decide +kernel
theorem dX9_offsetAt_7 : decode cX9_offsetAt 7 = .ok (.aload_n 0, 1) := by decide +kernel
theorem dX9_offsetAt_8 : decode cX9_offsetAt 8 = .ok (.getfield 67, 3) := by decide +kernel
theorem dX9_offsetAt_11 : decode cX9_offsetAt 11 = .ok (.iload_n 1, 1) := by decide +kernel
theorem dX9_offsetAt_12 : decode cX9_offsetAt 12 = .ok (.iaload, 1) := by decide +kernel
theorem dX9_offsetAt_13 : decode cX9_offsetAt 13 = .ok (.istore 4, 2) := by decide +kernel
theorem dX9_offsetAt_15 : decode cX9_offsetAt 15 = .ok (.iload_n 3, 1) := by decide +kernel
theorem dX9_offsetAt_16 : decode cX9_offsetAt 16 = .ok (.iload 4, 2) := by decide +kernel
theorem dX9_offsetAt_18 : decode cX9_offsetAt 18 = .ok (.if_icmp .ge 45, 3) := by decide +kernel
theorem dX9_offsetAt_21 : decode cX9_offsetAt 21 = .ok (.iload_n 3, 1) := by decide +kernel
theorem dX9_offsetAt_22 : decode cX9_offsetAt 22 = .ok (.iload 4, 2) := by decide +kernel
theorem dX9_offsetAt_24 : decode cX9_offsetAt 24 = .ok (.iadd, 1) := by decide +kernel
theorem dX9_offsetAt_25 : decode cX9_offsetAt 25 = .ok (.iconst 1, 1) := by decide +kernel
theorem dX9_offsetAt_26 : decode cX9_offsetAt 26 = .ok (.iadd, 1) := by decide +kernel
theorem dX9_offsetAt_27 : decode cX9_offsetAt 27 = .ok (.iconst 2, 1) := by decide +kernel
theorem dX9_offsetAt_28 : decode cX9_offsetAt 28 = .ok (.idiv, 1) := by decide +kernel
theorem dX9_offsetAt_29 : decode cX9_offsetAt 29 = .ok (.istore 5, 2) := by decide +kernel
theorem dX9_offsetAt_31 : decode cX9_offsetAt 31 = .ok (.aload_n 0, 1) := by decide +kernel
theorem dX9_offsetAt_32 : decode cX9_offsetAt 32 = .ok (.getfield 61, 3) := by decide +kernel
theorem dX9_offsetAt_35 : decode cX9_offsetAt 35 = .ok (.sipush 801, 3) := by decide +kernel
theorem dX9_offsetAt_38 : decode cX9_offsetAt 38 = .ok (.iload_n 1, 1) := by decide +kernel
theorem dX9_offsetAt_39 : decode cX9_offsetAt 39 = .ok (.imul, 1) := by decide +kernel
theorem dX9_offsetAt_40 : decode cX9_offsetAt 40 = .ok (.iload 5, 2) := by decide +kernel
theorem dX9_offsetAt_42 : decode cX9_offsetAt 42 = .ok (.iadd, 1) := by decide +kernel
theorem dX9_offsetAt_43 : decode cX9_offsetAt 43 = .ok (.iaload, 1) := by decide +kernel
theorem dX9_offsetAt_44 : decode cX9_offsetAt 44 = .ok (.iload_n 2, 1) := by decide +kernel
theorem dX9_offsetAt_45 : decode cX9_offsetAt 45 = .ok (.if_icmp .gt 9, 3) := by decide +kernel
theorem dX9_offsetAt_48 : decode cX9_offsetAt 48 = .ok (.iload 5, 2) := by decide +kernel
theorem dX9_offsetAt_50 : decode cX9_offsetAt 50 = .ok (.istore_n 3, 1) := by decide +kernel
theorem dX9_offsetAt_51 : decode cX9_offsetAt 51 = .ok (.goto 9, 3) := by decide +kernel
theorem dX9_offsetAt_54 : decode cX9_offsetAt 54 = .ok (.iload 5, 2) := by decide +kernel
theorem dX9_offsetAt_56 : decode cX9_offsetAt 56 = .ok (.iconst 1, 1) := by decide +kernel
theorem dX9_offsetAt_57 : decode cX9_offsetAt 57 = .ok (.isub, 1) := by decide +kernel
theorem dX9_offsetAt_58 : decode cX9_offsetAt 58 = .ok (.istore 4, 2) := by decide +kernel
theorem dX9_offsetAt_60 : decode cX9_offsetAt 60 = .ok (.goto (-45), 3) := by decide +kernel
theorem dX9_offsetAt_63 : decode cX9_offsetAt 63 = .ok (.aload_n 0, 1) := by decide +kernel
theorem dX9_offsetAt_64 : decode cX9_offsetAt 64 = .ok (.getfield 64, 3) := by decide +kernel
theorem dX9_offsetAt_67 : decode cX9_offsetAt 67 = .ok (.sipush 801, 3) := by decide +kernel
theorem dX9_offsetAt_70 : decode cX9_offsetAt 70 = .ok (.iload_n 1, 1) := by decide +kernel
theorem dX9_offsetAt_71 : decode cX9_offsetAt 71 = .ok (.imul, 1) := by decide +kernel
theorem dX9_offsetAt_72 : decode cX9_offsetAt 72 = .ok (.iload_n 3, 1) := by decide +kernel
theorem dX9_offsetAt_73 : decode cX9_offsetAt 73 = .ok (.iadd, 1) := by decide +kernel
theorem dX9_offsetAt_74 : decode cX9_offsetAt 74 = .ok (.iaload, 1) := by decide +kernel
theorem dX9_offsetAt_75 : decode cX9_offsetAt 75 = .ok (.ireturn, 1) := by decide +kernel
theorem dX9_isMoment_0 : decode cX9_isMoment 0 = .ok (.iload_n 0, 1) := by decide +kernel
theorem dX9_isMoment_1 : decode cX9_isMoment 1 = .ok (.iconst 0, 1) := by decide +kernel
theorem dX9_isMoment_2 : decode cX9_isMoment 2 = .ok (.ldc 178, 2) := by decide +kernel
theorem dX9_isMoment_4 : decode cX9_isMoment 4 = .ok (.invokestatic 131, 3) := by decide +kernel
theorem dX9_isMoment_7 : decode cX9_isMoment 7 = .ok (.ireturn, 1) := by decide +kernel
theorem dX9_isWall_0 : decode cX9_isWall 0 = .ok (.iload_n 1, 1) := by decide +kernel
theorem dX9_isWall_1 : decode cX9_isWall 1 = .ok (.ifCond .lt 19, 3) := by decide +kernel
theorem dX9_isWall_4 : decode cX9_isWall 4 = .ok (.aload_n 0, 1) := by decide +kernel
theorem dX9_isWall_5 : decode cX9_isWall 5 = .ok (.iload_n 1, 1) := by decide +kernel
theorem dX9_isWall_6 : decode cX9_isWall 6 = .ok (.sipush 1440, 3) := by decide +kernel
theorem dX9_isWall_9 : decode cX9_isWall 9 = .ok (.idiv, 1) := by decide +kernel
theorem dX9_isWall_10 : decode cX9_isWall 10 = .ok (.invokevirtual 141, 3) := by decide +kernel
theorem dX9_isWall_13 : decode cX9_isWall 13 = .ok (.ifCond .eq 7, 3) := by decide +kernel
theorem dX9_isWall_16 : decode cX9_isWall 16 = .ok (.iconst 1, 1) := by decide +kernel
theorem dX9_isWall_17 : decode cX9_isWall 17 = .ok (.goto 4, 3) := by decide +kernel
theorem dX9_isWall_20 : decode cX9_isWall 20 = .ok (.iconst 0, 1) := by decide +kernel
theorem dX9_isWall_21 : decode cX9_isWall 21 = .ok (.ireturn, 1) := by decide +kernel
theorem dX9_offset_0 : decode cX9_offset 0 = .ok (.aload_n 0, 1) := by decide +kernel
theorem dX9_offset_1 : decode cX9_offset 1 = .ok (.iload_n 1, 1) := by decide +kernel
theorem dX9_offset_2 : decode cX9_offset 2 = .ok (.invokevirtual 162, 3) := by decide +kernel
theorem dX9_offset_5 : decode cX9_offset 5 = .ok (.ifCond .eq 19, 3) := by decide +kernel
theorem dX9_offset_8 : decode cX9_offset 8 = .ok (.iload_n 2, 1) := by decide +kernel
theorem dX9_offset_9 : decode cX9_offset 9 = .ok (.invokestatic 179, 3) := by decide +kernel
theorem dX9_offset_12 : decode cX9_offset 12 = .ok (.ifCond .eq 12, 3) := by decide +kernel
theorem dX9_offset_15 : decode cX9_offset 15 = .ok (.aload_n 0, 1) := by decide +kernel
theorem dX9_offset_16 : decode cX9_offset 16 = .ok (.iload_n 1, 1) := by decide +kernel
theorem dX9_offset_17 : decode cX9_offset 17 = .ok (.iload_n 2, 1) := by decide +kernel
theorem dX9_offset_18 : decode cX9_offset 18 = .ok (.invokevirtual 182, 3) := by decide +kernel
theorem dX9_offset_21 : decode cX9_offset 21 = .ok (.goto 6, 3) := by decide +kernel
theorem dX9_offset_24 : decode cX9_offset 24 = .ok (.sipush (-9999), 3) := by decide +kernel
theorem dX9_offset_27 : decode cX9_offset 27 = .ok (.ireturn, 1) := by decide +kernel
theorem dX9_wall_0 : decode cX9_wall 0 = .ok (.aload_n 0, 1) := by decide +kernel
theorem dX9_wall_1 : decode cX9_wall 1 = .ok (.iload_n 1, 1) := by decide +kernel
theorem dX9_wall_2 : decode cX9_wall 2 = .ok (.invokevirtual 162, 3) := by decide +kernel
theorem dX9_wall_5 : decode cX9_wall 5 = .ok (.ifCond .eq 10, 3) := by decide +kernel
theorem dX9_wall_8 : decode cX9_wall 8 = .ok (.iload_n 2, 1) := by decide +kernel
theorem dX9_wall_9 : decode cX9_wall 9 = .ok (.invokestatic 179, 3) := by decide +kernel
theorem dX9_wall_12 : decode cX9_wall 12 = .ok (.ifCond .ne 5, 3) := by decide +kernel
theorem dX9_wall_15 : decode cX9_wall 15 = .ok (.iconst (-1), 1) := by decide +kernel
theorem dX9_wall_16 : decode cX9_wall 16 = .ok (.ireturn, 1) := by decide +kernel
theorem dX9_wall_17 : decode cX9_wall 17 = .ok (.iload_n 2, 1) := by decide +kernel
theorem dX9_wall_18 : decode cX9_wall 18 = .ok (.aload_n 0, 1) := by decide +kernel
theorem dX9_wall_19 : decode cX9_wall 19 = .ok (.iload_n 1, 1) := by decide +kernel
theorem dX9_wall_20 : decode cX9_wall 20 = .ok (.iload_n 2, 1) := by decide +kernel
theorem dX9_wall_21 : decode cX9_wall 21 = .ok (.invokevirtual 182, 3) := by decide +kernel
theorem dX9_wall_24 : decode cX9_wall 24 = .ok (.iadd, 1) := by decide +kernel
theorem dX9_wall_25 : decode cX9_wall 25 = .ok (.istore_n 3, 1) := by decide +kernel
theorem dX9_wall_26 : decode cX9_wall 26 = .ok (.aload_n 0, 1) := by decide +kernel
theorem dX9_wall_27 : decode cX9_wall 27 = .ok (.iload_n 3, 1) := by decide +kernel
theorem dX9_wall_28 : decode cX9_wall 28 = .ok (.invokevirtual 185, 3) := by decide +kernel
theorem dX9_wall_31 : decode cX9_wall 31 = .ok (.ifCond .eq 7, 3) := by decide +kernel
theorem dX9_wall_34 : decode cX9_wall 34 = .ok (.iload_n 3, 1) := by decide +kernel
theorem dX9_wall_35 : decode cX9_wall 35 = .ok (.goto 5, 3) := by decide +kernel
theorem dX9_wall_38 : decode cX9_wall 38 = .ok (.bipush (-6), 2) := by decide +kernel
theorem dX9_wall_40 : decode cX9_wall 40 = .ok (.ireturn, 1) := by decide +kernel
theorem dX9_spanEnd_0 : decode cX9_spanEnd 0 = .ok (.iload_n 2, 1) := by decide +kernel
theorem dX9_spanEnd_1 : decode cX9_spanEnd 1 = .ok (.aload_n 0, 1) := by decide +kernel
theorem dX9_spanEnd_2 : decode cX9_spanEnd 2 = .ok (.getfield 67, 3) := by decide +kernel
theorem dX9_spanEnd_5 : decode cX9_spanEnd 5 = .ok (.iload_n 1, 1) := by decide +kernel
theorem dX9_spanEnd_6 : decode cX9_spanEnd 6 = .ok (.iaload, 1) := by decide +kernel
theorem dX9_spanEnd_7 : decode cX9_spanEnd 7 = .ok (.if_icmp .ne 8, 3) := by decide +kernel
theorem dX9_spanEnd_10 : decode cX9_spanEnd 10 = .ok (.ldc 178, 2) := by decide +kernel
theorem dX9_spanEnd_12 : decode cX9_spanEnd 12 = .ok (.goto 19, 3) := by decide +kernel
theorem dX9_spanEnd_15 : decode cX9_spanEnd 15 = .ok (.aload_n 0, 1) := by decide +kernel
theorem dX9_spanEnd_16 : decode cX9_spanEnd 16 = .ok (.getfield 61, 3) := by decide +kernel
theorem dX9_spanEnd_19 : decode cX9_spanEnd 19 = .ok (.sipush 801, 3) := by decide +kernel
theorem dX9_spanEnd_22 : decode cX9_spanEnd 22 = .ok (.iload_n 1, 1) := by decide +kernel
theorem dX9_spanEnd_23 : decode cX9_spanEnd 23 = .ok (.imul, 1) := by decide +kernel
theorem dX9_spanEnd_24 : decode cX9_spanEnd 24 = .ok (.iload_n 2, 1) := by decide +kernel
theorem dX9_spanEnd_25 : decode cX9_spanEnd 25 = .ok (.iadd, 1) := by decide +kernel
theorem dX9_spanEnd_26 : decode cX9_spanEnd 26 = .ok (.iconst 1, 1) := by decide +kernel
theorem dX9_spanEnd_27 : decode cX9_spanEnd 27 = .ok (.iadd, 1) := by decide +kernel
theorem dX9_spanEnd_28 : decode cX9_spanEnd 28 = .ok (.iaload, 1) := by decide +kernel
theorem dX9_spanEnd_29 : decode cX9_spanEnd 29 = .ok (.iconst 1, 1) := by decide +kernel
theorem dX9_spanEnd_30 : decode cX9_spanEnd 30 = .ok (.isub, 1) := by decide +kernel
theorem dX9_spanEnd_31 : decode cX9_spanEnd 31 = .ok (.istore_n 3, 1) := by decide +kernel
theorem dX9_spanEnd_32 : decode cX9_spanEnd 32 = .ok (.iload_n 3, 1) := by decide +kernel
theorem dX9_spanEnd_33 : decode cX9_spanEnd 33 = .ok (.ldc 178, 2) := by decide +kernel
theorem dX9_spanEnd_35 : decode cX9_spanEnd 35 = .ok (.if_icmp .ge 7, 3) := by decide +kernel
theorem dX9_spanEnd_38 : decode cX9_spanEnd 38 = .ok (.iload_n 3, 1) := by decide +kernel
theorem dX9_spanEnd_39 : decode cX9_spanEnd 39 = .ok (.goto 5, 3) := by decide +kernel
theorem dX9_spanEnd_42 : decode cX9_spanEnd 42 = .ok (.ldc 178, 2) := by decide +kernel
theorem dX9_spanEnd_44 : decode cX9_spanEnd 44 = .ok (.ireturn, 1) := by decide +kernel
theorem dX9_momentOf_0 : decode cX9_momentOf 0 = .ok (.aload_n 0, 1) := by decide +kernel
theorem dX9_momentOf_1 : decode cX9_momentOf 1 = .ok (.iload_n 1, 1) := by decide +kernel
theorem dX9_momentOf_2 : decode cX9_momentOf 2 = .ok (.invokevirtual 171, 3) := by decide +kernel
theorem dX9_momentOf_5 : decode cX9_momentOf 5 = .ok (.iconst 0, 1) := by decide +kernel
theorem dX9_momentOf_6 : decode cX9_momentOf 6 = .ok (.istore 4, 2) := by decide +kernel
theorem dX9_momentOf_8 : decode cX9_momentOf 8 = .ok (.iconst 0, 1) := by decide +kernel
theorem dX9_momentOf_9 : decode cX9_momentOf 9 = .ok (.istore 5, 2) := by decide +kernel
theorem dX9_momentOf_11 : decode cX9_momentOf 11 = .ok (.iload 5, 2) := by decide +kernel
theorem dX9_momentOf_13 : decode cX9_momentOf 13 = .ok (.aload_n 0, 1) := by decide +kernel
theorem dX9_momentOf_14 : decode cX9_momentOf 14 = .ok (.getfield 67, 3) := by decide +kernel
theorem dX9_momentOf_17 : decode cX9_momentOf 17 = .ok (.iload_n 1, 1) := by decide +kernel
theorem dX9_momentOf_18 : decode cX9_momentOf 18 = .ok (.iaload, 1) := by decide +kernel
theorem dX9_momentOf_19 : decode cX9_momentOf 19 = .ok (.if_icmp .gt 68, 3) := by decide +kernel
theorem dX9_momentOf_22 : decode cX9_momentOf 22 = .ok (.iload_n 2, 1) := by decide +kernel
theorem dX9_momentOf_23 : decode cX9_momentOf 23 = .ok (.aload_n 0, 1) := by decide +kernel
theorem dX9_momentOf_24 : decode cX9_momentOf 24 = .ok (.getfield 64, 3) := by decide +kernel
theorem dX9_momentOf_27 : decode cX9_momentOf 27 = .ok (.sipush 801, 3) := by decide +kernel
theorem dX9_momentOf_30 : decode cX9_momentOf 30 = .ok (.iload_n 1, 1) := by decide +kernel
theorem dX9_momentOf_31 : decode cX9_momentOf 31 = .ok (.imul, 1) := by decide +kernel
theorem dX9_momentOf_32 : decode cX9_momentOf 32 = .ok (.iload 5, 2) := by decide +kernel
theorem dX9_momentOf_34 : decode cX9_momentOf 34 = .ok (.iadd, 1) := by decide +kernel
theorem dX9_momentOf_35 : decode cX9_momentOf 35 = .ok (.iaload, 1) := by decide +kernel
theorem dX9_momentOf_36 : decode cX9_momentOf 36 = .ok (.isub, 1) := by decide +kernel
theorem dX9_momentOf_37 : decode cX9_momentOf 37 = .ok (.istore 6, 2) := by decide +kernel
theorem dX9_momentOf_39 : decode cX9_momentOf 39 = .ok (.iload 6, 2) := by decide +kernel
theorem dX9_momentOf_41 : decode cX9_momentOf 41 = .ok (.aload_n 0, 1) := by decide +kernel
theorem dX9_momentOf_42 : decode cX9_momentOf 42 = .ok (.getfield 61, 3) := by decide +kernel
theorem dX9_momentOf_45 : decode cX9_momentOf 45 = .ok (.sipush 801, 3) := by decide +kernel
theorem dX9_momentOf_48 : decode cX9_momentOf 48 = .ok (.iload_n 1, 1) := by decide +kernel
theorem dX9_momentOf_49 : decode cX9_momentOf 49 = .ok (.imul, 1) := by decide +kernel
theorem dX9_momentOf_50 : decode cX9_momentOf 50 = .ok (.iload 5, 2) := by decide +kernel
theorem dX9_momentOf_52 : decode cX9_momentOf 52 = .ok (.iadd, 1) := by decide +kernel
theorem dX9_momentOf_53 : decode cX9_momentOf 53 = .ok (.iaload, 1) := by decide +kernel
theorem dX9_momentOf_54 : decode cX9_momentOf 54 = .ok (.if_icmp .lt 27, 3) := by decide +kernel
theorem dX9_momentOf_57 : decode cX9_momentOf 57 = .ok (.iload 6, 2) := by decide +kernel
theorem dX9_momentOf_59 : decode cX9_momentOf 59 = .ok (.aload_n 0, 1) := by decide +kernel
theorem dX9_momentOf_60 : decode cX9_momentOf 60 = .ok (.iload_n 1, 1) := by decide +kernel
theorem dX9_momentOf_61 : decode cX9_momentOf 61 = .ok (.iload 5, 2) := by decide +kernel
theorem dX9_momentOf_63 : decode cX9_momentOf 63 = .ok (.invokevirtual 188, 3) := by decide +kernel
theorem dX9_momentOf_66 : decode cX9_momentOf 66 = .ok (.if_icmp .gt 15, 3) := by decide +kernel
theorem dX9_momentOf_69 : decode cX9_momentOf 69 = .ok (.iload 4, 2) := by decide +kernel
theorem dX9_momentOf_71 : decode cX9_momentOf 71 = .ok (.iload_n 3, 1) := by decide +kernel
theorem dX9_momentOf_72 : decode cX9_momentOf 72 = .ok (.if_icmp .ne 6, 3) := by decide +kernel
theorem dX9_momentOf_75 : decode cX9_momentOf 75 = .ok (.iload 6, 2) := by decide +kernel
theorem dX9_momentOf_77 : decode cX9_momentOf 77 = .ok (.ireturn, 1) := by decide +kernel
theorem dX9_momentOf_78 : decode cX9_momentOf 78 = .ok (.iinc 4 1, 3) := by decide +kernel
theorem dX9_momentOf_81 : decode cX9_momentOf 81 = .ok (.iinc 5 1, 3) := by decide +kernel
theorem dX9_momentOf_84 : decode cX9_momentOf 84 = .ok (.goto (-73), 3) := by decide +kernel
theorem dX9_momentOf_87 : decode cX9_momentOf 87 = .ok (.iload_n 3, 1) := by decide +kernel
theorem dX9_momentOf_88 : decode cX9_momentOf 88 = .ok (.ifCond .ge 8, 3) := by decide +kernel
theorem dX9_momentOf_91 : decode cX9_momentOf 91 = .ok (.iload 4, 2) := by decide +kernel
theorem dX9_momentOf_93 : decode cX9_momentOf 93 = .ok (.goto 4, 3) := by decide +kernel
theorem dX9_momentOf_96 : decode cX9_momentOf 96 = .ok (.iconst (-1), 1) := by decide +kernel
theorem dX9_momentOf_97 : decode cX9_momentOf 97 = .ok (.ireturn, 1) := by decide +kernel
theorem dX9_moments_0 : decode cX9_moments 0 = .ok (.aload_n 0, 1) := by decide +kernel
theorem dX9_moments_1 : decode cX9_moments 1 = .ok (.iload_n 1, 1) := by decide +kernel
theorem dX9_moments_2 : decode cX9_moments 2 = .ok (.invokevirtual 162, 3) := by decide +kernel
theorem dX9_moments_5 : decode cX9_moments 5 = .ok (.ifCond .eq 21, 3) := by decide +kernel
theorem dX9_moments_8 : decode cX9_moments 8 = .ok (.aload_n 0, 1) := by decide +kernel
theorem dX9_moments_9 : decode cX9_moments 9 = .ok (.iload_n 2, 1) := by decide +kernel
theorem dX9_moments_10 : decode cX9_moments 10 = .ok (.invokevirtual 185, 3) := by decide +kernel
theorem dX9_moments_13 : decode cX9_moments 13 = .ok (.ifCond .eq 13, 3) := by decide +kernel
theorem dX9_moments_16 : decode cX9_moments 16 = .ok (.aload_n 0, 1) := by decide +kernel
theorem dX9_moments_17 : decode cX9_moments 17 = .ok (.iload_n 1, 1) := by decide +kernel
theorem dX9_moments_18 : decode cX9_moments 18 = .ok (.iload_n 2, 1) := by decide +kernel
theorem dX9_moments_19 : decode cX9_moments 19 = .ok (.iconst (-1), 1) := by decide +kernel
theorem dX9_moments_20 : decode cX9_moments 20 = .ok (.invokevirtual 191, 3) := by decide +kernel
theorem dX9_moments_23 : decode cX9_moments 23 = .ok (.goto 4, 3) := by decide +kernel
theorem dX9_moments_26 : decode cX9_moments 26 = .ok (.iconst (-1), 1) := by decide +kernel
theorem dX9_moments_27 : decode cX9_moments 27 = .ok (.ireturn, 1) := by decide +kernel
theorem dX9_moment_0 : decode cX9_moment 0 = .ok (.aload_n 0, 1) := by decide +kernel
theorem dX9_moment_1 : decode cX9_moment 1 = .ok (.iload_n 1, 1) := by decide +kernel
theorem dX9_moment_2 : decode cX9_moment 2 = .ok (.invokevirtual 162, 3) := by decide +kernel
theorem dX9_moment_5 : decode cX9_moment 5 = .ok (.ifCond .eq 11, 3) := by decide +kernel
theorem dX9_moment_8 : decode cX9_moment 8 = .ok (.aload_n 0, 1) := by decide +kernel
theorem dX9_moment_9 : decode cX9_moment 9 = .ok (.iload_n 2, 1) := by decide +kernel
theorem dX9_moment_10 : decode cX9_moment 10 = .ok (.invokevirtual 185, 3) := by decide +kernel
theorem dX9_moment_13 : decode cX9_moment 13 = .ok (.ifCond .ne 5, 3) := by decide +kernel
theorem dX9_moment_16 : decode cX9_moment 16 = .ok (.iconst (-1), 1) := by decide +kernel
theorem dX9_moment_17 : decode cX9_moment 17 = .ok (.ireturn, 1) := by decide +kernel
theorem dX9_moment_18 : decode cX9_moment 18 = .ok (.iload_n 3, 1) := by decide +kernel
theorem dX9_moment_19 : decode cX9_moment 19 = .ok (.ifCond .ge 7, 3) := by decide +kernel
theorem dX9_moment_22 : decode cX9_moment 22 = .ok (.iconst (-1), 1) := by decide +kernel
theorem dX9_moment_23 : decode cX9_moment 23 = .ok (.goto 10, 3) := by decide +kernel
theorem dX9_moment_26 : decode cX9_moment 26 = .ok (.aload_n 0, 1) := by decide +kernel
theorem dX9_moment_27 : decode cX9_moment 27 = .ok (.iload_n 1, 1) := by decide +kernel
theorem dX9_moment_28 : decode cX9_moment 28 = .ok (.iload_n 2, 1) := by decide +kernel
theorem dX9_moment_29 : decode cX9_moment 29 = .ok (.iload_n 3, 1) := by decide +kernel
theorem dX9_moment_30 : decode cX9_moment 30 = .ok (.invokevirtual 191, 3) := by decide +kernel
theorem dX9_moment_33 : decode cX9_moment 33 = .ok (.istore 4, 2) := by decide +kernel
theorem dX9_moment_35 : decode cX9_moment 35 = .ok (.iload 4, 2) := by decide +kernel
theorem dX9_moment_37 : decode cX9_moment 37 = .ok (.ifCond .ge 8, 3) := by decide +kernel
theorem dX9_moment_40 : decode cX9_moment 40 = .ok (.bipush (-6), 2) := by decide +kernel
theorem dX9_moment_42 : decode cX9_moment 42 = .ok (.goto 5, 3) := by decide +kernel
theorem dX9_moment_45 : decode cX9_moment 45 = .ok (.iload 4, 2) := by decide +kernel
theorem dX9_moment_47 : decode cX9_moment 47 = .ok (.ireturn, 1) := by decide +kernel
theorem dX9_firstFrom_0 : decode cX9_firstFrom 0 = .ok (.aload_n 0, 1) := by decide +kernel
theorem dX9_firstFrom_1 : decode cX9_firstFrom 1 = .ok (.iload_n 1, 1) := by decide +kernel
theorem dX9_firstFrom_2 : decode cX9_firstFrom 2 = .ok (.invokevirtual 171, 3) := by decide +kernel
theorem dX9_firstFrom_5 : decode cX9_firstFrom 5 = .ok (.iconst 0, 1) := by decide +kernel
theorem dX9_firstFrom_6 : decode cX9_firstFrom 6 = .ok (.istore 4, 2) := by decide +kernel
theorem dX9_firstFrom_8 : decode cX9_firstFrom 8 = .ok (.iload 4, 2) := by decide +kernel
theorem dX9_firstFrom_10 : decode cX9_firstFrom 10 = .ok (.aload_n 0, 1) := by decide +kernel
theorem dX9_firstFrom_11 : decode cX9_firstFrom 11 = .ok (.getfield 67, 3) := by decide +kernel
theorem dX9_firstFrom_14 : decode cX9_firstFrom 14 = .ok (.iload_n 1, 1) := by decide +kernel
theorem dX9_firstFrom_15 : decode cX9_firstFrom 15 = .ok (.iaload, 1) := by decide +kernel
theorem dX9_firstFrom_16 : decode cX9_firstFrom 16 = .ok (.if_icmp .gt 83, 3) := by decide +kernel
theorem dX9_firstFrom_19 : decode cX9_firstFrom 19 = .ok (.aload_n 0, 1) := by decide +kernel
theorem dX9_firstFrom_20 : decode cX9_firstFrom 20 = .ok (.getfield 64, 3) := by decide +kernel
theorem dX9_firstFrom_23 : decode cX9_firstFrom 23 = .ok (.sipush 801, 3) := by decide +kernel
theorem dX9_firstFrom_26 : decode cX9_firstFrom 26 = .ok (.iload_n 1, 1) := by decide +kernel
theorem dX9_firstFrom_27 : decode cX9_firstFrom 27 = .ok (.imul, 1) := by decide +kernel
theorem dX9_firstFrom_28 : decode cX9_firstFrom 28 = .ok (.iload 4, 2) := by decide +kernel
theorem dX9_firstFrom_30 : decode cX9_firstFrom 30 = .ok (.iadd, 1) := by decide +kernel
theorem dX9_firstFrom_31 : decode cX9_firstFrom 31 = .ok (.iaload, 1) := by decide +kernel
theorem dX9_firstFrom_32 : decode cX9_firstFrom 32 = .ok (.istore 5, 2) := by decide +kernel
theorem dX9_firstFrom_34 : decode cX9_firstFrom 34 = .ok (.aload_n 0, 1) := by decide +kernel
theorem dX9_firstFrom_35 : decode cX9_firstFrom 35 = .ok (.getfield 61, 3) := by decide +kernel
theorem dX9_firstFrom_38 : decode cX9_firstFrom 38 = .ok (.sipush 801, 3) := by decide +kernel
theorem dX9_firstFrom_41 : decode cX9_firstFrom 41 = .ok (.iload_n 1, 1) := by decide +kernel
theorem dX9_firstFrom_42 : decode cX9_firstFrom 42 = .ok (.imul, 1) := by decide +kernel
theorem dX9_firstFrom_43 : decode cX9_firstFrom 43 = .ok (.iload 4, 2) := by decide +kernel
theorem dX9_firstFrom_45 : decode cX9_firstFrom 45 = .ok (.iadd, 1) := by decide +kernel
theorem dX9_firstFrom_46 : decode cX9_firstFrom 46 = .ok (.iaload, 1) := by decide +kernel
theorem dX9_firstFrom_47 : decode cX9_firstFrom 47 = .ok (.istore 6, 2) := by decide +kernel
theorem dX9_firstFrom_49 : decode cX9_firstFrom 49 = .ok (.iload_n 2, 1) := by decide +kernel
theorem dX9_firstFrom_50 : decode cX9_firstFrom 50 = .ok (.iload 5, 2) := by decide +kernel
theorem dX9_firstFrom_52 : decode cX9_firstFrom 52 = .ok (.isub, 1) := by decide +kernel
theorem dX9_firstFrom_53 : decode cX9_firstFrom 53 = .ok (.iload 6, 2) := by decide +kernel
theorem dX9_firstFrom_55 : decode cX9_firstFrom 55 = .ok (.if_icmp .le 10, 3) := by decide +kernel
theorem dX9_firstFrom_58 : decode cX9_firstFrom 58 = .ok (.iload_n 2, 1) := by decide +kernel
theorem dX9_firstFrom_59 : decode cX9_firstFrom 59 = .ok (.iload 5, 2) := by decide +kernel
theorem dX9_firstFrom_61 : decode cX9_firstFrom 61 = .ok (.isub, 1) := by decide +kernel
theorem dX9_firstFrom_62 : decode cX9_firstFrom 62 = .ok (.goto 5, 3) := by decide +kernel
theorem dX9_firstFrom_65 : decode cX9_firstFrom 65 = .ok (.iload 6, 2) := by decide +kernel
theorem dX9_firstFrom_67 : decode cX9_firstFrom 67 = .ok (.istore 7, 2) := by decide +kernel
theorem dX9_firstFrom_69 : decode cX9_firstFrom 69 = .ok (.iload 7, 2) := by decide +kernel
theorem dX9_firstFrom_71 : decode cX9_firstFrom 71 = .ok (.aload_n 0, 1) := by decide +kernel
theorem dX9_firstFrom_72 : decode cX9_firstFrom 72 = .ok (.iload_n 1, 1) := by decide +kernel
theorem dX9_firstFrom_73 : decode cX9_firstFrom 73 = .ok (.iload 4, 2) := by decide +kernel
theorem dX9_firstFrom_75 : decode cX9_firstFrom 75 = .ok (.invokevirtual 188, 3) := by decide +kernel
theorem dX9_firstFrom_78 : decode cX9_firstFrom 78 = .ok (.if_icmp .gt 15, 3) := by decide +kernel
theorem dX9_firstFrom_81 : decode cX9_firstFrom 81 = .ok (.iload 7, 2) := by decide +kernel
theorem dX9_firstFrom_83 : decode cX9_firstFrom 83 = .ok (.iload 5, 2) := by decide +kernel
theorem dX9_firstFrom_85 : decode cX9_firstFrom 85 = .ok (.iadd, 1) := by decide +kernel
theorem dX9_firstFrom_86 : decode cX9_firstFrom 86 = .ok (.iload_n 3, 1) := by decide +kernel
theorem dX9_firstFrom_87 : decode cX9_firstFrom 87 = .ok (.if_icmp .gt 6, 3) := by decide +kernel
theorem dX9_firstFrom_90 : decode cX9_firstFrom 90 = .ok (.iload 7, 2) := by decide +kernel
theorem dX9_firstFrom_92 : decode cX9_firstFrom 92 = .ok (.ireturn, 1) := by decide +kernel
theorem dX9_firstFrom_93 : decode cX9_firstFrom 93 = .ok (.iinc 4 1, 3) := by decide +kernel
theorem dX9_firstFrom_96 : decode cX9_firstFrom 96 = .ok (.goto (-88), 3) := by decide +kernel
theorem dX9_firstFrom_99 : decode cX9_firstFrom 99 = .ok (.iconst (-1), 1) := by decide +kernel
theorem dX9_firstFrom_100 : decode cX9_firstFrom 100 = .ok (.ireturn, 1) := by decide +kernel
theorem dX9_lastAhead_0 : decode cX9_lastAhead 0 = .ok (.aload_n 0, 1) := by decide +kernel
theorem dX9_lastAhead_1 : decode cX9_lastAhead 1 = .ok (.iload_n 1, 1) := by decide +kernel
theorem dX9_lastAhead_2 : decode cX9_lastAhead 2 = .ok (.invokevirtual 171, 3) := by decide +kernel
theorem dX9_lastAhead_5 : decode cX9_lastAhead 5 = .ok (.aload_n 0, 1) := by decide +kernel
theorem dX9_lastAhead_6 : decode cX9_lastAhead 6 = .ok (.getfield 67, 3) := by decide +kernel
theorem dX9_lastAhead_9 : decode cX9_lastAhead 9 = .ok (.iload_n 1, 1) := by decide +kernel
theorem dX9_lastAhead_10 : decode cX9_lastAhead 10 = .ok (.iaload, 1) := by decide +kernel
theorem dX9_lastAhead_11 : decode cX9_lastAhead 11 = .ok (.istore_n 3, 1) := by decide +kernel
theorem dX9_lastAhead_12 : decode cX9_lastAhead 12 = .ok (.iload_n 3, 1) := by decide +kernel
theorem dX9_lastAhead_13 : decode cX9_lastAhead 13 = .ok (.ifCond .lt 75, 3) := by decide +kernel
theorem dX9_lastAhead_16 : decode cX9_lastAhead 16 = .ok (.aload_n 0, 1) := by decide +kernel
theorem dX9_lastAhead_17 : decode cX9_lastAhead 17 = .ok (.getfield 64, 3) := by decide +kernel
theorem dX9_lastAhead_20 : decode cX9_lastAhead 20 = .ok (.sipush 801, 3) := by decide +kernel
theorem dX9_lastAhead_23 : decode cX9_lastAhead 23 = .ok (.iload_n 1, 1) := by decide +kernel
theorem dX9_lastAhead_24 : decode cX9_lastAhead 24 = .ok (.imul, 1) := by decide +kernel
theorem dX9_lastAhead_25 : decode cX9_lastAhead 25 = .ok (.iload_n 3, 1) := by decide +kernel
theorem dX9_lastAhead_26 : decode cX9_lastAhead 26 = .ok (.iadd, 1) := by decide +kernel
theorem dX9_lastAhead_27 : decode cX9_lastAhead 27 = .ok (.iaload, 1) := by decide +kernel
theorem dX9_lastAhead_28 : decode cX9_lastAhead 28 = .ok (.istore 4, 2) := by decide +kernel
theorem dX9_lastAhead_30 : decode cX9_lastAhead 30 = .ok (.iload_n 2, 1) := by decide +kernel
theorem dX9_lastAhead_31 : decode cX9_lastAhead 31 = .ok (.iconst 1, 1) := by decide +kernel
theorem dX9_lastAhead_32 : decode cX9_lastAhead 32 = .ok (.isub, 1) := by decide +kernel
theorem dX9_lastAhead_33 : decode cX9_lastAhead 33 = .ok (.iload 4, 2) := by decide +kernel
theorem dX9_lastAhead_35 : decode cX9_lastAhead 35 = .ok (.isub, 1) := by decide +kernel
theorem dX9_lastAhead_36 : decode cX9_lastAhead 36 = .ok (.aload_n 0, 1) := by decide +kernel
theorem dX9_lastAhead_37 : decode cX9_lastAhead 37 = .ok (.iload_n 1, 1) := by decide +kernel
theorem dX9_lastAhead_38 : decode cX9_lastAhead 38 = .ok (.iload_n 3, 1) := by decide +kernel
theorem dX9_lastAhead_39 : decode cX9_lastAhead 39 = .ok (.invokevirtual 188, 3) := by decide +kernel
theorem dX9_lastAhead_42 : decode cX9_lastAhead 42 = .ok (.if_icmp .ge 12, 3) := by decide +kernel
theorem dX9_lastAhead_45 : decode cX9_lastAhead 45 = .ok (.iload_n 2, 1) := by decide +kernel
theorem dX9_lastAhead_46 : decode cX9_lastAhead 46 = .ok (.iconst 1, 1) := by decide +kernel
theorem dX9_lastAhead_47 : decode cX9_lastAhead 47 = .ok (.isub, 1) := by decide +kernel
theorem dX9_lastAhead_48 : decode cX9_lastAhead 48 = .ok (.iload 4, 2) := by decide +kernel
theorem dX9_lastAhead_50 : decode cX9_lastAhead 50 = .ok (.isub, 1) := by decide +kernel
theorem dX9_lastAhead_51 : decode cX9_lastAhead 51 = .ok (.goto 9, 3) := by decide +kernel
theorem dX9_lastAhead_54 : decode cX9_lastAhead 54 = .ok (.aload_n 0, 1) := by decide +kernel
theorem dX9_lastAhead_55 : decode cX9_lastAhead 55 = .ok (.iload_n 1, 1) := by decide +kernel
theorem dX9_lastAhead_56 : decode cX9_lastAhead 56 = .ok (.iload_n 3, 1) := by decide +kernel
theorem dX9_lastAhead_57 : decode cX9_lastAhead 57 = .ok (.invokevirtual 188, 3) := by decide +kernel
theorem dX9_lastAhead_60 : decode cX9_lastAhead 60 = .ok (.istore 5, 2) := by decide +kernel
theorem dX9_lastAhead_62 : decode cX9_lastAhead 62 = .ok (.iload 5, 2) := by decide +kernel
theorem dX9_lastAhead_64 : decode cX9_lastAhead 64 = .ok (.aload_n 0, 1) := by decide +kernel
theorem dX9_lastAhead_65 : decode cX9_lastAhead 65 = .ok (.getfield 61, 3) := by decide +kernel
theorem dX9_lastAhead_68 : decode cX9_lastAhead 68 = .ok (.sipush 801, 3) := by decide +kernel
theorem dX9_lastAhead_71 : decode cX9_lastAhead 71 = .ok (.iload_n 1, 1) := by decide +kernel
theorem dX9_lastAhead_72 : decode cX9_lastAhead 72 = .ok (.imul, 1) := by decide +kernel
theorem dX9_lastAhead_73 : decode cX9_lastAhead 73 = .ok (.iload_n 3, 1) := by decide +kernel
theorem dX9_lastAhead_74 : decode cX9_lastAhead 74 = .ok (.iadd, 1) := by decide +kernel
theorem dX9_lastAhead_75 : decode cX9_lastAhead 75 = .ok (.iaload, 1) := by decide +kernel
theorem dX9_lastAhead_76 : decode cX9_lastAhead 76 = .ok (.if_icmp .lt 6, 3) := by decide +kernel
theorem dX9_lastAhead_79 : decode cX9_lastAhead 79 = .ok (.iload 5, 2) := by decide +kernel
theorem dX9_lastAhead_81 : decode cX9_lastAhead 81 = .ok (.ireturn, 1) := by decide +kernel
theorem dX9_lastAhead_82 : decode cX9_lastAhead 82 = .ok (.iinc 3 (-1), 3) := by decide +kernel
theorem dX9_lastAhead_85 : decode cX9_lastAhead 85 = .ok (.goto (-73), 3) := by decide +kernel
theorem dX9_lastAhead_88 : decode cX9_lastAhead 88 = .ok (.iconst (-1), 1) := by decide +kernel
theorem dX9_lastAhead_89 : decode cX9_lastAhead 89 = .ok (.ireturn, 1) := by decide +kernel
theorem dX9_isProgram_0 : decode cX9_isProgram 0 = .ok (.iload_n 0, 1) := by decide +kernel
theorem dX9_isProgram_1 : decode cX9_isProgram 1 = .ok (.iconst 0, 1) := by decide +kernel
theorem dX9_isProgram_2 : decode cX9_isProgram 2 = .ok (.iconst 5, 1) := by decide +kernel
theorem dX9_isProgram_3 : decode cX9_isProgram 3 = .ok (.invokestatic 131, 3) := by decide +kernel
theorem dX9_isProgram_6 : decode cX9_isProgram 6 = .ok (.ireturn, 1) := by decide +kernel
theorem dX9_clear_0 : decode cX9_clear 0 = .ok (.iload_n 1, 1) := by decide +kernel
theorem dX9_clear_1 : decode cX9_clear 1 = .ok (.invokestatic 194, 3) := by decide +kernel
theorem dX9_clear_4 : decode cX9_clear 4 = .ok (.ifCond .ne 5, 3) := by decide +kernel
theorem dX9_clear_7 : decode cX9_clear 7 = .ok (.iconst (-1), 1) := by decide +kernel
theorem dX9_clear_8 : decode cX9_clear 8 = .ok (.ireturn, 1) := by decide +kernel
theorem dX9_clear_9 : decode cX9_clear 9 = .ok (.aload_n 0, 1) := by decide +kernel
theorem dX9_clear_10 : decode cX9_clear 10 = .ok (.getfield 85, 3) := by decide +kernel
theorem dX9_clear_13 : decode cX9_clear 13 = .ok (.iload_n 1, 1) := by decide +kernel
theorem dX9_clear_14 : decode cX9_clear 14 = .ok (.iaload, 1) := by decide +kernel
theorem dX9_clear_15 : decode cX9_clear 15 = .ok (.istore_n 2, 1) := by decide +kernel
theorem dX9_clear_16 : decode cX9_clear 16 = .ok (.aload_n 0, 1) := by decide +kernel
theorem dX9_clear_17 : decode cX9_clear 17 = .ok (.getfield 85, 3) := by decide +kernel
theorem dX9_clear_20 : decode cX9_clear 20 = .ok (.iload_n 1, 1) := by decide +kernel
theorem dX9_clear_21 : decode cX9_clear 21 = .ok (.iconst 0, 1) := by decide +kernel
theorem dX9_clear_22 : decode cX9_clear 22 = .ok (.iastore, 1) := by decide +kernel
theorem dX9_clear_23 : decode cX9_clear 23 = .ok (.iload_n 2, 1) := by decide +kernel
theorem dX9_clear_24 : decode cX9_clear 24 = .ok (.ireturn, 1) := by decide +kernel
theorem dX9_mayStand_0 : decode cX9_mayStand 0 = .ok (.iload_n 1, 1) := by decide +kernel
theorem dX9_mayStand_1 : decode cX9_mayStand 1 = .ok (.tableswitch 177 1 7 #[43, 177, 61, 82, 105, 128, 151], 43) := by decide +kernel
theorem dX9_mayStand_44 : decode cX9_mayStand 44 = .ok (.aload_n 0, 1) := by decide +kernel
theorem dX9_mayStand_45 : decode cX9_mayStand 45 = .ok (.iload_n 2, 1) := by decide +kernel
theorem dX9_mayStand_46 : decode cX9_mayStand 46 = .ok (.invokevirtual 162, 3) := by decide +kernel
theorem dX9_mayStand_49 : decode cX9_mayStand 49 = .ok (.ifCond .eq 11, 3) := by decide +kernel
theorem dX9_mayStand_52 : decode cX9_mayStand 52 = .ok (.iload_n 3, 1) := by decide +kernel
theorem dX9_mayStand_53 : decode cX9_mayStand 53 = .ok (.ifCond .ne 7, 3) := by decide +kernel
theorem dX9_mayStand_56 : decode cX9_mayStand 56 = .ok (.iconst 1, 1) := by decide +kernel
theorem dX9_mayStand_57 : decode cX9_mayStand 57 = .ok (.goto 4, 3) := by decide +kernel
theorem dX9_mayStand_60 : decode cX9_mayStand 60 = .ok (.iconst 0, 1) := by decide +kernel
theorem dX9_mayStand_61 : decode cX9_mayStand 61 = .ok (.ireturn, 1) := by decide +kernel
theorem dX9_mayStand_62 : decode cX9_mayStand 62 = .ok (.iload_n 2, 1) := by decide +kernel
theorem dX9_mayStand_63 : decode cX9_mayStand 63 = .ok (.iconst 0, 1) := by decide +kernel
theorem dX9_mayStand_64 : decode cX9_mayStand 64 = .ok (.sipush 1439, 3) := by decide +kernel
theorem dX9_mayStand_67 : decode cX9_mayStand 67 = .ok (.invokestatic 131, 3) := by decide +kernel
theorem dX9_mayStand_70 : decode cX9_mayStand 70 = .ok (.ifCond .eq 11, 3) := by decide +kernel
theorem dX9_mayStand_73 : decode cX9_mayStand 73 = .ok (.iload_n 3, 1) := by decide +kernel
theorem dX9_mayStand_74 : decode cX9_mayStand 74 = .ok (.ifCond .ne 7, 3) := by decide +kernel
theorem dX9_mayStand_77 : decode cX9_mayStand 77 = .ok (.iconst 1, 1) := by decide +kernel
theorem dX9_mayStand_78 : decode cX9_mayStand 78 = .ok (.goto 4, 3) := by decide +kernel
theorem dX9_mayStand_81 : decode cX9_mayStand 81 = .ok (.iconst 0, 1) := by decide +kernel
theorem dX9_mayStand_82 : decode cX9_mayStand 82 = .ok (.ireturn, 1) := by decide +kernel
theorem dX9_mayStand_83 : decode cX9_mayStand 83 = .ok (.aload_n 0, 1) := by decide +kernel
theorem dX9_mayStand_84 : decode cX9_mayStand 84 = .ok (.iload_n 2, 1) := by decide +kernel
theorem dX9_mayStand_85 : decode cX9_mayStand 85 = .ok (.invokevirtual 162, 3) := by decide +kernel
theorem dX9_mayStand_88 : decode cX9_mayStand 88 = .ok (.ifCond .eq 16, 3) := by decide +kernel
theorem dX9_mayStand_91 : decode cX9_mayStand 91 = .ok (.iload_n 3, 1) := by decide +kernel
theorem dX9_mayStand_92 : decode cX9_mayStand 92 = .ok (.iconst 0, 1) := by decide +kernel
theorem dX9_mayStand_93 : decode cX9_mayStand 93 = .ok (.iconst 1, 1) := by decide +kernel
theorem dX9_mayStand_94 : decode cX9_mayStand 94 = .ok (.invokestatic 131, 3) := by decide +kernel
theorem dX9_mayStand_97 : decode cX9_mayStand 97 = .ok (.ifCond .eq 7, 3) := by decide +kernel
theorem dX9_mayStand_100 : decode cX9_mayStand 100 = .ok (.iconst 1, 1) := by decide +kernel
theorem dX9_mayStand_101 : decode cX9_mayStand 101 = .ok (.goto 4, 3) := by decide +kernel
theorem dX9_mayStand_104 : decode cX9_mayStand 104 = .ok (.iconst 0, 1) := by decide +kernel
theorem dX9_mayStand_105 : decode cX9_mayStand 105 = .ok (.ireturn, 1) := by decide +kernel
theorem dX9_mayStand_106 : decode cX9_mayStand 106 = .ok (.iload_n 2, 1) := by decide +kernel
theorem dX9_mayStand_107 : decode cX9_mayStand 107 = .ok (.sipush (-9999), 3) := by decide +kernel
theorem dX9_mayStand_110 : decode cX9_mayStand 110 = .ok (.sipush 9999, 3) := by decide +kernel
theorem dX9_mayStand_113 : decode cX9_mayStand 113 = .ok (.invokestatic 131, 3) := by decide +kernel
theorem dX9_mayStand_116 : decode cX9_mayStand 116 = .ok (.ifCond .eq 11, 3) := by decide +kernel
theorem dX9_mayStand_119 : decode cX9_mayStand 119 = .ok (.iload_n 3, 1) := by decide +kernel
theorem dX9_mayStand_120 : decode cX9_mayStand 120 = .ok (.ifCond .ne 7, 3) := by decide +kernel
theorem dX9_mayStand_123 : decode cX9_mayStand 123 = .ok (.iconst 1, 1) := by decide +kernel
theorem dX9_mayStand_124 : decode cX9_mayStand 124 = .ok (.goto 4, 3) := by decide +kernel
theorem dX9_mayStand_127 : decode cX9_mayStand 127 = .ok (.iconst 0, 1) := by decide +kernel
theorem dX9_mayStand_128 : decode cX9_mayStand 128 = .ok (.ireturn, 1) := by decide +kernel
theorem dX9_mayStand_129 : decode cX9_mayStand 129 = .ok (.iload_n 2, 1) := by decide +kernel
theorem dX9_mayStand_130 : decode cX9_mayStand 130 = .ok (.sipush (-999), 3) := by decide +kernel
theorem dX9_mayStand_133 : decode cX9_mayStand 133 = .ok (.sipush 999, 3) := by decide +kernel
theorem dX9_mayStand_136 : decode cX9_mayStand 136 = .ok (.invokestatic 131, 3) := by decide +kernel
theorem dX9_mayStand_139 : decode cX9_mayStand 139 = .ok (.ifCond .eq 11, 3) := by decide +kernel
theorem dX9_mayStand_142 : decode cX9_mayStand 142 = .ok (.iload_n 3, 1) := by decide +kernel
theorem dX9_mayStand_143 : decode cX9_mayStand 143 = .ok (.ifCond .ne 7, 3) := by decide +kernel
theorem dX9_mayStand_146 : decode cX9_mayStand 146 = .ok (.iconst 1, 1) := by decide +kernel
theorem dX9_mayStand_147 : decode cX9_mayStand 147 = .ok (.goto 4, 3) := by decide +kernel
theorem dX9_mayStand_150 : decode cX9_mayStand 150 = .ok (.iconst 0, 1) := by decide +kernel
theorem dX9_mayStand_151 : decode cX9_mayStand 151 = .ok (.ireturn, 1) := by decide +kernel
theorem dX9_mayStand_152 : decode cX9_mayStand 152 = .ok (.iload_n 2, 1) := by decide +kernel
theorem dX9_mayStand_153 : decode cX9_mayStand 153 = .ok (.bipush (-99), 2) := by decide +kernel
theorem dX9_mayStand_155 : decode cX9_mayStand 155 = .ok (.bipush 99, 2) := by decide +kernel
theorem dX9_mayStand_157 : decode cX9_mayStand 157 = .ok (.invokestatic 131, 3) := by decide +kernel
theorem dX9_mayStand_160 : decode cX9_mayStand 160 = .ok (.ifCond .eq 16, 3) := by decide +kernel
theorem dX9_mayStand_163 : decode cX9_mayStand 163 = .ok (.iload_n 3, 1) := by decide +kernel
theorem dX9_mayStand_164 : decode cX9_mayStand 164 = .ok (.iconst 0, 1) := by decide +kernel
theorem dX9_mayStand_165 : decode cX9_mayStand 165 = .ok (.iconst 2, 1) := by decide +kernel
theorem dX9_mayStand_166 : decode cX9_mayStand 166 = .ok (.invokestatic 131, 3) := by decide +kernel
theorem dX9_mayStand_169 : decode cX9_mayStand 169 = .ok (.ifCond .eq 7, 3) := by decide +kernel
theorem dX9_mayStand_172 : decode cX9_mayStand 172 = .ok (.iconst 1, 1) := by decide +kernel
theorem dX9_mayStand_173 : decode cX9_mayStand 173 = .ok (.goto 4, 3) := by decide +kernel
theorem dX9_mayStand_176 : decode cX9_mayStand 176 = .ok (.iconst 0, 1) := by decide +kernel
theorem dX9_mayStand_177 : decode cX9_mayStand 177 = .ok (.ireturn, 1) := by decide +kernel
theorem dX9_mayStand_178 : decode cX9_mayStand 178 = .ok (.iload_n 1, 1) := by decide +kernel
theorem dX9_mayStand_179 : decode cX9_mayStand 179 = .ok (.iconst 0, 1) := by decide +kernel
theorem dX9_mayStand_180 : decode cX9_mayStand 180 = .ok (.bipush 11, 2) := by decide +kernel
theorem dX9_mayStand_182 : decode cX9_mayStand 182 = .ok (.invokestatic 131, 3) := by decide +kernel
theorem dX9_mayStand_185 : decode cX9_mayStand 185 = .ok (.ifCond .eq 15, 3) := by decide +kernel
theorem dX9_mayStand_188 : decode cX9_mayStand 188 = .ok (.iload_n 2, 1) := by decide +kernel
theorem dX9_mayStand_189 : decode cX9_mayStand 189 = .ok (.ifCond .ne 11, 3) := by decide +kernel
theorem dX9_mayStand_192 : decode cX9_mayStand 192 = .ok (.iload_n 3, 1) := by decide +kernel
theorem dX9_mayStand_193 : decode cX9_mayStand 193 = .ok (.ifCond .ne 7, 3) := by decide +kernel
theorem dX9_mayStand_196 : decode cX9_mayStand 196 = .ok (.iconst 1, 1) := by decide +kernel
theorem dX9_mayStand_197 : decode cX9_mayStand 197 = .ok (.goto 4, 3) := by decide +kernel
theorem dX9_mayStand_200 : decode cX9_mayStand 200 = .ok (.iconst 0, 1) := by decide +kernel
theorem dX9_mayStand_201 : decode cX9_mayStand 201 = .ok (.ireturn, 1) := by decide +kernel
theorem dX9_line_0 : decode cX9_line 0 = .ok (.iload_n 1, 1) := by decide +kernel
theorem dX9_line_1 : decode cX9_line 1 = .ok (.invokestatic 194, 3) := by decide +kernel
theorem dX9_line_4 : decode cX9_line 4 = .ok (.ifCond .eq 14, 3) := by decide +kernel
theorem dX9_line_7 : decode cX9_line 7 = .ok (.aload_n 0, 1) := by decide +kernel
theorem dX9_line_8 : decode cX9_line 8 = .ok (.iload_n 2, 1) := by decide +kernel
theorem dX9_line_9 : decode cX9_line 9 = .ok (.iload_n 3, 1) := by decide +kernel
theorem dX9_line_10 : decode cX9_line 10 = .ok (.iload 4, 2) := by decide +kernel
theorem dX9_line_12 : decode cX9_line 12 = .ok (.invokevirtual 197, 3) := by decide +kernel
theorem dX9_line_15 : decode cX9_line 15 = .ok (.ifCond .ne 5, 3) := by decide +kernel
theorem dX9_line_18 : decode cX9_line 18 = .ok (.iconst (-1), 1) := by decide +kernel
theorem dX9_line_19 : decode cX9_line 19 = .ok (.ireturn, 1) := by decide +kernel
theorem dX9_line_20 : decode cX9_line 20 = .ok (.aload_n 0, 1) := by decide +kernel
theorem dX9_line_21 : decode cX9_line 21 = .ok (.getfield 85, 3) := by decide +kernel
theorem dX9_line_24 : decode cX9_line 24 = .ok (.iload_n 1, 1) := by decide +kernel
theorem dX9_line_25 : decode cX9_line 25 = .ok (.iaload, 1) := by decide +kernel
theorem dX9_line_26 : decode cX9_line 26 = .ok (.bipush 10, 2) := by decide +kernel
theorem dX9_line_28 : decode cX9_line 28 = .ok (.if_icmp .ne 6, 3) := by decide +kernel
theorem dX9_line_31 : decode cX9_line 31 = .ok (.bipush (-2), 2) := by decide +kernel
theorem dX9_line_33 : decode cX9_line 33 = .ok (.ireturn, 1) := by decide +kernel
theorem dX9_line_34 : decode cX9_line 34 = .ok (.bipush 10, 2) := by decide +kernel
theorem dX9_line_36 : decode cX9_line 36 = .ok (.iload_n 1, 1) := by decide +kernel
theorem dX9_line_37 : decode cX9_line 37 = .ok (.imul, 1) := by decide +kernel
theorem dX9_line_38 : decode cX9_line 38 = .ok (.aload_n 0, 1) := by decide +kernel
theorem dX9_line_39 : decode cX9_line 39 = .ok (.getfield 85, 3) := by decide +kernel
theorem dX9_line_42 : decode cX9_line 42 = .ok (.iload_n 1, 1) := by decide +kernel
theorem dX9_line_43 : decode cX9_line 43 = .ok (.iaload, 1) := by decide +kernel
theorem dX9_line_44 : decode cX9_line 44 = .ok (.iadd, 1) := by decide +kernel
theorem dX9_line_45 : decode cX9_line 45 = .ok (.istore 5, 2) := by decide +kernel
theorem dX9_line_47 : decode cX9_line 47 = .ok (.aload_n 0, 1) := by decide +kernel
theorem dX9_line_48 : decode cX9_line 48 = .ok (.getfield 76, 3) := by decide +kernel
theorem dX9_line_51 : decode cX9_line 51 = .ok (.iload 5, 2) := by decide +kernel
theorem dX9_line_53 : decode cX9_line 53 = .ok (.iload_n 2, 1) := by decide +kernel
theorem dX9_line_54 : decode cX9_line 54 = .ok (.iastore, 1) := by decide +kernel
theorem dX9_line_55 : decode cX9_line 55 = .ok (.aload_n 0, 1) := by decide +kernel
theorem dX9_line_56 : decode cX9_line 56 = .ok (.getfield 79, 3) := by decide +kernel
theorem dX9_line_59 : decode cX9_line 59 = .ok (.iload 5, 2) := by decide +kernel
theorem dX9_line_61 : decode cX9_line 61 = .ok (.iload_n 3, 1) := by decide +kernel
theorem dX9_line_62 : decode cX9_line 62 = .ok (.iastore, 1) := by decide +kernel
theorem dX9_line_63 : decode cX9_line 63 = .ok (.aload_n 0, 1) := by decide +kernel
theorem dX9_line_64 : decode cX9_line 64 = .ok (.getfield 82, 3) := by decide +kernel
theorem dX9_line_67 : decode cX9_line 67 = .ok (.iload 5, 2) := by decide +kernel
theorem dX9_line_69 : decode cX9_line 69 = .ok (.iload 4, 2) := by decide +kernel
theorem dX9_line_71 : decode cX9_line 71 = .ok (.iastore, 1) := by decide +kernel
theorem dX9_line_72 : decode cX9_line 72 = .ok (.aload_n 0, 1) := by decide +kernel
theorem dX9_line_73 : decode cX9_line 73 = .ok (.getfield 85, 3) := by decide +kernel
theorem dX9_line_76 : decode cX9_line 76 = .ok (.iload_n 1, 1) := by decide +kernel
theorem dX9_line_77 : decode cX9_line 77 = .ok (.dup2, 1) := by decide +kernel
theorem dX9_line_78 : decode cX9_line 78 = .ok (.iaload, 1) := by decide +kernel
theorem dX9_line_79 : decode cX9_line 79 = .ok (.iconst 1, 1) := by decide +kernel
theorem dX9_line_80 : decode cX9_line 80 = .ok (.iadd, 1) := by decide +kernel
theorem dX9_line_81 : decode cX9_line 81 = .ok (.iastore, 1) := by decide +kernel
theorem dX9_line_82 : decode cX9_line 82 = .ok (.aload_n 0, 1) := by decide +kernel
theorem dX9_line_83 : decode cX9_line 83 = .ok (.getfield 85, 3) := by decide +kernel
theorem dX9_line_86 : decode cX9_line 86 = .ok (.iload_n 1, 1) := by decide +kernel
theorem dX9_line_87 : decode cX9_line 87 = .ok (.iaload, 1) := by decide +kernel
theorem dX9_line_88 : decode cX9_line 88 = .ok (.iconst 1, 1) := by decide +kernel
theorem dX9_line_89 : decode cX9_line 89 = .ok (.isub, 1) := by decide +kernel
theorem dX9_line_90 : decode cX9_line 90 = .ok (.ireturn, 1) := by decide +kernel
theorem dX9_take_0 : decode cX9_take 0 = .ok (.aload_n 0, 1) := by decide +kernel
theorem dX9_take_1 : decode cX9_take 1 = .ok (.aload_n 0, 1) := by decide +kernel
theorem dX9_take_2 : decode cX9_take 2 = .ok (.getfield 85, 3) := by decide +kernel
theorem dX9_take_5 : decode cX9_take 5 = .ok (.iload_n 1, 1) := by decide +kernel
theorem dX9_take_6 : decode cX9_take 6 = .ok (.iaload, 1) := by decide +kernel
theorem dX9_take_7 : decode cX9_take 7 = .ok (.putfield 200, 3) := by decide +kernel
theorem dX9_take_10 : decode cX9_take 10 = .ok (.iconst 0, 1) := by decide +kernel
theorem dX9_take_11 : decode cX9_take 11 = .ok (.istore_n 2, 1) := by decide +kernel
theorem dX9_take_12 : decode cX9_take 12 = .ok (.iload_n 2, 1) := by decide +kernel
theorem dX9_take_13 : decode cX9_take 13 = .ok (.aload_n 0, 1) := by decide +kernel
theorem dX9_take_14 : decode cX9_take 14 = .ok (.getfield 200, 3) := by decide +kernel
theorem dX9_take_17 : decode cX9_take 17 = .ok (.if_icmp .ge 60, 3) := by decide +kernel
theorem dX9_take_20 : decode cX9_take 20 = .ok (.aload_n 0, 1) := by decide +kernel
theorem dX9_take_21 : decode cX9_take 21 = .ok (.getfield 88, 3) := by decide +kernel
theorem dX9_take_24 : decode cX9_take 24 = .ok (.iload_n 2, 1) := by decide +kernel
theorem dX9_take_25 : decode cX9_take 25 = .ok (.aload_n 0, 1) := by decide +kernel
theorem dX9_take_26 : decode cX9_take 26 = .ok (.getfield 76, 3) := by decide +kernel
theorem dX9_take_29 : decode cX9_take 29 = .ok (.bipush 10, 2) := by decide +kernel
theorem dX9_take_31 : decode cX9_take 31 = .ok (.iload_n 1, 1) := by decide +kernel
theorem dX9_take_32 : decode cX9_take 32 = .ok (.imul, 1) := by decide +kernel
theorem dX9_take_33 : decode cX9_take 33 = .ok (.iload_n 2, 1) := by decide +kernel
theorem dX9_take_34 : decode cX9_take 34 = .ok (.iadd, 1) := by decide +kernel
theorem dX9_take_35 : decode cX9_take 35 = .ok (.iaload, 1) := by decide +kernel
theorem dX9_take_36 : decode cX9_take 36 = .ok (.iastore, 1) := by decide +kernel
theorem dX9_take_37 : decode cX9_take 37 = .ok (.aload_n 0, 1) := by decide +kernel
theorem dX9_take_38 : decode cX9_take 38 = .ok (.getfield 91, 3) := by decide +kernel
theorem dX9_take_41 : decode cX9_take 41 = .ok (.iload_n 2, 1) := by decide +kernel
theorem dX9_take_42 : decode cX9_take 42 = .ok (.aload_n 0, 1) := by decide +kernel
theorem dX9_take_43 : decode cX9_take 43 = .ok (.getfield 79, 3) := by decide +kernel
theorem dX9_take_46 : decode cX9_take 46 = .ok (.bipush 10, 2) := by decide +kernel
theorem dX9_take_48 : decode cX9_take 48 = .ok (.iload_n 1, 1) := by decide +kernel
theorem dX9_take_49 : decode cX9_take 49 = .ok (.imul, 1) := by decide +kernel
theorem dX9_take_50 : decode cX9_take 50 = .ok (.iload_n 2, 1) := by decide +kernel
theorem dX9_take_51 : decode cX9_take 51 = .ok (.iadd, 1) := by decide +kernel
theorem dX9_take_52 : decode cX9_take 52 = .ok (.iaload, 1) := by decide +kernel
theorem dX9_take_53 : decode cX9_take 53 = .ok (.iastore, 1) := by decide +kernel
theorem dX9_take_54 : decode cX9_take 54 = .ok (.aload_n 0, 1) := by decide +kernel
theorem dX9_take_55 : decode cX9_take 55 = .ok (.getfield 94, 3) := by decide +kernel
theorem dX9_take_58 : decode cX9_take 58 = .ok (.iload_n 2, 1) := by decide +kernel
theorem dX9_take_59 : decode cX9_take 59 = .ok (.aload_n 0, 1) := by decide +kernel
theorem dX9_take_60 : decode cX9_take 60 = .ok (.getfield 82, 3) := by decide +kernel
theorem dX9_take_63 : decode cX9_take 63 = .ok (.bipush 10, 2) := by decide +kernel
theorem dX9_take_65 : decode cX9_take 65 = .ok (.iload_n 1, 1) := by decide +kernel
theorem dX9_take_66 : decode cX9_take 66 = .ok (.imul, 1) := by decide +kernel
theorem dX9_take_67 : decode cX9_take 67 = .ok (.iload_n 2, 1) := by decide +kernel
theorem dX9_take_68 : decode cX9_take 68 = .ok (.iadd, 1) := by decide +kernel
theorem dX9_take_69 : decode cX9_take 69 = .ok (.iaload, 1) := by decide +kernel
theorem dX9_take_70 : decode cX9_take 70 = .ok (.iastore, 1) := by decide +kernel
theorem dX9_take_71 : decode cX9_take 71 = .ok (.iinc 2 1, 3) := by decide +kernel
theorem dX9_take_74 : decode cX9_take 74 = .ok (.goto (-62), 3) := by decide +kernel
theorem dX9_take_77 : decode cX9_take 77 = .ok (.return_, 1) := by decide +kernel
theorem dX9_isTop_0 : decode cX9_isTop 0 = .ok (.aload_n 0, 1) := by decide +kernel
theorem dX9_isTop_1 : decode cX9_isTop 1 = .ok (.getfield 203, 3) := by decide +kernel
theorem dX9_isTop_4 : decode cX9_isTop 4 = .ok (.ifCond .le 22, 3) := by decide +kernel
theorem dX9_isTop_7 : decode cX9_isTop 7 = .ok (.aload_n 0, 1) := by decide +kernel
theorem dX9_isTop_8 : decode cX9_isTop 8 = .ok (.getfield 97, 3) := by decide +kernel
theorem dX9_isTop_11 : decode cX9_isTop 11 = .ok (.aload_n 0, 1) := by decide +kernel
theorem dX9_isTop_12 : decode cX9_isTop 12 = .ok (.getfield 203, 3) := by decide +kernel
theorem dX9_isTop_15 : decode cX9_isTop 15 = .ok (.iconst 1, 1) := by decide +kernel
theorem dX9_isTop_16 : decode cX9_isTop 16 = .ok (.isub, 1) := by decide +kernel
theorem dX9_isTop_17 : decode cX9_isTop 17 = .ok (.iaload, 1) := by decide +kernel
theorem dX9_isTop_18 : decode cX9_isTop 18 = .ok (.iload_n 1, 1) := by decide +kernel
theorem dX9_isTop_19 : decode cX9_isTop 19 = .ok (.if_icmp .ne 7, 3) := by decide +kernel
theorem dX9_isTop_22 : decode cX9_isTop 22 = .ok (.iconst 1, 1) := by decide +kernel
theorem dX9_isTop_23 : decode cX9_isTop 23 = .ok (.goto 4, 3) := by decide +kernel
theorem dX9_isTop_26 : decode cX9_isTop 26 = .ok (.iconst 0, 1) := by decide +kernel
theorem dX9_isTop_27 : decode cX9_isTop 27 = .ok (.ireturn, 1) := by decide +kernel
theorem dX9_fits_0 : decode cX9_fits 0 = .ok (.iload_n 1, 1) := by decide +kernel
theorem dX9_fits_1 : decode cX9_fits 1 = .ok (.tableswitch 300 0 10 #[59, 65, 72, 79, 86, 93, 115, 137, 143, 210, 269], 59) := by decide +kernel
theorem dX9_fits_60 : decode cX9_fits 60 = .ok (.aload_n 0, 1) := by decide +kernel
theorem dX9_fits_61 : decode cX9_fits 61 = .ok (.iconst 0, 1) := by decide +kernel
theorem dX9_fits_62 : decode cX9_fits 62 = .ok (.invokevirtual 206, 3) := by decide +kernel
theorem dX9_fits_65 : decode cX9_fits 65 = .ok (.ireturn, 1) := by decide +kernel
theorem dX9_fits_66 : decode cX9_fits 66 = .ok (.aload_n 0, 1) := by decide +kernel
theorem dX9_fits_67 : decode cX9_fits 67 = .ok (.iconst 0, 1) := by decide +kernel
theorem dX9_fits_68 : decode cX9_fits 68 = .ok (.iconst 1, 1) := by decide +kernel
theorem dX9_fits_69 : decode cX9_fits 69 = .ok (.invokevirtual 209, 3) := by decide +kernel
theorem dX9_fits_72 : decode cX9_fits 72 = .ok (.ireturn, 1) := by decide +kernel
theorem dX9_fits_73 : decode cX9_fits 73 = .ok (.aload_n 0, 1) := by decide +kernel
theorem dX9_fits_74 : decode cX9_fits 74 = .ok (.iconst 1, 1) := by decide +kernel
theorem dX9_fits_75 : decode cX9_fits 75 = .ok (.iconst 2, 1) := by decide +kernel
theorem dX9_fits_76 : decode cX9_fits 76 = .ok (.invokevirtual 209, 3) := by decide +kernel
theorem dX9_fits_79 : decode cX9_fits 79 = .ok (.ireturn, 1) := by decide +kernel
theorem dX9_fits_80 : decode cX9_fits 80 = .ok (.aload_n 0, 1) := by decide +kernel
theorem dX9_fits_81 : decode cX9_fits 81 = .ok (.iconst 2, 1) := by decide +kernel
theorem dX9_fits_82 : decode cX9_fits 82 = .ok (.iconst 1, 1) := by decide +kernel
theorem dX9_fits_83 : decode cX9_fits 83 = .ok (.invokevirtual 209, 3) := by decide +kernel
theorem dX9_fits_86 : decode cX9_fits 86 = .ok (.ireturn, 1) := by decide +kernel
theorem dX9_fits_87 : decode cX9_fits 87 = .ok (.aload_n 0, 1) := by decide +kernel
theorem dX9_fits_88 : decode cX9_fits 88 = .ok (.iconst 1, 1) := by decide +kernel
theorem dX9_fits_89 : decode cX9_fits 89 = .ok (.iconst 0, 1) := by decide +kernel
theorem dX9_fits_90 : decode cX9_fits 90 = .ok (.invokevirtual 209, 3) := by decide +kernel
theorem dX9_fits_93 : decode cX9_fits 93 = .ok (.ireturn, 1) := by decide +kernel
theorem dX9_fits_94 : decode cX9_fits 94 = .ok (.aload_n 0, 1) := by decide +kernel
theorem dX9_fits_95 : decode cX9_fits 95 = .ok (.iconst 0, 1) := by decide +kernel
theorem dX9_fits_96 : decode cX9_fits 96 = .ok (.invokevirtual 213, 3) := by decide +kernel
theorem dX9_fits_99 : decode cX9_fits 99 = .ok (.ifCond .ne 11, 3) := by decide +kernel
theorem dX9_fits_102 : decode cX9_fits 102 = .ok (.aload_n 0, 1) := by decide +kernel
theorem dX9_fits_103 : decode cX9_fits 103 = .ok (.iconst 1, 1) := by decide +kernel
theorem dX9_fits_104 : decode cX9_fits 104 = .ok (.invokevirtual 213, 3) := by decide +kernel
theorem dX9_fits_107 : decode cX9_fits 107 = .ok (.ifCond .eq 7, 3) := by decide +kernel
theorem dX9_fits_110 : decode cX9_fits 110 = .ok (.iconst 1, 1) := by decide +kernel
theorem dX9_fits_111 : decode cX9_fits 111 = .ok (.goto 4, 3) := by decide +kernel
theorem dX9_fits_114 : decode cX9_fits 114 = .ok (.iconst 0, 1) := by decide +kernel
theorem dX9_fits_115 : decode cX9_fits 115 = .ok (.ireturn, 1) := by decide +kernel
theorem dX9_fits_116 : decode cX9_fits 116 = .ok (.aload_n 0, 1) := by decide +kernel
theorem dX9_fits_117 : decode cX9_fits 117 = .ok (.iconst 2, 1) := by decide +kernel
theorem dX9_fits_118 : decode cX9_fits 118 = .ok (.invokevirtual 213, 3) := by decide +kernel
theorem dX9_fits_121 : decode cX9_fits 121 = .ok (.ifCond .ne 11, 3) := by decide +kernel
theorem dX9_fits_124 : decode cX9_fits 124 = .ok (.aload_n 0, 1) := by decide +kernel
theorem dX9_fits_125 : decode cX9_fits 125 = .ok (.iconst 1, 1) := by decide +kernel
theorem dX9_fits_126 : decode cX9_fits 126 = .ok (.invokevirtual 213, 3) := by decide +kernel
theorem dX9_fits_129 : decode cX9_fits 129 = .ok (.ifCond .eq 7, 3) := by decide +kernel
theorem dX9_fits_132 : decode cX9_fits 132 = .ok (.iconst 1, 1) := by decide +kernel
theorem dX9_fits_133 : decode cX9_fits 133 = .ok (.goto 4, 3) := by decide +kernel
theorem dX9_fits_136 : decode cX9_fits 136 = .ok (.iconst 0, 1) := by decide +kernel
theorem dX9_fits_137 : decode cX9_fits 137 = .ok (.ireturn, 1) := by decide +kernel
theorem dX9_fits_138 : decode cX9_fits 138 = .ok (.aload_n 0, 1) := by decide +kernel
theorem dX9_fits_139 : decode cX9_fits 139 = .ok (.iconst 2, 1) := by decide +kernel
theorem dX9_fits_140 : decode cX9_fits 140 = .ok (.invokevirtual 213, 3) := by decide +kernel
theorem dX9_fits_143 : decode cX9_fits 143 = .ok (.ireturn, 1) := by decide +kernel
theorem dX9_fits_144 : decode cX9_fits 144 = .ok (.aload_n 0, 1) := by decide +kernel
theorem dX9_fits_145 : decode cX9_fits 145 = .ok (.getfield 203, 3) := by decide +kernel
theorem dX9_fits_148 : decode cX9_fits 148 = .ok (.iconst 2, 1) := by decide +kernel
theorem dX9_fits_149 : decode cX9_fits 149 = .ok (.if_icmp .lt 36, 3) := by decide +kernel
theorem dX9_fits_152 : decode cX9_fits 152 = .ok (.aload_n 0, 1) := by decide +kernel
theorem dX9_fits_153 : decode cX9_fits 153 = .ok (.getfield 97, 3) := by decide +kernel
theorem dX9_fits_156 : decode cX9_fits 156 = .ok (.aload_n 0, 1) := by decide +kernel
theorem dX9_fits_157 : decode cX9_fits 157 = .ok (.getfield 203, 3) := by decide +kernel
theorem dX9_fits_160 : decode cX9_fits 160 = .ok (.iconst 1, 1) := by decide +kernel
theorem dX9_fits_161 : decode cX9_fits 161 = .ok (.isub, 1) := by decide +kernel
theorem dX9_fits_162 : decode cX9_fits 162 = .ok (.iaload, 1) := by decide +kernel
theorem dX9_fits_163 : decode cX9_fits 163 = .ok (.aload_n 0, 1) := by decide +kernel
theorem dX9_fits_164 : decode cX9_fits 164 = .ok (.getfield 97, 3) := by decide +kernel
theorem dX9_fits_167 : decode cX9_fits 167 = .ok (.aload_n 0, 1) := by decide +kernel
theorem dX9_fits_168 : decode cX9_fits 168 = .ok (.getfield 203, 3) := by decide +kernel
theorem dX9_fits_171 : decode cX9_fits 171 = .ok (.iconst 2, 1) := by decide +kernel
theorem dX9_fits_172 : decode cX9_fits 172 = .ok (.isub, 1) := by decide +kernel
theorem dX9_fits_173 : decode cX9_fits 173 = .ok (.iaload, 1) := by decide +kernel
theorem dX9_fits_174 : decode cX9_fits 174 = .ok (.if_icmp .ne 11, 3) := by decide +kernel
theorem dX9_fits_177 : decode cX9_fits 177 = .ok (.aload_n 0, 1) := by decide +kernel
theorem dX9_fits_178 : decode cX9_fits 178 = .ok (.iconst 3, 1) := by decide +kernel
theorem dX9_fits_179 : decode cX9_fits 179 = .ok (.invokevirtual 213, 3) := by decide +kernel
theorem dX9_fits_182 : decode cX9_fits 182 = .ok (.ifCond .eq 5, 3) := by decide +kernel
theorem dX9_fits_185 : decode cX9_fits 185 = .ok (.iconst 0, 1) := by decide +kernel
theorem dX9_fits_186 : decode cX9_fits 186 = .ok (.ireturn, 1) := by decide +kernel
theorem dX9_fits_187 : decode cX9_fits 187 = .ok (.aload_n 0, 1) := by decide +kernel
theorem dX9_fits_188 : decode cX9_fits 188 = .ok (.dup, 1) := by decide +kernel
theorem dX9_fits_189 : decode cX9_fits 189 = .ok (.getfield 203, 3) := by decide +kernel
theorem dX9_fits_192 : decode cX9_fits 192 = .ok (.iconst 1, 1) := by decide +kernel
theorem dX9_fits_193 : decode cX9_fits 193 = .ok (.isub, 1) := by decide +kernel
theorem dX9_fits_194 : decode cX9_fits 194 = .ok (.putfield 203, 3) := by decide +kernel
theorem dX9_fits_197 : decode cX9_fits 197 = .ok (.aload_n 0, 1) := by decide +kernel
theorem dX9_fits_198 : decode cX9_fits 198 = .ok (.getfield 97, 3) := by decide +kernel
theorem dX9_fits_201 : decode cX9_fits 201 = .ok (.aload_n 0, 1) := by decide +kernel
theorem dX9_fits_202 : decode cX9_fits 202 = .ok (.getfield 203, 3) := by decide +kernel
theorem dX9_fits_205 : decode cX9_fits 205 = .ok (.iconst 1, 1) := by decide +kernel
theorem dX9_fits_206 : decode cX9_fits 206 = .ok (.isub, 1) := by decide +kernel
theorem dX9_fits_207 : decode cX9_fits 207 = .ok (.iconst 3, 1) := by decide +kernel
theorem dX9_fits_208 : decode cX9_fits 208 = .ok (.iastore, 1) := by decide +kernel
theorem dX9_fits_209 : decode cX9_fits 209 = .ok (.iconst 1, 1) := by decide +kernel
theorem dX9_fits_210 : decode cX9_fits 210 = .ok (.ireturn, 1) := by decide +kernel
theorem dX9_fits_211 : decode cX9_fits 211 = .ok (.aload_n 0, 1) := by decide +kernel
theorem dX9_fits_212 : decode cX9_fits 212 = .ok (.getfield 203, 3) := by decide +kernel
theorem dX9_fits_215 : decode cX9_fits 215 = .ok (.iconst 2, 1) := by decide +kernel
theorem dX9_fits_216 : decode cX9_fits 216 = .ok (.if_icmp .lt 40, 3) := by decide +kernel
theorem dX9_fits_219 : decode cX9_fits 219 = .ok (.aload_n 0, 1) := by decide +kernel
theorem dX9_fits_220 : decode cX9_fits 220 = .ok (.iconst 3, 1) := by decide +kernel
theorem dX9_fits_221 : decode cX9_fits 221 = .ok (.invokevirtual 213, 3) := by decide +kernel
theorem dX9_fits_224 : decode cX9_fits 224 = .ok (.ifCond .eq 32, 3) := by decide +kernel
theorem dX9_fits_227 : decode cX9_fits 227 = .ok (.aload_n 0, 1) := by decide +kernel
theorem dX9_fits_228 : decode cX9_fits 228 = .ok (.getfield 97, 3) := by decide +kernel
theorem dX9_fits_231 : decode cX9_fits 231 = .ok (.aload_n 0, 1) := by decide +kernel
theorem dX9_fits_232 : decode cX9_fits 232 = .ok (.getfield 203, 3) := by decide +kernel
theorem dX9_fits_235 : decode cX9_fits 235 = .ok (.iconst 2, 1) := by decide +kernel
theorem dX9_fits_236 : decode cX9_fits 236 = .ok (.isub, 1) := by decide +kernel
theorem dX9_fits_237 : decode cX9_fits 237 = .ok (.iaload, 1) := by decide +kernel
theorem dX9_fits_238 : decode cX9_fits 238 = .ok (.ifCond .eq 20, 3) := by decide +kernel
theorem dX9_fits_241 : decode cX9_fits 241 = .ok (.aload_n 0, 1) := by decide +kernel
theorem dX9_fits_242 : decode cX9_fits 242 = .ok (.getfield 97, 3) := by decide +kernel
theorem dX9_fits_245 : decode cX9_fits 245 = .ok (.aload_n 0, 1) := by decide +kernel
theorem dX9_fits_246 : decode cX9_fits 246 = .ok (.getfield 203, 3) := by decide +kernel
theorem dX9_fits_249 : decode cX9_fits 249 = .ok (.iconst 2, 1) := by decide +kernel
theorem dX9_fits_250 : decode cX9_fits 250 = .ok (.isub, 1) := by decide +kernel
theorem dX9_fits_251 : decode cX9_fits 251 = .ok (.iaload, 1) := by decide +kernel
theorem dX9_fits_252 : decode cX9_fits 252 = .ok (.iconst 1, 1) := by decide +kernel
theorem dX9_fits_253 : decode cX9_fits 253 = .ok (.if_icmp .eq 5, 3) := by decide +kernel
theorem dX9_fits_256 : decode cX9_fits 256 = .ok (.iconst 0, 1) := by decide +kernel
theorem dX9_fits_257 : decode cX9_fits 257 = .ok (.ireturn, 1) := by decide +kernel
theorem dX9_fits_258 : decode cX9_fits 258 = .ok (.aload_n 0, 1) := by decide +kernel
theorem dX9_fits_259 : decode cX9_fits 259 = .ok (.dup, 1) := by decide +kernel
theorem dX9_fits_260 : decode cX9_fits 260 = .ok (.getfield 203, 3) := by decide +kernel
theorem dX9_fits_263 : decode cX9_fits 263 = .ok (.iconst 1, 1) := by decide +kernel
theorem dX9_fits_264 : decode cX9_fits 264 = .ok (.isub, 1) := by decide +kernel
theorem dX9_fits_265 : decode cX9_fits 265 = .ok (.putfield 203, 3) := by decide +kernel
theorem dX9_fits_268 : decode cX9_fits 268 = .ok (.iconst 1, 1) := by decide +kernel
theorem dX9_fits_269 : decode cX9_fits 269 = .ok (.ireturn, 1) := by decide +kernel
theorem dX9_fits_270 : decode cX9_fits 270 = .ok (.aload_n 0, 1) := by decide +kernel
theorem dX9_fits_271 : decode cX9_fits 271 = .ok (.getfield 203, 3) := by decide +kernel
theorem dX9_fits_274 : decode cX9_fits 274 = .ok (.ifCond .le 25, 3) := by decide +kernel
theorem dX9_fits_277 : decode cX9_fits 277 = .ok (.aload_n 0, 1) := by decide +kernel
theorem dX9_fits_278 : decode cX9_fits 278 = .ok (.aload_n 0, 1) := by decide +kernel
theorem dX9_fits_279 : decode cX9_fits 279 = .ok (.getfield 97, 3) := by decide +kernel
theorem dX9_fits_282 : decode cX9_fits 282 = .ok (.aload_n 0, 1) := by decide +kernel
theorem dX9_fits_283 : decode cX9_fits 283 = .ok (.getfield 203, 3) := by decide +kernel
theorem dX9_fits_286 : decode cX9_fits 286 = .ok (.iconst 1, 1) := by decide +kernel
theorem dX9_fits_287 : decode cX9_fits 287 = .ok (.isub, 1) := by decide +kernel
theorem dX9_fits_288 : decode cX9_fits 288 = .ok (.iaload, 1) := by decide +kernel
theorem dX9_fits_289 : decode cX9_fits 289 = .ok (.invokevirtual 206, 3) := by decide +kernel
theorem dX9_fits_292 : decode cX9_fits 292 = .ok (.ifCond .eq 7, 3) := by decide +kernel
theorem dX9_fits_295 : decode cX9_fits 295 = .ok (.iconst 1, 1) := by decide +kernel
theorem dX9_fits_296 : decode cX9_fits 296 = .ok (.goto 4, 3) := by decide +kernel
theorem dX9_fits_299 : decode cX9_fits 299 = .ok (.iconst 0, 1) := by decide +kernel
theorem dX9_fits_300 : decode cX9_fits 300 = .ok (.ireturn, 1) := by decide +kernel
theorem dX9_fits_301 : decode cX9_fits 301 = .ok (.aload_n 0, 1) := by decide +kernel
theorem dX9_fits_302 : decode cX9_fits 302 = .ok (.getfield 203, 3) := by decide +kernel
theorem dX9_fits_305 : decode cX9_fits 305 = .ok (.iconst 2, 1) := by decide +kernel
theorem dX9_fits_306 : decode cX9_fits 306 = .ok (.if_icmp .ge 5, 3) := by decide +kernel
theorem dX9_fits_309 : decode cX9_fits 309 = .ok (.iconst 0, 1) := by decide +kernel
theorem dX9_fits_310 : decode cX9_fits 310 = .ok (.ireturn, 1) := by decide +kernel
theorem dX9_fits_311 : decode cX9_fits 311 = .ok (.aload_n 0, 1) := by decide +kernel
theorem dX9_fits_312 : decode cX9_fits 312 = .ok (.getfield 97, 3) := by decide +kernel
theorem dX9_fits_315 : decode cX9_fits 315 = .ok (.aload_n 0, 1) := by decide +kernel
theorem dX9_fits_316 : decode cX9_fits 316 = .ok (.getfield 203, 3) := by decide +kernel
theorem dX9_fits_319 : decode cX9_fits 319 = .ok (.iconst 1, 1) := by decide +kernel
theorem dX9_fits_320 : decode cX9_fits 320 = .ok (.isub, 1) := by decide +kernel
theorem dX9_fits_321 : decode cX9_fits 321 = .ok (.iaload, 1) := by decide +kernel
theorem dX9_fits_322 : decode cX9_fits 322 = .ok (.istore_n 2, 1) := by decide +kernel
theorem dX9_fits_323 : decode cX9_fits 323 = .ok (.aload_n 0, 1) := by decide +kernel
theorem dX9_fits_324 : decode cX9_fits 324 = .ok (.getfield 97, 3) := by decide +kernel
theorem dX9_fits_327 : decode cX9_fits 327 = .ok (.aload_n 0, 1) := by decide +kernel
theorem dX9_fits_328 : decode cX9_fits 328 = .ok (.getfield 203, 3) := by decide +kernel
theorem dX9_fits_331 : decode cX9_fits 331 = .ok (.iconst 1, 1) := by decide +kernel
theorem dX9_fits_332 : decode cX9_fits 332 = .ok (.isub, 1) := by decide +kernel
theorem dX9_fits_333 : decode cX9_fits 333 = .ok (.aload_n 0, 1) := by decide +kernel
theorem dX9_fits_334 : decode cX9_fits 334 = .ok (.getfield 97, 3) := by decide +kernel
theorem dX9_fits_337 : decode cX9_fits 337 = .ok (.aload_n 0, 1) := by decide +kernel
theorem dX9_fits_338 : decode cX9_fits 338 = .ok (.getfield 203, 3) := by decide +kernel
theorem dX9_fits_341 : decode cX9_fits 341 = .ok (.iconst 2, 1) := by decide +kernel
theorem dX9_fits_342 : decode cX9_fits 342 = .ok (.isub, 1) := by decide +kernel
theorem dX9_fits_343 : decode cX9_fits 343 = .ok (.iaload, 1) := by decide +kernel
theorem dX9_fits_344 : decode cX9_fits 344 = .ok (.iastore, 1) := by decide +kernel
theorem dX9_fits_345 : decode cX9_fits 345 = .ok (.aload_n 0, 1) := by decide +kernel
theorem dX9_fits_346 : decode cX9_fits 346 = .ok (.getfield 97, 3) := by decide +kernel
theorem dX9_fits_349 : decode cX9_fits 349 = .ok (.aload_n 0, 1) := by decide +kernel
theorem dX9_fits_350 : decode cX9_fits 350 = .ok (.getfield 203, 3) := by decide +kernel
theorem dX9_fits_353 : decode cX9_fits 353 = .ok (.iconst 2, 1) := by decide +kernel
theorem dX9_fits_354 : decode cX9_fits 354 = .ok (.isub, 1) := by decide +kernel
theorem dX9_fits_355 : decode cX9_fits 355 = .ok (.iload_n 2, 1) := by decide +kernel
theorem dX9_fits_356 : decode cX9_fits 356 = .ok (.iastore, 1) := by decide +kernel
theorem dX9_fits_357 : decode cX9_fits 357 = .ok (.iconst 1, 1) := by decide +kernel
theorem dX9_fits_358 : decode cX9_fits 358 = .ok (.ireturn, 1) := by decide +kernel
theorem dX9_laid_0 : decode cX9_laid 0 = .ok (.aload_n 0, 1) := by decide +kernel
theorem dX9_laid_1 : decode cX9_laid 1 = .ok (.getfield 203, 3) := by decide +kernel
theorem dX9_laid_4 : decode cX9_laid 4 = .ok (.bipush 8, 2) := by decide +kernel
theorem dX9_laid_6 : decode cX9_laid 6 = .ok (.if_icmp .ne 5, 3) := by decide +kernel
theorem dX9_laid_9 : decode cX9_laid 9 = .ok (.iconst 0, 1) := by decide +kernel
theorem dX9_laid_10 : decode cX9_laid 10 = .ok (.ireturn, 1) := by decide +kernel
theorem dX9_laid_11 : decode cX9_laid 11 = .ok (.aload_n 0, 1) := by decide +kernel
theorem dX9_laid_12 : decode cX9_laid 12 = .ok (.getfield 97, 3) := by decide +kernel
theorem dX9_laid_15 : decode cX9_laid 15 = .ok (.aload_n 0, 1) := by decide +kernel
theorem dX9_laid_16 : decode cX9_laid 16 = .ok (.getfield 203, 3) := by decide +kernel
theorem dX9_laid_19 : decode cX9_laid 19 = .ok (.iload_n 1, 1) := by decide +kernel
theorem dX9_laid_20 : decode cX9_laid 20 = .ok (.iastore, 1) := by decide +kernel
theorem dX9_laid_21 : decode cX9_laid 21 = .ok (.aload_n 0, 1) := by decide +kernel
theorem dX9_laid_22 : decode cX9_laid 22 = .ok (.dup, 1) := by decide +kernel
theorem dX9_laid_23 : decode cX9_laid 23 = .ok (.getfield 203, 3) := by decide +kernel
theorem dX9_laid_26 : decode cX9_laid 26 = .ok (.iconst 1, 1) := by decide +kernel
theorem dX9_laid_27 : decode cX9_laid 27 = .ok (.iadd, 1) := by decide +kernel
theorem dX9_laid_28 : decode cX9_laid 28 = .ok (.putfield 203, 3) := by decide +kernel
theorem dX9_laid_31 : decode cX9_laid 31 = .ok (.iconst 1, 1) := by decide +kernel
theorem dX9_laid_32 : decode cX9_laid 32 = .ok (.ireturn, 1) := by decide +kernel
theorem dX9_became_0 : decode cX9_became 0 = .ok (.aload_n 0, 1) := by decide +kernel
theorem dX9_became_1 : decode cX9_became 1 = .ok (.iload_n 1, 1) := by decide +kernel
theorem dX9_became_2 : decode cX9_became 2 = .ok (.invokevirtual 213, 3) := by decide +kernel
theorem dX9_became_5 : decode cX9_became 5 = .ok (.ifCond .ne 5, 3) := by decide +kernel
theorem dX9_became_8 : decode cX9_became 8 = .ok (.iconst 0, 1) := by decide +kernel
theorem dX9_became_9 : decode cX9_became 9 = .ok (.ireturn, 1) := by decide +kernel
theorem dX9_became_10 : decode cX9_became 10 = .ok (.aload_n 0, 1) := by decide +kernel
theorem dX9_became_11 : decode cX9_became 11 = .ok (.getfield 97, 3) := by decide +kernel
theorem dX9_became_14 : decode cX9_became 14 = .ok (.aload_n 0, 1) := by decide +kernel
theorem dX9_became_15 : decode cX9_became 15 = .ok (.getfield 203, 3) := by decide +kernel
theorem dX9_became_18 : decode cX9_became 18 = .ok (.iconst 1, 1) := by decide +kernel
theorem dX9_became_19 : decode cX9_became 19 = .ok (.isub, 1) := by decide +kernel
theorem dX9_became_20 : decode cX9_became 20 = .ok (.iload_n 2, 1) := by decide +kernel
theorem dX9_became_21 : decode cX9_became 21 = .ok (.iastore, 1) := by decide +kernel
theorem dX9_became_22 : decode cX9_became 22 = .ok (.iconst 1, 1) := by decide +kernel
theorem dX9_became_23 : decode cX9_became 23 = .ok (.ireturn, 1) := by decide +kernel
theorem dX9_mixOf_0 : decode cX9_mixOf 0 = .ok (.aload_n 0, 1) := by decide +kernel
theorem dX9_mixOf_1 : decode cX9_mixOf 1 = .ok (.iconst 0, 1) := by decide +kernel
theorem dX9_mixOf_2 : decode cX9_mixOf 2 = .ok (.putfield 203, 3) := by decide +kernel
theorem dX9_mixOf_5 : decode cX9_mixOf 5 = .ok (.iconst 0, 1) := by decide +kernel
theorem dX9_mixOf_6 : decode cX9_mixOf 6 = .ok (.istore_n 1, 1) := by decide +kernel
theorem dX9_mixOf_7 : decode cX9_mixOf 7 = .ok (.iload_n 1, 1) := by decide +kernel
theorem dX9_mixOf_8 : decode cX9_mixOf 8 = .ok (.aload_n 0, 1) := by decide +kernel
theorem dX9_mixOf_9 : decode cX9_mixOf 9 = .ok (.getfield 200, 3) := by decide +kernel
theorem dX9_mixOf_12 : decode cX9_mixOf 12 = .ok (.if_icmp .ge 24, 3) := by decide +kernel
theorem dX9_mixOf_15 : decode cX9_mixOf 15 = .ok (.aload_n 0, 1) := by decide +kernel
theorem dX9_mixOf_16 : decode cX9_mixOf 16 = .ok (.aload_n 0, 1) := by decide +kernel
theorem dX9_mixOf_17 : decode cX9_mixOf 17 = .ok (.getfield 88, 3) := by decide +kernel
theorem dX9_mixOf_20 : decode cX9_mixOf 20 = .ok (.iload_n 1, 1) := by decide +kernel
theorem dX9_mixOf_21 : decode cX9_mixOf 21 = .ok (.iaload, 1) := by decide +kernel
theorem dX9_mixOf_22 : decode cX9_mixOf 22 = .ok (.invokevirtual 216, 3) := by decide +kernel
theorem dX9_mixOf_25 : decode cX9_mixOf 25 = .ok (.ifCond .ne 5, 3) := by decide +kernel
theorem dX9_mixOf_28 : decode cX9_mixOf 28 = .ok (.iload_n 1, 1) := by decide +kernel
theorem dX9_mixOf_29 : decode cX9_mixOf 29 = .ok (.ireturn, 1) := by decide +kernel
theorem dX9_mixOf_30 : decode cX9_mixOf 30 = .ok (.iinc 1 1, 3) := by decide +kernel
theorem dX9_mixOf_33 : decode cX9_mixOf 33 = .ok (.goto (-26), 3) := by decide +kernel
theorem dX9_mixOf_36 : decode cX9_mixOf 36 = .ok (.aload_n 0, 1) := by decide +kernel
theorem dX9_mixOf_37 : decode cX9_mixOf 37 = .ok (.getfield 203, 3) := by decide +kernel
theorem dX9_mixOf_40 : decode cX9_mixOf 40 = .ok (.iconst 1, 1) := by decide +kernel
theorem dX9_mixOf_41 : decode cX9_mixOf 41 = .ok (.if_icmp .ne 8, 3) := by decide +kernel
theorem dX9_mixOf_44 : decode cX9_mixOf 44 = .ok (.bipush (-6), 2) := by decide +kernel
theorem dX9_mixOf_46 : decode cX9_mixOf 46 = .ok (.goto 7, 3) := by decide +kernel
theorem dX9_mixOf_49 : decode cX9_mixOf 49 = .ok (.aload_n 0, 1) := by decide +kernel
theorem dX9_mixOf_50 : decode cX9_mixOf 50 = .ok (.getfield 200, 3) := by decide +kernel
theorem dX9_mixOf_53 : decode cX9_mixOf 53 = .ok (.ireturn, 1) := by decide +kernel
theorem dX9_mix_0 : decode cX9_mix 0 = .ok (.iload_n 1, 1) := by decide +kernel
theorem dX9_mix_1 : decode cX9_mix 1 = .ok (.invokestatic 194, 3) := by decide +kernel
theorem dX9_mix_4 : decode cX9_mix 4 = .ok (.ifCond .ne 5, 3) := by decide +kernel
theorem dX9_mix_7 : decode cX9_mix 7 = .ok (.iconst (-1), 1) := by decide +kernel
theorem dX9_mix_8 : decode cX9_mix 8 = .ok (.ireturn, 1) := by decide +kernel
theorem dX9_mix_9 : decode cX9_mix 9 = .ok (.aload_n 0, 1) := by decide +kernel
theorem dX9_mix_10 : decode cX9_mix 10 = .ok (.iload_n 1, 1) := by decide +kernel
theorem dX9_mix_11 : decode cX9_mix 11 = .ok (.invokevirtual 219, 3) := by decide +kernel
theorem dX9_mix_14 : decode cX9_mix 14 = .ok (.aload_n 0, 1) := by decide +kernel
theorem dX9_mix_15 : decode cX9_mix 15 = .ok (.invokevirtual 222, 3) := by decide +kernel
theorem dX9_mix_18 : decode cX9_mix 18 = .ok (.ireturn, 1) := by decide +kernel
theorem dX9_kind_0 : decode cX9_kind 0 = .ok (.iload_n 1, 1) := by decide +kernel
theorem dX9_kind_1 : decode cX9_kind 1 = .ok (.invokestatic 194, 3) := by decide +kernel
theorem dX9_kind_4 : decode cX9_kind 4 = .ok (.ifCond .ne 5, 3) := by decide +kernel
theorem dX9_kind_7 : decode cX9_kind 7 = .ok (.iconst (-1), 1) := by decide +kernel
theorem dX9_kind_8 : decode cX9_kind 8 = .ok (.ireturn, 1) := by decide +kernel
theorem dX9_kind_9 : decode cX9_kind 9 = .ok (.aload_n 0, 1) := by decide +kernel
theorem dX9_kind_10 : decode cX9_kind 10 = .ok (.iload_n 1, 1) := by decide +kernel
theorem dX9_kind_11 : decode cX9_kind 11 = .ok (.invokevirtual 219, 3) := by decide +kernel
theorem dX9_kind_14 : decode cX9_kind 14 = .ok (.aload_n 0, 1) := by decide +kernel
theorem dX9_kind_15 : decode cX9_kind 15 = .ok (.invokevirtual 222, 3) := by decide +kernel
theorem dX9_kind_18 : decode cX9_kind 18 = .ok (.bipush (-6), 2) := by decide +kernel
theorem dX9_kind_20 : decode cX9_kind 20 = .ok (.if_icmp .ne 12, 3) := by decide +kernel
theorem dX9_kind_23 : decode cX9_kind 23 = .ok (.aload_n 0, 1) := by decide +kernel
theorem dX9_kind_24 : decode cX9_kind 24 = .ok (.getfield 97, 3) := by decide +kernel
theorem dX9_kind_27 : decode cX9_kind 27 = .ok (.iconst 0, 1) := by decide +kernel
theorem dX9_kind_28 : decode cX9_kind 28 = .ok (.iaload, 1) := by decide +kernel
theorem dX9_kind_29 : decode cX9_kind 29 = .ok (.goto 5, 3) := by decide +kernel
theorem dX9_kind_32 : decode cX9_kind 32 = .ok (.bipush (-4), 2) := by decide +kernel
theorem dX9_kind_34 : decode cX9_kind 34 = .ok (.ireturn, 1) := by decide +kernel
theorem dX9_comesTo_0 : decode cX9_comesTo 0 = .ok (.aload_n 0, 1) := by decide +kernel
theorem dX9_comesTo_1 : decode cX9_comesTo 1 = .ok (.getfield 97, 3) := by decide +kernel
theorem dX9_comesTo_4 : decode cX9_comesTo 4 = .ok (.aload_n 0, 1) := by decide +kernel
theorem dX9_comesTo_5 : decode cX9_comesTo 5 = .ok (.getfield 203, 3) := by decide +kernel
theorem dX9_comesTo_8 : decode cX9_comesTo 8 = .ok (.iconst 1, 1) := by decide +kernel
theorem dX9_comesTo_9 : decode cX9_comesTo 9 = .ok (.isub, 1) := by decide +kernel
theorem dX9_comesTo_10 : decode cX9_comesTo 10 = .ok (.iaload, 1) := by decide +kernel
theorem dX9_comesTo_11 : decode cX9_comesTo 11 = .ok (.istore_n 3, 1) := by decide +kernel
theorem dX9_comesTo_12 : decode cX9_comesTo 12 = .ok (.iload_n 3, 1) := by decide +kernel
theorem dX9_comesTo_13 : decode cX9_comesTo 13 = .ok (.ifCond .ne 25, 3) := by decide +kernel
theorem dX9_comesTo_16 : decode cX9_comesTo 16 = .ok (.lload_n 1, 1) := by decide +kernel
theorem dX9_comesTo_17 : decode cX9_comesTo 17 = .ok (.lconst 0, 1) := by decide +kernel
theorem dX9_comesTo_18 : decode cX9_comesTo 18 = .ok (.lcmp, 1) := by decide +kernel
theorem dX9_comesTo_19 : decode cX9_comesTo 19 = .ok (.ifCond .lt 15, 3) := by decide +kernel
theorem dX9_comesTo_22 : decode cX9_comesTo 22 = .ok (.lload_n 1, 1) := by decide +kernel
theorem dX9_comesTo_23 : decode cX9_comesTo 23 = .ok (.ldc2_w 225, 3) := by decide +kernel
theorem dX9_comesTo_26 : decode cX9_comesTo 26 = .ok (.lcmp, 1) := by decide +kernel
theorem dX9_comesTo_27 : decode cX9_comesTo 27 = .ok (.ifCond .gt 7, 3) := by decide +kernel
theorem dX9_comesTo_30 : decode cX9_comesTo 30 = .ok (.iconst 1, 1) := by decide +kernel
theorem dX9_comesTo_31 : decode cX9_comesTo 31 = .ok (.goto 90, 3) := by decide +kernel
theorem dX9_comesTo_34 : decode cX9_comesTo 34 = .ok (.iconst 0, 1) := by decide +kernel
theorem dX9_comesTo_35 : decode cX9_comesTo 35 = .ok (.goto 86, 3) := by decide +kernel
theorem dX9_comesTo_38 : decode cX9_comesTo 38 = .ok (.iload_n 3, 1) := by decide +kernel
theorem dX9_comesTo_39 : decode cX9_comesTo 39 = .ok (.iconst 3, 1) := by decide +kernel
theorem dX9_comesTo_40 : decode cX9_comesTo 40 = .ok (.if_icmp .ne 27, 3) := by decide +kernel
theorem dX9_comesTo_43 : decode cX9_comesTo 43 = .ok (.lload_n 1, 1) := by decide +kernel
theorem dX9_comesTo_44 : decode cX9_comesTo 44 = .ok (.ldc2_w 227, 3) := by decide +kernel
theorem dX9_comesTo_47 : decode cX9_comesTo 47 = .ok (.lcmp, 1) := by decide +kernel
theorem dX9_comesTo_48 : decode cX9_comesTo 48 = .ok (.ifCond .lt 15, 3) := by decide +kernel
theorem dX9_comesTo_51 : decode cX9_comesTo 51 = .ok (.lload_n 1, 1) := by decide +kernel
theorem dX9_comesTo_52 : decode cX9_comesTo 52 = .ok (.ldc2_w 229, 3) := by decide +kernel
theorem dX9_comesTo_55 : decode cX9_comesTo 55 = .ok (.lcmp, 1) := by decide +kernel
theorem dX9_comesTo_56 : decode cX9_comesTo 56 = .ok (.ifCond .gt 7, 3) := by decide +kernel
theorem dX9_comesTo_59 : decode cX9_comesTo 59 = .ok (.iconst 1, 1) := by decide +kernel
theorem dX9_comesTo_60 : decode cX9_comesTo 60 = .ok (.goto 61, 3) := by decide +kernel
theorem dX9_comesTo_63 : decode cX9_comesTo 63 = .ok (.iconst 0, 1) := by decide +kernel
theorem dX9_comesTo_64 : decode cX9_comesTo 64 = .ok (.goto 57, 3) := by decide +kernel
theorem dX9_comesTo_67 : decode cX9_comesTo 67 = .ok (.iload_n 3, 1) := by decide +kernel
theorem dX9_comesTo_68 : decode cX9_comesTo 68 = .ok (.iconst 2, 1) := by decide +kernel
theorem dX9_comesTo_69 : decode cX9_comesTo 69 = .ok (.if_icmp .ne 27, 3) := by decide +kernel
theorem dX9_comesTo_72 : decode cX9_comesTo 72 = .ok (.lload_n 1, 1) := by decide +kernel
theorem dX9_comesTo_73 : decode cX9_comesTo 73 = .ok (.lconst 0, 1) := by decide +kernel
theorem dX9_comesTo_74 : decode cX9_comesTo 74 = .ok (.lcmp, 1) := by decide +kernel
theorem dX9_comesTo_75 : decode cX9_comesTo 75 = .ok (.ifCond .lt 17, 3) := by decide +kernel
theorem dX9_comesTo_78 : decode cX9_comesTo 78 = .ok (.lload_n 1, 1) := by decide +kernel
theorem dX9_comesTo_79 : decode cX9_comesTo 79 = .ok (.aload_n 0, 1) := by decide +kernel
theorem dX9_comesTo_80 : decode cX9_comesTo 80 = .ok (.invokevirtual 127, 3) := by decide +kernel
theorem dX9_comesTo_83 : decode cX9_comesTo 83 = .ok (.i2l, 1) := by decide +kernel
theorem dX9_comesTo_84 : decode cX9_comesTo 84 = .ok (.lcmp, 1) := by decide +kernel
theorem dX9_comesTo_85 : decode cX9_comesTo 85 = .ok (.ifCond .ge 7, 3) := by decide +kernel
theorem dX9_comesTo_88 : decode cX9_comesTo 88 = .ok (.iconst 1, 1) := by decide +kernel
theorem dX9_comesTo_89 : decode cX9_comesTo 89 = .ok (.goto 32, 3) := by decide +kernel
theorem dX9_comesTo_92 : decode cX9_comesTo 92 = .ok (.iconst 0, 1) := by decide +kernel
theorem dX9_comesTo_93 : decode cX9_comesTo 93 = .ok (.goto 28, 3) := by decide +kernel
theorem dX9_comesTo_96 : decode cX9_comesTo 96 = .ok (.lload_n 1, 1) := by decide +kernel
theorem dX9_comesTo_97 : decode cX9_comesTo 97 = .ok (.lconst 0, 1) := by decide +kernel
theorem dX9_comesTo_98 : decode cX9_comesTo 98 = .ok (.lcmp, 1) := by decide +kernel
theorem dX9_comesTo_99 : decode cX9_comesTo 99 = .ok (.ifCond .lt 21, 3) := by decide +kernel
theorem dX9_comesTo_102 : decode cX9_comesTo 102 = .ok (.lload_n 1, 1) := by decide +kernel
theorem dX9_comesTo_103 : decode cX9_comesTo 103 = .ok (.ldc2_w 231, 3) := by decide +kernel
theorem dX9_comesTo_106 : decode cX9_comesTo 106 = .ok (.aload_n 0, 1) := by decide +kernel
theorem dX9_comesTo_107 : decode cX9_comesTo 107 = .ok (.invokevirtual 127, 3) := by decide +kernel
theorem dX9_comesTo_110 : decode cX9_comesTo 110 = .ok (.i2l, 1) := by decide +kernel
theorem dX9_comesTo_111 : decode cX9_comesTo 111 = .ok (.lmul, 1) := by decide +kernel
theorem dX9_comesTo_112 : decode cX9_comesTo 112 = .ok (.lcmp, 1) := by decide +kernel
theorem dX9_comesTo_113 : decode cX9_comesTo 113 = .ok (.ifCond .ge 7, 3) := by decide +kernel
theorem dX9_comesTo_116 : decode cX9_comesTo 116 = .ok (.iconst 1, 1) := by decide +kernel
theorem dX9_comesTo_117 : decode cX9_comesTo 117 = .ok (.goto 4, 3) := by decide +kernel
theorem dX9_comesTo_120 : decode cX9_comesTo 120 = .ok (.iconst 0, 1) := by decide +kernel
theorem dX9_comesTo_121 : decode cX9_comesTo 121 = .ok (.istore 4, 2) := by decide +kernel
theorem dX9_comesTo_123 : decode cX9_comesTo 123 = .ok (.aload_n 0, 1) := by decide +kernel
theorem dX9_comesTo_124 : decode cX9_comesTo 124 = .ok (.getfield 100, 3) := by decide +kernel
theorem dX9_comesTo_127 : decode cX9_comesTo 127 = .ok (.aload_n 0, 1) := by decide +kernel
theorem dX9_comesTo_128 : decode cX9_comesTo 128 = .ok (.getfield 203, 3) := by decide +kernel
theorem dX9_comesTo_131 : decode cX9_comesTo 131 = .ok (.iconst 1, 1) := by decide +kernel
theorem dX9_comesTo_132 : decode cX9_comesTo 132 = .ok (.isub, 1) := by decide +kernel
theorem dX9_comesTo_133 : decode cX9_comesTo 133 = .ok (.iload 4, 2) := by decide +kernel
theorem dX9_comesTo_135 : decode cX9_comesTo 135 = .ok (.ifCond .eq 8, 3) := by decide +kernel
theorem dX9_comesTo_138 : decode cX9_comesTo 138 = .ok (.lload_n 1, 1) := by decide +kernel
theorem dX9_comesTo_139 : decode cX9_comesTo 139 = .ok (.l2i, 1) := by decide +kernel
theorem dX9_comesTo_140 : decode cX9_comesTo 140 = .ok (.goto 4, 3) := by decide +kernel
theorem dX9_comesTo_143 : decode cX9_comesTo 143 = .ok (.iconst 0, 1) := by decide +kernel
theorem dX9_comesTo_144 : decode cX9_comesTo 144 = .ok (.iastore, 1) := by decide +kernel
theorem dX9_comesTo_145 : decode cX9_comesTo 145 = .ok (.iload 4, 2) := by decide +kernel
theorem dX9_comesTo_147 : decode cX9_comesTo 147 = .ok (.ireturn, 1) := by decide +kernel
theorem dX9_turned_0 : decode cX9_turned 0 = .ok (.aload_n 0, 1) := by decide +kernel
theorem dX9_turned_1 : decode cX9_turned 1 = .ok (.iload_n 1, 1) := by decide +kernel
theorem dX9_turned_2 : decode cX9_turned 2 = .ok (.iload_n 2, 1) := by decide +kernel
theorem dX9_turned_3 : decode cX9_turned 3 = .ok (.iconst (-1), 1) := by decide +kernel
theorem dX9_turned_4 : decode cX9_turned 4 = .ok (.invokevirtual 191, 3) := by decide +kernel
theorem dX9_turned_7 : decode cX9_turned 7 = .ok (.istore 4, 2) := by decide +kernel
theorem dX9_turned_9 : decode cX9_turned 9 = .ok (.iload 4, 2) := by decide +kernel
theorem dX9_turned_11 : decode cX9_turned 11 = .ok (.ifCond .le 22, 3) := by decide +kernel
theorem dX9_turned_14 : decode cX9_turned 14 = .ok (.aload_n 0, 1) := by decide +kernel
theorem dX9_turned_15 : decode cX9_turned 15 = .ok (.iload_n 1, 1) := by decide +kernel
theorem dX9_turned_16 : decode cX9_turned 16 = .ok (.iload_n 2, 1) := by decide +kernel
theorem dX9_turned_17 : decode cX9_turned 17 = .ok (.iload_n 3, 1) := by decide +kernel
theorem dX9_turned_18 : decode cX9_turned 18 = .ok (.ifCond .ne 7, 3) := by decide +kernel
theorem dX9_turned_21 : decode cX9_turned 21 = .ok (.iconst 0, 1) := by decide +kernel
theorem dX9_turned_22 : decode cX9_turned 22 = .ok (.goto 7, 3) := by decide +kernel
theorem dX9_turned_25 : decode cX9_turned 25 = .ok (.iload 4, 2) := by decide +kernel
theorem dX9_turned_27 : decode cX9_turned 27 = .ok (.iconst 1, 1) := by decide +kernel
theorem dX9_turned_28 : decode cX9_turned 28 = .ok (.isub, 1) := by decide +kernel
theorem dX9_turned_29 : decode cX9_turned 29 = .ok (.invokevirtual 191, 3) := by decide +kernel
theorem dX9_turned_32 : decode cX9_turned 32 = .ok (.ireturn, 1) := by decide +kernel
theorem dX9_turned_33 : decode cX9_turned 33 = .ok (.iload_n 3, 1) := by decide +kernel
theorem dX9_turned_34 : decode cX9_turned 34 = .ok (.ifCond .ne 16, 3) := by decide +kernel
theorem dX9_turned_37 : decode cX9_turned 37 = .ok (.aload_n 0, 1) := by decide +kernel
theorem dX9_turned_38 : decode cX9_turned 38 = .ok (.iload_n 1, 1) := by decide +kernel
theorem dX9_turned_39 : decode cX9_turned 39 = .ok (.iload_n 2, 1) := by decide +kernel
theorem dX9_turned_40 : decode cX9_turned 40 = .ok (.iconst 1, 1) := by decide +kernel
theorem dX9_turned_41 : decode cX9_turned 41 = .ok (.iadd, 1) := by decide +kernel
theorem dX9_turned_42 : decode cX9_turned 42 = .ok (.ldc 235, 2) := by decide +kernel
theorem dX9_turned_44 : decode cX9_turned 44 = .ok (.invokevirtual 236, 3) := by decide +kernel
theorem dX9_turned_47 : decode cX9_turned 47 = .ok (.goto 9, 3) := by decide +kernel
theorem dX9_turned_50 : decode cX9_turned 50 = .ok (.aload_n 0, 1) := by decide +kernel
theorem dX9_turned_51 : decode cX9_turned 51 = .ok (.iload_n 1, 1) := by decide +kernel
theorem dX9_turned_52 : decode cX9_turned 52 = .ok (.iload_n 2, 1) := by decide +kernel
theorem dX9_turned_53 : decode cX9_turned 53 = .ok (.invokevirtual 239, 3) := by decide +kernel
theorem dX9_turned_56 : decode cX9_turned 56 = .ok (.ireturn, 1) := by decide +kernel
theorem dX9_does_0 : decode cX9_does 0 = .ok (.aload_n 0, 1) := by decide +kernel
theorem dX9_does_1 : decode cX9_does 1 = .ok (.getfield 203, 3) := by decide +kernel
theorem dX9_does_4 : decode cX9_does 4 = .ok (.iconst 1, 1) := by decide +kernel
theorem dX9_does_5 : decode cX9_does 5 = .ok (.isub, 1) := by decide +kernel
theorem dX9_does_6 : decode cX9_does 6 = .ok (.istore_n 3, 1) := by decide +kernel
theorem dX9_does_7 : decode cX9_does 7 = .ok (.iload_n 3, 1) := by decide +kernel
theorem dX9_does_8 : decode cX9_does 8 = .ok (.ifCond .lt 13, 3) := by decide +kernel
theorem dX9_does_11 : decode cX9_does 11 = .ok (.aload_n 0, 1) := by decide +kernel
theorem dX9_does_12 : decode cX9_does 12 = .ok (.getfield 100, 3) := by decide +kernel
theorem dX9_does_15 : decode cX9_does 15 = .ok (.iload_n 3, 1) := by decide +kernel
theorem dX9_does_16 : decode cX9_does 16 = .ok (.iaload, 1) := by decide +kernel
theorem dX9_does_17 : decode cX9_does 17 = .ok (.i2l, 1) := by decide +kernel
theorem dX9_does_18 : decode cX9_does 18 = .ok (.goto 4, 3) := by decide +kernel
theorem dX9_does_21 : decode cX9_does 21 = .ok (.lconst 0, 1) := by decide +kernel
theorem dX9_does_22 : decode cX9_does 22 = .ok (.lstore 4, 2) := by decide +kernel
theorem dX9_does_24 : decode cX9_does 24 = .ok (.aload_n 0, 1) := by decide +kernel
theorem dX9_does_25 : decode cX9_does 25 = .ok (.getfield 88, 3) := by decide +kernel
theorem dX9_does_28 : decode cX9_does 28 = .ok (.iload_n 1, 1) := by decide +kernel
theorem dX9_does_29 : decode cX9_does 29 = .ok (.iaload, 1) := by decide +kernel
theorem dX9_does_30 : decode cX9_does 30 = .ok (.tableswitch 427 0 10 #[58, 94, 123, 141, 167, 199, 214, 248, 273, 351, 381], 58) := by decide +kernel
theorem dX9_does_88 : decode cX9_does 88 = .ok (.aload_n 0, 1) := by decide +kernel
theorem dX9_does_89 : decode cX9_does 89 = .ok (.dup, 1) := by decide +kernel
theorem dX9_does_90 : decode cX9_does 90 = .ok (.getfield 203, 3) := by decide +kernel
theorem dX9_does_93 : decode cX9_does 93 = .ok (.iconst 1, 1) := by decide +kernel
theorem dX9_does_94 : decode cX9_does 94 = .ok (.iadd, 1) := by decide +kernel
theorem dX9_does_95 : decode cX9_does 95 = .ok (.putfield 203, 3) := by decide +kernel
theorem dX9_does_98 : decode cX9_does 98 = .ok (.aload_n 0, 1) := by decide +kernel
theorem dX9_does_99 : decode cX9_does 99 = .ok (.getfield 97, 3) := by decide +kernel
theorem dX9_does_102 : decode cX9_does 102 = .ok (.aload_n 0, 1) := by decide +kernel
theorem dX9_does_103 : decode cX9_does 103 = .ok (.getfield 203, 3) := by decide +kernel
theorem dX9_does_106 : decode cX9_does 106 = .ok (.iconst 1, 1) := by decide +kernel
theorem dX9_does_107 : decode cX9_does 107 = .ok (.isub, 1) := by decide +kernel
theorem dX9_does_108 : decode cX9_does 108 = .ok (.iconst 0, 1) := by decide +kernel
theorem dX9_does_109 : decode cX9_does 109 = .ok (.iastore, 1) := by decide +kernel
theorem dX9_does_110 : decode cX9_does 110 = .ok (.aload_n 0, 1) := by decide +kernel
theorem dX9_does_111 : decode cX9_does 111 = .ok (.getfield 100, 3) := by decide +kernel
theorem dX9_does_114 : decode cX9_does 114 = .ok (.aload_n 0, 1) := by decide +kernel
theorem dX9_does_115 : decode cX9_does 115 = .ok (.getfield 203, 3) := by decide +kernel
theorem dX9_does_118 : decode cX9_does 118 = .ok (.iconst 1, 1) := by decide +kernel
theorem dX9_does_119 : decode cX9_does 119 = .ok (.isub, 1) := by decide +kernel
theorem dX9_does_120 : decode cX9_does 120 = .ok (.iload_n 2, 1) := by decide +kernel
theorem dX9_does_121 : decode cX9_does 121 = .ok (.iastore, 1) := by decide +kernel
theorem dX9_does_122 : decode cX9_does 122 = .ok (.iconst 1, 1) := by decide +kernel
theorem dX9_does_123 : decode cX9_does 123 = .ok (.ireturn, 1) := by decide +kernel
theorem dX9_does_124 : decode cX9_does 124 = .ok (.aload_n 0, 1) := by decide +kernel
theorem dX9_does_125 : decode cX9_does 125 = .ok (.getfield 97, 3) := by decide +kernel
theorem dX9_does_128 : decode cX9_does 128 = .ok (.iload_n 3, 1) := by decide +kernel
theorem dX9_does_129 : decode cX9_does 129 = .ok (.iconst 1, 1) := by decide +kernel
theorem dX9_does_130 : decode cX9_does 130 = .ok (.iastore, 1) := by decide +kernel
theorem dX9_does_131 : decode cX9_does 131 = .ok (.aload_n 0, 1) := by decide +kernel
theorem dX9_does_132 : decode cX9_does 132 = .ok (.lload 4, 2) := by decide +kernel
theorem dX9_does_134 : decode cX9_does 134 = .ok (.aload_n 0, 1) := by decide +kernel
theorem dX9_does_135 : decode cX9_does 135 = .ok (.aload_n 0, 1) := by decide +kernel
theorem dX9_does_136 : decode cX9_does 136 = .ok (.getfield 91, 3) := by decide +kernel
theorem dX9_does_139 : decode cX9_does 139 = .ok (.iload_n 1, 1) := by decide +kernel
theorem dX9_does_140 : decode cX9_does 140 = .ok (.iaload, 1) := by decide +kernel
theorem dX9_does_141 : decode cX9_does 141 = .ok (.lload 4, 2) := by decide +kernel
theorem dX9_does_143 : decode cX9_does 143 = .ok (.l2i, 1) := by decide +kernel
theorem dX9_does_144 : decode cX9_does 144 = .ok (.invokevirtual 182, 3) := by decide +kernel
theorem dX9_does_147 : decode cX9_does 147 = .ok (.i2l, 1) := by decide +kernel
theorem dX9_does_148 : decode cX9_does 148 = .ok (.ladd, 1) := by decide +kernel
theorem dX9_does_149 : decode cX9_does 149 = .ok (.invokevirtual 242, 3) := by decide +kernel
theorem dX9_does_152 : decode cX9_does 152 = .ok (.ireturn, 1) := by decide +kernel
theorem dX9_does_153 : decode cX9_does 153 = .ok (.aload_n 0, 1) := by decide +kernel
theorem dX9_does_154 : decode cX9_does 154 = .ok (.getfield 97, 3) := by decide +kernel
theorem dX9_does_157 : decode cX9_does 157 = .ok (.iload_n 3, 1) := by decide +kernel
theorem dX9_does_158 : decode cX9_does 158 = .ok (.iconst 2, 1) := by decide +kernel
theorem dX9_does_159 : decode cX9_does 159 = .ok (.iastore, 1) := by decide +kernel
theorem dX9_does_160 : decode cX9_does 160 = .ok (.aload_n 0, 1) := by decide +kernel
theorem dX9_does_161 : decode cX9_does 161 = .ok (.lload 4, 2) := by decide +kernel
theorem dX9_does_163 : decode cX9_does 163 = .ok (.ldc2_w 231, 3) := by decide +kernel
theorem dX9_does_166 : decode cX9_does 166 = .ok (.ldiv, 1) := by decide +kernel
theorem dX9_does_167 : decode cX9_does 167 = .ok (.invokevirtual 242, 3) := by decide +kernel
theorem dX9_does_170 : decode cX9_does 170 = .ok (.ireturn, 1) := by decide +kernel
theorem dX9_does_171 : decode cX9_does 171 = .ok (.aload_n 0, 1) := by decide +kernel
theorem dX9_does_172 : decode cX9_does 172 = .ok (.getfield 97, 3) := by decide +kernel
theorem dX9_does_175 : decode cX9_does 175 = .ok (.iload_n 3, 1) := by decide +kernel
theorem dX9_does_176 : decode cX9_does 176 = .ok (.iconst 1, 1) := by decide +kernel
theorem dX9_does_177 : decode cX9_does 177 = .ok (.iastore, 1) := by decide +kernel
theorem dX9_does_178 : decode cX9_does 178 = .ok (.aload_n 0, 1) := by decide +kernel
theorem dX9_does_179 : decode cX9_does 179 = .ok (.lload 4, 2) := by decide +kernel
theorem dX9_does_181 : decode cX9_does 181 = .ok (.ldc2_w 231, 3) := by decide +kernel
theorem dX9_does_184 : decode cX9_does 184 = .ok (.lmul, 1) := by decide +kernel
theorem dX9_does_185 : decode cX9_does 185 = .ok (.aload_n 0, 1) := by decide +kernel
theorem dX9_does_186 : decode cX9_does 186 = .ok (.getfield 91, 3) := by decide +kernel
theorem dX9_does_189 : decode cX9_does 189 = .ok (.iload_n 1, 1) := by decide +kernel
theorem dX9_does_190 : decode cX9_does 190 = .ok (.iaload, 1) := by decide +kernel
theorem dX9_does_191 : decode cX9_does 191 = .ok (.i2l, 1) := by decide +kernel
theorem dX9_does_192 : decode cX9_does 192 = .ok (.ladd, 1) := by decide +kernel
theorem dX9_does_193 : decode cX9_does 193 = .ok (.invokevirtual 242, 3) := by decide +kernel
theorem dX9_does_196 : decode cX9_does 196 = .ok (.ireturn, 1) := by decide +kernel
theorem dX9_does_197 : decode cX9_does 197 = .ok (.aload_n 0, 1) := by decide +kernel
theorem dX9_does_198 : decode cX9_does 198 = .ok (.getfield 97, 3) := by decide +kernel
theorem dX9_does_201 : decode cX9_does 201 = .ok (.iload_n 3, 1) := by decide +kernel
theorem dX9_does_202 : decode cX9_does 202 = .ok (.iconst 0, 1) := by decide +kernel
theorem dX9_does_203 : decode cX9_does 203 = .ok (.iastore, 1) := by decide +kernel
theorem dX9_does_204 : decode cX9_does 204 = .ok (.aload_n 0, 1) := by decide +kernel
theorem dX9_does_205 : decode cX9_does 205 = .ok (.aload_n 0, 1) := by decide +kernel
theorem dX9_does_206 : decode cX9_does 206 = .ok (.aload_n 0, 1) := by decide +kernel
theorem dX9_does_207 : decode cX9_does 207 = .ok (.getfield 91, 3) := by decide +kernel
theorem dX9_does_210 : decode cX9_does 210 = .ok (.iload_n 1, 1) := by decide +kernel
theorem dX9_does_211 : decode cX9_does 211 = .ok (.iaload, 1) := by decide +kernel
theorem dX9_does_212 : decode cX9_does 212 = .ok (.lload 4, 2) := by decide +kernel
theorem dX9_does_214 : decode cX9_does 214 = .ok (.l2i, 1) := by decide +kernel
theorem dX9_does_215 : decode cX9_does 215 = .ok (.aload_n 0, 1) := by decide +kernel
theorem dX9_does_216 : decode cX9_does 216 = .ok (.getfield 94, 3) := by decide +kernel
theorem dX9_does_219 : decode cX9_does 219 = .ok (.iload_n 1, 1) := by decide +kernel
theorem dX9_does_220 : decode cX9_does 220 = .ok (.iaload, 1) := by decide +kernel
theorem dX9_does_221 : decode cX9_does 221 = .ok (.invokevirtual 246, 3) := by decide +kernel
theorem dX9_does_224 : decode cX9_does 224 = .ok (.i2l, 1) := by decide +kernel
theorem dX9_does_225 : decode cX9_does 225 = .ok (.invokevirtual 242, 3) := by decide +kernel
theorem dX9_does_228 : decode cX9_does 228 = .ok (.ireturn, 1) := by decide +kernel
theorem dX9_does_229 : decode cX9_does 229 = .ok (.aload_n 0, 1) := by decide +kernel
theorem dX9_does_230 : decode cX9_does 230 = .ok (.lload 4, 2) := by decide +kernel
theorem dX9_does_232 : decode cX9_does 232 = .ok (.aload_n 0, 1) := by decide +kernel
theorem dX9_does_233 : decode cX9_does 233 = .ok (.getfield 91, 3) := by decide +kernel
theorem dX9_does_236 : decode cX9_does 236 = .ok (.iload_n 1, 1) := by decide +kernel
theorem dX9_does_237 : decode cX9_does 237 = .ok (.iaload, 1) := by decide +kernel
theorem dX9_does_238 : decode cX9_does 238 = .ok (.i2l, 1) := by decide +kernel
theorem dX9_does_239 : decode cX9_does 239 = .ok (.ladd, 1) := by decide +kernel
theorem dX9_does_240 : decode cX9_does 240 = .ok (.invokevirtual 242, 3) := by decide +kernel
theorem dX9_does_243 : decode cX9_does 243 = .ok (.ireturn, 1) := by decide +kernel
theorem dX9_does_244 : decode cX9_does 244 = .ok (.aload_n 0, 1) := by decide +kernel
theorem dX9_does_245 : decode cX9_does 245 = .ok (.lload 4, 2) := by decide +kernel
theorem dX9_does_247 : decode cX9_does 247 = .ok (.aload_n 0, 1) := by decide +kernel
theorem dX9_does_248 : decode cX9_does 248 = .ok (.getfield 91, 3) := by decide +kernel
theorem dX9_does_251 : decode cX9_does 251 = .ok (.iload_n 1, 1) := by decide +kernel
theorem dX9_does_252 : decode cX9_does 252 = .ok (.iaload, 1) := by decide +kernel
theorem dX9_does_253 : decode cX9_does 253 = .ok (.i2l, 1) := by decide +kernel
theorem dX9_does_254 : decode cX9_does 254 = .ok (.aload_n 0, 1) := by decide +kernel
theorem dX9_does_255 : decode cX9_does 255 = .ok (.getfield 97, 3) := by decide +kernel
theorem dX9_does_258 : decode cX9_does 258 = .ok (.iload_n 3, 1) := by decide +kernel
theorem dX9_does_259 : decode cX9_does 259 = .ok (.iaload, 1) := by decide +kernel
theorem dX9_does_260 : decode cX9_does 260 = .ok (.iconst 1, 1) := by decide +kernel
theorem dX9_does_261 : decode cX9_does 261 = .ok (.if_icmp .ne 9, 3) := by decide +kernel
theorem dX9_does_264 : decode cX9_does 264 = .ok (.sipush 1440, 3) := by decide +kernel
theorem dX9_does_267 : decode cX9_does 267 = .ok (.goto 4, 3) := by decide +kernel
theorem dX9_does_270 : decode cX9_does 270 = .ok (.iconst 1, 1) := by decide +kernel
theorem dX9_does_271 : decode cX9_does 271 = .ok (.i2l, 1) := by decide +kernel
theorem dX9_does_272 : decode cX9_does 272 = .ok (.lmul, 1) := by decide +kernel
theorem dX9_does_273 : decode cX9_does 273 = .ok (.ladd, 1) := by decide +kernel
theorem dX9_does_274 : decode cX9_does 274 = .ok (.invokevirtual 242, 3) := by decide +kernel
theorem dX9_does_277 : decode cX9_does 277 = .ok (.ireturn, 1) := by decide +kernel
theorem dX9_does_278 : decode cX9_does 278 = .ok (.aload_n 0, 1) := by decide +kernel
theorem dX9_does_279 : decode cX9_does 279 = .ok (.aload_n 0, 1) := by decide +kernel
theorem dX9_does_280 : decode cX9_does 280 = .ok (.lload 4, 2) := by decide +kernel
theorem dX9_does_282 : decode cX9_does 282 = .ok (.l2i, 1) := by decide +kernel
theorem dX9_does_283 : decode cX9_does 283 = .ok (.aload_n 0, 1) := by decide +kernel
theorem dX9_does_284 : decode cX9_does 284 = .ok (.getfield 91, 3) := by decide +kernel
theorem dX9_does_287 : decode cX9_does 287 = .ok (.iload_n 1, 1) := by decide +kernel
theorem dX9_does_288 : decode cX9_does 288 = .ok (.iaload, 1) := by decide +kernel
theorem dX9_does_289 : decode cX9_does 289 = .ok (.aload_n 0, 1) := by decide +kernel
theorem dX9_does_290 : decode cX9_does 290 = .ok (.getfield 94, 3) := by decide +kernel
theorem dX9_does_293 : decode cX9_does 293 = .ok (.iload_n 1, 1) := by decide +kernel
theorem dX9_does_294 : decode cX9_does 294 = .ok (.iaload, 1) := by decide +kernel
theorem dX9_does_295 : decode cX9_does 295 = .ok (.invokevirtual 152, 3) := by decide +kernel
theorem dX9_does_298 : decode cX9_does 298 = .ok (.i2l, 1) := by decide +kernel
theorem dX9_does_299 : decode cX9_does 299 = .ok (.invokevirtual 242, 3) := by decide +kernel
theorem dX9_does_302 : decode cX9_does 302 = .ok (.ireturn, 1) := by decide +kernel
theorem dX9_does_303 : decode cX9_does 303 = .ok (.aload_n 0, 1) := by decide +kernel
theorem dX9_does_304 : decode cX9_does 304 = .ok (.dup, 1) := by decide +kernel
theorem dX9_does_305 : decode cX9_does 305 = .ok (.getfield 203, 3) := by decide +kernel
theorem dX9_does_308 : decode cX9_does 308 = .ok (.iconst 1, 1) := by decide +kernel
theorem dX9_does_309 : decode cX9_does 309 = .ok (.isub, 1) := by decide +kernel
theorem dX9_does_310 : decode cX9_does 310 = .ok (.putfield 203, 3) := by decide +kernel
theorem dX9_does_313 : decode cX9_does 313 = .ok (.aload_n 0, 1) := by decide +kernel
theorem dX9_does_314 : decode cX9_does 314 = .ok (.getfield 97, 3) := by decide +kernel
theorem dX9_does_317 : decode cX9_does 317 = .ok (.aload_n 0, 1) := by decide +kernel
theorem dX9_does_318 : decode cX9_does 318 = .ok (.getfield 203, 3) := by decide +kernel
theorem dX9_does_321 : decode cX9_does 321 = .ok (.iconst 1, 1) := by decide +kernel
theorem dX9_does_322 : decode cX9_does 322 = .ok (.isub, 1) := by decide +kernel
theorem dX9_does_323 : decode cX9_does 323 = .ok (.iaload, 1) := by decide +kernel
theorem dX9_does_324 : decode cX9_does 324 = .ok (.iconst 2, 1) := by decide +kernel
theorem dX9_does_325 : decode cX9_does 325 = .ok (.if_icmp .ne 7, 3) := by decide +kernel
theorem dX9_does_328 : decode cX9_does 328 = .ok (.iconst 1, 1) := by decide +kernel
theorem dX9_does_329 : decode cX9_does 329 = .ok (.goto 4, 3) := by decide +kernel
theorem dX9_does_332 : decode cX9_does 332 = .ok (.iconst 0, 1) := by decide +kernel
theorem dX9_does_333 : decode cX9_does 333 = .ok (.istore 6, 2) := by decide +kernel
theorem dX9_does_335 : decode cX9_does 335 = .ok (.aload_n 0, 1) := by decide +kernel
theorem dX9_does_336 : decode cX9_does 336 = .ok (.getfield 97, 3) := by decide +kernel
theorem dX9_does_339 : decode cX9_does 339 = .ok (.aload_n 0, 1) := by decide +kernel
theorem dX9_does_340 : decode cX9_does 340 = .ok (.getfield 203, 3) := by decide +kernel
theorem dX9_does_343 : decode cX9_does 343 = .ok (.iconst 1, 1) := by decide +kernel
theorem dX9_does_344 : decode cX9_does 344 = .ok (.isub, 1) := by decide +kernel
theorem dX9_does_345 : decode cX9_does 345 = .ok (.iconst 3, 1) := by decide +kernel
theorem dX9_does_346 : decode cX9_does 346 = .ok (.iastore, 1) := by decide +kernel
theorem dX9_does_347 : decode cX9_does 347 = .ok (.aload_n 0, 1) := by decide +kernel
theorem dX9_does_348 : decode cX9_does 348 = .ok (.lload 4, 2) := by decide +kernel
theorem dX9_does_350 : decode cX9_does 350 = .ok (.aload_n 0, 1) := by decide +kernel
theorem dX9_does_351 : decode cX9_does 351 = .ok (.getfield 100, 3) := by decide +kernel
theorem dX9_does_354 : decode cX9_does 354 = .ok (.aload_n 0, 1) := by decide +kernel
theorem dX9_does_355 : decode cX9_does 355 = .ok (.getfield 203, 3) := by decide +kernel
theorem dX9_does_358 : decode cX9_does 358 = .ok (.iconst 1, 1) := by decide +kernel
theorem dX9_does_359 : decode cX9_does 359 = .ok (.isub, 1) := by decide +kernel
theorem dX9_does_360 : decode cX9_does 360 = .ok (.iaload, 1) := by decide +kernel
theorem dX9_does_361 : decode cX9_does 361 = .ok (.i2l, 1) := by decide +kernel
theorem dX9_does_362 : decode cX9_does 362 = .ok (.lsub, 1) := by decide +kernel
theorem dX9_does_363 : decode cX9_does 363 = .ok (.iload 6, 2) := by decide +kernel
theorem dX9_does_365 : decode cX9_does 365 = .ok (.ifCond .eq 9, 3) := by decide +kernel
theorem dX9_does_368 : decode cX9_does 368 = .ok (.sipush 1440, 3) := by decide +kernel
theorem dX9_does_371 : decode cX9_does 371 = .ok (.goto 4, 3) := by decide +kernel
theorem dX9_does_374 : decode cX9_does 374 = .ok (.iconst 1, 1) := by decide +kernel
theorem dX9_does_375 : decode cX9_does 375 = .ok (.i2l, 1) := by decide +kernel
theorem dX9_does_376 : decode cX9_does 376 = .ok (.lmul, 1) := by decide +kernel
theorem dX9_does_377 : decode cX9_does 377 = .ok (.invokevirtual 242, 3) := by decide +kernel
theorem dX9_does_380 : decode cX9_does 380 = .ok (.ireturn, 1) := by decide +kernel
theorem dX9_does_381 : decode cX9_does 381 = .ok (.aload_n 0, 1) := by decide +kernel
theorem dX9_does_382 : decode cX9_does 382 = .ok (.dup, 1) := by decide +kernel
theorem dX9_does_383 : decode cX9_does 383 = .ok (.getfield 203, 3) := by decide +kernel
theorem dX9_does_386 : decode cX9_does 386 = .ok (.iconst 1, 1) := by decide +kernel
theorem dX9_does_387 : decode cX9_does 387 = .ok (.isub, 1) := by decide +kernel
theorem dX9_does_388 : decode cX9_does 388 = .ok (.putfield 203, 3) := by decide +kernel
theorem dX9_does_391 : decode cX9_does 391 = .ok (.aload_n 0, 1) := by decide +kernel
theorem dX9_does_392 : decode cX9_does 392 = .ok (.lload 4, 2) := by decide +kernel
theorem dX9_does_394 : decode cX9_does 394 = .ok (.aload_n 0, 1) := by decide +kernel
theorem dX9_does_395 : decode cX9_does 395 = .ok (.getfield 100, 3) := by decide +kernel
theorem dX9_does_398 : decode cX9_does 398 = .ok (.aload_n 0, 1) := by decide +kernel
theorem dX9_does_399 : decode cX9_does 399 = .ok (.getfield 203, 3) := by decide +kernel
theorem dX9_does_402 : decode cX9_does 402 = .ok (.iconst 1, 1) := by decide +kernel
theorem dX9_does_403 : decode cX9_does 403 = .ok (.isub, 1) := by decide +kernel
theorem dX9_does_404 : decode cX9_does 404 = .ok (.iaload, 1) := by decide +kernel
theorem dX9_does_405 : decode cX9_does 405 = .ok (.i2l, 1) := by decide +kernel
theorem dX9_does_406 : decode cX9_does 406 = .ok (.ladd, 1) := by decide +kernel
theorem dX9_does_407 : decode cX9_does 407 = .ok (.invokevirtual 242, 3) := by decide +kernel
theorem dX9_does_410 : decode cX9_does 410 = .ok (.ireturn, 1) := by decide +kernel
theorem dX9_does_411 : decode cX9_does 411 = .ok (.aload_n 0, 1) := by decide +kernel
theorem dX9_does_412 : decode cX9_does 412 = .ok (.dup, 1) := by decide +kernel
theorem dX9_does_413 : decode cX9_does 413 = .ok (.getfield 203, 3) := by decide +kernel
theorem dX9_does_416 : decode cX9_does 416 = .ok (.iconst 1, 1) := by decide +kernel
theorem dX9_does_417 : decode cX9_does 417 = .ok (.iadd, 1) := by decide +kernel
theorem dX9_does_418 : decode cX9_does 418 = .ok (.putfield 203, 3) := by decide +kernel
theorem dX9_does_421 : decode cX9_does 421 = .ok (.aload_n 0, 1) := by decide +kernel
theorem dX9_does_422 : decode cX9_does 422 = .ok (.getfield 97, 3) := by decide +kernel
theorem dX9_does_425 : decode cX9_does 425 = .ok (.aload_n 0, 1) := by decide +kernel
theorem dX9_does_426 : decode cX9_does 426 = .ok (.getfield 203, 3) := by decide +kernel
theorem dX9_does_429 : decode cX9_does 429 = .ok (.iconst 1, 1) := by decide +kernel
theorem dX9_does_430 : decode cX9_does 430 = .ok (.isub, 1) := by decide +kernel
theorem dX9_does_431 : decode cX9_does 431 = .ok (.aload_n 0, 1) := by decide +kernel
theorem dX9_does_432 : decode cX9_does 432 = .ok (.getfield 97, 3) := by decide +kernel
theorem dX9_does_435 : decode cX9_does 435 = .ok (.iload_n 3, 1) := by decide +kernel
theorem dX9_does_436 : decode cX9_does 436 = .ok (.iaload, 1) := by decide +kernel
theorem dX9_does_437 : decode cX9_does 437 = .ok (.iastore, 1) := by decide +kernel
theorem dX9_does_438 : decode cX9_does 438 = .ok (.aload_n 0, 1) := by decide +kernel
theorem dX9_does_439 : decode cX9_does 439 = .ok (.getfield 100, 3) := by decide +kernel
theorem dX9_does_442 : decode cX9_does 442 = .ok (.aload_n 0, 1) := by decide +kernel
theorem dX9_does_443 : decode cX9_does 443 = .ok (.getfield 203, 3) := by decide +kernel
theorem dX9_does_446 : decode cX9_does 446 = .ok (.iconst 1, 1) := by decide +kernel
theorem dX9_does_447 : decode cX9_does 447 = .ok (.isub, 1) := by decide +kernel
theorem dX9_does_448 : decode cX9_does 448 = .ok (.aload_n 0, 1) := by decide +kernel
theorem dX9_does_449 : decode cX9_does 449 = .ok (.getfield 100, 3) := by decide +kernel
theorem dX9_does_452 : decode cX9_does 452 = .ok (.iload_n 3, 1) := by decide +kernel
theorem dX9_does_453 : decode cX9_does 453 = .ok (.iaload, 1) := by decide +kernel
theorem dX9_does_454 : decode cX9_does 454 = .ok (.iastore, 1) := by decide +kernel
theorem dX9_does_455 : decode cX9_does 455 = .ok (.iconst 1, 1) := by decide +kernel
theorem dX9_does_456 : decode cX9_does 456 = .ok (.ireturn, 1) := by decide +kernel
theorem dX9_does_457 : decode cX9_does 457 = .ok (.aload_n 0, 1) := by decide +kernel
theorem dX9_does_458 : decode cX9_does 458 = .ok (.getfield 97, 3) := by decide +kernel
theorem dX9_does_461 : decode cX9_does 461 = .ok (.iload_n 3, 1) := by decide +kernel
theorem dX9_does_462 : decode cX9_does 462 = .ok (.iaload, 1) := by decide +kernel
theorem dX9_does_463 : decode cX9_does 463 = .ok (.istore 7, 2) := by decide +kernel
theorem dX9_does_465 : decode cX9_does 465 = .ok (.aload_n 0, 1) := by decide +kernel
theorem dX9_does_466 : decode cX9_does 466 = .ok (.getfield 97, 3) := by decide +kernel
theorem dX9_does_469 : decode cX9_does 469 = .ok (.iload_n 3, 1) := by decide +kernel
theorem dX9_does_470 : decode cX9_does 470 = .ok (.aload_n 0, 1) := by decide +kernel
theorem dX9_does_471 : decode cX9_does 471 = .ok (.getfield 97, 3) := by decide +kernel
theorem dX9_does_474 : decode cX9_does 474 = .ok (.iload_n 3, 1) := by decide +kernel
theorem dX9_does_475 : decode cX9_does 475 = .ok (.iconst 1, 1) := by decide +kernel
theorem dX9_does_476 : decode cX9_does 476 = .ok (.isub, 1) := by decide +kernel
theorem dX9_does_477 : decode cX9_does 477 = .ok (.iaload, 1) := by decide +kernel
theorem dX9_does_478 : decode cX9_does 478 = .ok (.iastore, 1) := by decide +kernel
theorem dX9_does_479 : decode cX9_does 479 = .ok (.aload_n 0, 1) := by decide +kernel
theorem dX9_does_480 : decode cX9_does 480 = .ok (.getfield 97, 3) := by decide +kernel
theorem dX9_does_483 : decode cX9_does 483 = .ok (.iload_n 3, 1) := by decide +kernel
theorem dX9_does_484 : decode cX9_does 484 = .ok (.iconst 1, 1) := by decide +kernel
theorem dX9_does_485 : decode cX9_does 485 = .ok (.isub, 1) := by decide +kernel
theorem dX9_does_486 : decode cX9_does 486 = .ok (.iload 7, 2) := by decide +kernel
theorem dX9_does_488 : decode cX9_does 488 = .ok (.iastore, 1) := by decide +kernel
theorem dX9_does_489 : decode cX9_does 489 = .ok (.aload_n 0, 1) := by decide +kernel
theorem dX9_does_490 : decode cX9_does 490 = .ok (.getfield 100, 3) := by decide +kernel
theorem dX9_does_493 : decode cX9_does 493 = .ok (.iload_n 3, 1) := by decide +kernel
theorem dX9_does_494 : decode cX9_does 494 = .ok (.aload_n 0, 1) := by decide +kernel
theorem dX9_does_495 : decode cX9_does 495 = .ok (.getfield 100, 3) := by decide +kernel
theorem dX9_does_498 : decode cX9_does 498 = .ok (.iload_n 3, 1) := by decide +kernel
theorem dX9_does_499 : decode cX9_does 499 = .ok (.iconst 1, 1) := by decide +kernel
theorem dX9_does_500 : decode cX9_does 500 = .ok (.isub, 1) := by decide +kernel
theorem dX9_does_501 : decode cX9_does 501 = .ok (.iaload, 1) := by decide +kernel
theorem dX9_does_502 : decode cX9_does 502 = .ok (.iastore, 1) := by decide +kernel
theorem dX9_does_503 : decode cX9_does 503 = .ok (.aload_n 0, 1) := by decide +kernel
theorem dX9_does_504 : decode cX9_does 504 = .ok (.getfield 100, 3) := by decide +kernel
theorem dX9_does_507 : decode cX9_does 507 = .ok (.iload_n 3, 1) := by decide +kernel
theorem dX9_does_508 : decode cX9_does 508 = .ok (.iconst 1, 1) := by decide +kernel
theorem dX9_does_509 : decode cX9_does 509 = .ok (.isub, 1) := by decide +kernel
theorem dX9_does_510 : decode cX9_does 510 = .ok (.lload 4, 2) := by decide +kernel
theorem dX9_does_512 : decode cX9_does 512 = .ok (.l2i, 1) := by decide +kernel
theorem dX9_does_513 : decode cX9_does 513 = .ok (.iastore, 1) := by decide +kernel
theorem dX9_does_514 : decode cX9_does 514 = .ok (.iconst 1, 1) := by decide +kernel
theorem dX9_does_515 : decode cX9_does 515 = .ok (.ireturn, 1) := by decide +kernel
theorem dX9_runs_0 : decode cX9_runs 0 = .ok (.aload_n 0, 1) := by decide +kernel
theorem dX9_runs_1 : decode cX9_runs 1 = .ok (.iconst 0, 1) := by decide +kernel
theorem dX9_runs_2 : decode cX9_runs 2 = .ok (.putfield 203, 3) := by decide +kernel
theorem dX9_runs_5 : decode cX9_runs 5 = .ok (.iconst 1, 1) := by decide +kernel
theorem dX9_runs_6 : decode cX9_runs 6 = .ok (.istore_n 2, 1) := by decide +kernel
