theorem dX8_changes_11 : decode cX8_changes 11 = .ok (.goto 7, 3) := by decide +kernel
theorem dX8_changes_14 : decode cX8_changes 14 = .ok (.aload_n 2, 1) := by decide +kernel
theorem dX8_changes_15 : decode cX8_changes 15 = .ok (.getfield 156, 3) := by decide +kernel
theorem dX8_changes_18 : decode cX8_changes 18 = .ok (.ireturn, 1) := by decide +kernel
theorem dX8_change_0 : decode cX8_change 0 = .ok (.aload_n 0, 1) := by decide +kernel
theorem dX8_change_1 : decode cX8_change 1 = .ok (.iload_n 1, 1) := by decide +kernel
theorem dX8_change_2 : decode cX8_change 2 = .ok (.invokevirtual 153, 3) := by decide +kernel
theorem dX8_change_5 : decode cX8_change 5 = .ok (.astore_n 3, 1) := by decide +kernel
theorem dX8_change_6 : decode cX8_change 6 = .ok (.aload_n 3, 1) := by decide +kernel
theorem dX8_change_7 : decode cX8_change 7 = .ok (.ifnull 15, 3) := by decide +kernel
theorem dX8_change_10 : decode cX8_change 10 = .ok (.iload_n 2, 1) := by decide +kernel
theorem dX8_change_11 : decode cX8_change 11 = .ok (.ifCond .lt 11, 3) := by decide +kernel
theorem dX8_change_14 : decode cX8_change 14 = .ok (.iload_n 2, 1) := by decide +kernel
theorem dX8_change_15 : decode cX8_change 15 = .ok (.aload_n 3, 1) := by decide +kernel
theorem dX8_change_16 : decode cX8_change 16 = .ok (.getfield 156, 3) := by decide +kernel
theorem dX8_change_19 : decode cX8_change 19 = .ok (.if_icmp .lt 5, 3) := by decide +kernel
theorem dX8_change_22 : decode cX8_change 22 = .ok (.iconst (-1), 1) := by decide +kernel
theorem dX8_change_23 : decode cX8_change 23 = .ok (.ireturn, 1) := by decide +kernel
theorem dX8_change_24 : decode cX8_change 24 = .ok (.aload_n 3, 1) := by decide +kernel
theorem dX8_change_25 : decode cX8_change 25 = .ok (.getfield 159, 3) := by decide +kernel
theorem dX8_change_28 : decode cX8_change 28 = .ok (.iload_n 2, 1) := by decide +kernel
theorem dX8_change_29 : decode cX8_change 29 = .ok (.iconst 1, 1) := by decide +kernel
theorem dX8_change_30 : decode cX8_change 30 = .ok (.iadd, 1) := by decide +kernel
theorem dX8_change_31 : decode cX8_change 31 = .ok (.iaload, 1) := by decide +kernel
theorem dX8_change_32 : decode cX8_change 32 = .ok (.ireturn, 1) := by decide +kernel
theorem dX8_offset_0 : decode cX8_offset 0 = .ok (.aload_n 0, 1) := by decide +kernel
theorem dX8_offset_1 : decode cX8_offset 1 = .ok (.iload_n 1, 1) := by decide +kernel
theorem dX8_offset_2 : decode cX8_offset 2 = .ok (.invokevirtual 153, 3) := by decide +kernel
theorem dX8_offset_5 : decode cX8_offset 5 = .ok (.astore_n 3, 1) := by decide +kernel
theorem dX8_offset_6 : decode cX8_offset 6 = .ok (.aload_n 3, 1) := by decide +kernel
theorem dX8_offset_7 : decode cX8_offset 7 = .ok (.ifnull 10, 3) := by decide +kernel
theorem dX8_offset_10 : decode cX8_offset 10 = .ok (.iload_n 2, 1) := by decide +kernel
theorem dX8_offset_11 : decode cX8_offset 11 = .ok (.invokestatic 162, 3) := by decide +kernel
theorem dX8_offset_14 : decode cX8_offset 14 = .ok (.ifCond .ne 7, 3) := by decide +kernel
theorem dX8_offset_17 : decode cX8_offset 17 = .ok (.sipush (-9999), 3) := by decide +kernel
theorem dX8_offset_20 : decode cX8_offset 20 = .ok (.ireturn, 1) := by decide +kernel
theorem dX8_offset_21 : decode cX8_offset 21 = .ok (.aload_n 3, 1) := by decide +kernel
theorem dX8_offset_22 : decode cX8_offset 22 = .ok (.iload_n 2, 1) := by decide +kernel
theorem dX8_offset_23 : decode cX8_offset 23 = .ok (.invokevirtual 165, 3) := by decide +kernel
theorem dX8_offset_26 : decode cX8_offset 26 = .ok (.ireturn, 1) := by decide +kernel
theorem dX8_wall_0 : decode cX8_wall 0 = .ok (.aload_n 0, 1) := by decide +kernel
theorem dX8_wall_1 : decode cX8_wall 1 = .ok (.iload_n 1, 1) := by decide +kernel
theorem dX8_wall_2 : decode cX8_wall 2 = .ok (.invokevirtual 153, 3) := by decide +kernel
theorem dX8_wall_5 : decode cX8_wall 5 = .ok (.astore_n 3, 1) := by decide +kernel
theorem dX8_wall_6 : decode cX8_wall 6 = .ok (.aload_n 3, 1) := by decide +kernel
theorem dX8_wall_7 : decode cX8_wall 7 = .ok (.ifnull 10, 3) := by decide +kernel
theorem dX8_wall_10 : decode cX8_wall 10 = .ok (.iload_n 2, 1) := by decide +kernel
theorem dX8_wall_11 : decode cX8_wall 11 = .ok (.invokestatic 162, 3) := by decide +kernel
theorem dX8_wall_14 : decode cX8_wall 14 = .ok (.ifCond .ne 5, 3) := by decide +kernel
theorem dX8_wall_17 : decode cX8_wall 17 = .ok (.iconst (-1), 1) := by decide +kernel
theorem dX8_wall_18 : decode cX8_wall 18 = .ok (.ireturn, 1) := by decide +kernel
theorem dX8_wall_19 : decode cX8_wall 19 = .ok (.iload_n 2, 1) := by decide +kernel
theorem dX8_wall_20 : decode cX8_wall 20 = .ok (.aload_n 3, 1) := by decide +kernel
theorem dX8_wall_21 : decode cX8_wall 21 = .ok (.iload_n 2, 1) := by decide +kernel
theorem dX8_wall_22 : decode cX8_wall 22 = .ok (.invokevirtual 165, 3) := by decide +kernel
theorem dX8_wall_25 : decode cX8_wall 25 = .ok (.iadd, 1) := by decide +kernel
theorem dX8_wall_26 : decode cX8_wall 26 = .ok (.istore 4, 2) := by decide +kernel
theorem dX8_wall_28 : decode cX8_wall 28 = .ok (.aload_n 0, 1) := by decide +kernel
theorem dX8_wall_29 : decode cX8_wall 29 = .ok (.getfield 12, 3) := by decide +kernel
theorem dX8_wall_32 : decode cX8_wall 32 = .ok (.iload 4, 2) := by decide +kernel
theorem dX8_wall_34 : decode cX8_wall 34 = .ok (.invokevirtual 168, 3) := by decide +kernel
theorem dX8_wall_37 : decode cX8_wall 37 = .ok (.ifCond .eq 8, 3) := by decide +kernel
theorem dX8_wall_40 : decode cX8_wall 40 = .ok (.iload 4, 2) := by decide +kernel
theorem dX8_wall_42 : decode cX8_wall 42 = .ok (.goto 5, 3) := by decide +kernel
theorem dX8_wall_45 : decode cX8_wall 45 = .ok (.bipush (-6), 2) := by decide +kernel
theorem dX8_wall_47 : decode cX8_wall 47 = .ok (.ireturn, 1) := by decide +kernel
theorem dX8_moments_0 : decode cX8_moments 0 = .ok (.aload_n 0, 1) := by decide +kernel
theorem dX8_moments_1 : decode cX8_moments 1 = .ok (.iload_n 1, 1) := by decide +kernel
theorem dX8_moments_2 : decode cX8_moments 2 = .ok (.invokevirtual 153, 3) := by decide +kernel
theorem dX8_moments_5 : decode cX8_moments 5 = .ok (.astore_n 3, 1) := by decide +kernel
theorem dX8_moments_6 : decode cX8_moments 6 = .ok (.aload_n 3, 1) := by decide +kernel
theorem dX8_moments_7 : decode cX8_moments 7 = .ok (.ifnull 14, 3) := by decide +kernel
theorem dX8_moments_10 : decode cX8_moments 10 = .ok (.aload_n 0, 1) := by decide +kernel
theorem dX8_moments_11 : decode cX8_moments 11 = .ok (.getfield 12, 3) := by decide +kernel
theorem dX8_moments_14 : decode cX8_moments 14 = .ok (.iload_n 2, 1) := by decide +kernel
theorem dX8_moments_15 : decode cX8_moments 15 = .ok (.invokevirtual 168, 3) := by decide +kernel
theorem dX8_moments_18 : decode cX8_moments 18 = .ok (.ifCond .ne 5, 3) := by decide +kernel
theorem dX8_moments_21 : decode cX8_moments 21 = .ok (.iconst (-1), 1) := by decide +kernel
theorem dX8_moments_22 : decode cX8_moments 22 = .ok (.ireturn, 1) := by decide +kernel
theorem dX8_moments_23 : decode cX8_moments 23 = .ok (.aload_n 3, 1) := by decide +kernel
theorem dX8_moments_24 : decode cX8_moments 24 = .ok (.iload_n 2, 1) := by decide +kernel
theorem dX8_moments_25 : decode cX8_moments 25 = .ok (.invokevirtual 171, 3) := by decide +kernel
theorem dX8_moments_28 : decode cX8_moments 28 = .ok (.ireturn, 1) := by decide +kernel
theorem dX8_moment_0 : decode cX8_moment 0 = .ok (.aload_n 0, 1) := by decide +kernel
theorem dX8_moment_1 : decode cX8_moment 1 = .ok (.iload_n 1, 1) := by decide +kernel
theorem dX8_moment_2 : decode cX8_moment 2 = .ok (.invokevirtual 153, 3) := by decide +kernel
theorem dX8_moment_5 : decode cX8_moment 5 = .ok (.astore 4, 2) := by decide +kernel
theorem dX8_moment_7 : decode cX8_moment 7 = .ok (.aload 4, 2) := by decide +kernel
theorem dX8_moment_9 : decode cX8_moment 9 = .ok (.ifnull 14, 3) := by decide +kernel
theorem dX8_moment_12 : decode cX8_moment 12 = .ok (.aload_n 0, 1) := by decide +kernel
theorem dX8_moment_13 : decode cX8_moment 13 = .ok (.getfield 12, 3) := by decide +kernel
theorem dX8_moment_16 : decode cX8_moment 16 = .ok (.iload_n 2, 1) := by decide +kernel
theorem dX8_moment_17 : decode cX8_moment 17 = .ok (.invokevirtual 168, 3) := by decide +kernel
theorem dX8_moment_20 : decode cX8_moment 20 = .ok (.ifCond .ne 5, 3) := by decide +kernel
theorem dX8_moment_23 : decode cX8_moment 23 = .ok (.iconst (-1), 1) := by decide +kernel
theorem dX8_moment_24 : decode cX8_moment 24 = .ok (.ireturn, 1) := by decide +kernel
theorem dX8_moment_25 : decode cX8_moment 25 = .ok (.aload 4, 2) := by decide +kernel
theorem dX8_moment_27 : decode cX8_moment 27 = .ok (.iload_n 2, 1) := by decide +kernel
theorem dX8_moment_28 : decode cX8_moment 28 = .ok (.iload_n 3, 1) := by decide +kernel
theorem dX8_moment_29 : decode cX8_moment 29 = .ok (.invokevirtual 174, 3) := by decide +kernel
theorem dX8_moment_32 : decode cX8_moment 32 = .ok (.istore 5, 2) := by decide +kernel
theorem dX8_moment_34 : decode cX8_moment 34 = .ok (.iload 5, 2) := by decide +kernel
theorem dX8_moment_36 : decode cX8_moment 36 = .ok (.iconst (-1), 1) := by decide +kernel
theorem dX8_moment_37 : decode cX8_moment 37 = .ok (.if_icmp .ne 8, 3) := by decide +kernel
theorem dX8_moment_40 : decode cX8_moment 40 = .ok (.bipush (-6), 2) := by decide +kernel
theorem dX8_moment_42 : decode cX8_moment 42 = .ok (.goto 5, 3) := by decide +kernel
theorem dX8_moment_45 : decode cX8_moment 45 = .ok (.iload 5, 2) := by decide +kernel
theorem dX8_moment_47 : decode cX8_moment 47 = .ok (.ireturn, 1) := by decide +kernel
theorem dX8_clear_0 : decode cX8_clear 0 = .ok (.aload_n 0, 1) := by decide +kernel
theorem dX8_clear_1 : decode cX8_clear 1 = .ok (.iload_n 1, 1) := by decide +kernel
theorem dX8_clear_2 : decode cX8_clear 2 = .ok (.invokevirtual 177, 3) := by decide +kernel
theorem dX8_clear_5 : decode cX8_clear 5 = .ok (.astore_n 2, 1) := by decide +kernel
theorem dX8_clear_6 : decode cX8_clear 6 = .ok (.aload_n 2, 1) := by decide +kernel
theorem dX8_clear_7 : decode cX8_clear 7 = .ok (.ifnonnull 5, 3) := by decide +kernel
theorem dX8_clear_10 : decode cX8_clear 10 = .ok (.iconst (-1), 1) := by decide +kernel
theorem dX8_clear_11 : decode cX8_clear 11 = .ok (.ireturn, 1) := by decide +kernel
theorem dX8_clear_12 : decode cX8_clear 12 = .ok (.aload_n 2, 1) := by decide +kernel
theorem dX8_clear_13 : decode cX8_clear 13 = .ok (.getfield 181, 3) := by decide +kernel
theorem dX8_clear_16 : decode cX8_clear 16 = .ok (.istore_n 3, 1) := by decide +kernel
theorem dX8_clear_17 : decode cX8_clear 17 = .ok (.aload_n 2, 1) := by decide +kernel
theorem dX8_clear_18 : decode cX8_clear 18 = .ok (.invokevirtual 182, 3) := by decide +kernel
theorem dX8_clear_21 : decode cX8_clear 21 = .ok (.iload_n 3, 1) := by decide +kernel
theorem dX8_clear_22 : decode cX8_clear 22 = .ok (.ireturn, 1) := by decide +kernel
theorem dX8_line_0 : decode cX8_line 0 = .ok (.aload_n 0, 1) := by decide +kernel
theorem dX8_line_1 : decode cX8_line 1 = .ok (.iload_n 1, 1) := by decide +kernel
theorem dX8_line_2 : decode cX8_line 2 = .ok (.invokevirtual 177, 3) := by decide +kernel
theorem dX8_line_5 : decode cX8_line 5 = .ok (.astore 5, 2) := by decide +kernel
theorem dX8_line_7 : decode cX8_line 7 = .ok (.aload 5, 2) := by decide +kernel
theorem dX8_line_9 : decode cX8_line 9 = .ok (.ifnull 28, 3) := by decide +kernel
theorem dX8_line_12 : decode cX8_line 12 = .ok (.iload_n 2, 1) := by decide +kernel
theorem dX8_line_13 : decode cX8_line 13 = .ok (.ifCond .lt 24, 3) := by decide +kernel
theorem dX8_line_16 : decode cX8_line 16 = .ok (.iload_n 2, 1) := by decide +kernel
theorem dX8_line_17 : decode cX8_line 17 = .ok (.bipush 12, 2) := by decide +kernel
theorem dX8_line_19 : decode cX8_line 19 = .ok (.if_icmp .ge 18, 3) := by decide +kernel
theorem dX8_line_22 : decode cX8_line 22 = .ok (.iload 4, 2) := by decide +kernel
theorem dX8_line_24 : decode cX8_line 24 = .ok (.ifCond .lt 13, 3) := by decide +kernel
theorem dX8_line_27 : decode cX8_line 27 = .ok (.iload 4, 2) := by decide +kernel
theorem dX8_line_29 : decode cX8_line 29 = .ok (.getstatic 185, 3) := by decide +kernel
theorem dX8_line_32 : decode cX8_line 32 = .ok (.iload_n 2, 1) := by decide +kernel
theorem dX8_line_33 : decode cX8_line 33 = .ok (.iaload, 1) := by decide +kernel
theorem dX8_line_34 : decode cX8_line 34 = .ok (.if_icmp .le 5, 3) := by decide +kernel
theorem dX8_line_37 : decode cX8_line 37 = .ok (.iconst (-1), 1) := by decide +kernel
theorem dX8_line_38 : decode cX8_line 38 = .ok (.ireturn, 1) := by decide +kernel
theorem dX8_line_39 : decode cX8_line 39 = .ok (.iload_n 2, 1) := by decide +kernel
theorem dX8_line_40 : decode cX8_line 40 = .ok (.iconst 1, 1) := by decide +kernel
theorem dX8_line_41 : decode cX8_line 41 = .ok (.if_icmp .eq 8, 3) := by decide +kernel
theorem dX8_line_44 : decode cX8_line 44 = .ok (.iload_n 2, 1) := by decide +kernel
theorem dX8_line_45 : decode cX8_line 45 = .ok (.iconst 4, 1) := by decide +kernel
theorem dX8_line_46 : decode cX8_line 46 = .ok (.if_icmp .ne 7, 3) := by decide +kernel
theorem dX8_line_49 : decode cX8_line 49 = .ok (.iconst 1, 1) := by decide +kernel
theorem dX8_line_50 : decode cX8_line 50 = .ok (.goto 4, 3) := by decide +kernel
theorem dX8_line_53 : decode cX8_line 53 = .ok (.iconst 0, 1) := by decide +kernel
theorem dX8_line_54 : decode cX8_line 54 = .ok (.istore 6, 2) := by decide +kernel
theorem dX8_line_56 : decode cX8_line 56 = .ok (.iload_n 3, 1) := by decide +kernel
theorem dX8_line_57 : decode cX8_line 57 = .ok (.getstatic 188, 3) := by decide +kernel
theorem dX8_line_60 : decode cX8_line 60 = .ok (.iload_n 2, 1) := by decide +kernel
theorem dX8_line_61 : decode cX8_line 61 = .ok (.iaload, 1) := by decide +kernel
theorem dX8_line_62 : decode cX8_line 62 = .ok (.if_icmp .lt 31, 3) := by decide +kernel
theorem dX8_line_65 : decode cX8_line 65 = .ok (.iload 6, 2) := by decide +kernel
theorem dX8_line_67 : decode cX8_line 67 = .ok (.ifCond .eq 17, 3) := by decide +kernel
theorem dX8_line_70 : decode cX8_line 70 = .ok (.iload_n 3, 1) := by decide +kernel
theorem dX8_line_71 : decode cX8_line 71 = .ok (.aload_n 0, 1) := by decide +kernel
theorem dX8_line_72 : decode cX8_line 72 = .ok (.getfield 19, 3) := by decide +kernel
theorem dX8_line_75 : decode cX8_line 75 = .ok (.getfield 64, 3) := by decide +kernel
theorem dX8_line_78 : decode cX8_line 78 = .ok (.if_icmp .lt 17, 3) := by decide +kernel
theorem dX8_line_81 : decode cX8_line 81 = .ok (.goto 12, 3) := by decide +kernel
theorem dX8_line_84 : decode cX8_line 84 = .ok (.iload_n 3, 1) := by decide +kernel
theorem dX8_line_85 : decode cX8_line 85 = .ok (.getstatic 191, 3) := by decide +kernel
theorem dX8_line_88 : decode cX8_line 88 = .ok (.iload_n 2, 1) := by decide +kernel
theorem dX8_line_89 : decode cX8_line 89 = .ok (.iaload, 1) := by decide +kernel
theorem dX8_line_90 : decode cX8_line 90 = .ok (.if_icmp .le 5, 3) := by decide +kernel
theorem dX8_line_93 : decode cX8_line 93 = .ok (.iconst (-1), 1) := by decide +kernel
theorem dX8_line_94 : decode cX8_line 94 = .ok (.ireturn, 1) := by decide +kernel
theorem dX8_line_95 : decode cX8_line 95 = .ok (.aload 5, 2) := by decide +kernel
theorem dX8_line_97 : decode cX8_line 97 = .ok (.getfield 181, 3) := by decide +kernel
theorem dX8_line_100 : decode cX8_line 100 = .ok (.bipush 10, 2) := by decide +kernel
theorem dX8_line_102 : decode cX8_line 102 = .ok (.if_icmp .lt 6, 3) := by decide +kernel
theorem dX8_line_105 : decode cX8_line 105 = .ok (.bipush (-2), 2) := by decide +kernel
theorem dX8_line_107 : decode cX8_line 107 = .ok (.ireturn, 1) := by decide +kernel
theorem dX8_line_108 : decode cX8_line 108 = .ok (.aload 5, 2) := by decide +kernel
theorem dX8_line_110 : decode cX8_line 110 = .ok (.iload_n 2, 1) := by decide +kernel
theorem dX8_line_111 : decode cX8_line 111 = .ok (.iload_n 3, 1) := by decide +kernel
theorem dX8_line_112 : decode cX8_line 112 = .ok (.iload 4, 2) := by decide +kernel
theorem dX8_line_114 : decode cX8_line 114 = .ok (.invokevirtual 194, 3) := by decide +kernel
theorem dX8_line_117 : decode cX8_line 117 = .ok (.aload 5, 2) := by decide +kernel
theorem dX8_line_119 : decode cX8_line 119 = .ok (.getfield 181, 3) := by decide +kernel
theorem dX8_line_122 : decode cX8_line 122 = .ok (.iconst 1, 1) := by decide +kernel
theorem dX8_line_123 : decode cX8_line 123 = .ok (.isub, 1) := by decide +kernel
theorem dX8_line_124 : decode cX8_line 124 = .ok (.ireturn, 1) := by decide +kernel
theorem dX8_mix_0 : decode cX8_mix 0 = .ok (.aload_n 0, 1) := by decide +kernel
theorem dX8_mix_1 : decode cX8_mix 1 = .ok (.iload_n 1, 1) := by decide +kernel
theorem dX8_mix_2 : decode cX8_mix 2 = .ok (.invokevirtual 177, 3) := by decide +kernel
theorem dX8_mix_5 : decode cX8_mix 5 = .ok (.astore_n 2, 1) := by decide +kernel
theorem dX8_mix_6 : decode cX8_mix 6 = .ok (.aload_n 2, 1) := by decide +kernel
theorem dX8_mix_7 : decode cX8_mix 7 = .ok (.ifnonnull 5, 3) := by decide +kernel
theorem dX8_mix_10 : decode cX8_mix 10 = .ok (.iconst (-1), 1) := by decide +kernel
theorem dX8_mix_11 : decode cX8_mix 11 = .ok (.ireturn, 1) := by decide +kernel
theorem dX8_mix_12 : decode cX8_mix 12 = .ok (.aload_n 2, 1) := by decide +kernel
theorem dX8_mix_13 : decode cX8_mix 13 = .ok (.getfield 198, 3) := by decide +kernel
theorem dX8_mix_16 : decode cX8_mix 16 = .ok (.iconst (-1), 1) := by decide +kernel
theorem dX8_mix_17 : decode cX8_mix 17 = .ok (.if_icmp .ne 8, 3) := by decide +kernel
theorem dX8_mix_20 : decode cX8_mix 20 = .ok (.bipush (-6), 2) := by decide +kernel
theorem dX8_mix_22 : decode cX8_mix 22 = .ok (.goto 7, 3) := by decide +kernel
theorem dX8_mix_25 : decode cX8_mix 25 = .ok (.aload_n 2, 1) := by decide +kernel
theorem dX8_mix_26 : decode cX8_mix 26 = .ok (.getfield 198, 3) := by decide +kernel
theorem dX8_mix_29 : decode cX8_mix 29 = .ok (.ireturn, 1) := by decide +kernel
theorem dX8_kind_0 : decode cX8_kind 0 = .ok (.aload_n 0, 1) := by decide +kernel
theorem dX8_kind_1 : decode cX8_kind 1 = .ok (.iload_n 1, 1) := by decide +kernel
theorem dX8_kind_2 : decode cX8_kind 2 = .ok (.invokevirtual 177, 3) := by decide +kernel
theorem dX8_kind_5 : decode cX8_kind 5 = .ok (.astore_n 2, 1) := by decide +kernel
theorem dX8_kind_6 : decode cX8_kind 6 = .ok (.aload_n 2, 1) := by decide +kernel
theorem dX8_kind_7 : decode cX8_kind 7 = .ok (.ifnonnull 5, 3) := by decide +kernel
theorem dX8_kind_10 : decode cX8_kind 10 = .ok (.iconst (-1), 1) := by decide +kernel
theorem dX8_kind_11 : decode cX8_kind 11 = .ok (.ireturn, 1) := by decide +kernel
theorem dX8_kind_12 : decode cX8_kind 12 = .ok (.aload_n 2, 1) := by decide +kernel
theorem dX8_kind_13 : decode cX8_kind 13 = .ok (.getfield 198, 3) := by decide +kernel
theorem dX8_kind_16 : decode cX8_kind 16 = .ok (.iconst (-1), 1) := by decide +kernel
theorem dX8_kind_17 : decode cX8_kind 17 = .ok (.if_icmp .ne 10, 3) := by decide +kernel
theorem dX8_kind_20 : decode cX8_kind 20 = .ok (.aload_n 2, 1) := by decide +kernel
theorem dX8_kind_21 : decode cX8_kind 21 = .ok (.getfield 201, 3) := by decide +kernel
theorem dX8_kind_24 : decode cX8_kind 24 = .ok (.goto 5, 3) := by decide +kernel
theorem dX8_kind_27 : decode cX8_kind 27 = .ok (.bipush (-4), 2) := by decide +kernel
theorem dX8_kind_29 : decode cX8_kind 29 = .ok (.ireturn, 1) := by decide +kernel
theorem dX8_run_0 : decode cX8_run 0 = .ok (.aload_n 0, 1) := by decide +kernel
theorem dX8_run_1 : decode cX8_run 1 = .ok (.iload_n 1, 1) := by decide +kernel
theorem dX8_run_2 : decode cX8_run 2 = .ok (.invokevirtual 177, 3) := by decide +kernel
theorem dX8_run_5 : decode cX8_run 5 = .ok (.astore_n 3, 1) := by decide +kernel
theorem dX8_run_6 : decode cX8_run 6 = .ok (.aload_n 3, 1) := by decide +kernel
theorem dX8_run_7 : decode cX8_run 7 = .ok (.ifnull 18, 3) := by decide +kernel
theorem dX8_run_10 : decode cX8_run 10 = .ok (.iload_n 2, 1) := by decide +kernel
theorem dX8_run_11 : decode cX8_run 11 = .ok (.invokestatic 162, 3) := by decide +kernel
theorem dX8_run_14 : decode cX8_run 14 = .ok (.ifCond .eq 11, 3) := by decide +kernel
theorem dX8_run_17 : decode cX8_run 17 = .ok (.aload_n 3, 1) := by decide +kernel
theorem dX8_run_18 : decode cX8_run 18 = .ok (.getfield 198, 3) := by decide +kernel
theorem dX8_run_21 : decode cX8_run 21 = .ok (.iconst (-1), 1) := by decide +kernel
theorem dX8_run_22 : decode cX8_run 22 = .ok (.if_icmp .eq 6, 3) := by decide +kernel
theorem dX8_run_25 : decode cX8_run 25 = .ok (.ldc 204, 2) := by decide +kernel
theorem dX8_run_27 : decode cX8_run 27 = .ok (.ireturn, 1) := by decide +kernel
theorem dX8_run_28 : decode cX8_run 28 = .ok (.aload_n 0, 1) := by decide +kernel
theorem dX8_run_29 : decode cX8_run 29 = .ok (.getfield 19, 3) := by decide +kernel
theorem dX8_run_32 : decode cX8_run 32 = .ok (.aload_n 0, 1) := by decide +kernel
theorem dX8_run_33 : decode cX8_run 33 = .ok (.getfield 56, 3) := by decide +kernel
theorem dX8_run_36 : decode cX8_run 36 = .ok (.invokevirtual 205, 3) := by decide +kernel
theorem dX8_run_39 : decode cX8_run 39 = .ok (.aload_n 0, 1) := by decide +kernel
theorem dX8_run_40 : decode cX8_run 40 = .ok (.getfield 42, 3) := by decide +kernel
theorem dX8_run_43 : decode cX8_run 43 = .ok (.getfield 209, 3) := by decide +kernel
theorem dX8_run_46 : decode cX8_run 46 = .ok (.aload_n 3, 1) := by decide +kernel
theorem dX8_run_47 : decode cX8_run 47 = .ok (.iload_n 2, 1) := by decide +kernel
theorem dX8_run_48 : decode cX8_run 48 = .ok (.invokevirtual 213, 3) := by decide +kernel
theorem dX8_run_51 : decode cX8_run 51 = .ok (.ireturn, 1) := by decide +kernel
theorem dX8_keeps_0 : decode cX8_keeps 0 = .ok (.aload_n 0, 1) := by decide +kernel
theorem dX8_keeps_1 : decode cX8_keeps 1 = .ok (.iload_n 1, 1) := by decide +kernel
theorem dX8_keeps_2 : decode cX8_keeps 2 = .ok (.invokevirtual 177, 3) := by decide +kernel
theorem dX8_keeps_5 : decode cX8_keeps 5 = .ok (.astore 5, 2) := by decide +kernel
theorem dX8_keeps_7 : decode cX8_keeps 7 = .ok (.aload 5, 2) := by decide +kernel
theorem dX8_keeps_9 : decode cX8_keeps 9 = .ok (.ifnull 20, 3) := by decide +kernel
theorem dX8_keeps_12 : decode cX8_keeps 12 = .ok (.aload_n 0, 1) := by decide +kernel
theorem dX8_keeps_13 : decode cX8_keeps 13 = .ok (.iload_n 2, 1) := by decide +kernel
theorem dX8_keeps_14 : decode cX8_keeps 14 = .ok (.iload_n 3, 1) := by decide +kernel
theorem dX8_keeps_15 : decode cX8_keeps 15 = .ok (.invokevirtual 219, 3) := by decide +kernel
theorem dX8_keeps_18 : decode cX8_keeps 18 = .ok (.ifCond .eq 11, 3) := by decide +kernel
theorem dX8_keeps_21 : decode cX8_keeps 21 = .ok (.iload 4, 2) := by decide +kernel
theorem dX8_keeps_23 : decode cX8_keeps 23 = .ok (.invokestatic 162, 3) := by decide +kernel
theorem dX8_keeps_26 : decode cX8_keeps 26 = .ok (.ifCond .ne 5, 3) := by decide +kernel
theorem dX8_keeps_29 : decode cX8_keeps 29 = .ok (.iconst (-1), 1) := by decide +kernel
theorem dX8_keeps_30 : decode cX8_keeps 30 = .ok (.ireturn, 1) := by decide +kernel
theorem dX8_keeps_31 : decode cX8_keeps 31 = .ok (.aload 5, 2) := by decide +kernel
theorem dX8_keeps_33 : decode cX8_keeps 33 = .ok (.getfield 198, 3) := by decide +kernel
theorem dX8_keeps_36 : decode cX8_keeps 36 = .ok (.iconst (-1), 1) := by decide +kernel
theorem dX8_keeps_37 : decode cX8_keeps 37 = .ok (.if_icmp .eq 6, 3) := by decide +kernel
theorem dX8_keeps_40 : decode cX8_keeps 40 = .ok (.bipush (-4), 2) := by decide +kernel
theorem dX8_keeps_42 : decode cX8_keeps 42 = .ok (.ireturn, 1) := by decide +kernel
theorem dX8_keeps_43 : decode cX8_keeps 43 = .ok (.aload_n 0, 1) := by decide +kernel
theorem dX8_keeps_44 : decode cX8_keeps 44 = .ok (.getfield 19, 3) := by decide +kernel
theorem dX8_keeps_47 : decode cX8_keeps 47 = .ok (.aload_n 0, 1) := by decide +kernel
theorem dX8_keeps_48 : decode cX8_keeps 48 = .ok (.getfield 56, 3) := by decide +kernel
theorem dX8_keeps_51 : decode cX8_keeps 51 = .ok (.invokevirtual 205, 3) := by decide +kernel
theorem dX8_keeps_54 : decode cX8_keeps 54 = .ok (.aload_n 0, 1) := by decide +kernel
theorem dX8_keeps_55 : decode cX8_keeps 55 = .ok (.getfield 42, 3) := by decide +kernel
theorem dX8_keeps_58 : decode cX8_keeps 58 = .ok (.iload_n 2, 1) := by decide +kernel
theorem dX8_keeps_59 : decode cX8_keeps 59 = .ok (.bipush 10, 2) := by decide +kernel
theorem dX8_keeps_61 : decode cX8_keeps 61 = .ok (.irem, 1) := by decide +kernel
theorem dX8_keeps_62 : decode cX8_keeps 62 = .ok (.iload_n 2, 1) := by decide +kernel
theorem dX8_keeps_63 : decode cX8_keeps 63 = .ok (.bipush 10, 2) := by decide +kernel
theorem dX8_keeps_65 : decode cX8_keeps 65 = .ok (.idiv, 1) := by decide +kernel
theorem dX8_keeps_66 : decode cX8_keeps 66 = .ok (.iload_n 3, 1) := by decide +kernel
theorem dX8_keeps_67 : decode cX8_keeps 67 = .ok (.invokevirtual 223, 3) := by decide +kernel
theorem dX8_keeps_70 : decode cX8_keeps 70 = .ok (.aload_n 0, 1) := by decide +kernel
theorem dX8_keeps_71 : decode cX8_keeps 71 = .ok (.getfield 42, 3) := by decide +kernel
theorem dX8_keeps_74 : decode cX8_keeps 74 = .ok (.aload 5, 2) := by decide +kernel
theorem dX8_keeps_76 : decode cX8_keeps 76 = .ok (.getfield 201, 3) := by decide +kernel
theorem dX8_keeps_79 : decode cX8_keeps 79 = .ok (.aload_n 0, 1) := by decide +kernel
theorem dX8_keeps_80 : decode cX8_keeps 80 = .ok (.getfield 42, 3) := by decide +kernel
theorem dX8_keeps_83 : decode cX8_keeps 83 = .ok (.getfield 209, 3) := by decide +kernel
theorem dX8_keeps_86 : decode cX8_keeps 86 = .ok (.aload 5, 2) := by decide +kernel
theorem dX8_keeps_88 : decode cX8_keeps 88 = .ok (.iload 4, 2) := by decide +kernel
theorem dX8_keeps_90 : decode cX8_keeps 90 = .ok (.invokevirtual 213, 3) := by decide +kernel
theorem dX8_keeps_93 : decode cX8_keeps 93 = .ok (.iload 4, 2) := by decide +kernel
theorem dX8_keeps_95 : decode cX8_keeps 95 = .ok (.invokevirtual 226, 3) := by decide +kernel
theorem dX8_keeps_98 : decode cX8_keeps 98 = .ok (.ifCond .eq 7, 3) := by decide +kernel
theorem dX8_keeps_101 : decode cX8_keeps 101 = .ok (.iconst 1, 1) := by decide +kernel
theorem dX8_keeps_102 : decode cX8_keeps 102 = .ok (.goto 4, 3) := by decide +kernel
theorem dX8_keeps_105 : decode cX8_keeps 105 = .ok (.iconst 0, 1) := by decide +kernel
theorem dX8_keeps_106 : decode cX8_keeps 106 = .ok (.ireturn, 1) := by decide +kernel
theorem dX8_odds_0 : decode cX8_odds 0 = .ok (.iload_n 1, 1) := by decide +kernel
theorem dX8_odds_1 : decode cX8_odds 1 = .ok (.iload_n 2, 1) := by decide +kernel
theorem dX8_odds_2 : decode cX8_odds 2 = .ok (.invokestatic 230, 3) := by decide +kernel
theorem dX8_odds_5 : decode cX8_odds 5 = .ok (.ifCond .ne 5, 3) := by decide +kernel
theorem dX8_odds_8 : decode cX8_odds 8 = .ok (.iconst (-1), 1) := by decide +kernel
theorem dX8_odds_9 : decode cX8_odds 9 = .ok (.ireturn, 1) := by decide +kernel
theorem dX8_odds_10 : decode cX8_odds 10 = .ok (.aload_n 0, 1) := by decide +kernel
theorem dX8_odds_11 : decode cX8_odds 11 = .ok (.iload_n 1, 1) := by decide +kernel
theorem dX8_odds_12 : decode cX8_odds 12 = .ok (.iload_n 2, 1) := by decide +kernel
theorem dX8_odds_13 : decode cX8_odds 13 = .ok (.invokevirtual 233, 3) := by decide +kernel
theorem dX8_odds_16 : decode cX8_odds 16 = .ok (.aload_n 0, 1) := by decide +kernel
theorem dX8_odds_17 : decode cX8_odds 17 = .ok (.getfield 33, 3) := by decide +kernel
theorem dX8_odds_20 : decode cX8_odds 20 = .ok (.getfield 237, 3) := by decide +kernel
theorem dX8_odds_23 : decode cX8_odds 23 = .ok (.ireturn, 1) := by decide +kernel
theorem dX8_odd_0 : decode cX8_odd 0 = .ok (.iload_n 3, 1) := by decide +kernel
theorem dX8_odd_1 : decode cX8_odd 1 = .ok (.ifCond .lt 11, 3) := by decide +kernel
theorem dX8_odd_4 : decode cX8_odd 4 = .ok (.iload_n 1, 1) := by decide +kernel
theorem dX8_odd_5 : decode cX8_odd 5 = .ok (.iload_n 2, 1) := by decide +kernel
theorem dX8_odd_6 : decode cX8_odd 6 = .ok (.invokestatic 230, 3) := by decide +kernel
theorem dX8_odd_9 : decode cX8_odd 9 = .ok (.ifCond .ne 5, 3) := by decide +kernel
theorem dX8_odd_12 : decode cX8_odd 12 = .ok (.iconst (-1), 1) := by decide +kernel
theorem dX8_odd_13 : decode cX8_odd 13 = .ok (.ireturn, 1) := by decide +kernel
theorem dX8_odd_14 : decode cX8_odd 14 = .ok (.aload_n 0, 1) := by decide +kernel
theorem dX8_odd_15 : decode cX8_odd 15 = .ok (.iload_n 1, 1) := by decide +kernel
theorem dX8_odd_16 : decode cX8_odd 16 = .ok (.iload_n 2, 1) := by decide +kernel
theorem dX8_odd_17 : decode cX8_odd 17 = .ok (.invokevirtual 233, 3) := by decide +kernel
theorem dX8_odd_20 : decode cX8_odd 20 = .ok (.iload_n 3, 1) := by decide +kernel
theorem dX8_odd_21 : decode cX8_odd 21 = .ok (.aload_n 0, 1) := by decide +kernel
theorem dX8_odd_22 : decode cX8_odd 22 = .ok (.getfield 33, 3) := by decide +kernel
theorem dX8_odd_25 : decode cX8_odd 25 = .ok (.getfield 237, 3) := by decide +kernel
theorem dX8_odd_28 : decode cX8_odd 28 = .ok (.if_icmp .ge 15, 3) := by decide +kernel
theorem dX8_odd_31 : decode cX8_odd 31 = .ok (.aload_n 0, 1) := by decide +kernel
theorem dX8_odd_32 : decode cX8_odd 32 = .ok (.getfield 33, 3) := by decide +kernel
theorem dX8_odd_35 : decode cX8_odd 35 = .ok (.getfield 240, 3) := by decide +kernel
theorem dX8_odd_38 : decode cX8_odd 38 = .ok (.iload_n 3, 1) := by decide +kernel
theorem dX8_odd_39 : decode cX8_odd 39 = .ok (.iaload, 1) := by decide +kernel
theorem dX8_odd_40 : decode cX8_odd 40 = .ok (.goto 4, 3) := by decide +kernel
theorem dX8_odd_43 : decode cX8_odd 43 = .ok (.iconst (-1), 1) := by decide +kernel
theorem dX8_odd_44 : decode cX8_odd 44 = .ok (.ireturn, 1) := by decide +kernel
theorem dX8_least_0 : decode cX8_least 0 = .ok (.aload_n 0, 1) := by decide +kernel
theorem dX8_least_1 : decode cX8_least 1 = .ok (.iload_n 1, 1) := by decide +kernel
theorem dX8_least_2 : decode cX8_least 2 = .ok (.invokevirtual 177, 3) := by decide +kernel
theorem dX8_least_5 : decode cX8_least 5 = .ok (.astore 6, 2) := by decide +kernel
theorem dX8_least_7 : decode cX8_least 7 = .ok (.aload 6, 2) := by decide +kernel
theorem dX8_least_9 : decode cX8_least 9 = .ok (.ifnull 24, 3) := by decide +kernel
theorem dX8_least_12 : decode cX8_least 12 = .ok (.aload_n 0, 1) := by decide +kernel
theorem dX8_least_13 : decode cX8_least 13 = .ok (.iload_n 2, 1) := by decide +kernel
theorem dX8_least_14 : decode cX8_least 14 = .ok (.iload_n 3, 1) := by decide +kernel
theorem dX8_least_15 : decode cX8_least 15 = .ok (.invokevirtual 219, 3) := by decide +kernel
theorem dX8_least_18 : decode cX8_least 18 = .ok (.ifCond .eq 15, 3) := by decide +kernel
theorem dX8_least_21 : decode cX8_least 21 = .ok (.iload 4, 2) := by decide +kernel
theorem dX8_least_23 : decode cX8_least 23 = .ok (.iload 5, 2) := by decide +kernel
theorem dX8_least_25 : decode cX8_least 25 = .ok (.ldc 243, 2) := by decide +kernel
theorem dX8_least_27 : decode cX8_least 27 = .ok (.invokestatic 244, 3) := by decide +kernel
theorem dX8_least_30 : decode cX8_least 30 = .ok (.ifCond .ne 5, 3) := by decide +kernel
theorem dX8_least_33 : decode cX8_least 33 = .ok (.iconst (-1), 1) := by decide +kernel
theorem dX8_least_34 : decode cX8_least 34 = .ok (.ireturn, 1) := by decide +kernel
theorem dX8_least_35 : decode cX8_least 35 = .ok (.aload 6, 2) := by decide +kernel
theorem dX8_least_37 : decode cX8_least 37 = .ok (.getfield 198, 3) := by decide +kernel
theorem dX8_least_40 : decode cX8_least 40 = .ok (.iconst (-1), 1) := by decide +kernel
theorem dX8_least_41 : decode cX8_least 41 = .ok (.if_icmp .eq 6, 3) := by decide +kernel
theorem dX8_least_44 : decode cX8_least 44 = .ok (.bipush (-4), 2) := by decide +kernel
theorem dX8_least_46 : decode cX8_least 46 = .ok (.ireturn, 1) := by decide +kernel
theorem dX8_least_47 : decode cX8_least 47 = .ok (.aload_n 0, 1) := by decide +kernel
theorem dX8_least_48 : decode cX8_least 48 = .ok (.iload 4, 2) := by decide +kernel
theorem dX8_least_50 : decode cX8_least 50 = .ok (.iload 4, 2) := by decide +kernel
theorem dX8_least_52 : decode cX8_least 52 = .ok (.iload 5, 2) := by decide +kernel
theorem dX8_least_54 : decode cX8_least 54 = .ok (.iadd, 1) := by decide +kernel
theorem dX8_least_55 : decode cX8_least 55 = .ok (.invokevirtual 233, 3) := by decide +kernel
theorem dX8_least_58 : decode cX8_least 58 = .ok (.aload_n 0, 1) := by decide +kernel
theorem dX8_least_59 : decode cX8_least 59 = .ok (.getfield 42, 3) := by decide +kernel
theorem dX8_least_62 : decode cX8_least 62 = .ok (.iload_n 2, 1) := by decide +kernel
theorem dX8_least_63 : decode cX8_least 63 = .ok (.bipush 10, 2) := by decide +kernel
theorem dX8_least_65 : decode cX8_least 65 = .ok (.irem, 1) := by decide +kernel
theorem dX8_least_66 : decode cX8_least 66 = .ok (.iload_n 2, 1) := by decide +kernel
theorem dX8_least_67 : decode cX8_least 67 = .ok (.bipush 10, 2) := by decide +kernel
theorem dX8_least_69 : decode cX8_least 69 = .ok (.idiv, 1) := by decide +kernel
theorem dX8_least_70 : decode cX8_least 70 = .ok (.iload_n 3, 1) := by decide +kernel
theorem dX8_least_71 : decode cX8_least 71 = .ok (.invokevirtual 223, 3) := by decide +kernel
theorem dX8_least_74 : decode cX8_least 74 = .ok (.aload_n 0, 1) := by decide +kernel
theorem dX8_least_75 : decode cX8_least 75 = .ok (.getfield 42, 3) := by decide +kernel
theorem dX8_least_78 : decode cX8_least 78 = .ok (.aload 6, 2) := by decide +kernel
theorem dX8_least_80 : decode cX8_least 80 = .ok (.invokevirtual 247, 3) := by decide +kernel
theorem dX8_least_83 : decode cX8_least 83 = .ok (.istore 7, 2) := by decide +kernel
theorem dX8_least_85 : decode cX8_least 85 = .ok (.iload 7, 2) := by decide +kernel
theorem dX8_least_87 : decode cX8_least 87 = .ok (.iconst (-1), 1) := by decide +kernel
theorem dX8_least_88 : decode cX8_least 88 = .ok (.if_icmp .ne 8, 3) := by decide +kernel
theorem dX8_least_91 : decode cX8_least 91 = .ok (.bipush (-6), 2) := by decide +kernel
theorem dX8_least_93 : decode cX8_least 93 = .ok (.goto 5, 3) := by decide +kernel
theorem dX8_least_96 : decode cX8_least 96 = .ok (.iload 7, 2) := by decide +kernel
theorem dX8_least_98 : decode cX8_least 98 = .ok (.ireturn, 1) := by decide +kernel
theorem dX8_mend_0 : decode cX8_mend 0 = .ok (.aload_n 0, 1) := by decide +kernel
theorem dX8_mend_1 : decode cX8_mend 1 = .ok (.iload_n 1, 1) := by decide +kernel
theorem dX8_mend_2 : decode cX8_mend 2 = .ok (.invokevirtual 177, 3) := by decide +kernel
theorem dX8_mend_5 : decode cX8_mend 5 = .ok (.astore 6, 2) := by decide +kernel
theorem dX8_mend_7 : decode cX8_mend 7 = .ok (.aload 6, 2) := by decide +kernel
theorem dX8_mend_9 : decode cX8_mend 9 = .ok (.ifnull 24, 3) := by decide +kernel
theorem dX8_mend_12 : decode cX8_mend 12 = .ok (.aload_n 0, 1) := by decide +kernel
theorem dX8_mend_13 : decode cX8_mend 13 = .ok (.iload_n 2, 1) := by decide +kernel
theorem dX8_mend_14 : decode cX8_mend 14 = .ok (.iload_n 3, 1) := by decide +kernel
theorem dX8_mend_15 : decode cX8_mend 15 = .ok (.invokevirtual 219, 3) := by decide +kernel
theorem dX8_mend_18 : decode cX8_mend 18 = .ok (.ifCond .eq 15, 3) := by decide +kernel
theorem dX8_mend_21 : decode cX8_mend 21 = .ok (.iload 4, 2) := by decide +kernel
theorem dX8_mend_23 : decode cX8_mend 23 = .ok (.iload 5, 2) := by decide +kernel
theorem dX8_mend_25 : decode cX8_mend 25 = .ok (.ldc 251, 2) := by decide +kernel
theorem dX8_mend_27 : decode cX8_mend 27 = .ok (.invokestatic 244, 3) := by decide +kernel
theorem dX8_mend_30 : decode cX8_mend 30 = .ok (.ifCond .ne 5, 3) := by decide +kernel
theorem dX8_mend_33 : decode cX8_mend 33 = .ok (.iconst (-1), 1) := by decide +kernel
theorem dX8_mend_34 : decode cX8_mend 34 = .ok (.ireturn, 1) := by decide +kernel
theorem dX8_mend_35 : decode cX8_mend 35 = .ok (.aload_n 0, 1) := by decide +kernel
theorem dX8_mend_36 : decode cX8_mend 36 = .ok (.iload 4, 2) := by decide +kernel
theorem dX8_mend_38 : decode cX8_mend 38 = .ok (.iload 4, 2) := by decide +kernel
theorem dX8_mend_40 : decode cX8_mend 40 = .ok (.iload 5, 2) := by decide +kernel
theorem dX8_mend_42 : decode cX8_mend 42 = .ok (.iadd, 1) := by decide +kernel
theorem dX8_mend_43 : decode cX8_mend 43 = .ok (.invokevirtual 233, 3) := by decide +kernel
theorem dX8_mend_46 : decode cX8_mend 46 = .ok (.aload_n 0, 1) := by decide +kernel
theorem dX8_mend_47 : decode cX8_mend 47 = .ok (.getfield 42, 3) := by decide +kernel
theorem dX8_mend_50 : decode cX8_mend 50 = .ok (.iload_n 2, 1) := by decide +kernel
theorem dX8_mend_51 : decode cX8_mend 51 = .ok (.bipush 10, 2) := by decide +kernel
theorem dX8_mend_53 : decode cX8_mend 53 = .ok (.irem, 1) := by decide +kernel
theorem dX8_mend_54 : decode cX8_mend 54 = .ok (.iload_n 2, 1) := by decide +kernel
theorem dX8_mend_55 : decode cX8_mend 55 = .ok (.bipush 10, 2) := by decide +kernel
theorem dX8_mend_57 : decode cX8_mend 57 = .ok (.idiv, 1) := by decide +kernel
theorem dX8_mend_58 : decode cX8_mend 58 = .ok (.iload_n 3, 1) := by decide +kernel
theorem dX8_mend_59 : decode cX8_mend 59 = .ok (.invokevirtual 223, 3) := by decide +kernel
theorem dX8_mend_62 : decode cX8_mend 62 = .ok (.aload_n 0, 1) := by decide +kernel
theorem dX8_mend_63 : decode cX8_mend 63 = .ok (.getfield 51, 3) := by decide +kernel
theorem dX8_mend_66 : decode cX8_mend 66 = .ok (.aload 6, 2) := by decide +kernel
theorem dX8_mend_68 : decode cX8_mend 68 = .ok (.invokevirtual 252, 3) := by decide +kernel
theorem dX8_mend_71 : decode cX8_mend 71 = .ok (.istore 7, 2) := by decide +kernel
theorem dX8_mend_73 : decode cX8_mend 73 = .ok (.iload 7, 2) := by decide +kernel
theorem dX8_mend_75 : decode cX8_mend 75 = .ok (.iconst (-1), 1) := by decide +kernel
theorem dX8_mend_76 : decode cX8_mend 76 = .ok (.if_icmp .ne 8, 3) := by decide +kernel
theorem dX8_mend_79 : decode cX8_mend 79 = .ok (.bipush (-6), 2) := by decide +kernel
theorem dX8_mend_81 : decode cX8_mend 81 = .ok (.goto 5, 3) := by decide +kernel
theorem dX8_mend_84 : decode cX8_mend 84 = .ok (.iload 7, 2) := by decide +kernel
theorem dX8_mend_86 : decode cX8_mend 86 = .ok (.ireturn, 1) := by decide +kernel
theorem dX8_mended_0 : decode cX8_mended 0 = .ok (.aload_n 0, 1) := by decide +kernel
theorem dX8_mended_1 : decode cX8_mended 1 = .ok (.getfield 51, 3) := by decide +kernel
theorem dX8_mended_4 : decode cX8_mended 4 = .ok (.getfield 255, 3) := by decide +kernel
theorem dX8_mended_7 : decode cX8_mended 7 = .ok (.astore_n 3, 1) := by decide +kernel
theorem dX8_mended_8 : decode cX8_mended 8 = .ok (.iload_n 1, 1) := by decide +kernel
theorem dX8_mended_9 : decode cX8_mended 9 = .ok (.ifCond .lt 20, 3) := by decide +kernel
theorem dX8_mended_12 : decode cX8_mended 12 = .ok (.iload_n 1, 1) := by decide +kernel
theorem dX8_mended_13 : decode cX8_mended 13 = .ok (.aload_n 3, 1) := by decide +kernel
theorem dX8_mended_14 : decode cX8_mended 14 = .ok (.getfield 181, 3) := by decide +kernel
theorem dX8_mended_17 : decode cX8_mended 17 = .ok (.if_icmp .ge 12, 3) := by decide +kernel
theorem dX8_mended_20 : decode cX8_mended 20 = .ok (.iload_n 2, 1) := by decide +kernel
theorem dX8_mended_21 : decode cX8_mended 21 = .ok (.ifCond .lt 8, 3) := by decide +kernel
theorem dX8_mended_24 : decode cX8_mended 24 = .ok (.iload_n 2, 1) := by decide +kernel
theorem dX8_mended_25 : decode cX8_mended 25 = .ok (.iconst 2, 1) := by decide +kernel
theorem dX8_mended_26 : decode cX8_mended 26 = .ok (.if_icmp .le 6, 3) := by decide +kernel
theorem dX8_mended_29 : decode cX8_mended 29 = .ok (.ldc 204, 2) := by decide +kernel
theorem dX8_mended_31 : decode cX8_mended 31 = .ok (.ireturn, 1) := by decide +kernel
theorem dX8_mended_32 : decode cX8_mended 32 = .ok (.iload_n 2, 1) := by decide +kernel
theorem dX8_mended_33 : decode cX8_mended 33 = .ok (.ifCond .ne 10, 3) := by decide +kernel
theorem dX8_mended_36 : decode cX8_mended 36 = .ok (.aload_n 3, 1) := by decide +kernel
theorem dX8_mended_37 : decode cX8_mended 37 = .ok (.getfield 259, 3) := by decide +kernel
theorem dX8_mended_40 : decode cX8_mended 40 = .ok (.iload_n 1, 1) := by decide +kernel
theorem dX8_mended_41 : decode cX8_mended 41 = .ok (.iaload, 1) := by decide +kernel
theorem dX8_mended_42 : decode cX8_mended 42 = .ok (.ireturn, 1) := by decide +kernel
theorem dX8_mended_43 : decode cX8_mended 43 = .ok (.iload_n 2, 1) := by decide +kernel
theorem dX8_mended_44 : decode cX8_mended 44 = .ok (.iconst 1, 1) := by decide +kernel
theorem dX8_mended_45 : decode cX8_mended 45 = .ok (.if_icmp .ne 12, 3) := by decide +kernel
theorem dX8_mended_48 : decode cX8_mended 48 = .ok (.aload_n 3, 1) := by decide +kernel
theorem dX8_mended_49 : decode cX8_mended 49 = .ok (.getfield 262, 3) := by decide +kernel
theorem dX8_mended_52 : decode cX8_mended 52 = .ok (.iload_n 1, 1) := by decide +kernel
theorem dX8_mended_53 : decode cX8_mended 53 = .ok (.iaload, 1) := by decide +kernel
theorem dX8_mended_54 : decode cX8_mended 54 = .ok (.goto 9, 3) := by decide +kernel
theorem dX8_mended_57 : decode cX8_mended 57 = .ok (.aload_n 3, 1) := by decide +kernel
theorem dX8_mended_58 : decode cX8_mended 58 = .ok (.getfield 265, 3) := by decide +kernel
theorem dX8_mended_61 : decode cX8_mended 61 = .ok (.iload_n 1, 1) := by decide +kernel
theorem dX8_mended_62 : decode cX8_mended 62 = .ok (.iaload, 1) := by decide +kernel
theorem dX8_mended_63 : decode cX8_mended 63 = .ok (.ireturn, 1) := by decide +kernel
theorem dX8_meetings_0 : decode cX8_meetings 0 = .ok (.aload_n 0, 1) := by decide +kernel
theorem dX8_meetings_1 : decode cX8_meetings 1 = .ok (.iload_n 1, 1) := by decide +kernel
theorem dX8_meetings_2 : decode cX8_meetings 2 = .ok (.invokevirtual 153, 3) := by decide +kernel
theorem dX8_meetings_5 : decode cX8_meetings 5 = .ok (.astore 6, 2) := by decide +kernel
theorem dX8_meetings_7 : decode cX8_meetings 7 = .ok (.aload 6, 2) := by decide +kernel
theorem dX8_meetings_9 : decode cX8_meetings 9 = .ok (.ifnull 31, 3) := by decide +kernel
theorem dX8_meetings_12 : decode cX8_meetings 12 = .ok (.iload_n 2, 1) := by decide +kernel
theorem dX8_meetings_13 : decode cX8_meetings 13 = .ok (.ifCond .lt 27, 3) := by decide +kernel
theorem dX8_meetings_16 : decode cX8_meetings 16 = .ok (.iload_n 2, 1) := by decide +kernel
theorem dX8_meetings_17 : decode cX8_meetings 17 = .ok (.bipush 10, 2) := by decide +kernel
theorem dX8_meetings_19 : decode cX8_meetings 19 = .ok (.idiv, 1) := by decide +kernel
theorem dX8_meetings_20 : decode cX8_meetings 20 = .ok (.invokestatic 136, 3) := by decide +kernel
theorem dX8_meetings_23 : decode cX8_meetings 23 = .ok (.ifCond .eq 17, 3) := by decide +kernel
theorem dX8_meetings_26 : decode cX8_meetings 26 = .ok (.aload_n 0, 1) := by decide +kernel
theorem dX8_meetings_27 : decode cX8_meetings 27 = .ok (.getfield 12, 3) := by decide +kernel
theorem dX8_meetings_30 : decode cX8_meetings 30 = .ok (.iload_n 2, 1) := by decide +kernel
theorem dX8_meetings_31 : decode cX8_meetings 31 = .ok (.bipush 10, 2) := by decide +kernel
theorem dX8_meetings_33 : decode cX8_meetings 33 = .ok (.irem, 1) := by decide +kernel
theorem dX8_meetings_34 : decode cX8_meetings 34 = .ok (.invokevirtual 116, 3) := by decide +kernel
theorem dX8_meetings_37 : decode cX8_meetings 37 = .ok (.ifCond .ne 5, 3) := by decide +kernel
theorem dX8_meetings_40 : decode cX8_meetings 40 = .ok (.iconst (-1), 1) := by decide +kernel
theorem dX8_meetings_41 : decode cX8_meetings 41 = .ok (.ireturn, 1) := by decide +kernel
theorem dX8_meetings_42 : decode cX8_meetings 42 = .ok (.aload_n 0, 1) := by decide +kernel
theorem dX8_meetings_43 : decode cX8_meetings 43 = .ok (.getfield 12, 3) := by decide +kernel
theorem dX8_meetings_46 : decode cX8_meetings 46 = .ok (.iload_n 3, 1) := by decide +kernel
theorem dX8_meetings_47 : decode cX8_meetings 47 = .ok (.invokevirtual 99, 3) := by decide +kernel
theorem dX8_meetings_50 : decode cX8_meetings 50 = .ok (.ifCond .eq 42, 3) := by decide +kernel
theorem dX8_meetings_53 : decode cX8_meetings 53 = .ok (.aload_n 0, 1) := by decide +kernel
theorem dX8_meetings_54 : decode cX8_meetings 54 = .ok (.getfield 12, 3) := by decide +kernel
theorem dX8_meetings_57 : decode cX8_meetings 57 = .ok (.iload 4, 2) := by decide +kernel
theorem dX8_meetings_59 : decode cX8_meetings 59 = .ok (.invokevirtual 99, 3) := by decide +kernel
theorem dX8_meetings_62 : decode cX8_meetings 62 = .ok (.ifCond .eq 30, 3) := by decide +kernel
theorem dX8_meetings_65 : decode cX8_meetings 65 = .ok (.iload 4, 2) := by decide +kernel
theorem dX8_meetings_67 : decode cX8_meetings 67 = .ok (.iload_n 3, 1) := by decide +kernel
theorem dX8_meetings_68 : decode cX8_meetings 68 = .ok (.if_icmp .lt 24, 3) := by decide +kernel
theorem dX8_meetings_71 : decode cX8_meetings 71 = .ok (.iload 4, 2) := by decide +kernel
theorem dX8_meetings_73 : decode cX8_meetings 73 = .ok (.iload_n 3, 1) := by decide +kernel
theorem dX8_meetings_74 : decode cX8_meetings 74 = .ok (.isub, 1) := by decide +kernel
theorem dX8_meetings_75 : decode cX8_meetings 75 = .ok (.sipush 4000, 3) := by decide +kernel
theorem dX8_meetings_78 : decode cX8_meetings 78 = .ok (.if_icmp .gt 14, 3) := by decide +kernel
theorem dX8_meetings_81 : decode cX8_meetings 81 = .ok (.iload 5, 2) := by decide +kernel
theorem dX8_meetings_83 : decode cX8_meetings 83 = .ok (.ifCond .lt 9, 3) := by decide +kernel
theorem dX8_meetings_86 : decode cX8_meetings 86 = .ok (.iload 5, 2) := by decide +kernel
theorem dX8_meetings_88 : decode cX8_meetings 88 = .ok (.iconst 2, 1) := by decide +kernel
theorem dX8_meetings_89 : decode cX8_meetings 89 = .ok (.if_icmp .le 5, 3) := by decide +kernel
theorem dX8_meetings_92 : decode cX8_meetings 92 = .ok (.iconst (-1), 1) := by decide +kernel
theorem dX8_meetings_93 : decode cX8_meetings 93 = .ok (.ireturn, 1) := by decide +kernel
theorem dX8_meetings_94 : decode cX8_meetings 94 = .ok (.iconst 1, 1) := by decide +kernel
theorem dX8_meetings_95 : decode cX8_meetings 95 = .ok (.aload_n 0, 1) := by decide +kernel
theorem dX8_meetings_96 : decode cX8_meetings 96 = .ok (.getfield 12, 3) := by decide +kernel
theorem dX8_meetings_99 : decode cX8_meetings 99 = .ok (.getfield 83, 3) := by decide +kernel
theorem dX8_meetings_102 : decode cX8_meetings 102 = .ok (.invokestatic 268, 3) := by decide +kernel
theorem dX8_meetings_105 : decode cX8_meetings 105 = .ok (.istore 7, 2) := by decide +kernel
theorem dX8_meetings_107 : decode cX8_meetings 107 = .ok (.iload_n 3, 1) := by decide +kernel
theorem dX8_meetings_108 : decode cX8_meetings 108 = .ok (.iload_n 2, 1) := by decide +kernel
theorem dX8_meetings_109 : decode cX8_meetings 109 = .ok (.bipush 10, 2) := by decide +kernel
theorem dX8_meetings_111 : decode cX8_meetings 111 = .ok (.irem, 1) := by decide +kernel
theorem dX8_meetings_112 : decode cX8_meetings 112 = .ok (.aload_n 0, 1) := by decide +kernel
theorem dX8_meetings_113 : decode cX8_meetings 113 = .ok (.getfield 12, 3) := by decide +kernel
theorem dX8_meetings_116 : decode cX8_meetings 116 = .ok (.iload_n 3, 1) := by decide +kernel
theorem dX8_meetings_117 : decode cX8_meetings 117 = .ok (.invokevirtual 102, 3) := by decide +kernel
theorem dX8_meetings_120 : decode cX8_meetings 120 = .ok (.isub, 1) := by decide +kernel
theorem dX8_meetings_121 : decode cX8_meetings 121 = .ok (.iload 7, 2) := by decide +kernel
theorem dX8_meetings_123 : decode cX8_meetings 123 = .ok (.invokestatic 273, 3) := by decide +kernel
theorem dX8_meetings_126 : decode cX8_meetings 126 = .ok (.iadd, 1) := by decide +kernel
theorem dX8_meetings_127 : decode cX8_meetings 127 = .ok (.istore 8, 2) := by decide +kernel
theorem dX8_meetings_129 : decode cX8_meetings 129 = .ok (.iconst 0, 1) := by decide +kernel
theorem dX8_meetings_130 : decode cX8_meetings 130 = .ok (.istore 9, 2) := by decide +kernel
theorem dX8_meetings_132 : decode cX8_meetings 132 = .ok (.iload 8, 2) := by decide +kernel
theorem dX8_meetings_134 : decode cX8_meetings 134 = .ok (.istore 10, 2) := by decide +kernel
theorem dX8_meetings_136 : decode cX8_meetings 136 = .ok (.iload 10, 2) := by decide +kernel
theorem dX8_meetings_138 : decode cX8_meetings 138 = .ok (.iload 4, 2) := by decide +kernel
theorem dX8_meetings_140 : decode cX8_meetings 140 = .ok (.if_icmp .gt 65, 3) := by decide +kernel
theorem dX8_meetings_143 : decode cX8_meetings 143 = .ok (.iload 5, 2) := by decide +kernel
theorem dX8_meetings_145 : decode cX8_meetings 145 = .ok (.iconst 2, 1) := by decide +kernel
theorem dX8_meetings_146 : decode cX8_meetings 146 = .ok (.if_icmp .ne 9, 3) := by decide +kernel
theorem dX8_meetings_149 : decode cX8_meetings 149 = .ok (.iinc 9 1, 3) := by decide +kernel
theorem dX8_meetings_152 : decode cX8_meetings 152 = .ok (.goto 43, 3) := by decide +kernel
theorem dX8_meetings_155 : decode cX8_meetings 155 = .ok (.aload 6, 2) := by decide +kernel
theorem dX8_meetings_157 : decode cX8_meetings 157 = .ok (.iload 10, 2) := by decide +kernel
theorem dX8_meetings_159 : decode cX8_meetings 159 = .ok (.sipush 1440, 3) := by decide +kernel
theorem dX8_meetings_162 : decode cX8_meetings 162 = .ok (.imul, 1) := by decide +kernel
theorem dX8_meetings_163 : decode cX8_meetings 163 = .ok (.iload_n 2, 1) := by decide +kernel
theorem dX8_meetings_164 : decode cX8_meetings 164 = .ok (.bipush 10, 2) := by decide +kernel
theorem dX8_meetings_166 : decode cX8_meetings 166 = .ok (.idiv, 1) := by decide +kernel
theorem dX8_meetings_167 : decode cX8_meetings 167 = .ok (.iadd, 1) := by decide +kernel
theorem dX8_meetings_168 : decode cX8_meetings 168 = .ok (.invokevirtual 171, 3) := by decide +kernel
theorem dX8_meetings_171 : decode cX8_meetings 171 = .ok (.istore 11, 2) := by decide +kernel
theorem dX8_meetings_173 : decode cX8_meetings 173 = .ok (.iload 5, 2) := by decide +kernel
theorem dX8_meetings_175 : decode cX8_meetings 175 = .ok (.ifCond .ne 11, 3) := by decide +kernel
theorem dX8_meetings_178 : decode cX8_meetings 178 = .ok (.iload 11, 2) := by decide +kernel
theorem dX8_meetings_180 : decode cX8_meetings 180 = .ok (.ifCond .ne 15, 3) := by decide +kernel
theorem dX8_meetings_183 : decode cX8_meetings 183 = .ok (.goto 9, 3) := by decide +kernel
theorem dX8_meetings_186 : decode cX8_meetings 186 = .ok (.iload 11, 2) := by decide +kernel
theorem dX8_meetings_188 : decode cX8_meetings 188 = .ok (.iconst 1, 1) := by decide +kernel
theorem dX8_meetings_189 : decode cX8_meetings 189 = .ok (.if_icmp .le 6, 3) := by decide +kernel
theorem dX8_meetings_192 : decode cX8_meetings 192 = .ok (.iinc 9 1, 3) := by decide +kernel
theorem dX8_meetings_195 : decode cX8_meetings 195 = .ok (.iload 10, 2) := by decide +kernel
theorem dX8_meetings_197 : decode cX8_meetings 197 = .ok (.iload 7, 2) := by decide +kernel
theorem dX8_meetings_199 : decode cX8_meetings 199 = .ok (.iadd, 1) := by decide +kernel
theorem dX8_meetings_200 : decode cX8_meetings 200 = .ok (.istore 10, 2) := by decide +kernel
theorem dX8_meetings_202 : decode cX8_meetings 202 = .ok (.goto (-66), 3) := by decide +kernel
theorem dX8_meetings_205 : decode cX8_meetings 205 = .ok (.iload 9, 2) := by decide +kernel
theorem dX8_meetings_207 : decode cX8_meetings 207 = .ok (.ireturn, 1) := by decide +kernel
theorem dX8_count_0 : decode cX8_count 0 = .ok (.iload_n 1, 1) := by decide +kernel
theorem dX8_count_1 : decode cX8_count 1 = .ok (.tableswitch 57 0 3 #[31, 39, 44, 49], 31) := by decide +kernel
theorem dX8_count_32 : decode cX8_count 32 = .ok (.aload_n 0, 1) := by decide +kernel
theorem dX8_count_33 : decode cX8_count 33 = .ok (.getfield 19, 3) := by decide +kernel
theorem dX8_count_36 : decode cX8_count 36 = .ok (.getfield 64, 3) := by decide +kernel
theorem dX8_count_39 : decode cX8_count 39 = .ok (.ireturn, 1) := by decide +kernel
theorem dX8_count_40 : decode cX8_count 40 = .ok (.aload_n 0, 1) := by decide +kernel
theorem dX8_count_41 : decode cX8_count 41 = .ok (.invokevirtual 276, 3) := by decide +kernel
theorem dX8_count_44 : decode cX8_count 44 = .ok (.ireturn, 1) := by decide +kernel
theorem dX8_count_45 : decode cX8_count 45 = .ok (.aload_n 0, 1) := by decide +kernel
theorem dX8_count_46 : decode cX8_count 46 = .ok (.getfield 144, 3) := by decide +kernel
theorem dX8_count_49 : decode cX8_count 49 = .ok (.ireturn, 1) := by decide +kernel
theorem dX8_count_50 : decode cX8_count 50 = .ok (.aload_n 0, 1) := by decide +kernel
theorem dX8_count_51 : decode cX8_count 51 = .ok (.getfield 12, 3) := by decide +kernel
theorem dX8_count_54 : decode cX8_count 54 = .ok (.invokevirtual 280, 3) := by decide +kernel
theorem dX8_count_57 : decode cX8_count 57 = .ok (.ireturn, 1) := by decide +kernel
theorem dX8_count_58 : decode cX8_count 58 = .ok (.iconst (-1), 1) := by decide +kernel
theorem dX8_count_59 : decode cX8_count 59 = .ok (.ireturn, 1) := by decide +kernel
theorem dX8_allLines_0 : decode cX8_allLines 0 = .ok (.iconst 0, 1) := by decide +kernel
theorem dX8_allLines_1 : decode cX8_allLines 1 = .ok (.istore_n 1, 1) := by decide +kernel
theorem dX8_allLines_2 : decode cX8_allLines 2 = .ok (.iconst 0, 1) := by decide +kernel
theorem dX8_allLines_3 : decode cX8_allLines 3 = .ok (.istore_n 2, 1) := by decide +kernel
theorem dX8_allLines_4 : decode cX8_allLines 4 = .ok (.iload_n 2, 1) := by decide +kernel
theorem dX8_allLines_5 : decode cX8_allLines 5 = .ok (.bipush 6, 2) := by decide +kernel
theorem dX8_allLines_7 : decode cX8_allLines 7 = .ok (.if_icmp .ge 31, 3) := by decide +kernel
theorem dX8_allLines_10 : decode cX8_allLines 10 = .ok (.aload_n 0, 1) := by decide +kernel
theorem dX8_allLines_11 : decode cX8_allLines 11 = .ok (.getfield 25, 3) := by decide +kernel
theorem dX8_allLines_14 : decode cX8_allLines 14 = .ok (.iload_n 2, 1) := by decide +kernel
theorem dX8_allLines_15 : decode cX8_allLines 15 = .ok (.aaload, 1) := by decide +kernel
theorem dX8_allLines_16 : decode cX8_allLines 16 = .ok (.astore_n 3, 1) := by decide +kernel
theorem dX8_allLines_17 : decode cX8_allLines 17 = .ok (.iload_n 1, 1) := by decide +kernel
theorem dX8_allLines_18 : decode cX8_allLines 18 = .ok (.aload_n 3, 1) := by decide +kernel
theorem dX8_allLines_19 : decode cX8_allLines 19 = .ok (.ifnonnull 7, 3) := by decide +kernel
theorem dX8_allLines_22 : decode cX8_allLines 22 = .ok (.iconst 0, 1) := by decide +kernel
theorem dX8_allLines_23 : decode cX8_allLines 23 = .ok (.goto 7, 3) := by decide +kernel
theorem dX8_allLines_26 : decode cX8_allLines 26 = .ok (.aload_n 3, 1) := by decide +kernel
theorem dX8_allLines_27 : decode cX8_allLines 27 = .ok (.getfield 181, 3) := by decide +kernel
theorem dX8_allLines_30 : decode cX8_allLines 30 = .ok (.iadd, 1) := by decide +kernel
theorem dX8_allLines_31 : decode cX8_allLines 31 = .ok (.istore_n 1, 1) := by decide +kernel
theorem dX8_allLines_32 : decode cX8_allLines 32 = .ok (.iinc 2 1, 3) := by decide +kernel
theorem dX8_allLines_35 : decode cX8_allLines 35 = .ok (.goto (-31), 3) := by decide +kernel
theorem dX8_allLines_38 : decode cX8_allLines 38 = .ok (.iload_n 1, 1) := by decide +kernel
theorem dX8_allLines_39 : decode cX8_allLines 39 = .ok (.ireturn, 1) := by decide +kernel
theorem dX8_programAt_0 : decode cX8_programAt 0 = .ok (.iload_n 1, 1) := by decide +kernel
theorem dX8_programAt_1 : decode cX8_programAt 1 = .ok (.ifCond .lt 18, 3) := by decide +kernel
theorem dX8_programAt_4 : decode cX8_programAt 4 = .ok (.iload_n 1, 1) := by decide +kernel
theorem dX8_programAt_5 : decode cX8_programAt 5 = .ok (.bipush 6, 2) := by decide +kernel
theorem dX8_programAt_7 : decode cX8_programAt 7 = .ok (.if_icmp .ge 12, 3) := by decide +kernel
theorem dX8_programAt_10 : decode cX8_programAt 10 = .ok (.aload_n 0, 1) := by decide +kernel
theorem dX8_programAt_11 : decode cX8_programAt 11 = .ok (.getfield 25, 3) := by decide +kernel
theorem dX8_programAt_14 : decode cX8_programAt 14 = .ok (.iload_n 1, 1) := by decide +kernel
theorem dX8_programAt_15 : decode cX8_programAt 15 = .ok (.aaload, 1) := by decide +kernel
theorem dX8_programAt_16 : decode cX8_programAt 16 = .ok (.goto 4, 3) := by decide +kernel
theorem dX8_programAt_19 : decode cX8_programAt 19 = .ok (.aconst_null, 1) := by decide +kernel
theorem dX8_programAt_20 : decode cX8_programAt 20 = .ok (.areturn, 1) := by decide +kernel
theorem dX8_freshZone_0 : decode cX8_freshZone 0 = .ok (.aload_n 0, 1) := by decide +kernel
theorem dX8_freshZone_1 : decode cX8_freshZone 1 = .ok (.getfield 19, 3) := by decide +kernel
theorem dX8_freshZone_4 : decode cX8_freshZone 4 = .ok (.iload_n 1, 1) := by decide +kernel
theorem dX8_freshZone_5 : decode cX8_freshZone 5 = .ok (.invokevirtual 132, 3) := by decide +kernel
theorem dX8_freshZone_8 : decode cX8_freshZone 8 = .ok (.astore_n 2, 1) := by decide +kernel
theorem dX8_freshZone_9 : decode cX8_freshZone 9 = .ok (.aload_n 2, 1) := by decide +kernel
theorem dX8_freshZone_10 : decode cX8_freshZone 10 = .ok (.ifnull 11, 3) := by decide +kernel
theorem dX8_freshZone_13 : decode cX8_freshZone 13 = .ok (.aload_n 2, 1) := by decide +kernel
theorem dX8_freshZone_14 : decode cX8_freshZone 14 = .ok (.aload_n 0, 1) := by decide +kernel
theorem dX8_freshZone_15 : decode cX8_freshZone 15 = .ok (.getfield 56, 3) := by decide +kernel
theorem dX8_freshZone_18 : decode cX8_freshZone 18 = .ok (.invokevirtual 283, 3) := by decide +kernel
theorem dX8_freshZone_21 : decode cX8_freshZone 21 = .ok (.aload_n 2, 1) := by decide +kernel
theorem dX8_freshZone_22 : decode cX8_freshZone 22 = .ok (.areturn, 1) := by decide +kernel
theorem dX8_gatherOdds_0 : decode cX8_gatherOdds 0 = .ok (.aload_n 0, 1) := by decide +kernel
theorem dX8_gatherOdds_1 : decode cX8_gatherOdds 1 = .ok (.getfield 19, 3) := by decide +kernel
theorem dX8_gatherOdds_4 : decode cX8_gatherOdds 4 = .ok (.aload_n 0, 1) := by decide +kernel
theorem dX8_gatherOdds_5 : decode cX8_gatherOdds 5 = .ok (.getfield 56, 3) := by decide +kernel
theorem dX8_gatherOdds_8 : decode cX8_gatherOdds 8 = .ok (.invokevirtual 205, 3) := by decide +kernel
theorem dX8_gatherOdds_11 : decode cX8_gatherOdds 11 = .ok (.aload_n 0, 1) := by decide +kernel
theorem dX8_gatherOdds_12 : decode cX8_gatherOdds 12 = .ok (.getfield 33, 3) := by decide +kernel
theorem dX8_gatherOdds_15 : decode cX8_gatherOdds 15 = .ok (.iload_n 1, 1) := by decide +kernel
theorem dX8_gatherOdds_16 : decode cX8_gatherOdds 16 = .ok (.iload_n 2, 1) := by decide +kernel
theorem dX8_gatherOdds_17 : decode cX8_gatherOdds 17 = .ok (.aload_n 0, 1) := by decide +kernel
theorem dX8_gatherOdds_18 : decode cX8_gatherOdds 18 = .ok (.getfield 19, 3) := by decide +kernel
theorem dX8_gatherOdds_21 : decode cX8_gatherOdds 21 = .ok (.aload_n 0, 1) := by decide +kernel
theorem dX8_gatherOdds_22 : decode cX8_gatherOdds 22 = .ok (.getfield 12, 3) := by decide +kernel
theorem dX8_gatherOdds_25 : decode cX8_gatherOdds 25 = .ok (.invokevirtual 280, 3) := by decide +kernel
theorem dX8_gatherOdds_28 : decode cX8_gatherOdds 28 = .ok (.invokevirtual 284, 3) := by decide +kernel
theorem dX8_gatherOdds_31 : decode cX8_gatherOdds 31 = .ok (.return_, 1) := by decide +kernel
theorem dX8_isLaw_0 : decode cX8_isLaw 0 = .ok (.iload_n 1, 1) := by decide +kernel
theorem dX8_isLaw_1 : decode cX8_isLaw 1 = .ok (.bipush 10, 2) := by decide +kernel
theorem dX8_isLaw_3 : decode cX8_isLaw 3 = .ok (.irem, 1) := by decide +kernel
theorem dX8_isLaw_4 : decode cX8_isLaw 4 = .ok (.istore_n 3, 1) := by decide +kernel
theorem dX8_isLaw_5 : decode cX8_isLaw 5 = .ok (.iload_n 1, 1) := by decide +kernel
theorem dX8_isLaw_6 : decode cX8_isLaw 6 = .ok (.bipush 10, 2) := by decide +kernel
theorem dX8_isLaw_8 : decode cX8_isLaw 8 = .ok (.idiv, 1) := by decide +kernel
theorem dX8_isLaw_9 : decode cX8_isLaw 9 = .ok (.istore 4, 2) := by decide +kernel
theorem dX8_isLaw_11 : decode cX8_isLaw 11 = .ok (.iload_n 1, 1) := by decide +kernel
theorem dX8_isLaw_12 : decode cX8_isLaw 12 = .ok (.ifCond .lt 8, 3) := by decide +kernel
theorem dX8_isLaw_15 : decode cX8_isLaw 15 = .ok (.iload_n 3, 1) := by decide +kernel
theorem dX8_isLaw_16 : decode cX8_isLaw 16 = .ok (.iconst 5, 1) := by decide +kernel
theorem dX8_isLaw_17 : decode cX8_isLaw 17 = .ok (.if_icmp .lt 5, 3) := by decide +kernel
theorem dX8_isLaw_20 : decode cX8_isLaw 20 = .ok (.iconst 0, 1) := by decide +kernel
theorem dX8_isLaw_21 : decode cX8_isLaw 21 = .ok (.ireturn, 1) := by decide +kernel
theorem dX8_isLaw_22 : decode cX8_isLaw 22 = .ok (.iload_n 3, 1) := by decide +kernel
theorem dX8_isLaw_23 : decode cX8_isLaw 23 = .ok (.tableswitch 87 0 3 #[76, 29, 54, 76], 29) := by decide +kernel
theorem dX8_isLaw_52 : decode cX8_isLaw 52 = .ok (.iload 4, 2) := by decide +kernel
theorem dX8_isLaw_54 : decode cX8_isLaw 54 = .ok (.aload_n 0, 1) := by decide +kernel
theorem dX8_isLaw_55 : decode cX8_isLaw 55 = .ok (.getfield 19, 3) := by decide +kernel
theorem dX8_isLaw_58 : decode cX8_isLaw 58 = .ok (.getfield 64, 3) := by decide +kernel
theorem dX8_isLaw_61 : decode cX8_isLaw 61 = .ok (.if_icmp .ge 14, 3) := by decide +kernel
theorem dX8_isLaw_64 : decode cX8_isLaw 64 = .ok (.iload_n 2, 1) := by decide +kernel
theorem dX8_isLaw_65 : decode cX8_isLaw 65 = .ok (.invokestatic 136, 3) := by decide +kernel
theorem dX8_isLaw_68 : decode cX8_isLaw 68 = .ok (.ifCond .eq 7, 3) := by decide +kernel
theorem dX8_isLaw_71 : decode cX8_isLaw 71 = .ok (.iconst 1, 1) := by decide +kernel
theorem dX8_isLaw_72 : decode cX8_isLaw 72 = .ok (.goto 4, 3) := by decide +kernel
theorem dX8_isLaw_75 : decode cX8_isLaw 75 = .ok (.iconst 0, 1) := by decide +kernel
theorem dX8_isLaw_76 : decode cX8_isLaw 76 = .ok (.ireturn, 1) := by decide +kernel
theorem dX8_isLaw_77 : decode cX8_isLaw 77 = .ok (.iload 4, 2) := by decide +kernel
theorem dX8_isLaw_79 : decode cX8_isLaw 79 = .ok (.aload_n 0, 1) := by decide +kernel
theorem dX8_isLaw_80 : decode cX8_isLaw 80 = .ok (.getfield 19, 3) := by decide +kernel
theorem dX8_isLaw_83 : decode cX8_isLaw 83 = .ok (.getfield 64, 3) := by decide +kernel
theorem dX8_isLaw_86 : decode cX8_isLaw 86 = .ok (.if_icmp .ge 11, 3) := by decide +kernel
theorem dX8_isLaw_89 : decode cX8_isLaw 89 = .ok (.iload_n 2, 1) := by decide +kernel
theorem dX8_isLaw_90 : decode cX8_isLaw 90 = .ok (.ifCond .ne 7, 3) := by decide +kernel
theorem dX8_isLaw_93 : decode cX8_isLaw 93 = .ok (.iconst 1, 1) := by decide +kernel
theorem dX8_isLaw_94 : decode cX8_isLaw 94 = .ok (.goto 4, 3) := by decide +kernel
theorem dX8_isLaw_97 : decode cX8_isLaw 97 = .ok (.iconst 0, 1) := by decide +kernel
theorem dX8_isLaw_98 : decode cX8_isLaw 98 = .ok (.ireturn, 1) := by decide +kernel
theorem dX8_isLaw_99 : decode cX8_isLaw 99 = .ok (.iload 4, 2) := by decide +kernel
theorem dX8_isLaw_101 : decode cX8_isLaw 101 = .ok (.ifCond .ne 7, 3) := by decide +kernel
theorem dX8_isLaw_104 : decode cX8_isLaw 104 = .ok (.iconst 1, 1) := by decide +kernel
theorem dX8_isLaw_105 : decode cX8_isLaw 105 = .ok (.goto 4, 3) := by decide +kernel
theorem dX8_isLaw_108 : decode cX8_isLaw 108 = .ok (.iconst 0, 1) := by decide +kernel
theorem dX8_isLaw_109 : decode cX8_isLaw 109 = .ok (.ireturn, 1) := by decide +kernel
theorem dX8_isLaw_110 : decode cX8_isLaw 110 = .ok (.iload 4, 2) := by decide +kernel
theorem dX8_isLaw_112 : decode cX8_isLaw 112 = .ok (.ifCond .ne 11, 3) := by decide +kernel
theorem dX8_isLaw_115 : decode cX8_isLaw 115 = .ok (.iload_n 2, 1) := by decide +kernel
theorem dX8_isLaw_116 : decode cX8_isLaw 116 = .ok (.ifCond .ne 7, 3) := by decide +kernel
theorem dX8_isLaw_119 : decode cX8_isLaw 119 = .ok (.iconst 1, 1) := by decide +kernel
theorem dX8_isLaw_120 : decode cX8_isLaw 120 = .ok (.goto 4, 3) := by decide +kernel
theorem dX8_isLaw_123 : decode cX8_isLaw 123 = .ok (.iconst 0, 1) := by decide +kernel
theorem dX8_isLaw_124 : decode cX8_isLaw 124 = .ok (.ireturn, 1) := by decide +kernel
theorem dX8_isYear_0 : decode cX8_isYear 0 = .ok (.iload_n 0, 1) := by decide +kernel
theorem dX8_isYear_1 : decode cX8_isYear 1 = .ok (.ifCond .lt 13, 3) := by decide +kernel
theorem dX8_isYear_4 : decode cX8_isYear 4 = .ok (.iload_n 0, 1) := by decide +kernel
theorem dX8_isYear_5 : decode cX8_isYear 5 = .ok (.bipush 100, 2) := by decide +kernel
theorem dX8_isYear_7 : decode cX8_isYear 7 = .ok (.if_icmp .ge 7, 3) := by decide +kernel
theorem dX8_isYear_10 : decode cX8_isYear 10 = .ok (.iconst 1, 1) := by decide +kernel
theorem dX8_isYear_11 : decode cX8_isYear 11 = .ok (.goto 4, 3) := by decide +kernel
theorem dX8_isYear_14 : decode cX8_isYear 14 = .ok (.iconst 0, 1) := by decide +kernel
theorem dX8_isYear_15 : decode cX8_isYear 15 = .ok (.ireturn, 1) := by decide +kernel
theorem dX8_isMonth_0 : decode cX8_isMonth 0 = .ok (.iload_n 0, 1) := by decide +kernel
theorem dX8_isMonth_1 : decode cX8_isMonth 1 = .ok (.ifCond .lt 13, 3) := by decide +kernel
theorem dX8_isMonth_4 : decode cX8_isMonth 4 = .ok (.iload_n 0, 1) := by decide +kernel
theorem dX8_isMonth_5 : decode cX8_isMonth 5 = .ok (.bipush 12, 2) := by decide +kernel
theorem dX8_isMonth_7 : decode cX8_isMonth 7 = .ok (.if_icmp .ge 7, 3) := by decide +kernel
theorem dX8_isMonth_10 : decode cX8_isMonth 10 = .ok (.iconst 1, 1) := by decide +kernel
theorem dX8_isMonth_11 : decode cX8_isMonth 11 = .ok (.goto 4, 3) := by decide +kernel
theorem dX8_isMonth_14 : decode cX8_isMonth 14 = .ok (.iconst 0, 1) := by decide +kernel
theorem dX8_isMonth_15 : decode cX8_isMonth 15 = .ok (.ireturn, 1) := by decide +kernel
theorem dX8_isMinute_0 : decode cX8_isMinute 0 = .ok (.iload_n 0, 1) := by decide +kernel
theorem dX8_isMinute_1 : decode cX8_isMinute 1 = .ok (.ifCond .lt 14, 3) := by decide +kernel
theorem dX8_isMinute_4 : decode cX8_isMinute 4 = .ok (.iload_n 0, 1) := by decide +kernel
theorem dX8_isMinute_5 : decode cX8_isMinute 5 = .ok (.sipush 1440, 3) := by decide +kernel
theorem dX8_isMinute_8 : decode cX8_isMinute 8 = .ok (.if_icmp .ge 7, 3) := by decide +kernel
theorem dX8_isMinute_11 : decode cX8_isMinute 11 = .ok (.iconst 1, 1) := by decide +kernel
theorem dX8_isMinute_12 : decode cX8_isMinute 12 = .ok (.goto 4, 3) := by decide +kernel
theorem dX8_isMinute_15 : decode cX8_isMinute 15 = .ok (.iconst 0, 1) := by decide +kernel
theorem dX8_isMinute_16 : decode cX8_isMinute 16 = .ok (.ireturn, 1) := by decide +kernel
theorem dX8_isOffset_0 : decode cX8_isOffset 0 = .ok (.iload_n 0, 1) := by decide +kernel
theorem dX8_isOffset_1 : decode cX8_isOffset 1 = .ok (.sipush (-720), 3) := by decide +kernel
theorem dX8_isOffset_4 : decode cX8_isOffset 4 = .ok (.if_icmp .lt 14, 3) := by decide +kernel
theorem dX8_isOffset_7 : decode cX8_isOffset 7 = .ok (.iload_n 0, 1) := by decide +kernel
theorem dX8_isOffset_8 : decode cX8_isOffset 8 = .ok (.sipush 720, 3) := by decide +kernel
theorem dX8_isOffset_11 : decode cX8_isOffset 11 = .ok (.if_icmp .gt 7, 3) := by decide +kernel
theorem dX8_isOffset_14 : decode cX8_isOffset 14 = .ok (.iconst 1, 1) := by decide +kernel
theorem dX8_isOffset_15 : decode cX8_isOffset 15 = .ok (.goto 4, 3) := by decide +kernel
theorem dX8_isOffset_18 : decode cX8_isOffset 18 = .ok (.iconst 0, 1) := by decide +kernel
theorem dX8_isOffset_19 : decode cX8_isOffset 19 = .ok (.ireturn, 1) := by decide +kernel
theorem dX8_isMoment_0 : decode cX8_isMoment 0 = .ok (.iload_n 0, 1) := by decide +kernel
theorem dX8_isMoment_1 : decode cX8_isMoment 1 = .ok (.ifCond .lt 14, 3) := by decide +kernel
theorem dX8_isMoment_4 : decode cX8_isMoment 4 = .ok (.iload_n 0, 1) := by decide +kernel
theorem dX8_isMoment_5 : decode cX8_isMoment 5 = .ok (.ldc_w 288, 3) := by decide +kernel
theorem dX8_isMoment_8 : decode cX8_isMoment 8 = .ok (.if_icmp .ge 7, 3) := by decide +kernel
theorem dX8_isMoment_11 : decode cX8_isMoment 11 = .ok (.iconst 1, 1) := by decide +kernel
theorem dX8_isMoment_12 : decode cX8_isMoment 12 = .ok (.goto 4, 3) := by decide +kernel
theorem dX8_isMoment_15 : decode cX8_isMoment 15 = .ok (.iconst 0, 1) := by decide +kernel
theorem dX8_isMoment_16 : decode cX8_isMoment 16 = .ok (.ireturn, 1) := by decide +kernel
theorem dX8_isRange_0 : decode cX8_isRange 0 = .ok (.iload_n 0, 1) := by decide +kernel
theorem dX8_isRange_1 : decode cX8_isRange 1 = .ok (.invokestatic 162, 3) := by decide +kernel
theorem dX8_isRange_4 : decode cX8_isRange 4 = .ok (.ifCond .eq 27, 3) := by decide +kernel
theorem dX8_isRange_7 : decode cX8_isRange 7 = .ok (.iload_n 1, 1) := by decide +kernel
theorem dX8_isRange_8 : decode cX8_isRange 8 = .ok (.invokestatic 162, 3) := by decide +kernel
theorem dX8_isRange_11 : decode cX8_isRange 11 = .ok (.ifCond .eq 20, 3) := by decide +kernel
theorem dX8_isRange_14 : decode cX8_isRange 14 = .ok (.iload_n 0, 1) := by decide +kernel
theorem dX8_isRange_15 : decode cX8_isRange 15 = .ok (.iload_n 1, 1) := by decide +kernel
theorem dX8_isRange_16 : decode cX8_isRange 16 = .ok (.if_icmp .gt 15, 3) := by decide +kernel
theorem dX8_isRange_19 : decode cX8_isRange 19 = .ok (.iload_n 1, 1) := by decide +kernel
theorem dX8_isRange_20 : decode cX8_isRange 20 = .ok (.iload_n 0, 1) := by decide +kernel
theorem dX8_isRange_21 : decode cX8_isRange 21 = .ok (.isub, 1) := by decide +kernel
theorem dX8_isRange_22 : decode cX8_isRange 22 = .ok (.ldc 243, 2) := by decide +kernel
theorem dX8_isRange_24 : decode cX8_isRange 24 = .ok (.if_icmp .gt 7, 3) := by decide +kernel
theorem dX8_isRange_27 : decode cX8_isRange 27 = .ok (.iconst 1, 1) := by decide +kernel
theorem dX8_isRange_28 : decode cX8_isRange 28 = .ok (.goto 4, 3) := by decide +kernel
theorem dX8_isRange_31 : decode cX8_isRange 31 = .ok (.iconst 0, 1) := by decide +kernel
theorem dX8_isRange_32 : decode cX8_isRange 32 = .ok (.ireturn, 1) := by decide +kernel
theorem dX8_isReach_0 : decode cX8_isReach 0 = .ok (.iload_n 0, 1) := by decide +kernel
theorem dX8_isReach_1 : decode cX8_isReach 1 = .ok (.invokestatic 162, 3) := by decide +kernel
theorem dX8_isReach_4 : decode cX8_isReach 4 = .ok (.ifCond .eq 25, 3) := by decide +kernel
theorem dX8_isReach_7 : decode cX8_isReach 7 = .ok (.iload_n 1, 1) := by decide +kernel
theorem dX8_isReach_8 : decode cX8_isReach 8 = .ok (.ifCond .lt 21, 3) := by decide +kernel
theorem dX8_isReach_11 : decode cX8_isReach 11 = .ok (.iload_n 1, 1) := by decide +kernel
theorem dX8_isReach_12 : decode cX8_isReach 12 = .ok (.iload_n 2, 1) := by decide +kernel
theorem dX8_isReach_13 : decode cX8_isReach 13 = .ok (.if_icmp .gt 16, 3) := by decide +kernel
theorem dX8_isReach_16 : decode cX8_isReach 16 = .ok (.iload_n 0, 1) := by decide +kernel
theorem dX8_isReach_17 : decode cX8_isReach 17 = .ok (.iload_n 1, 1) := by decide +kernel
theorem dX8_isReach_18 : decode cX8_isReach 18 = .ok (.iadd, 1) := by decide +kernel
theorem dX8_isReach_19 : decode cX8_isReach 19 = .ok (.invokestatic 162, 3) := by decide +kernel
theorem dX8_isReach_22 : decode cX8_isReach 22 = .ok (.ifCond .eq 7, 3) := by decide +kernel
theorem dX8_isReach_25 : decode cX8_isReach 25 = .ok (.iconst 1, 1) := by decide +kernel
theorem dX8_isReach_26 : decode cX8_isReach 26 = .ok (.goto 4, 3) := by decide +kernel
theorem dX8_isReach_29 : decode cX8_isReach 29 = .ok (.iconst 0, 1) := by decide +kernel
theorem dX8_isReach_30 : decode cX8_isReach 30 = .ok (.ireturn, 1) := by decide +kernel
theorem dX8_rest_0 : decode cX8_rest 0 = .ok (.iload_n 1, 1) := by decide +kernel
theorem dX8_rest_1 : decode cX8_rest 1 = .ok (.ifCond .le 11, 3) := by decide +kernel
theorem dX8_rest_4 : decode cX8_rest 4 = .ok (.iload_n 0, 1) := by decide +kernel
theorem dX8_rest_5 : decode cX8_rest 5 = .ok (.iload_n 1, 1) := by decide +kernel
theorem dX8_rest_6 : decode cX8_rest 6 = .ok (.invokestatic 289, 3) := by decide +kernel
theorem dX8_rest_9 : decode cX8_rest 9 = .ok (.goto 4, 3) := by decide +kernel
theorem dX8_rest_12 : decode cX8_rest 12 = .ok (.iconst 0, 1) := by decide +kernel
theorem dX8_rest_13 : decode cX8_rest 13 = .ok (.ireturn, 1) := by decide +kernel
theorem dX9_init_0 : decode cX9_init 0 = .ok (.aload_n 0, 1) := by decide +kernel
theorem dX9_init_1 : decode cX9_init 1 = .ok (.invokespecial 3, 3) := by decide +kernel
theorem dX9_init_4 : decode cX9_init 4 = .ok (.aload_n 0, 1) := by decide +kernel
theorem dX9_init_5 : decode cX9_init 5 = .ok (.bipush 12, 2) := by decide +kernel
theorem dX9_init_7 : decode cX9_init 7 = .ok (.newarray .int, 2) := by decide +kernel
theorem dX9_init_9 : decode cX9_init 9 = .ok (.putfield 9, 3) := by decide +kernel
theorem dX9_init_12 : decode cX9_init 12 = .ok (.aload_n 0, 1) := by decide +kernel
theorem dX9_init_13 : decode cX9_init 13 = .ok (.iconst 4, 1) := by decide +kernel
theorem dX9_init_14 : decode cX9_init 14 = .ok (.putfield 13, 3) := by decide +kernel
theorem dX9_init_17 : decode cX9_init 17 = .ok (.aload_n 0, 1) := by decide +kernel
theorem dX9_init_18 : decode cX9_init 18 = .ok (.bipush 100, 2) := by decide +kernel
theorem dX9_init_20 : decode cX9_init 20 = .ok (.putfield 17, 3) := by decide +kernel
theorem dX9_init_23 : decode cX9_init 23 = .ok (.aload_n 0, 1) := by decide +kernel
theorem dX9_init_24 : decode cX9_init 24 = .ok (.iconst 1, 1) := by decide +kernel
theorem dX9_init_25 : decode cX9_init 25 = .ok (.putfield 20, 3) := by decide +kernel
theorem dX9_init_28 : decode cX9_init 28 = .ok (.aload_n 0, 1) := by decide +kernel
theorem dX9_init_29 : decode cX9_init 29 = .ok (.bipush 7, 2) := by decide +kernel
theorem dX9_init_31 : decode cX9_init 31 = .ok (.putfield 23, 3) := by decide +kernel
theorem dX9_init_34 : decode cX9_init 34 = .ok (.aload_n 0, 1) := by decide +kernel
theorem dX9_init_35 : decode cX9_init 35 = .ok (.sipush 1201, 3) := by decide +kernel
theorem dX9_init_38 : decode cX9_init 38 = .ok (.newarray .int, 2) := by decide +kernel
theorem dX9_init_40 : decode cX9_init 40 = .ok (.putfield 26, 3) := by decide +kernel
theorem dX9_init_43 : decode cX9_init 43 = .ok (.aload_n 0, 1) := by decide +kernel
theorem dX9_init_44 : decode cX9_init 44 = .ok (.iconst 5, 1) := by decide +kernel
theorem dX9_init_45 : decode cX9_init 45 = .ok (.newarray .int, 2) := by decide +kernel
theorem dX9_init_47 : decode cX9_init 47 = .ok (.putfield 29, 3) := by decide +kernel
theorem dX9_init_50 : decode cX9_init 50 = .ok (.aload_n 0, 1) := by decide +kernel
theorem dX9_init_51 : decode cX9_init 51 = .ok (.bipush 40, 2) := by decide +kernel
theorem dX9_init_53 : decode cX9_init 53 = .ok (.newarray .int, 2) := by decide +kernel
theorem dX9_init_55 : decode cX9_init 55 = .ok (.putfield 32, 3) := by decide +kernel
theorem dX9_init_58 : decode cX9_init 58 = .ok (.aload_n 0, 1) := by decide +kernel
theorem dX9_init_59 : decode cX9_init 59 = .ok (.bipush 40, 2) := by decide +kernel
theorem dX9_init_61 : decode cX9_init 61 = .ok (.newarray .int, 2) := by decide +kernel
theorem dX9_init_63 : decode cX9_init 63 = .ok (.putfield 35, 3) := by decide +kernel
theorem dX9_init_66 : decode cX9_init 66 = .ok (.aload_n 0, 1) := by decide +kernel
theorem dX9_init_67 : decode cX9_init 67 = .ok (.bipush 40, 2) := by decide +kernel
theorem dX9_init_69 : decode cX9_init 69 = .ok (.newarray .int, 2) := by decide +kernel
theorem dX9_init_71 : decode cX9_init 71 = .ok (.putfield 38, 3) := by decide +kernel
theorem dX9_init_74 : decode cX9_init 74 = .ok (.aload_n 0, 1) := by decide +kernel
theorem dX9_init_75 : decode cX9_init 75 = .ok (.bipush 40, 2) := by decide +kernel
theorem dX9_init_77 : decode cX9_init 77 = .ok (.newarray .int, 2) := by decide +kernel
theorem dX9_init_79 : decode cX9_init 79 = .ok (.putfield 41, 3) := by decide +kernel
theorem dX9_init_82 : decode cX9_init 82 = .ok (.aload_n 0, 1) := by decide +kernel
theorem dX9_init_83 : decode cX9_init 83 = .ok (.bipush 40, 2) := by decide +kernel
theorem dX9_init_85 : decode cX9_init 85 = .ok (.newarray .int, 2) := by decide +kernel
theorem dX9_init_87 : decode cX9_init 87 = .ok (.putfield 44, 3) := by decide +kernel
theorem dX9_init_90 : decode cX9_init 90 = .ok (.aload_n 0, 1) := by decide +kernel
theorem dX9_init_91 : decode cX9_init 91 = .ok (.bipush 40, 2) := by decide +kernel
theorem dX9_init_93 : decode cX9_init 93 = .ok (.newarray .int, 2) := by decide +kernel
theorem dX9_init_95 : decode cX9_init 95 = .ok (.putfield 47, 3) := by decide +kernel
theorem dX9_init_98 : decode cX9_init 98 = .ok (.aload_n 0, 1) := by decide +kernel
theorem dX9_init_99 : decode cX9_init 99 = .ok (.iconst 5, 1) := by decide +kernel
theorem dX9_init_100 : decode cX9_init 100 = .ok (.newarray .int, 2) := by decide +kernel
theorem dX9_init_102 : decode cX9_init 102 = .ok (.putfield 50, 3) := by decide +kernel
theorem dX9_init_105 : decode cX9_init 105 = .ok (.aload_n 0, 1) := by decide +kernel
theorem dX9_init_106 : decode cX9_init 106 = .ok (.ldc 53, 2) := by decide +kernel
theorem dX9_init_108 : decode cX9_init 108 = .ok (.putfield 54, 3) := by decide +kernel
theorem dX9_init_111 : decode cX9_init 111 = .ok (.aload_n 0, 1) := by decide +kernel
theorem dX9_init_112 : decode cX9_init 112 = .ok (.iconst 5, 1) := by decide +kernel
theorem dX9_init_113 : decode cX9_init 113 = .ok (.newarray .boolean, 2) := by decide +kernel
theorem dX9_init_115 : decode cX9_init 115 = .ok (.putfield 57, 3) := by decide +kernel
theorem dX9_init_118 : decode cX9_init 118 = .ok (.aload_n 0, 1) := by decide +kernel
theorem dX9_init_119 : decode cX9_init 119 = .ok (.sipush 4005, 3) := by decide +kernel
theorem dX9_init_122 : decode cX9_init 122 = .ok (.newarray .int, 2) := by decide +kernel
theorem dX9_init_124 : decode cX9_init 124 = .ok (.putfield 61, 3) := by decide +kernel
theorem dX9_init_127 : decode cX9_init 127 = .ok (.aload_n 0, 1) := by decide +kernel
theorem dX9_init_128 : decode cX9_init 128 = .ok (.sipush 4005, 3) := by decide +kernel
theorem dX9_init_131 : decode cX9_init 131 = .ok (.newarray .int, 2) := by decide +kernel
theorem dX9_init_133 : decode cX9_init 133 = .ok (.putfield 64, 3) := by decide +kernel
theorem dX9_init_136 : decode cX9_init 136 = .ok (.aload_n 0, 1) := by decide +kernel
theorem dX9_init_137 : decode cX9_init 137 = .ok (.iconst 5, 1) := by decide +kernel
theorem dX9_init_138 : decode cX9_init 138 = .ok (.newarray .int, 2) := by decide +kernel
theorem dX9_init_140 : decode cX9_init 140 = .ok (.putfield 67, 3) := by decide +kernel
theorem dX9_init_143 : decode cX9_init 143 = .ok (.aload_n 0, 1) := by decide +kernel
theorem dX9_init_144 : decode cX9_init 144 = .ok (.sipush 800, 3) := by decide +kernel
theorem dX9_init_147 : decode cX9_init 147 = .ok (.newarray .int, 2) := by decide +kernel
theorem dX9_init_149 : decode cX9_init 149 = .ok (.putfield 70, 3) := by decide +kernel
theorem dX9_init_152 : decode cX9_init 152 = .ok (.aload_n 0, 1) := by decide +kernel
theorem dX9_init_153 : decode cX9_init 153 = .ok (.sipush 800, 3) := by decide +kernel
theorem dX9_init_156 : decode cX9_init 156 = .ok (.newarray .int, 2) := by decide +kernel
theorem dX9_init_158 : decode cX9_init 158 = .ok (.putfield 73, 3) := by decide +kernel
theorem dX9_init_161 : decode cX9_init 161 = .ok (.aload_n 0, 1) := by decide +kernel
theorem dX9_init_162 : decode cX9_init 162 = .ok (.bipush 60, 2) := by decide +kernel
theorem dX9_init_164 : decode cX9_init 164 = .ok (.newarray .int, 2) := by decide +kernel
theorem dX9_init_166 : decode cX9_init 166 = .ok (.putfield 76, 3) := by decide +kernel
theorem dX9_init_169 : decode cX9_init 169 = .ok (.aload_n 0, 1) := by decide +kernel
theorem dX9_init_170 : decode cX9_init 170 = .ok (.bipush 60, 2) := by decide +kernel
theorem dX9_init_172 : decode cX9_init 172 = .ok (.newarray .int, 2) := by decide +kernel
theorem dX9_init_174 : decode cX9_init 174 = .ok (.putfield 79, 3) := by decide +kernel
theorem dX9_init_177 : decode cX9_init 177 = .ok (.aload_n 0, 1) := by decide +kernel
theorem dX9_init_178 : decode cX9_init 178 = .ok (.bipush 60, 2) := by decide +kernel
theorem dX9_init_180 : decode cX9_init 180 = .ok (.newarray .int, 2) := by decide +kernel
theorem dX9_init_182 : decode cX9_init 182 = .ok (.putfield 82, 3) := by decide +kernel
theorem dX9_init_185 : decode cX9_init 185 = .ok (.aload_n 0, 1) := by decide +kernel
theorem dX9_init_186 : decode cX9_init 186 = .ok (.bipush 6, 2) := by decide +kernel
theorem dX9_init_188 : decode cX9_init 188 = .ok (.newarray .int, 2) := by decide +kernel
theorem dX9_init_190 : decode cX9_init 190 = .ok (.putfield 85, 3) := by decide +kernel
theorem dX9_init_193 : decode cX9_init 193 = .ok (.aload_n 0, 1) := by decide +kernel
theorem dX9_init_194 : decode cX9_init 194 = .ok (.bipush 10, 2) := by decide +kernel
theorem dX9_init_196 : decode cX9_init 196 = .ok (.newarray .int, 2) := by decide +kernel
theorem dX9_init_198 : decode cX9_init 198 = .ok (.putfield 88, 3) := by decide +kernel
theorem dX9_init_201 : decode cX9_init 201 = .ok (.aload_n 0, 1) := by decide +kernel
theorem dX9_init_202 : decode cX9_init 202 = .ok (.bipush 10, 2) := by decide +kernel
theorem dX9_init_204 : decode cX9_init 204 = .ok (.newarray .int, 2) := by decide +kernel
theorem dX9_init_206 : decode cX9_init 206 = .ok (.putfield 91, 3) := by decide +kernel
theorem dX9_init_209 : decode cX9_init 209 = .ok (.aload_n 0, 1) := by decide +kernel
theorem dX9_init_210 : decode cX9_init 210 = .ok (.bipush 10, 2) := by decide +kernel
theorem dX9_init_212 : decode cX9_init 212 = .ok (.newarray .int, 2) := by decide +kernel
theorem dX9_init_214 : decode cX9_init 214 = .ok (.putfield 94, 3) := by decide +kernel
theorem dX9_init_217 : decode cX9_init 217 = .ok (.aload_n 0, 1) := by decide +kernel
theorem dX9_init_218 : decode cX9_init 218 = .ok (.bipush 8, 2) := by decide +kernel
theorem dX9_init_220 : decode cX9_init 220 = .ok (.newarray .int, 2) := by decide +kernel
theorem dX9_init_222 : decode cX9_init 222 = .ok (.putfield 97, 3) := by decide +kernel
theorem dX9_init_225 : decode cX9_init 225 = .ok (.aload_n 0, 1) := by decide +kernel
theorem dX9_init_226 : decode cX9_init 226 = .ok (.bipush 8, 2) := by decide +kernel
theorem dX9_init_228 : decode cX9_init 228 = .ok (.newarray .int, 2) := by decide +kernel
theorem dX9_init_230 : decode cX9_init 230 = .ok (.putfield 100, 3) := by decide +kernel
theorem dX9_init_233 : decode cX9_init 233 = .ok (.aload_n 0, 1) := by decide +kernel
theorem dX9_init_234 : decode cX9_init 234 = .ok (.bipush 10, 2) := by decide +kernel
theorem dX9_init_236 : decode cX9_init 236 = .ok (.newarray .int, 2) := by decide +kernel
theorem dX9_init_238 : decode cX9_init 238 = .ok (.putfield 103, 3) := by decide +kernel
theorem dX9_init_241 : decode cX9_init 241 = .ok (.aload_n 0, 1) := by decide +kernel
theorem dX9_init_242 : decode cX9_init 242 = .ok (.bipush 10, 2) := by decide +kernel
theorem dX9_init_244 : decode cX9_init 244 = .ok (.newarray .int, 2) := by decide +kernel
theorem dX9_init_246 : decode cX9_init 246 = .ok (.putfield 106, 3) := by decide +kernel
theorem dX9_init_249 : decode cX9_init 249 = .ok (.aload_n 0, 1) := by decide +kernel
theorem dX9_init_250 : decode cX9_init 250 = .ok (.bipush 10, 2) := by decide +kernel
theorem dX9_init_252 : decode cX9_init 252 = .ok (.newarray .int, 2) := by decide +kernel
theorem dX9_init_254 : decode cX9_init 254 = .ok (.putfield 109, 3) := by decide +kernel
theorem dX9_init_257 : decode cX9_init 257 = .ok (.aload_n 0, 1) := by decide +kernel
theorem dX9_init_258 : decode cX9_init 258 = .ok (.ldc 112, 2) := by decide +kernel
theorem dX9_init_260 : decode cX9_init 260 = .ok (.newarray .int, 2) := by decide +kernel
theorem dX9_init_262 : decode cX9_init 262 = .ok (.putfield 113, 3) := by decide +kernel
theorem dX9_init_265 : decode cX9_init 265 = .ok (.iconst 0, 1) := by decide +kernel
theorem dX9_init_266 : decode cX9_init 266 = .ok (.istore_n 1, 1) := by decide +kernel
theorem dX9_init_267 : decode cX9_init 267 = .ok (.iload_n 1, 1) := by decide +kernel
theorem dX9_init_268 : decode cX9_init 268 = .ok (.bipush 12, 2) := by decide +kernel
theorem dX9_init_270 : decode cX9_init 270 = .ok (.if_icmp .ge 17, 3) := by decide +kernel
theorem dX9_init_273 : decode cX9_init 273 = .ok (.aload_n 0, 1) := by decide +kernel
theorem dX9_init_274 : decode cX9_init 274 = .ok (.getfield 9, 3) := by decide +kernel
theorem dX9_init_277 : decode cX9_init 277 = .ok (.iload_n 1, 1) := by decide +kernel
theorem dX9_init_278 : decode cX9_init 278 = .ok (.bipush 30, 2) := by decide +kernel
theorem dX9_init_280 : decode cX9_init 280 = .ok (.iastore, 1) := by decide +kernel
theorem dX9_init_281 : decode cX9_init 281 = .ok (.iinc 1 1, 3) := by decide +kernel
theorem dX9_init_284 : decode cX9_init 284 = .ok (.goto (-17), 3) := by decide +kernel
theorem dX9_init_287 : decode cX9_init 287 = .ok (.return_, 1) := by decide +kernel
theorem dX9_within_0 : decode cX9_within 0 = .ok (.iload_n 0, 1) := by decide +kernel
theorem dX9_within_1 : decode cX9_within 1 = .ok (.iload_n 1, 1) := by decide +kernel
theorem dX9_within_2 : decode cX9_within 2 = .ok (.if_icmp .lt 12, 3) := by decide +kernel
theorem dX9_within_5 : decode cX9_within 5 = .ok (.iload_n 0, 1) := by decide +kernel
theorem dX9_within_6 : decode cX9_within 6 = .ok (.iload_n 2, 1) := by decide +kernel
theorem dX9_within_7 : decode cX9_within 7 = .ok (.if_icmp .gt 7, 3) := by decide +kernel
theorem dX9_within_10 : decode cX9_within 10 = .ok (.iconst 1, 1) := by decide +kernel
theorem dX9_within_11 : decode cX9_within 11 = .ok (.goto 4, 3) := by decide +kernel
theorem dX9_within_14 : decode cX9_within 14 = .ok (.iconst 0, 1) := by decide +kernel
theorem dX9_within_15 : decode cX9_within 15 = .ok (.ireturn, 1) := by decide +kernel
theorem dX9_daysOf_0 : decode cX9_daysOf 0 = .ok (.iload_n 1, 1) := by decide +kernel
theorem dX9_daysOf_1 : decode cX9_daysOf 1 = .ok (.aload_n 0, 1) := by decide +kernel
theorem dX9_daysOf_2 : decode cX9_daysOf 2 = .ok (.getfield 13, 3) := by decide +kernel
theorem dX9_daysOf_5 : decode cX9_daysOf 5 = .ok (.irem, 1) := by decide +kernel
theorem dX9_daysOf_6 : decode cX9_daysOf 6 = .ok (.ifCond .ne 16, 3) := by decide +kernel
theorem dX9_daysOf_9 : decode cX9_daysOf 9 = .ok (.iload_n 1, 1) := by decide +kernel
theorem dX9_daysOf_10 : decode cX9_daysOf 10 = .ok (.aload_n 0, 1) := by decide +kernel
theorem dX9_daysOf_11 : decode cX9_daysOf 11 = .ok (.getfield 17, 3) := by decide +kernel
theorem dX9_daysOf_14 : decode cX9_daysOf 14 = .ok (.irem, 1) := by decide +kernel
theorem dX9_daysOf_15 : decode cX9_daysOf 15 = .ok (.ifCond .eq 7, 3) := by decide +kernel
theorem dX9_daysOf_18 : decode cX9_daysOf 18 = .ok (.iconst 1, 1) := by decide +kernel
theorem dX9_daysOf_19 : decode cX9_daysOf 19 = .ok (.goto 4, 3) := by decide +kernel
theorem dX9_daysOf_22 : decode cX9_daysOf 22 = .ok (.iconst 0, 1) := by decide +kernel
theorem dX9_daysOf_23 : decode cX9_daysOf 23 = .ok (.istore_n 3, 1) := by decide +kernel
theorem dX9_daysOf_24 : decode cX9_daysOf 24 = .ok (.aload_n 0, 1) := by decide +kernel
theorem dX9_daysOf_25 : decode cX9_daysOf 25 = .ok (.getfield 9, 3) := by decide +kernel
theorem dX9_daysOf_28 : decode cX9_daysOf 28 = .ok (.iload_n 2, 1) := by decide +kernel
theorem dX9_daysOf_29 : decode cX9_daysOf 29 = .ok (.iaload, 1) := by decide +kernel
theorem dX9_daysOf_30 : decode cX9_daysOf 30 = .ok (.iload_n 3, 1) := by decide +kernel
theorem dX9_daysOf_31 : decode cX9_daysOf 31 = .ok (.ifCond .eq 15, 3) := by decide +kernel
theorem dX9_daysOf_34 : decode cX9_daysOf 34 = .ok (.iload_n 2, 1) := by decide +kernel
theorem dX9_daysOf_35 : decode cX9_daysOf 35 = .ok (.aload_n 0, 1) := by decide +kernel
theorem dX9_daysOf_36 : decode cX9_daysOf 36 = .ok (.getfield 20, 3) := by decide +kernel
theorem dX9_daysOf_39 : decode cX9_daysOf 39 = .ok (.if_icmp .ne 7, 3) := by decide +kernel
theorem dX9_daysOf_42 : decode cX9_daysOf 42 = .ok (.iconst 1, 1) := by decide +kernel
theorem dX9_daysOf_43 : decode cX9_daysOf 43 = .ok (.goto 4, 3) := by decide +kernel
theorem dX9_daysOf_46 : decode cX9_daysOf 46 = .ok (.iconst 0, 1) := by decide +kernel
theorem dX9_daysOf_47 : decode cX9_daysOf 47 = .ok (.iadd, 1) := by decide +kernel
theorem dX9_daysOf_48 : decode cX9_daysOf 48 = .ok (.ireturn, 1) := by decide +kernel
theorem dX9_countDays_0 : decode cX9_countDays 0 = .ok (.aload_n 0, 1) := by decide +kernel
theorem dX9_countDays_1 : decode cX9_countDays 1 = .ok (.getfield 116, 3) := by decide +kernel
theorem dX9_countDays_4 : decode cX9_countDays 4 = .ok (.ifCond .ne 50, 3) := by decide +kernel
theorem dX9_countDays_7 : decode cX9_countDays 7 = .ok (.iconst 0, 1) := by decide +kernel
theorem dX9_countDays_8 : decode cX9_countDays 8 = .ok (.istore_n 1, 1) := by decide +kernel
theorem dX9_countDays_9 : decode cX9_countDays 9 = .ok (.iload_n 1, 1) := by decide +kernel
theorem dX9_countDays_10 : decode cX9_countDays 10 = .ok (.sipush 1200, 3) := by decide +kernel
theorem dX9_countDays_13 : decode cX9_countDays 13 = .ok (.if_icmp .ge 36, 3) := by decide +kernel
theorem dX9_countDays_16 : decode cX9_countDays 16 = .ok (.aload_n 0, 1) := by decide +kernel
theorem dX9_countDays_17 : decode cX9_countDays 17 = .ok (.getfield 26, 3) := by decide +kernel
theorem dX9_countDays_20 : decode cX9_countDays 20 = .ok (.iload_n 1, 1) := by decide +kernel
theorem dX9_countDays_21 : decode cX9_countDays 21 = .ok (.iconst 1, 1) := by decide +kernel
theorem dX9_countDays_22 : decode cX9_countDays 22 = .ok (.iadd, 1) := by decide +kernel
theorem dX9_countDays_23 : decode cX9_countDays 23 = .ok (.aload_n 0, 1) := by decide +kernel
theorem dX9_countDays_24 : decode cX9_countDays 24 = .ok (.getfield 26, 3) := by decide +kernel
theorem dX9_countDays_27 : decode cX9_countDays 27 = .ok (.iload_n 1, 1) := by decide +kernel
theorem dX9_countDays_28 : decode cX9_countDays 28 = .ok (.iaload, 1) := by decide +kernel
theorem dX9_countDays_29 : decode cX9_countDays 29 = .ok (.aload_n 0, 1) := by decide +kernel
theorem dX9_countDays_30 : decode cX9_countDays 30 = .ok (.iload_n 1, 1) := by decide +kernel
theorem dX9_countDays_31 : decode cX9_countDays 31 = .ok (.bipush 12, 2) := by decide +kernel
theorem dX9_countDays_33 : decode cX9_countDays 33 = .ok (.idiv, 1) := by decide +kernel
theorem dX9_countDays_34 : decode cX9_countDays 34 = .ok (.iload_n 1, 1) := by decide +kernel
theorem dX9_countDays_35 : decode cX9_countDays 35 = .ok (.bipush 12, 2) := by decide +kernel
theorem dX9_countDays_37 : decode cX9_countDays 37 = .ok (.irem, 1) := by decide +kernel
theorem dX9_countDays_38 : decode cX9_countDays 38 = .ok (.invokevirtual 120, 3) := by decide +kernel
theorem dX9_countDays_41 : decode cX9_countDays 41 = .ok (.iadd, 1) := by decide +kernel
theorem dX9_countDays_42 : decode cX9_countDays 42 = .ok (.iastore, 1) := by decide +kernel
theorem dX9_countDays_43 : decode cX9_countDays 43 = .ok (.iinc 1 1, 3) := by decide +kernel
theorem dX9_countDays_46 : decode cX9_countDays 46 = .ok (.goto (-37), 3) := by decide +kernel
theorem dX9_countDays_49 : decode cX9_countDays 49 = .ok (.aload_n 0, 1) := by decide +kernel
theorem dX9_countDays_50 : decode cX9_countDays 50 = .ok (.iconst 1, 1) := by decide +kernel
theorem dX9_countDays_51 : decode cX9_countDays 51 = .ok (.putfield 116, 3) := by decide +kernel
theorem dX9_countDays_54 : decode cX9_countDays 54 = .ok (.return_, 1) := by decide +kernel
theorem dX9_allDays_0 : decode cX9_allDays 0 = .ok (.aload_n 0, 1) := by decide +kernel
theorem dX9_allDays_1 : decode cX9_allDays 1 = .ok (.invokevirtual 124, 3) := by decide +kernel
theorem dX9_allDays_4 : decode cX9_allDays 4 = .ok (.aload_n 0, 1) := by decide +kernel
theorem dX9_allDays_5 : decode cX9_allDays 5 = .ok (.getfield 26, 3) := by decide +kernel
theorem dX9_allDays_8 : decode cX9_allDays 8 = .ok (.sipush 1200, 3) := by decide +kernel
theorem dX9_allDays_11 : decode cX9_allDays 11 = .ok (.iaload, 1) := by decide +kernel
theorem dX9_allDays_12 : decode cX9_allDays 12 = .ok (.ireturn, 1) := by decide +kernel
theorem dX9_isDay_0 : decode cX9_isDay 0 = .ok (.iload_n 1, 1) := by decide +kernel
theorem dX9_isDay_1 : decode cX9_isDay 1 = .ok (.ifCond .lt 15, 3) := by decide +kernel
theorem dX9_isDay_4 : decode cX9_isDay 4 = .ok (.iload_n 1, 1) := by decide +kernel
theorem dX9_isDay_5 : decode cX9_isDay 5 = .ok (.aload_n 0, 1) := by decide +kernel
theorem dX9_isDay_6 : decode cX9_isDay 6 = .ok (.invokevirtual 127, 3) := by decide +kernel
theorem dX9_isDay_9 : decode cX9_isDay 9 = .ok (.if_icmp .ge 7, 3) := by decide +kernel
theorem dX9_isDay_12 : decode cX9_isDay 12 = .ok (.iconst 1, 1) := by decide +kernel
theorem dX9_isDay_13 : decode cX9_isDay 13 = .ok (.goto 4, 3) := by decide +kernel
theorem dX9_isDay_16 : decode cX9_isDay 16 = .ok (.iconst 0, 1) := by decide +kernel
theorem dX9_isDay_17 : decode cX9_isDay 17 = .ok (.ireturn, 1) := by decide +kernel
theorem dX9_month_0 : decode cX9_month 0 = .ok (.iload_n 1, 1) := by decide +kernel
theorem dX9_month_1 : decode cX9_month 1 = .ok (.iconst 0, 1) := by decide +kernel
theorem dX9_month_2 : decode cX9_month 2 = .ok (.bipush 11, 2) := by decide +kernel
theorem dX9_month_4 : decode cX9_month 4 = .ok (.invokestatic 131, 3) := by decide +kernel
theorem dX9_month_7 : decode cX9_month 7 = .ok (.ifCond .eq 13, 3) := by decide +kernel
theorem dX9_month_10 : decode cX9_month 10 = .ok (.iload_n 2, 1) := by decide +kernel
theorem dX9_month_11 : decode cX9_month 11 = .ok (.iconst 1, 1) := by decide +kernel
theorem dX9_month_12 : decode cX9_month 12 = .ok (.bipush 40, 2) := by decide +kernel
theorem dX9_month_14 : decode cX9_month 14 = .ok (.invokestatic 131, 3) := by decide +kernel
theorem dX9_month_17 : decode cX9_month 17 = .ok (.ifCond .ne 5, 3) := by decide +kernel
theorem dX9_month_20 : decode cX9_month 20 = .ok (.iconst (-1), 1) := by decide +kernel
theorem dX9_month_21 : decode cX9_month 21 = .ok (.ireturn, 1) := by decide +kernel
theorem dX9_month_22 : decode cX9_month 22 = .ok (.aload_n 0, 1) := by decide +kernel
theorem dX9_month_23 : decode cX9_month 23 = .ok (.getfield 135, 3) := by decide +kernel
theorem dX9_month_26 : decode cX9_month 26 = .ok (.ifCond .le 6, 3) := by decide +kernel
theorem dX9_month_29 : decode cX9_month 29 = .ok (.bipush (-3), 2) := by decide +kernel
theorem dX9_month_31 : decode cX9_month 31 = .ok (.ireturn, 1) := by decide +kernel
theorem dX9_month_32 : decode cX9_month 32 = .ok (.aload_n 0, 1) := by decide +kernel
theorem dX9_month_33 : decode cX9_month 33 = .ok (.getfield 9, 3) := by decide +kernel
theorem dX9_month_36 : decode cX9_month 36 = .ok (.iload_n 1, 1) := by decide +kernel
theorem dX9_month_37 : decode cX9_month 37 = .ok (.iaload, 1) := by decide +kernel
theorem dX9_month_38 : decode cX9_month 38 = .ok (.istore_n 3, 1) := by decide +kernel
theorem dX9_month_39 : decode cX9_month 39 = .ok (.aload_n 0, 1) := by decide +kernel
theorem dX9_month_40 : decode cX9_month 40 = .ok (.getfield 9, 3) := by decide +kernel
theorem dX9_month_43 : decode cX9_month 43 = .ok (.iload_n 1, 1) := by decide +kernel
theorem dX9_month_44 : decode cX9_month 44 = .ok (.iload_n 2, 1) := by decide +kernel
theorem dX9_month_45 : decode cX9_month 45 = .ok (.iastore, 1) := by decide +kernel
theorem dX9_month_46 : decode cX9_month 46 = .ok (.aload_n 0, 1) := by decide +kernel
theorem dX9_month_47 : decode cX9_month 47 = .ok (.iconst 0, 1) := by decide +kernel
theorem dX9_month_48 : decode cX9_month 48 = .ok (.putfield 116, 3) := by decide +kernel
theorem dX9_month_51 : decode cX9_month 51 = .ok (.iload_n 3, 1) := by decide +kernel
theorem dX9_month_52 : decode cX9_month 52 = .ok (.ireturn, 1) := by decide +kernel
theorem dX9_leap_0 : decode cX9_leap 0 = .ok (.iload_n 1, 1) := by decide +kernel
theorem dX9_leap_1 : decode cX9_leap 1 = .ok (.iconst 2, 1) := by decide +kernel
theorem dX9_leap_2 : decode cX9_leap 2 = .ok (.bipush 50, 2) := by decide +kernel
theorem dX9_leap_4 : decode cX9_leap 4 = .ok (.invokestatic 131, 3) := by decide +kernel
theorem dX9_leap_7 : decode cX9_leap 7 = .ok (.ifCond .eq 23, 3) := by decide +kernel
theorem dX9_leap_10 : decode cX9_leap 10 = .ok (.iload_n 2, 1) := by decide +kernel
theorem dX9_leap_11 : decode cX9_leap 11 = .ok (.iconst 2, 1) := by decide +kernel
theorem dX9_leap_12 : decode cX9_leap 12 = .ok (.bipush 100, 2) := by decide +kernel
theorem dX9_leap_14 : decode cX9_leap 14 = .ok (.invokestatic 131, 3) := by decide +kernel
theorem dX9_leap_17 : decode cX9_leap 17 = .ok (.ifCond .eq 13, 3) := by decide +kernel
theorem dX9_leap_20 : decode cX9_leap 20 = .ok (.iload_n 3, 1) := by decide +kernel
theorem dX9_leap_21 : decode cX9_leap 21 = .ok (.iconst 0, 1) := by decide +kernel
theorem dX9_leap_22 : decode cX9_leap 22 = .ok (.bipush 11, 2) := by decide +kernel
theorem dX9_leap_24 : decode cX9_leap 24 = .ok (.invokestatic 131, 3) := by decide +kernel
theorem dX9_leap_27 : decode cX9_leap 27 = .ok (.ifCond .ne 5, 3) := by decide +kernel
theorem dX9_leap_30 : decode cX9_leap 30 = .ok (.iconst (-1), 1) := by decide +kernel
theorem dX9_leap_31 : decode cX9_leap 31 = .ok (.ireturn, 1) := by decide +kernel
theorem dX9_leap_32 : decode cX9_leap 32 = .ok (.aload_n 0, 1) := by decide +kernel
theorem dX9_leap_33 : decode cX9_leap 33 = .ok (.getfield 135, 3) := by decide +kernel
theorem dX9_leap_36 : decode cX9_leap 36 = .ok (.ifCond .le 6, 3) := by decide +kernel
theorem dX9_leap_39 : decode cX9_leap 39 = .ok (.bipush (-3), 2) := by decide +kernel
theorem dX9_leap_41 : decode cX9_leap 41 = .ok (.ireturn, 1) := by decide +kernel
theorem dX9_leap_42 : decode cX9_leap 42 = .ok (.aload_n 0, 1) := by decide +kernel
theorem dX9_leap_43 : decode cX9_leap 43 = .ok (.iload_n 1, 1) := by decide +kernel
theorem dX9_leap_44 : decode cX9_leap 44 = .ok (.putfield 13, 3) := by decide +kernel
theorem dX9_leap_47 : decode cX9_leap 47 = .ok (.aload_n 0, 1) := by decide +kernel
theorem dX9_leap_48 : decode cX9_leap 48 = .ok (.iload_n 2, 1) := by decide +kernel
theorem dX9_leap_49 : decode cX9_leap 49 = .ok (.putfield 17, 3) := by decide +kernel
theorem dX9_leap_52 : decode cX9_leap 52 = .ok (.aload_n 0, 1) := by decide +kernel
theorem dX9_leap_53 : decode cX9_leap 53 = .ok (.iload_n 3, 1) := by decide +kernel
theorem dX9_leap_54 : decode cX9_leap 54 = .ok (.putfield 20, 3) := by decide +kernel
theorem dX9_leap_57 : decode cX9_leap 57 = .ok (.aload_n 0, 1) := by decide +kernel
theorem dX9_leap_58 : decode cX9_leap 58 = .ok (.iconst 0, 1) := by decide +kernel
theorem dX9_leap_59 : decode cX9_leap 59 = .ok (.putfield 116, 3) := by decide +kernel
theorem dX9_leap_62 : decode cX9_leap 62 = .ok (.iconst 1, 1) := by decide +kernel
theorem dX9_leap_63 : decode cX9_leap 63 = .ok (.ireturn, 1) := by decide +kernel
theorem dX9_week_0 : decode cX9_week 0 = .ok (.iload_n 1, 1) := by decide +kernel
theorem dX9_week_1 : decode cX9_week 1 = .ok (.iconst 2, 1) := by decide +kernel
theorem dX9_week_2 : decode cX9_week 2 = .ok (.bipush 10, 2) := by decide +kernel
theorem dX9_week_4 : decode cX9_week 4 = .ok (.invokestatic 131, 3) := by decide +kernel
theorem dX9_week_7 : decode cX9_week 7 = .ok (.ifCond .eq 13, 3) := by decide +kernel
theorem dX9_week_10 : decode cX9_week 10 = .ok (.iload_n 2, 1) := by decide +kernel
theorem dX9_week_11 : decode cX9_week 11 = .ok (.iconst 0, 1) := by decide +kernel
theorem dX9_week_12 : decode cX9_week 12 = .ok (.bipush 9, 2) := by decide +kernel
theorem dX9_week_14 : decode cX9_week 14 = .ok (.invokestatic 131, 3) := by decide +kernel
theorem dX9_week_17 : decode cX9_week 17 = .ok (.ifCond .ne 5, 3) := by decide +kernel
theorem dX9_week_20 : decode cX9_week 20 = .ok (.iconst (-1), 1) := by decide +kernel
theorem dX9_week_21 : decode cX9_week 21 = .ok (.ireturn, 1) := by decide +kernel
theorem dX9_week_22 : decode cX9_week 22 = .ok (.aload_n 0, 1) := by decide +kernel
theorem dX9_week_23 : decode cX9_week 23 = .ok (.getfield 135, 3) := by decide +kernel
theorem dX9_week_26 : decode cX9_week 26 = .ok (.ifCond .le 6, 3) := by decide +kernel
theorem dX9_week_29 : decode cX9_week 29 = .ok (.bipush (-3), 2) := by decide +kernel
theorem dX9_week_31 : decode cX9_week 31 = .ok (.ireturn, 1) := by decide +kernel
theorem dX9_week_32 : decode cX9_week 32 = .ok (.aload_n 0, 1) := by decide +kernel
theorem dX9_week_33 : decode cX9_week 33 = .ok (.iload_n 1, 1) := by decide +kernel
theorem dX9_week_34 : decode cX9_week 34 = .ok (.putfield 23, 3) := by decide +kernel
theorem dX9_week_37 : decode cX9_week 37 = .ok (.aload_n 0, 1) := by decide +kernel
theorem dX9_week_38 : decode cX9_week 38 = .ok (.iload_n 2, 1) := by decide +kernel
theorem dX9_week_39 : decode cX9_week 39 = .ok (.putfield 138, 3) := by decide +kernel
theorem dX9_week_42 : decode cX9_week 42 = .ok (.iconst 1, 1) := by decide +kernel
theorem dX9_week_43 : decode cX9_week 43 = .ok (.ireturn, 1) := by decide +kernel
theorem dX9_day_0 : decode cX9_day 0 = .ok (.iload_n 1, 1) := by decide +kernel
theorem dX9_day_1 : decode cX9_day 1 = .ok (.iconst 0, 1) := by decide +kernel
theorem dX9_day_2 : decode cX9_day 2 = .ok (.bipush 99, 2) := by decide +kernel
theorem dX9_day_4 : decode cX9_day 4 = .ok (.invokestatic 131, 3) := by decide +kernel
theorem dX9_day_7 : decode cX9_day 7 = .ok (.ifCond .eq 32, 3) := by decide +kernel
theorem dX9_day_10 : decode cX9_day 10 = .ok (.iload_n 2, 1) := by decide +kernel
theorem dX9_day_11 : decode cX9_day 11 = .ok (.ifCond .lt 28, 3) := by decide +kernel
theorem dX9_day_14 : decode cX9_day 14 = .ok (.iload_n 2, 1) := by decide +kernel
theorem dX9_day_15 : decode cX9_day 15 = .ok (.bipush 100, 2) := by decide +kernel
theorem dX9_day_17 : decode cX9_day 17 = .ok (.idiv, 1) := by decide +kernel
theorem dX9_day_18 : decode cX9_day 18 = .ok (.bipush 12, 2) := by decide +kernel
theorem dX9_day_20 : decode cX9_day 20 = .ok (.if_icmp .ge 19, 3) := by decide +kernel
theorem dX9_day_23 : decode cX9_day 23 = .ok (.iload_n 2, 1) := by decide +kernel
theorem dX9_day_24 : decode cX9_day 24 = .ok (.bipush 100, 2) := by decide +kernel
theorem dX9_day_26 : decode cX9_day 26 = .ok (.irem, 1) := by decide +kernel
theorem dX9_day_27 : decode cX9_day 27 = .ok (.aload_n 0, 1) := by decide +kernel
theorem dX9_day_28 : decode cX9_day 28 = .ok (.iload_n 1, 1) := by decide +kernel
theorem dX9_day_29 : decode cX9_day 29 = .ok (.iload_n 2, 1) := by decide +kernel
theorem dX9_day_30 : decode cX9_day 30 = .ok (.bipush 100, 2) := by decide +kernel
theorem dX9_day_32 : decode cX9_day 32 = .ok (.idiv, 1) := by decide +kernel
theorem dX9_day_33 : decode cX9_day 33 = .ok (.invokevirtual 120, 3) := by decide +kernel
theorem dX9_day_36 : decode cX9_day 36 = .ok (.if_icmp .lt 5, 3) := by decide +kernel
theorem dX9_day_39 : decode cX9_day 39 = .ok (.iconst (-1), 1) := by decide +kernel
theorem dX9_day_40 : decode cX9_day 40 = .ok (.ireturn, 1) := by decide +kernel
theorem dX9_day_41 : decode cX9_day 41 = .ok (.aload_n 0, 1) := by decide +kernel
theorem dX9_day_42 : decode cX9_day 42 = .ok (.invokevirtual 124, 3) := by decide +kernel
theorem dX9_day_45 : decode cX9_day 45 = .ok (.aload_n 0, 1) := by decide +kernel
theorem dX9_day_46 : decode cX9_day 46 = .ok (.getfield 26, 3) := by decide +kernel
theorem dX9_day_49 : decode cX9_day 49 = .ok (.bipush 12, 2) := by decide +kernel
theorem dX9_day_51 : decode cX9_day 51 = .ok (.iload_n 1, 1) := by decide +kernel
theorem dX9_day_52 : decode cX9_day 52 = .ok (.imul, 1) := by decide +kernel
theorem dX9_day_53 : decode cX9_day 53 = .ok (.iload_n 2, 1) := by decide +kernel
theorem dX9_day_54 : decode cX9_day 54 = .ok (.bipush 100, 2) := by decide +kernel
theorem dX9_day_56 : decode cX9_day 56 = .ok (.idiv, 1) := by decide +kernel
theorem dX9_day_57 : decode cX9_day 57 = .ok (.iadd, 1) := by decide +kernel
theorem dX9_day_58 : decode cX9_day 58 = .ok (.iaload, 1) := by decide +kernel
theorem dX9_day_59 : decode cX9_day 59 = .ok (.iload_n 2, 1) := by decide +kernel
theorem dX9_day_60 : decode cX9_day 60 = .ok (.bipush 100, 2) := by decide +kernel
theorem dX9_day_62 : decode cX9_day 62 = .ok (.irem, 1) := by decide +kernel
theorem dX9_day_63 : decode cX9_day 63 = .ok (.iadd, 1) := by decide +kernel
theorem dX9_day_64 : decode cX9_day 64 = .ok (.ireturn, 1) := by decide +kernel
theorem dX9_monthOf_0 : decode cX9_monthOf 0 = .ok (.aload_n 0, 1) := by decide +kernel
theorem dX9_monthOf_1 : decode cX9_monthOf 1 = .ok (.invokevirtual 124, 3) := by decide +kernel
theorem dX9_monthOf_4 : decode cX9_monthOf 4 = .ok (.iconst 0, 1) := by decide +kernel
theorem dX9_monthOf_5 : decode cX9_monthOf 5 = .ok (.istore_n 2, 1) := by decide +kernel
theorem dX9_monthOf_6 : decode cX9_monthOf 6 = .ok (.sipush 1199, 3) := by decide +kernel
theorem dX9_monthOf_9 : decode cX9_monthOf 9 = .ok (.istore_n 3, 1) := by decide +kernel
theorem dX9_monthOf_10 : decode cX9_monthOf 10 = .ok (.iload_n 2, 1) := by decide +kernel
theorem dX9_monthOf_11 : decode cX9_monthOf 11 = .ok (.iload_n 3, 1) := by decide +kernel
theorem dX9_monthOf_12 : decode cX9_monthOf 12 = .ok (.if_icmp .ge 37, 3) := by decide +kernel
theorem dX9_monthOf_15 : decode cX9_monthOf 15 = .ok (.iload_n 2, 1) := by decide +kernel
theorem dX9_monthOf_16 : decode cX9_monthOf 16 = .ok (.iload_n 3, 1) := by decide +kernel
theorem dX9_monthOf_17 : decode cX9_monthOf 17 = .ok (.iadd, 1) := by decide +kernel
theorem dX9_monthOf_18 : decode cX9_monthOf 18 = .ok (.iconst 1, 1) := by decide +kernel
theorem dX9_monthOf_19 : decode cX9_monthOf 19 = .ok (.iadd, 1) := by decide +kernel
theorem dX9_monthOf_20 : decode cX9_monthOf 20 = .ok (.iconst 2, 1) := by decide +kernel
theorem dX9_monthOf_21 : decode cX9_monthOf 21 = .ok (.idiv, 1) := by decide +kernel
theorem dX9_monthOf_22 : decode cX9_monthOf 22 = .ok (.istore 4, 2) := by decide +kernel
theorem dX9_monthOf_24 : decode cX9_monthOf 24 = .ok (.aload_n 0, 1) := by decide +kernel
theorem dX9_monthOf_25 : decode cX9_monthOf 25 = .ok (.getfield 26, 3) := by decide +kernel
theorem dX9_monthOf_28 : decode cX9_monthOf 28 = .ok (.iload 4, 2) := by decide +kernel
theorem dX9_monthOf_30 : decode cX9_monthOf 30 = .ok (.iaload, 1) := by decide +kernel
theorem dX9_monthOf_31 : decode cX9_monthOf 31 = .ok (.iload_n 1, 1) := by decide +kernel
theorem dX9_monthOf_32 : decode cX9_monthOf 32 = .ok (.if_icmp .gt 9, 3) := by decide +kernel
theorem dX9_monthOf_35 : decode cX9_monthOf 35 = .ok (.iload 4, 2) := by decide +kernel
theorem dX9_monthOf_37 : decode cX9_monthOf 37 = .ok (.istore_n 2, 1) := by decide +kernel
theorem dX9_monthOf_38 : decode cX9_monthOf 38 = .ok (.goto 8, 3) := by decide +kernel
theorem dX9_monthOf_41 : decode cX9_monthOf 41 = .ok (.iload 4, 2) := by decide +kernel
theorem dX9_monthOf_43 : decode cX9_monthOf 43 = .ok (.iconst 1, 1) := by decide +kernel
theorem dX9_monthOf_44 : decode cX9_monthOf 44 = .ok (.isub, 1) := by decide +kernel
theorem dX9_monthOf_45 : decode cX9_monthOf 45 = .ok (.istore_n 3, 1) := by decide +kernel
theorem dX9_monthOf_46 : decode cX9_monthOf 46 = .ok (.goto (-36), 3) := by decide +kernel
theorem dX9_monthOf_49 : decode cX9_monthOf 49 = .ok (.iload_n 2, 1) := by decide +kernel
theorem dX9_monthOf_50 : decode cX9_monthOf 50 = .ok (.ireturn, 1) := by decide +kernel
theorem dX9_weekday_0 : decode cX9_weekday 0 = .ok (.iload_n 1, 1) := by decide +kernel
theorem dX9_weekday_1 : decode cX9_weekday 1 = .ok (.aload_n 0, 1) := by decide +kernel
theorem dX9_weekday_2 : decode cX9_weekday 2 = .ok (.getfield 138, 3) := by decide +kernel
theorem dX9_weekday_5 : decode cX9_weekday 5 = .ok (.iadd, 1) := by decide +kernel
theorem dX9_weekday_6 : decode cX9_weekday 6 = .ok (.aload_n 0, 1) := by decide +kernel
theorem dX9_weekday_7 : decode cX9_weekday 7 = .ok (.getfield 23, 3) := by decide +kernel
theorem dX9_weekday_10 : decode cX9_weekday 10 = .ok (.irem, 1) := by decide +kernel
theorem dX9_weekday_11 : decode cX9_weekday 11 = .ok (.ireturn, 1) := by decide +kernel
theorem dX9_date_0 : decode cX9_date 0 = .ok (.aload_n 0, 1) := by decide +kernel
theorem dX9_date_1 : decode cX9_date 1 = .ok (.iload_n 1, 1) := by decide +kernel
theorem dX9_date_2 : decode cX9_date 2 = .ok (.invokevirtual 141, 3) := by decide +kernel
theorem dX9_date_5 : decode cX9_date 5 = .ok (.ifCond .ne 5, 3) := by decide +kernel
theorem dX9_date_8 : decode cX9_date 8 = .ok (.iconst (-1), 1) := by decide +kernel
theorem dX9_date_9 : decode cX9_date 9 = .ok (.ireturn, 1) := by decide +kernel
theorem dX9_date_10 : decode cX9_date 10 = .ok (.aload_n 0, 1) := by decide +kernel
theorem dX9_date_11 : decode cX9_date 11 = .ok (.iload_n 1, 1) := by decide +kernel
theorem dX9_date_12 : decode cX9_date 12 = .ok (.invokevirtual 145, 3) := by decide +kernel
theorem dX9_date_15 : decode cX9_date 15 = .ok (.istore_n 3, 1) := by decide +kernel
theorem dX9_date_16 : decode cX9_date 16 = .ok (.iload_n 2, 1) := by decide +kernel
theorem dX9_date_17 : decode cX9_date 17 = .ok (.tableswitch 56 0 3 #[31, 36, 41, 50], 31) := by decide +kernel
theorem dX9_date_48 : decode cX9_date 48 = .ok (.iload_n 3, 1) := by decide +kernel
theorem dX9_date_49 : decode cX9_date 49 = .ok (.bipush 12, 2) := by decide +kernel
theorem dX9_date_51 : decode cX9_date 51 = .ok (.idiv, 1) := by decide +kernel
theorem dX9_date_52 : decode cX9_date 52 = .ok (.ireturn, 1) := by decide +kernel
theorem dX9_date_53 : decode cX9_date 53 = .ok (.iload_n 3, 1) := by decide +kernel
theorem dX9_date_54 : decode cX9_date 54 = .ok (.bipush 12, 2) := by decide +kernel
theorem dX9_date_56 : decode cX9_date 56 = .ok (.irem, 1) := by decide +kernel
theorem dX9_date_57 : decode cX9_date 57 = .ok (.ireturn, 1) := by decide +kernel
theorem dX9_date_58 : decode cX9_date 58 = .ok (.iload_n 1, 1) := by decide +kernel
theorem dX9_date_59 : decode cX9_date 59 = .ok (.aload_n 0, 1) := by decide +kernel
theorem dX9_date_60 : decode cX9_date 60 = .ok (.getfield 26, 3) := by decide +kernel
theorem dX9_date_63 : decode cX9_date 63 = .ok (.iload_n 3, 1) := by decide +kernel
theorem dX9_date_64 : decode cX9_date 64 = .ok (.iaload, 1) := by decide +kernel
theorem dX9_date_65 : decode cX9_date 65 = .ok (.isub, 1) := by decide +kernel
theorem dX9_date_66 : decode cX9_date 66 = .ok (.ireturn, 1) := by decide +kernel
theorem dX9_date_67 : decode cX9_date 67 = .ok (.aload_n 0, 1) := by decide +kernel
theorem dX9_date_68 : decode cX9_date 68 = .ok (.iload_n 1, 1) := by decide +kernel
theorem dX9_date_69 : decode cX9_date 69 = .ok (.invokevirtual 149, 3) := by decide +kernel
theorem dX9_date_72 : decode cX9_date 72 = .ok (.ireturn, 1) := by decide +kernel
theorem dX9_date_73 : decode cX9_date 73 = .ok (.iconst (-1), 1) := by decide +kernel
theorem dX9_date_74 : decode cX9_date 74 = .ok (.ireturn, 1) := by decide +kernel
theorem dX9_later_0 : decode cX9_later 0 = .ok (.aload_n 0, 1) := by decide +kernel
theorem dX9_later_1 : decode cX9_later 1 = .ok (.iload_n 1, 1) := by decide +kernel
theorem dX9_later_2 : decode cX9_later 2 = .ok (.invokevirtual 145, 3) := by decide +kernel
theorem dX9_later_5 : decode cX9_later 5 = .ok (.istore 4, 2) := by decide +kernel
theorem dX9_later_7 : decode cX9_later 7 = .ok (.iload_n 1, 1) := by decide +kernel
theorem dX9_later_8 : decode cX9_later 8 = .ok (.aload_n 0, 1) := by decide +kernel
theorem dX9_later_9 : decode cX9_later 9 = .ok (.getfield 26, 3) := by decide +kernel
theorem dX9_later_12 : decode cX9_later 12 = .ok (.iload 4, 2) := by decide +kernel
theorem dX9_later_14 : decode cX9_later 14 = .ok (.iaload, 1) := by decide +kernel
theorem dX9_later_15 : decode cX9_later 15 = .ok (.isub, 1) := by decide +kernel
theorem dX9_later_16 : decode cX9_later 16 = .ok (.istore 5, 2) := by decide +kernel
theorem dX9_later_18 : decode cX9_later 18 = .ok (.iload 4, 2) := by decide +kernel
theorem dX9_later_20 : decode cX9_later 20 = .ok (.iload_n 2, 1) := by decide +kernel
theorem dX9_later_21 : decode cX9_later 21 = .ok (.iadd, 1) := by decide +kernel
theorem dX9_later_22 : decode cX9_later 22 = .ok (.istore 6, 2) := by decide +kernel
theorem dX9_later_24 : decode cX9_later 24 = .ok (.iload 6, 2) := by decide +kernel
theorem dX9_later_26 : decode cX9_later 26 = .ok (.ifCond .lt 11, 3) := by decide +kernel
theorem dX9_later_29 : decode cX9_later 29 = .ok (.iload 6, 2) := by decide +kernel
theorem dX9_later_31 : decode cX9_later 31 = .ok (.sipush 1200, 3) := by decide +kernel
theorem dX9_later_34 : decode cX9_later 34 = .ok (.if_icmp .lt 5, 3) := by decide +kernel
theorem dX9_later_37 : decode cX9_later 37 = .ok (.iconst (-1), 1) := by decide +kernel
theorem dX9_later_38 : decode cX9_later 38 = .ok (.ireturn, 1) := by decide +kernel
theorem dX9_later_39 : decode cX9_later 39 = .ok (.aload_n 0, 1) := by decide +kernel
theorem dX9_later_40 : decode cX9_later 40 = .ok (.getfield 26, 3) := by decide +kernel
theorem dX9_later_43 : decode cX9_later 43 = .ok (.iload 6, 2) := by decide +kernel
theorem dX9_later_45 : decode cX9_later 45 = .ok (.iconst 1, 1) := by decide +kernel
theorem dX9_later_46 : decode cX9_later 46 = .ok (.iadd, 1) := by decide +kernel
theorem dX9_later_47 : decode cX9_later 47 = .ok (.iaload, 1) := by decide +kernel
theorem dX9_later_48 : decode cX9_later 48 = .ok (.aload_n 0, 1) := by decide +kernel
theorem dX9_later_49 : decode cX9_later 49 = .ok (.getfield 26, 3) := by decide +kernel
theorem dX9_later_52 : decode cX9_later 52 = .ok (.iload 6, 2) := by decide +kernel
theorem dX9_later_54 : decode cX9_later 54 = .ok (.iaload, 1) := by decide +kernel
theorem dX9_later_55 : decode cX9_later 55 = .ok (.isub, 1) := by decide +kernel
theorem dX9_later_56 : decode cX9_later 56 = .ok (.istore 7, 2) := by decide +kernel
theorem dX9_later_58 : decode cX9_later 58 = .ok (.iload 5, 2) := by decide +kernel
theorem dX9_later_60 : decode cX9_later 60 = .ok (.iload 7, 2) := by decide +kernel
theorem dX9_later_62 : decode cX9_later 62 = .ok (.if_icmp .ge 14, 3) := by decide +kernel
theorem dX9_later_65 : decode cX9_later 65 = .ok (.aload_n 0, 1) := by decide +kernel
theorem dX9_later_66 : decode cX9_later 66 = .ok (.getfield 26, 3) := by decide +kernel
theorem dX9_later_69 : decode cX9_later 69 = .ok (.iload 6, 2) := by decide +kernel
theorem dX9_later_71 : decode cX9_later 71 = .ok (.iaload, 1) := by decide +kernel
theorem dX9_later_72 : decode cX9_later 72 = .ok (.iload 5, 2) := by decide +kernel
theorem dX9_later_74 : decode cX9_later 74 = .ok (.iadd, 1) := by decide +kernel
theorem dX9_later_75 : decode cX9_later 75 = .ok (.ireturn, 1) := by decide +kernel
theorem dX9_later_76 : decode cX9_later 76 = .ok (.iload_n 3, 1) := by decide +kernel
theorem dX9_later_77 : decode cX9_later 77 = .ok (.ifCond .ne 15, 3) := by decide +kernel
theorem dX9_later_80 : decode cX9_later 80 = .ok (.aload_n 0, 1) := by decide +kernel
theorem dX9_later_81 : decode cX9_later 81 = .ok (.getfield 26, 3) := by decide +kernel
theorem dX9_later_84 : decode cX9_later 84 = .ok (.iload 6, 2) := by decide +kernel
theorem dX9_later_86 : decode cX9_later 86 = .ok (.iconst 1, 1) := by decide +kernel
theorem dX9_later_87 : decode cX9_later 87 = .ok (.iadd, 1) := by decide +kernel
theorem dX9_later_88 : decode cX9_later 88 = .ok (.iaload, 1) := by decide +kernel
theorem dX9_later_89 : decode cX9_later 89 = .ok (.iconst 1, 1) := by decide +kernel
theorem dX9_later_90 : decode cX9_later 90 = .ok (.isub, 1) := by decide +kernel
theorem dX9_later_91 : decode cX9_later 91 = .ok (.ireturn, 1) := by decide +kernel
theorem dX9_later_92 : decode cX9_later 92 = .ok (.aload_n 0, 1) := by decide +kernel
theorem dX9_later_93 : decode cX9_later 93 = .ok (.getfield 26, 3) := by decide +kernel
theorem dX9_later_96 : decode cX9_later 96 = .ok (.iload 6, 2) := by decide +kernel
theorem dX9_later_98 : decode cX9_later 98 = .ok (.iaload, 1) := by decide +kernel
theorem dX9_later_99 : decode cX9_later 99 = .ok (.iload 5, 2) := by decide +kernel
theorem dX9_later_101 : decode cX9_later 101 = .ok (.iadd, 1) := by decide +kernel
theorem dX9_later_102 : decode cX9_later 102 = .ok (.istore 8, 2) := by decide +kernel
theorem dX9_later_104 : decode cX9_later 104 = .ok (.iload_n 3, 1) := by decide +kernel
theorem dX9_later_105 : decode cX9_later 105 = .ok (.iconst 1, 1) := by decide +kernel
theorem dX9_later_106 : decode cX9_later 106 = .ok (.if_icmp .ne 17, 3) := by decide +kernel
theorem dX9_later_109 : decode cX9_later 109 = .ok (.aload_n 0, 1) := by decide +kernel
theorem dX9_later_110 : decode cX9_later 110 = .ok (.iload 8, 2) := by decide +kernel
theorem dX9_later_112 : decode cX9_later 112 = .ok (.invokevirtual 141, 3) := by decide +kernel
theorem dX9_later_115 : decode cX9_later 115 = .ok (.ifCond .eq 8, 3) := by decide +kernel
theorem dX9_later_118 : decode cX9_later 118 = .ok (.iload 8, 2) := by decide +kernel
theorem dX9_later_120 : decode cX9_later 120 = .ok (.goto 4, 3) := by decide +kernel
theorem dX9_later_123 : decode cX9_later 123 = .ok (.iconst (-1), 1) := by decide +kernel
theorem dX9_later_124 : decode cX9_later 124 = .ok (.ireturn, 1) := by decide +kernel
theorem dX9_months_0 : decode cX9_months 0 = .ok (.aload_n 0, 1) := by decide +kernel
theorem dX9_months_1 : decode cX9_months 1 = .ok (.iload_n 1, 1) := by decide +kernel
theorem dX9_months_2 : decode cX9_months 2 = .ok (.invokevirtual 141, 3) := by decide +kernel
theorem dX9_months_5 : decode cX9_months 5 = .ok (.ifCond .eq 25, 3) := by decide +kernel
theorem dX9_months_8 : decode cX9_months 8 = .ok (.iload_n 2, 1) := by decide +kernel
theorem dX9_months_9 : decode cX9_months 9 = .ok (.sipush (-9999), 3) := by decide +kernel
theorem dX9_months_12 : decode cX9_months 12 = .ok (.sipush 9999, 3) := by decide +kernel
theorem dX9_months_15 : decode cX9_months 15 = .ok (.invokestatic 131, 3) := by decide +kernel
theorem dX9_months_18 : decode cX9_months 18 = .ok (.ifCond .eq 12, 3) := by decide +kernel
theorem dX9_months_21 : decode cX9_months 21 = .ok (.iload_n 3, 1) := by decide +kernel
theorem dX9_months_22 : decode cX9_months 22 = .ok (.iconst 0, 1) := by decide +kernel
theorem dX9_months_23 : decode cX9_months 23 = .ok (.iconst 2, 1) := by decide +kernel
theorem dX9_months_24 : decode cX9_months 24 = .ok (.invokestatic 131, 3) := by decide +kernel
theorem dX9_months_27 : decode cX9_months 27 = .ok (.ifCond .ne 5, 3) := by decide +kernel
theorem dX9_months_30 : decode cX9_months 30 = .ok (.iconst (-1), 1) := by decide +kernel
theorem dX9_months_31 : decode cX9_months 31 = .ok (.ireturn, 1) := by decide +kernel
theorem dX9_months_32 : decode cX9_months 32 = .ok (.aload_n 0, 1) := by decide +kernel
theorem dX9_months_33 : decode cX9_months 33 = .ok (.iload_n 1, 1) := by decide +kernel
theorem dX9_months_34 : decode cX9_months 34 = .ok (.iload_n 2, 1) := by decide +kernel
theorem dX9_months_35 : decode cX9_months 35 = .ok (.iload_n 3, 1) := by decide +kernel
theorem dX9_months_36 : decode cX9_months 36 = .ok (.invokevirtual 152, 3) := by decide +kernel
theorem dX9_months_39 : decode cX9_months 39 = .ok (.istore 4, 2) := by decide +kernel
theorem dX9_months_41 : decode cX9_months 41 = .ok (.iload 4, 2) := by decide +kernel
theorem dX9_months_43 : decode cX9_months 43 = .ok (.ifCond .ge 8, 3) := by decide +kernel
theorem dX9_months_46 : decode cX9_months 46 = .ok (.bipush (-6), 2) := by decide +kernel
theorem dX9_months_48 : decode cX9_months 48 = .ok (.goto 5, 3) := by decide +kernel
theorem dX9_months_51 : decode cX9_months 51 = .ok (.iload 4, 2) := by decide +kernel
theorem dX9_months_53 : decode cX9_months 53 = .ok (.ireturn, 1) := by decide +kernel
theorem dX9_nthOf_0 : decode cX9_nthOf 0 = .ok (.aload_n 0, 1) := by decide +kernel
theorem dX9_nthOf_1 : decode cX9_nthOf 1 = .ok (.invokevirtual 124, 3) := by decide +kernel
theorem dX9_nthOf_4 : decode cX9_nthOf 4 = .ok (.iconst (-1), 1) := by decide +kernel
theorem dX9_nthOf_5 : decode cX9_nthOf 5 = .ok (.istore 4, 2) := by decide +kernel
theorem dX9_nthOf_7 : decode cX9_nthOf 7 = .ok (.iconst 0, 1) := by decide +kernel
theorem dX9_nthOf_8 : decode cX9_nthOf 8 = .ok (.istore 5, 2) := by decide +kernel
theorem dX9_nthOf_10 : decode cX9_nthOf 10 = .ok (.aload_n 0, 1) := by decide +kernel
theorem dX9_nthOf_11 : decode cX9_nthOf 11 = .ok (.getfield 26, 3) := by decide +kernel
theorem dX9_nthOf_14 : decode cX9_nthOf 14 = .ok (.iload_n 1, 1) := by decide +kernel
theorem dX9_nthOf_15 : decode cX9_nthOf 15 = .ok (.iaload, 1) := by decide +kernel
theorem dX9_nthOf_16 : decode cX9_nthOf 16 = .ok (.istore 6, 2) := by decide +kernel
theorem dX9_nthOf_18 : decode cX9_nthOf 18 = .ok (.iload 6, 2) := by decide +kernel
theorem dX9_nthOf_20 : decode cX9_nthOf 20 = .ok (.aload_n 0, 1) := by decide +kernel
theorem dX9_nthOf_21 : decode cX9_nthOf 21 = .ok (.getfield 26, 3) := by decide +kernel
theorem dX9_nthOf_24 : decode cX9_nthOf 24 = .ok (.iload_n 1, 1) := by decide +kernel
theorem dX9_nthOf_25 : decode cX9_nthOf 25 = .ok (.iconst 1, 1) := by decide +kernel
theorem dX9_nthOf_26 : decode cX9_nthOf 26 = .ok (.iadd, 1) := by decide +kernel
theorem dX9_nthOf_27 : decode cX9_nthOf 27 = .ok (.iaload, 1) := by decide +kernel
theorem dX9_nthOf_28 : decode cX9_nthOf 28 = .ok (.if_icmp .ge 42, 3) := by decide +kernel
theorem dX9_nthOf_31 : decode cX9_nthOf 31 = .ok (.aload_n 0, 1) := by decide +kernel
theorem dX9_nthOf_32 : decode cX9_nthOf 32 = .ok (.iload 6, 2) := by decide +kernel
theorem dX9_nthOf_34 : decode cX9_nthOf 34 = .ok (.invokevirtual 149, 3) := by decide +kernel
theorem dX9_nthOf_37 : decode cX9_nthOf 37 = .ok (.iload_n 2, 1) := by decide +kernel
theorem dX9_nthOf_38 : decode cX9_nthOf 38 = .ok (.if_icmp .ne 26, 3) := by decide +kernel
theorem dX9_nthOf_41 : decode cX9_nthOf 41 = .ok (.iload_n 3, 1) := by decide +kernel
theorem dX9_nthOf_42 : decode cX9_nthOf 42 = .ok (.iconst 4, 1) := by decide +kernel
theorem dX9_nthOf_43 : decode cX9_nthOf 43 = .ok (.if_icmp .eq 9, 3) := by decide +kernel
theorem dX9_nthOf_46 : decode cX9_nthOf 46 = .ok (.iload 5, 2) := by decide +kernel
theorem dX9_nthOf_48 : decode cX9_nthOf 48 = .ok (.iload_n 3, 1) := by decide +kernel
theorem dX9_nthOf_49 : decode cX9_nthOf 49 = .ok (.if_icmp .ne 8, 3) := by decide +kernel
theorem dX9_nthOf_52 : decode cX9_nthOf 52 = .ok (.iload 6, 2) := by decide +kernel
theorem dX9_nthOf_54 : decode cX9_nthOf 54 = .ok (.goto 5, 3) := by decide +kernel
theorem dX9_nthOf_57 : decode cX9_nthOf 57 = .ok (.iload 4, 2) := by decide +kernel
theorem dX9_nthOf_59 : decode cX9_nthOf 59 = .ok (.istore 4, 2) := by decide +kernel
theorem dX9_nthOf_61 : decode cX9_nthOf 61 = .ok (.iinc 5 1, 3) := by decide +kernel
theorem dX9_nthOf_64 : decode cX9_nthOf 64 = .ok (.iinc 6 1, 3) := by decide +kernel
theorem dX9_nthOf_67 : decode cX9_nthOf 67 = .ok (.goto (-49), 3) := by decide +kernel
theorem dX9_nthOf_70 : decode cX9_nthOf 70 = .ok (.iload 4, 2) := by decide +kernel
theorem dX9_nthOf_72 : decode cX9_nthOf 72 = .ok (.ireturn, 1) := by decide +kernel
theorem dX9_nth_0 : decode cX9_nth 0 = .ok (.iload_n 1, 1) := by decide +kernel
theorem dX9_nth_1 : decode cX9_nth 1 = .ok (.ifCond .lt 48, 3) := by decide +kernel
theorem dX9_nth_4 : decode cX9_nth 4 = .ok (.iload_n 1, 1) := by decide +kernel
theorem dX9_nth_5 : decode cX9_nth 5 = .ok (.bipush 100, 2) := by decide +kernel
theorem dX9_nth_7 : decode cX9_nth 7 = .ok (.idiv, 1) := by decide +kernel
theorem dX9_nth_8 : decode cX9_nth 8 = .ok (.iconst 0, 1) := by decide +kernel
theorem dX9_nth_9 : decode cX9_nth 9 = .ok (.bipush 99, 2) := by decide +kernel
theorem dX9_nth_11 : decode cX9_nth 11 = .ok (.invokestatic 131, 3) := by decide +kernel
theorem dX9_nth_14 : decode cX9_nth 14 = .ok (.ifCond .eq 35, 3) := by decide +kernel
theorem dX9_nth_17 : decode cX9_nth 17 = .ok (.iload_n 1, 1) := by decide +kernel
theorem dX9_nth_18 : decode cX9_nth 18 = .ok (.bipush 100, 2) := by decide +kernel
theorem dX9_nth_20 : decode cX9_nth 20 = .ok (.irem, 1) := by decide +kernel
theorem dX9_nth_21 : decode cX9_nth 21 = .ok (.bipush 12, 2) := by decide +kernel
theorem dX9_nth_23 : decode cX9_nth 23 = .ok (.if_icmp .ge 26, 3) := by decide +kernel
theorem dX9_nth_26 : decode cX9_nth 26 = .ok (.iload_n 2, 1) := by decide +kernel
theorem dX9_nth_27 : decode cX9_nth 27 = .ok (.iconst 0, 1) := by decide +kernel
theorem dX9_nth_28 : decode cX9_nth 28 = .ok (.aload_n 0, 1) := by decide +kernel
theorem dX9_nth_29 : decode cX9_nth 29 = .ok (.getfield 23, 3) := by decide +kernel
theorem dX9_nth_32 : decode cX9_nth 32 = .ok (.iconst 1, 1) := by decide +kernel
theorem dX9_nth_33 : decode cX9_nth 33 = .ok (.isub, 1) := by decide +kernel
theorem dX9_nth_34 : decode cX9_nth 34 = .ok (.invokestatic 131, 3) := by decide +kernel
theorem dX9_nth_37 : decode cX9_nth 37 = .ok (.ifCond .eq 12, 3) := by decide +kernel
theorem dX9_nth_40 : decode cX9_nth 40 = .ok (.iload_n 3, 1) := by decide +kernel
theorem dX9_nth_41 : decode cX9_nth 41 = .ok (.iconst 0, 1) := by decide +kernel
theorem dX9_nth_42 : decode cX9_nth 42 = .ok (.iconst 4, 1) := by decide +kernel
theorem dX9_nth_43 : decode cX9_nth 43 = .ok (.invokestatic 131, 3) := by decide +kernel
theorem dX9_nth_46 : decode cX9_nth 46 = .ok (.ifCond .ne 5, 3) := by decide +kernel
theorem dX9_nth_49 : decode cX9_nth 49 = .ok (.iconst (-1), 1) := by decide +kernel
theorem dX9_nth_50 : decode cX9_nth 50 = .ok (.ireturn, 1) := by decide +kernel
theorem dX9_nth_51 : decode cX9_nth 51 = .ok (.aload_n 0, 1) := by decide +kernel
theorem dX9_nth_52 : decode cX9_nth 52 = .ok (.bipush 12, 2) := by decide +kernel
theorem dX9_nth_54 : decode cX9_nth 54 = .ok (.iload_n 1, 1) := by decide +kernel
theorem dX9_nth_55 : decode cX9_nth 55 = .ok (.bipush 100, 2) := by decide +kernel
theorem dX9_nth_57 : decode cX9_nth 57 = .ok (.idiv, 1) := by decide +kernel
theorem dX9_nth_58 : decode cX9_nth 58 = .ok (.imul, 1) := by decide +kernel
theorem dX9_nth_59 : decode cX9_nth 59 = .ok (.iload_n 1, 1) := by decide +kernel
theorem dX9_nth_60 : decode cX9_nth 60 = .ok (.bipush 100, 2) := by decide +kernel
theorem dX9_nth_62 : decode cX9_nth 62 = .ok (.irem, 1) := by decide +kernel
theorem dX9_nth_63 : decode cX9_nth 63 = .ok (.iadd, 1) := by decide +kernel
theorem dX9_nth_64 : decode cX9_nth 64 = .ok (.iload_n 2, 1) := by decide +kernel
theorem dX9_nth_65 : decode cX9_nth 65 = .ok (.iload_n 3, 1) := by decide +kernel
theorem dX9_nth_66 : decode cX9_nth 66 = .ok (.invokevirtual 156, 3) := by decide +kernel
theorem dX9_nth_69 : decode cX9_nth 69 = .ok (.istore 4, 2) := by decide +kernel
theorem dX9_nth_71 : decode cX9_nth 71 = .ok (.iload 4, 2) := by decide +kernel
theorem dX9_nth_73 : decode cX9_nth 73 = .ok (.ifCond .ge 8, 3) := by decide +kernel
theorem dX9_nth_76 : decode cX9_nth 76 = .ok (.bipush (-6), 2) := by decide +kernel
theorem dX9_nth_78 : decode cX9_nth 78 = .ok (.goto 5, 3) := by decide +kernel
theorem dX9_nth_81 : decode cX9_nth 81 = .ok (.iload 4, 2) := by decide +kernel
theorem dX9_nth_83 : decode cX9_nth 83 = .ok (.ireturn, 1) := by decide +kernel
theorem dX9_isZone_0 : decode cX9_isZone 0 = .ok (.iload_n 1, 1) := by decide +kernel
theorem dX9_isZone_1 : decode cX9_isZone 1 = .ok (.ifCond .lt 15, 3) := by decide +kernel
theorem dX9_isZone_4 : decode cX9_isZone 4 = .ok (.iload_n 1, 1) := by decide +kernel
theorem dX9_isZone_5 : decode cX9_isZone 5 = .ok (.aload_n 0, 1) := by decide +kernel
theorem dX9_isZone_6 : decode cX9_isZone 6 = .ok (.getfield 135, 3) := by decide +kernel
theorem dX9_isZone_9 : decode cX9_isZone 9 = .ok (.if_icmp .ge 7, 3) := by decide +kernel
theorem dX9_isZone_12 : decode cX9_isZone 12 = .ok (.iconst 1, 1) := by decide +kernel
theorem dX9_isZone_13 : decode cX9_isZone 13 = .ok (.goto 4, 3) := by decide +kernel
theorem dX9_isZone_16 : decode cX9_isZone 16 = .ok (.iconst 0, 1) := by decide +kernel
theorem dX9_isZone_17 : decode cX9_isZone 17 = .ok (.ireturn, 1) := by decide +kernel
theorem dX9_forget_0 : decode cX9_forget 0 = .ok (.iconst 0, 1) := by decide +kernel
theorem dX9_forget_1 : decode cX9_forget 1 = .ok (.istore_n 1, 1) := by decide +kernel
theorem dX9_forget_2 : decode cX9_forget 2 = .ok (.iload_n 1, 1) := by decide +kernel
theorem dX9_forget_3 : decode cX9_forget 3 = .ok (.iconst 5, 1) := by decide +kernel
theorem dX9_forget_4 : decode cX9_forget 4 = .ok (.if_icmp .ge 16, 3) := by decide +kernel
theorem dX9_forget_7 : decode cX9_forget 7 = .ok (.aload_n 0, 1) := by decide +kernel
theorem dX9_forget_8 : decode cX9_forget 8 = .ok (.getfield 57, 3) := by decide +kernel
theorem dX9_forget_11 : decode cX9_forget 11 = .ok (.iload_n 1, 1) := by decide +kernel
theorem dX9_forget_12 : decode cX9_forget 12 = .ok (.iconst 0, 1) := by decide +kernel
theorem dX9_forget_13 : decode cX9_forget 13 = .ok (.bastore, 1) := by decide +kernel
theorem dX9_forget_14 : decode cX9_forget 14 = .ok (.iinc 1 1, 3) := by decide +kernel
theorem dX9_forget_17 : decode cX9_forget 17 = .ok (.goto (-15), 3) := by decide +kernel
theorem dX9_forget_20 : decode cX9_forget 20 = .ok (.return_, 1) := by decide +kernel
theorem dX9_zone_0 : decode cX9_zone 0 = .ok (.iload_n 1, 1) := by decide +kernel
theorem dX9_zone_1 : decode cX9_zone 1 = .ok (.sipush (-720), 3) := by decide +kernel
theorem dX9_zone_4 : decode cX9_zone 4 = .ok (.sipush 720, 3) := by decide +kernel
theorem dX9_zone_7 : decode cX9_zone 7 = .ok (.invokestatic 131, 3) := by decide +kernel
theorem dX9_zone_10 : decode cX9_zone 10 = .ok (.ifCond .ne 5, 3) := by decide +kernel
theorem dX9_zone_13 : decode cX9_zone 13 = .ok (.iconst (-1), 1) := by decide +kernel
theorem dX9_zone_14 : decode cX9_zone 14 = .ok (.ireturn, 1) := by decide +kernel
theorem dX9_zone_15 : decode cX9_zone 15 = .ok (.aload_n 0, 1) := by decide +kernel
theorem dX9_zone_16 : decode cX9_zone 16 = .ok (.getfield 135, 3) := by decide +kernel
theorem dX9_zone_19 : decode cX9_zone 19 = .ok (.iconst 5, 1) := by decide +kernel
theorem dX9_zone_20 : decode cX9_zone 20 = .ok (.if_icmp .ne 6, 3) := by decide +kernel
theorem dX9_zone_23 : decode cX9_zone 23 = .ok (.bipush (-2), 2) := by decide +kernel
theorem dX9_zone_25 : decode cX9_zone 25 = .ok (.ireturn, 1) := by decide +kernel
theorem dX9_zone_26 : decode cX9_zone 26 = .ok (.aload_n 0, 1) := by decide +kernel
theorem dX9_zone_27 : decode cX9_zone 27 = .ok (.getfield 29, 3) := by decide +kernel
theorem dX9_zone_30 : decode cX9_zone 30 = .ok (.aload_n 0, 1) := by decide +kernel
theorem dX9_zone_31 : decode cX9_zone 31 = .ok (.getfield 135, 3) := by decide +kernel
theorem dX9_zone_34 : decode cX9_zone 34 = .ok (.iload_n 1, 1) := by decide +kernel
theorem dX9_zone_35 : decode cX9_zone 35 = .ok (.iastore, 1) := by decide +kernel
theorem dX9_zone_36 : decode cX9_zone 36 = .ok (.aload_n 0, 1) := by decide +kernel
theorem dX9_zone_37 : decode cX9_zone 37 = .ok (.dup, 1) := by decide +kernel
theorem dX9_zone_38 : decode cX9_zone 38 = .ok (.getfield 135, 3) := by decide +kernel
theorem dX9_zone_41 : decode cX9_zone 41 = .ok (.iconst 1, 1) := by decide +kernel
theorem dX9_zone_42 : decode cX9_zone 42 = .ok (.iadd, 1) := by decide +kernel
theorem dX9_zone_43 : decode cX9_zone 43 = .ok (.putfield 135, 3) := by decide +kernel
theorem dX9_zone_46 : decode cX9_zone 46 = .ok (.aload_n 0, 1) := by decide +kernel
theorem dX9_zone_47 : decode cX9_zone 47 = .ok (.invokevirtual 159, 3) := by decide +kernel
theorem dX9_zone_50 : decode cX9_zone 50 = .ok (.aload_n 0, 1) := by decide +kernel
theorem dX9_zone_51 : decode cX9_zone 51 = .ok (.getfield 135, 3) := by decide +kernel
theorem dX9_zone_54 : decode cX9_zone 54 = .ok (.iconst 1, 1) := by decide +kernel
theorem dX9_zone_55 : decode cX9_zone 55 = .ok (.isub, 1) := by decide +kernel
theorem dX9_zone_56 : decode cX9_zone 56 = .ok (.ireturn, 1) := by decide +kernel
theorem dX9_rule_0 : decode cX9_rule 0 = .ok (.aload_n 0, 1) := by decide +kernel
theorem dX9_rule_1 : decode cX9_rule 1 = .ok (.iload_n 1, 1) := by decide +kernel
theorem dX9_rule_2 : decode cX9_rule 2 = .ok (.invokevirtual 162, 3) := by decide +kernel
theorem dX9_rule_5 : decode cX9_rule 5 = .ok (.ifCond .eq 89, 3) := by decide +kernel
theorem dX9_rule_8 : decode cX9_rule 8 = .ok (.iload_n 2, 1) := by decide +kernel
theorem dX9_rule_9 : decode cX9_rule 9 = .ok (.ifCond .lt 85, 3) := by decide +kernel
theorem dX9_rule_12 : decode cX9_rule 12 = .ok (.iload_n 2, 1) := by decide +kernel
theorem dX9_rule_13 : decode cX9_rule 13 = .ok (.bipush 100, 2) := by decide +kernel
theorem dX9_rule_15 : decode cX9_rule 15 = .ok (.idiv, 1) := by decide +kernel
theorem dX9_rule_16 : decode cX9_rule 16 = .ok (.bipush 100, 2) := by decide +kernel
theorem dX9_rule_18 : decode cX9_rule 18 = .ok (.if_icmp .ge 76, 3) := by decide +kernel
theorem dX9_rule_21 : decode cX9_rule 21 = .ok (.iload_n 2, 1) := by decide +kernel
theorem dX9_rule_22 : decode cX9_rule 22 = .ok (.bipush 100, 2) := by decide +kernel
theorem dX9_rule_24 : decode cX9_rule 24 = .ok (.idiv, 1) := by decide +kernel
theorem dX9_rule_25 : decode cX9_rule 25 = .ok (.iload_n 2, 1) := by decide +kernel
theorem dX9_rule_26 : decode cX9_rule 26 = .ok (.bipush 100, 2) := by decide +kernel
theorem dX9_rule_28 : decode cX9_rule 28 = .ok (.irem, 1) := by decide +kernel
theorem dX9_rule_29 : decode cX9_rule 29 = .ok (.if_icmp .gt 65, 3) := by decide +kernel
theorem dX9_rule_32 : decode cX9_rule 32 = .ok (.iload_n 3, 1) := by decide +kernel
theorem dX9_rule_33 : decode cX9_rule 33 = .ok (.ifCond .lt 61, 3) := by decide +kernel
theorem dX9_rule_36 : decode cX9_rule 36 = .ok (.iload_n 3, 1) := by decide +kernel
theorem dX9_rule_37 : decode cX9_rule 37 = .ok (.sipush 1000, 3) := by decide +kernel
theorem dX9_rule_40 : decode cX9_rule 40 = .ok (.idiv, 1) := by decide +kernel
theorem dX9_rule_41 : decode cX9_rule 41 = .ok (.bipush 12, 2) := by decide +kernel
theorem dX9_rule_43 : decode cX9_rule 43 = .ok (.if_icmp .ge 51, 3) := by decide +kernel
theorem dX9_rule_46 : decode cX9_rule 46 = .ok (.iload_n 3, 1) := by decide +kernel
theorem dX9_rule_47 : decode cX9_rule 47 = .ok (.bipush 10, 2) := by decide +kernel
theorem dX9_rule_49 : decode cX9_rule 49 = .ok (.idiv, 1) := by decide +kernel
theorem dX9_rule_50 : decode cX9_rule 50 = .ok (.bipush 100, 2) := by decide +kernel
theorem dX9_rule_52 : decode cX9_rule 52 = .ok (.irem, 1) := by decide +kernel
theorem dX9_rule_53 : decode cX9_rule 53 = .ok (.aload_n 0, 1) := by decide +kernel
theorem dX9_rule_54 : decode cX9_rule 54 = .ok (.getfield 23, 3) := by decide +kernel
theorem dX9_rule_57 : decode cX9_rule 57 = .ok (.if_icmp .ge 37, 3) := by decide +kernel
theorem dX9_rule_60 : decode cX9_rule 60 = .ok (.iload_n 3, 1) := by decide +kernel
theorem dX9_rule_61 : decode cX9_rule 61 = .ok (.bipush 10, 2) := by decide +kernel
theorem dX9_rule_63 : decode cX9_rule 63 = .ok (.irem, 1) := by decide +kernel
theorem dX9_rule_64 : decode cX9_rule 64 = .ok (.iconst 4, 1) := by decide +kernel
theorem dX9_rule_65 : decode cX9_rule 65 = .ok (.if_icmp .gt 29, 3) := by decide +kernel
theorem dX9_rule_68 : decode cX9_rule 68 = .ok (.iload 4, 2) := by decide +kernel
theorem dX9_rule_70 : decode cX9_rule 70 = .ok (.iconst 0, 1) := by decide +kernel
theorem dX9_rule_71 : decode cX9_rule 71 = .ok (.sipush 1439, 3) := by decide +kernel
theorem dX9_rule_74 : decode cX9_rule 74 = .ok (.invokestatic 131, 3) := by decide +kernel
theorem dX9_rule_77 : decode cX9_rule 77 = .ok (.ifCond .eq 17, 3) := by decide +kernel
theorem dX9_rule_80 : decode cX9_rule 80 = .ok (.iload 5, 2) := by decide +kernel
theorem dX9_rule_82 : decode cX9_rule 82 = .ok (.sipush (-720), 3) := by decide +kernel
theorem dX9_rule_85 : decode cX9_rule 85 = .ok (.sipush 720, 3) := by decide +kernel
theorem dX9_rule_88 : decode cX9_rule 88 = .ok (.invokestatic 131, 3) := by decide +kernel
theorem dX9_rule_91 : decode cX9_rule 91 = .ok (.ifCond .ne 5, 3) := by decide +kernel
theorem dX9_rule_94 : decode cX9_rule 94 = .ok (.iconst (-1), 1) := by decide +kernel
theorem dX9_rule_95 : decode cX9_rule 95 = .ok (.ireturn, 1) := by decide +kernel
theorem dX9_rule_96 : decode cX9_rule 96 = .ok (.aload_n 0, 1) := by decide +kernel
theorem dX9_rule_97 : decode cX9_rule 97 = .ok (.getfield 50, 3) := by decide +kernel
theorem dX9_rule_100 : decode cX9_rule 100 = .ok (.iload_n 1, 1) := by decide +kernel
theorem dX9_rule_101 : decode cX9_rule 101 = .ok (.iaload, 1) := by decide +kernel
theorem dX9_rule_102 : decode cX9_rule 102 = .ok (.bipush 8, 2) := by decide +kernel
theorem dX9_rule_104 : decode cX9_rule 104 = .ok (.if_icmp .ne 6, 3) := by decide +kernel
theorem dX9_rule_107 : decode cX9_rule 107 = .ok (.bipush (-2), 2) := by decide +kernel
theorem dX9_rule_109 : decode cX9_rule 109 = .ok (.ireturn, 1) := by decide +kernel
theorem dX9_rule_110 : decode cX9_rule 110 = .ok (.bipush 8, 2) := by decide +kernel
theorem dX9_rule_112 : decode cX9_rule 112 = .ok (.iload_n 1, 1) := by decide +kernel
theorem dX9_rule_113 : decode cX9_rule 113 = .ok (.imul, 1) := by decide +kernel
theorem dX9_rule_114 : decode cX9_rule 114 = .ok (.aload_n 0, 1) := by decide +kernel
theorem dX9_rule_115 : decode cX9_rule 115 = .ok (.getfield 50, 3) := by decide +kernel
theorem dX9_rule_118 : decode cX9_rule 118 = .ok (.iload_n 1, 1) := by decide +kernel
theorem dX9_rule_119 : decode cX9_rule 119 = .ok (.iaload, 1) := by decide +kernel
theorem dX9_rule_120 : decode cX9_rule 120 = .ok (.iadd, 1) := by decide +kernel
theorem dX9_rule_121 : decode cX9_rule 121 = .ok (.istore 6, 2) := by decide +kernel
theorem dX9_rule_123 : decode cX9_rule 123 = .ok (.aload_n 0, 1) := by decide +kernel
theorem dX9_rule_124 : decode cX9_rule 124 = .ok (.getfield 32, 3) := by decide +kernel
theorem dX9_rule_127 : decode cX9_rule 127 = .ok (.iload 6, 2) := by decide +kernel
theorem dX9_rule_129 : decode cX9_rule 129 = .ok (.iload_n 2, 1) := by decide +kernel
theorem dX9_rule_130 : decode cX9_rule 130 = .ok (.bipush 100, 2) := by decide +kernel
theorem dX9_rule_132 : decode cX9_rule 132 = .ok (.idiv, 1) := by decide +kernel
theorem dX9_rule_133 : decode cX9_rule 133 = .ok (.iastore, 1) := by decide +kernel
theorem dX9_rule_134 : decode cX9_rule 134 = .ok (.aload_n 0, 1) := by decide +kernel
theorem dX9_rule_135 : decode cX9_rule 135 = .ok (.getfield 35, 3) := by decide +kernel
theorem dX9_rule_138 : decode cX9_rule 138 = .ok (.iload 6, 2) := by decide +kernel
theorem dX9_rule_140 : decode cX9_rule 140 = .ok (.iload_n 2, 1) := by decide +kernel
theorem dX9_rule_141 : decode cX9_rule 141 = .ok (.bipush 100, 2) := by decide +kernel
theorem dX9_rule_143 : decode cX9_rule 143 = .ok (.irem, 1) := by decide +kernel
theorem dX9_rule_144 : decode cX9_rule 144 = .ok (.iastore, 1) := by decide +kernel
theorem dX9_rule_145 : decode cX9_rule 145 = .ok (.aload_n 0, 1) := by decide +kernel
theorem dX9_rule_146 : decode cX9_rule 146 = .ok (.getfield 38, 3) := by decide +kernel
theorem dX9_rule_149 : decode cX9_rule 149 = .ok (.iload 6, 2) := by decide +kernel
theorem dX9_rule_151 : decode cX9_rule 151 = .ok (.iload_n 3, 1) := by decide +kernel
theorem dX9_rule_152 : decode cX9_rule 152 = .ok (.iastore, 1) := by decide +kernel
theorem dX9_rule_153 : decode cX9_rule 153 = .ok (.aload_n 0, 1) := by decide +kernel
theorem dX9_rule_154 : decode cX9_rule 154 = .ok (.getfield 41, 3) := by decide +kernel
theorem dX9_rule_157 : decode cX9_rule 157 = .ok (.iload 6, 2) := by decide +kernel
theorem dX9_rule_159 : decode cX9_rule 159 = .ok (.iload 4, 2) := by decide +kernel
theorem dX9_rule_161 : decode cX9_rule 161 = .ok (.iastore, 1) := by decide +kernel
theorem dX9_rule_162 : decode cX9_rule 162 = .ok (.aload_n 0, 1) := by decide +kernel
theorem dX9_rule_163 : decode cX9_rule 163 = .ok (.getfield 44, 3) := by decide +kernel
theorem dX9_rule_166 : decode cX9_rule 166 = .ok (.iload 6, 2) := by decide +kernel
theorem dX9_rule_168 : decode cX9_rule 168 = .ok (.iload 5, 2) := by decide +kernel
theorem dX9_rule_170 : decode cX9_rule 170 = .ok (.iastore, 1) := by decide +kernel
theorem dX9_rule_171 : decode cX9_rule 171 = .ok (.aload_n 0, 1) := by decide +kernel
theorem dX9_rule_172 : decode cX9_rule 172 = .ok (.getfield 47, 3) := by decide +kernel
theorem dX9_rule_175 : decode cX9_rule 175 = .ok (.iload 6, 2) := by decide +kernel
theorem dX9_rule_177 : decode cX9_rule 177 = .ok (.aload_n 0, 1) := by decide +kernel
theorem dX9_rule_178 : decode cX9_rule 178 = .ok (.getfield 165, 3) := by decide +kernel
theorem dX9_rule_181 : decode cX9_rule 181 = .ok (.iastore, 1) := by decide +kernel
theorem dX9_rule_182 : decode cX9_rule 182 = .ok (.aload_n 0, 1) := by decide +kernel
theorem dX9_rule_183 : decode cX9_rule 183 = .ok (.getfield 50, 3) := by decide +kernel
