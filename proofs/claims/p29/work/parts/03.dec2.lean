theorem dX10_tosser_138 : decode cX10_tosser 138 = .ok (.invokestatic 132, 3) := by decide +kernel
theorem dX10_tosser_141 : decode cX10_tosser 141 = .ok (.ireturn, 1) := by decide +kernel
theorem dX10_tosser_142 : decode cX10_tosser 142 = .ok (.aload_n 0, 1) := by decide +kernel
theorem dX10_tosser_143 : decode cX10_tosser 143 = .ok (.getfield 32, 3) := by decide +kernel
theorem dX10_tosser_146 : decode cX10_tosser 146 = .ok (.getfield 135, 3) := by decide +kernel
theorem dX10_tosser_149 : decode cX10_tosser 149 = .ok (.iload_n 1, 1) := by decide +kernel
theorem dX10_tosser_150 : decode cX10_tosser 150 = .ok (.invokestatic 82, 3) := by decide +kernel
theorem dX10_tosser_153 : decode cX10_tosser 153 = .ok (.ireturn, 1) := by decide +kernel
theorem dX10_tosser_154 : decode cX10_tosser 154 = .ok (.bipush (-102), 2) := by decide +kernel
theorem dX10_tosser_156 : decode cX10_tosser 156 = .ok (.ireturn, 1) := by decide +kernel
theorem dX10_as_0 : decode cX10_as 0 = .ok (.aload_n 0, 1) := by decide +kernel
theorem dX10_as_1 : decode cX10_as 1 = .ok (.iload_n 1, 1) := by decide +kernel
theorem dX10_as_2 : decode cX10_as 2 = .ok (.invokevirtual 99, 3) := by decide +kernel
theorem dX10_as_5 : decode cX10_as 5 = .ok (.astore_n 3, 1) := by decide +kernel
theorem dX10_as_6 : decode cX10_as 6 = .ok (.aload_n 3, 1) := by decide +kernel
theorem dX10_as_7 : decode cX10_as 7 = .ok (.ifnonnull 6, 3) := by decide +kernel
theorem dX10_as_10 : decode cX10_as 10 = .ok (.bipush (-101), 2) := by decide +kernel
theorem dX10_as_12 : decode cX10_as 12 = .ok (.ireturn, 1) := by decide +kernel
theorem dX10_as_13 : decode cX10_as 13 = .ok (.iload_n 2, 1) := by decide +kernel
theorem dX10_as_14 : decode cX10_as 14 = .ok (.ifCond .lt 8, 3) := by decide +kernel
theorem dX10_as_17 : decode cX10_as 17 = .ok (.iload_n 2, 1) := by decide +kernel
theorem dX10_as_18 : decode cX10_as 18 = .ok (.iconst 4, 1) := by decide +kernel
theorem dX10_as_19 : decode cX10_as 19 = .ok (.if_icmp .le 6, 3) := by decide +kernel
theorem dX10_as_22 : decode cX10_as 22 = .ok (.bipush (-102), 2) := by decide +kernel
theorem dX10_as_24 : decode cX10_as 24 = .ok (.ireturn, 1) := by decide +kernel
theorem dX10_as_25 : decode cX10_as 25 = .ok (.aload_n 3, 1) := by decide +kernel
theorem dX10_as_26 : decode cX10_as 26 = .ok (.iload_n 2, 1) := by decide +kernel
theorem dX10_as_27 : decode cX10_as 27 = .ok (.invokestatic 138, 3) := by decide +kernel
theorem dX10_as_30 : decode cX10_as 30 = .ok (.ifCond .eq 7, 3) := by decide +kernel
theorem dX10_as_33 : decode cX10_as 33 = .ok (.iload_n 1, 1) := by decide +kernel
theorem dX10_as_34 : decode cX10_as 34 = .ok (.goto 4, 3) := by decide +kernel
theorem dX10_as_37 : decode cX10_as 37 = .ok (.iconst (-1), 1) := by decide +kernel
theorem dX10_as_38 : decode cX10_as 38 = .ok (.ireturn, 1) := by decide +kernel
theorem dX10_lands_0 : decode cX10_lands 0 = .ok (.aload_n 0, 1) := by decide +kernel
theorem dX10_lands_1 : decode cX10_lands 1 = .ok (.iload_n 1, 1) := by decide +kernel
theorem dX10_lands_2 : decode cX10_lands 2 = .ok (.iload_n 2, 1) := by decide +kernel
theorem dX10_lands_3 : decode cX10_lands 3 = .ok (.invokevirtual 142, 3) := by decide +kernel
theorem dX10_lands_6 : decode cX10_lands 6 = .ok (.ifCond .ne 6, 3) := by decide +kernel
theorem dX10_lands_9 : decode cX10_lands 9 = .ok (.bipush (-101), 2) := by decide +kernel
theorem dX10_lands_11 : decode cX10_lands 11 = .ok (.ireturn, 1) := by decide +kernel
theorem dX10_lands_12 : decode cX10_lands 12 = .ok (.aload_n 0, 1) := by decide +kernel
theorem dX10_lands_13 : decode cX10_lands 13 = .ok (.iload_n 1, 1) := by decide +kernel
theorem dX10_lands_14 : decode cX10_lands 14 = .ok (.iload_n 2, 1) := by decide +kernel
theorem dX10_lands_15 : decode cX10_lands 15 = .ok (.aload_n 0, 1) := by decide +kernel
theorem dX10_lands_16 : decode cX10_lands 16 = .ok (.getfield 32, 3) := by decide +kernel
theorem dX10_lands_19 : decode cX10_lands 19 = .ok (.getfield 146, 3) := by decide +kernel
theorem dX10_lands_22 : decode cX10_lands 22 = .ok (.invokevirtual 149, 3) := by decide +kernel
theorem dX10_lands_25 : decode cX10_lands 25 = .ok (.ireturn, 1) := by decide +kernel
theorem dX10_covers_0 : decode cX10_covers 0 = .ok (.aload_n 0, 1) := by decide +kernel
theorem dX10_covers_1 : decode cX10_covers 1 = .ok (.iload_n 1, 1) := by decide +kernel
theorem dX10_covers_2 : decode cX10_covers 2 = .ok (.iload_n 2, 1) := by decide +kernel
theorem dX10_covers_3 : decode cX10_covers 3 = .ok (.invokevirtual 142, 3) := by decide +kernel
theorem dX10_covers_6 : decode cX10_covers 6 = .ok (.ifCond .ne 6, 3) := by decide +kernel
theorem dX10_covers_9 : decode cX10_covers 9 = .ok (.bipush (-101), 2) := by decide +kernel
theorem dX10_covers_11 : decode cX10_covers 11 = .ok (.ireturn, 1) := by decide +kernel
theorem dX10_covers_12 : decode cX10_covers 12 = .ok (.aload_n 0, 1) := by decide +kernel
theorem dX10_covers_13 : decode cX10_covers 13 = .ok (.iload_n 1, 1) := by decide +kernel
theorem dX10_covers_14 : decode cX10_covers 14 = .ok (.iload_n 2, 1) := by decide +kernel
theorem dX10_covers_15 : decode cX10_covers 15 = .ok (.aload_n 0, 1) := by decide +kernel
theorem dX10_covers_16 : decode cX10_covers 16 = .ok (.getfield 32, 3) := by decide +kernel
theorem dX10_covers_19 : decode cX10_covers 19 = .ok (.getfield 146, 3) := by decide +kernel
theorem dX10_covers_22 : decode cX10_covers 22 = .ok (.invokevirtual 153, 3) := by decide +kernel
theorem dX10_covers_25 : decode cX10_covers 25 = .ok (.ireturn, 1) := by decide +kernel
theorem dX10_toss_0 : decode cX10_toss 0 = .ok (.aload_n 0, 1) := by decide +kernel
theorem dX10_toss_1 : decode cX10_toss 1 = .ok (.iload_n 1, 1) := by decide +kernel
theorem dX10_toss_2 : decode cX10_toss 2 = .ok (.invokevirtual 99, 3) := by decide +kernel
theorem dX10_toss_5 : decode cX10_toss 5 = .ok (.astore_n 3, 1) := by decide +kernel
theorem dX10_toss_6 : decode cX10_toss 6 = .ok (.aload_n 3, 1) := by decide +kernel
theorem dX10_toss_7 : decode cX10_toss 7 = .ok (.ifnull 11, 3) := by decide +kernel
theorem dX10_toss_10 : decode cX10_toss 10 = .ok (.aload_n 0, 1) := by decide +kernel
theorem dX10_toss_11 : decode cX10_toss 11 = .ok (.iload_n 2, 1) := by decide +kernel
theorem dX10_toss_12 : decode cX10_toss 12 = .ok (.invokevirtual 156, 3) := by decide +kernel
theorem dX10_toss_15 : decode cX10_toss 15 = .ok (.ifCond .ne 6, 3) := by decide +kernel
theorem dX10_toss_18 : decode cX10_toss 18 = .ok (.bipush (-101), 2) := by decide +kernel
theorem dX10_toss_20 : decode cX10_toss 20 = .ok (.ireturn, 1) := by decide +kernel
theorem dX10_toss_21 : decode cX10_toss 21 = .ok (.aload_n 0, 1) := by decide +kernel
theorem dX10_toss_22 : decode cX10_toss 22 = .ok (.getfield 32, 3) := by decide +kernel
theorem dX10_toss_25 : decode cX10_toss 25 = .ok (.getfield 159, 3) := by decide +kernel
theorem dX10_toss_28 : decode cX10_toss 28 = .ok (.aload_n 3, 1) := by decide +kernel
theorem dX10_toss_29 : decode cX10_toss 29 = .ok (.invokevirtual 113, 3) := by decide +kernel
theorem dX10_toss_32 : decode cX10_toss 32 = .ok (.if_icmp .ge 6, 3) := by decide +kernel
theorem dX10_toss_35 : decode cX10_toss 35 = .ok (.bipush (-103), 2) := by decide +kernel
theorem dX10_toss_37 : decode cX10_toss 37 = .ok (.ireturn, 1) := by decide +kernel
theorem dX10_toss_38 : decode cX10_toss 38 = .ok (.aload_n 0, 1) := by decide +kernel
theorem dX10_toss_39 : decode cX10_toss 39 = .ok (.getfield 32, 3) := by decide +kernel
theorem dX10_toss_42 : decode cX10_toss 42 = .ok (.getfield 161, 3) := by decide +kernel
theorem dX10_toss_45 : decode cX10_toss 45 = .ok (.sipush 999, 3) := by decide +kernel
theorem dX10_toss_48 : decode cX10_toss 48 = .ok (.if_icmp .lt 6, 3) := by decide +kernel
theorem dX10_toss_51 : decode cX10_toss 51 = .ok (.bipush (-104), 2) := by decide +kernel
theorem dX10_toss_53 : decode cX10_toss 53 = .ok (.ireturn, 1) := by decide +kernel
theorem dX10_toss_54 : decode cX10_toss 54 = .ok (.aload_n 0, 1) := by decide +kernel
theorem dX10_toss_55 : decode cX10_toss 55 = .ok (.iload_n 1, 1) := by decide +kernel
theorem dX10_toss_56 : decode cX10_toss 56 = .ok (.iload_n 2, 1) := by decide +kernel
theorem dX10_toss_57 : decode cX10_toss 57 = .ok (.aload_n 0, 1) := by decide +kernel
theorem dX10_toss_58 : decode cX10_toss 58 = .ok (.getfield 32, 3) := by decide +kernel
theorem dX10_toss_61 : decode cX10_toss 61 = .ok (.getfield 146, 3) := by decide +kernel
theorem dX10_toss_64 : decode cX10_toss 64 = .ok (.invokevirtual 153, 3) := by decide +kernel
theorem dX10_toss_67 : decode cX10_toss 67 = .ok (.aload_n 0, 1) := by decide +kernel
theorem dX10_toss_68 : decode cX10_toss 68 = .ok (.getfield 32, 3) := by decide +kernel
theorem dX10_toss_71 : decode cX10_toss 71 = .ok (.getfield 86, 3) := by decide +kernel
theorem dX10_toss_74 : decode cX10_toss 74 = .ok (.iconst (-1), 1) := by decide +kernel
theorem dX10_toss_75 : decode cX10_toss 75 = .ok (.ixor, 1) := by decide +kernel
theorem dX10_toss_76 : decode cX10_toss 76 = .ok (.iand, 1) := by decide +kernel
theorem dX10_toss_77 : decode cX10_toss 77 = .ok (.istore 4, 2) := by decide +kernel
theorem dX10_toss_79 : decode cX10_toss 79 = .ok (.aload_n 0, 1) := by decide +kernel
theorem dX10_toss_80 : decode cX10_toss 80 = .ok (.getfield 32, 3) := by decide +kernel
theorem dX10_toss_83 : decode cX10_toss 83 = .ok (.dup, 1) := by decide +kernel
theorem dX10_toss_84 : decode cX10_toss 84 = .ok (.getfield 86, 3) := by decide +kernel
theorem dX10_toss_87 : decode cX10_toss 87 = .ok (.iload 4, 2) := by decide +kernel
theorem dX10_toss_89 : decode cX10_toss 89 = .ok (.ior, 1) := by decide +kernel
theorem dX10_toss_90 : decode cX10_toss 90 = .ok (.putfield 86, 3) := by decide +kernel
theorem dX10_toss_93 : decode cX10_toss 93 = .ok (.aload_n 0, 1) := by decide +kernel
theorem dX10_toss_94 : decode cX10_toss 94 = .ok (.getfield 32, 3) := by decide +kernel
theorem dX10_toss_97 : decode cX10_toss 97 = .ok (.dup, 1) := by decide +kernel
theorem dX10_toss_98 : decode cX10_toss 98 = .ok (.getfield 159, 3) := by decide +kernel
theorem dX10_toss_101 : decode cX10_toss 101 = .ok (.aload_n 3, 1) := by decide +kernel
theorem dX10_toss_102 : decode cX10_toss 102 = .ok (.invokevirtual 113, 3) := by decide +kernel
theorem dX10_toss_105 : decode cX10_toss 105 = .ok (.isub, 1) := by decide +kernel
theorem dX10_toss_106 : decode cX10_toss 106 = .ok (.putfield 159, 3) := by decide +kernel
theorem dX10_toss_109 : decode cX10_toss 109 = .ok (.aload_n 0, 1) := by decide +kernel
theorem dX10_toss_110 : decode cX10_toss 110 = .ok (.getfield 32, 3) := by decide +kernel
theorem dX10_toss_113 : decode cX10_toss 113 = .ok (.dup, 1) := by decide +kernel
theorem dX10_toss_114 : decode cX10_toss 114 = .ok (.getfield 161, 3) := by decide +kernel
theorem dX10_toss_117 : decode cX10_toss 117 = .ok (.iconst 1, 1) := by decide +kernel
theorem dX10_toss_118 : decode cX10_toss 118 = .ok (.iadd, 1) := by decide +kernel
theorem dX10_toss_119 : decode cX10_toss 119 = .ok (.putfield 161, 3) := by decide +kernel
theorem dX10_toss_122 : decode cX10_toss 122 = .ok (.aload_n 0, 1) := by decide +kernel
theorem dX10_toss_123 : decode cX10_toss 123 = .ok (.getfield 32, 3) := by decide +kernel
theorem dX10_toss_126 : decode cX10_toss 126 = .ok (.getfield 135, 3) := by decide +kernel
theorem dX10_toss_129 : decode cX10_toss 129 = .ok (.iload_n 1, 1) := by decide +kernel
theorem dX10_toss_130 : decode cX10_toss 130 = .ok (.aload_n 0, 1) := by decide +kernel
theorem dX10_toss_131 : decode cX10_toss 131 = .ok (.getfield 32, 3) := by decide +kernel
theorem dX10_toss_134 : decode cX10_toss 134 = .ok (.getfield 135, 3) := by decide +kernel
theorem dX10_toss_137 : decode cX10_toss 137 = .ok (.iload_n 1, 1) := by decide +kernel
theorem dX10_toss_138 : decode cX10_toss 138 = .ok (.invokestatic 82, 3) := by decide +kernel
theorem dX10_toss_141 : decode cX10_toss 141 = .ok (.iconst 1, 1) := by decide +kernel
theorem dX10_toss_142 : decode cX10_toss 142 = .ok (.iadd, 1) := by decide +kernel
theorem dX10_toss_143 : decode cX10_toss 143 = .ok (.invokestatic 164, 3) := by decide +kernel
theorem dX10_toss_146 : decode cX10_toss 146 = .ok (.iload 4, 2) := by decide +kernel
theorem dX10_toss_148 : decode cX10_toss 148 = .ok (.invokestatic 168, 3) := by decide +kernel
theorem dX10_toss_151 : decode cX10_toss 151 = .ok (.ireturn, 1) := by decide +kernel
theorem dX10_wind_0 : decode cX10_wind 0 = .ok (.iload_n 1, 1) := by decide +kernel
theorem dX10_wind_1 : decode cX10_wind 1 = .ok (.iconst (-1), 1) := by decide +kernel
theorem dX10_wind_2 : decode cX10_wind 2 = .ok (.if_icmp .lt 8, 3) := by decide +kernel
theorem dX10_wind_5 : decode cX10_wind 5 = .ok (.iload_n 1, 1) := by decide +kernel
theorem dX10_wind_6 : decode cX10_wind 6 = .ok (.iconst 1, 1) := by decide +kernel
theorem dX10_wind_7 : decode cX10_wind 7 = .ok (.if_icmp .le 6, 3) := by decide +kernel
theorem dX10_wind_10 : decode cX10_wind 10 = .ok (.bipush (-102), 2) := by decide +kernel
theorem dX10_wind_12 : decode cX10_wind 12 = .ok (.ireturn, 1) := by decide +kernel
theorem dX10_wind_13 : decode cX10_wind 13 = .ok (.aload_n 0, 1) := by decide +kernel
theorem dX10_wind_14 : decode cX10_wind 14 = .ok (.invokevirtual 173, 3) := by decide +kernel
theorem dX10_wind_17 : decode cX10_wind 17 = .ok (.ifCond .ne 6, 3) := by decide +kernel
theorem dX10_wind_20 : decode cX10_wind 20 = .ok (.bipush (-103), 2) := by decide +kernel
theorem dX10_wind_22 : decode cX10_wind 22 = .ok (.ireturn, 1) := by decide +kernel
theorem dX10_wind_23 : decode cX10_wind 23 = .ok (.aload_n 0, 1) := by decide +kernel
theorem dX10_wind_24 : decode cX10_wind 24 = .ok (.getfield 32, 3) := by decide +kernel
theorem dX10_wind_27 : decode cX10_wind 27 = .ok (.getfield 146, 3) := by decide +kernel
theorem dX10_wind_30 : decode cX10_wind 30 = .ok (.iconst 1, 1) := by decide +kernel
theorem dX10_wind_31 : decode cX10_wind 31 = .ok (.iadd, 1) := by decide +kernel
theorem dX10_wind_32 : decode cX10_wind 32 = .ok (.istore_n 2, 1) := by decide +kernel
theorem dX10_wind_33 : decode cX10_wind 33 = .ok (.aload_n 0, 1) := by decide +kernel
theorem dX10_wind_34 : decode cX10_wind 34 = .ok (.getfield 32, 3) := by decide +kernel
theorem dX10_wind_37 : decode cX10_wind 37 = .ok (.iload_n 1, 1) := by decide +kernel
theorem dX10_wind_38 : decode cX10_wind 38 = .ok (.putfield 146, 3) := by decide +kernel
theorem dX10_wind_41 : decode cX10_wind 41 = .ok (.iload_n 2, 1) := by decide +kernel
theorem dX10_wind_42 : decode cX10_wind 42 = .ok (.ireturn, 1) := by decide +kernel
theorem dX10_morning_0 : decode cX10_morning 0 = .ok (.aload_n 0, 1) := by decide +kernel
theorem dX10_morning_1 : decode cX10_morning 1 = .ok (.invokevirtual 173, 3) := by decide +kernel
theorem dX10_morning_4 : decode cX10_morning 4 = .ok (.ifCond .ne 6, 3) := by decide +kernel
theorem dX10_morning_7 : decode cX10_morning 7 = .ok (.bipush (-103), 2) := by decide +kernel
theorem dX10_morning_9 : decode cX10_morning 9 = .ok (.ireturn, 1) := by decide +kernel
theorem dX10_morning_10 : decode cX10_morning 10 = .ok (.aload_n 0, 1) := by decide +kernel
theorem dX10_morning_11 : decode cX10_morning 11 = .ok (.getfield 32, 3) := by decide +kernel
theorem dX10_morning_14 : decode cX10_morning 14 = .ok (.getfield 176, 3) := by decide +kernel
theorem dX10_morning_17 : decode cX10_morning 17 = .ok (.sipush 999, 3) := by decide +kernel
theorem dX10_morning_20 : decode cX10_morning 20 = .ok (.if_icmp .lt 6, 3) := by decide +kernel
theorem dX10_morning_23 : decode cX10_morning 23 = .ok (.bipush (-104), 2) := by decide +kernel
theorem dX10_morning_25 : decode cX10_morning 25 = .ok (.ireturn, 1) := by decide +kernel
theorem dX10_morning_26 : decode cX10_morning 26 = .ok (.aload_n 0, 1) := by decide +kernel
theorem dX10_morning_27 : decode cX10_morning 27 = .ok (.getfield 32, 3) := by decide +kernel
theorem dX10_morning_30 : decode cX10_morning 30 = .ok (.getfield 86, 3) := by decide +kernel
theorem dX10_morning_33 : decode cX10_morning 33 = .ok (.invokestatic 168, 3) := by decide +kernel
theorem dX10_morning_36 : decode cX10_morning 36 = .ok (.istore_n 1, 1) := by decide +kernel
theorem dX10_morning_37 : decode cX10_morning 37 = .ok (.aload_n 0, 1) := by decide +kernel
theorem dX10_morning_38 : decode cX10_morning 38 = .ok (.getfield 32, 3) := by decide +kernel
theorem dX10_morning_41 : decode cX10_morning 41 = .ok (.aload_n 0, 1) := by decide +kernel
theorem dX10_morning_42 : decode cX10_morning 42 = .ok (.getfield 72, 3) := by decide +kernel
theorem dX10_morning_45 : decode cX10_morning 45 = .ok (.invokevirtual 179, 3) := by decide +kernel
theorem dX10_morning_48 : decode cX10_morning 48 = .ok (.iload_n 1, 1) := by decide +kernel
theorem dX10_morning_49 : decode cX10_morning 49 = .ok (.ireturn, 1) := by decide +kernel
theorem dX10_move_0 : decode cX10_move 0 = .ok (.aload_n 0, 1) := by decide +kernel
theorem dX10_move_1 : decode cX10_move 1 = .ok (.iload_n 1, 1) := by decide +kernel
theorem dX10_move_2 : decode cX10_move 2 = .ok (.invokevirtual 75, 3) := by decide +kernel
theorem dX10_move_5 : decode cX10_move 5 = .ok (.ifCond .eq 11, 3) := by decide +kernel
theorem dX10_move_8 : decode cX10_move 8 = .ok (.aload_n 0, 1) := by decide +kernel
theorem dX10_move_9 : decode cX10_move 9 = .ok (.iload_n 2, 1) := by decide +kernel
theorem dX10_move_10 : decode cX10_move 10 = .ok (.invokevirtual 156, 3) := by decide +kernel
theorem dX10_move_13 : decode cX10_move 13 = .ok (.ifCond .ne 6, 3) := by decide +kernel
theorem dX10_move_16 : decode cX10_move 16 = .ok (.bipush (-101), 2) := by decide +kernel
theorem dX10_move_18 : decode cX10_move 18 = .ok (.ireturn, 1) := by decide +kernel
theorem dX10_move_19 : decode cX10_move 19 = .ok (.aload_n 0, 1) := by decide +kernel
theorem dX10_move_20 : decode cX10_move 20 = .ok (.iload_n 2, 1) := by decide +kernel
theorem dX10_move_21 : decode cX10_move 21 = .ok (.iload_n 1, 1) := by decide +kernel
theorem dX10_move_22 : decode cX10_move 22 = .ok (.invokevirtual 182, 3) := by decide +kernel
theorem dX10_move_25 : decode cX10_move 25 = .ok (.ifCond .eq 6, 3) := by decide +kernel
theorem dX10_move_28 : decode cX10_move 28 = .ok (.bipush (-103), 2) := by decide +kernel
theorem dX10_move_30 : decode cX10_move 30 = .ok (.ireturn, 1) := by decide +kernel
theorem dX10_move_31 : decode cX10_move 31 = .ok (.aload_n 0, 1) := by decide +kernel
theorem dX10_move_32 : decode cX10_move 32 = .ok (.getfield 32, 3) := by decide +kernel
theorem dX10_move_35 : decode cX10_move 35 = .ok (.getfield 79, 3) := by decide +kernel
theorem dX10_move_38 : decode cX10_move 38 = .ok (.iload_n 1, 1) := by decide +kernel
theorem dX10_move_39 : decode cX10_move 39 = .ok (.invokestatic 82, 3) := by decide +kernel
theorem dX10_move_42 : decode cX10_move 42 = .ok (.istore_n 3, 1) := by decide +kernel
theorem dX10_move_43 : decode cX10_move 43 = .ok (.aload_n 0, 1) := by decide +kernel
theorem dX10_move_44 : decode cX10_move 44 = .ok (.getfield 32, 3) := by decide +kernel
theorem dX10_move_47 : decode cX10_move 47 = .ok (.getfield 79, 3) := by decide +kernel
theorem dX10_move_50 : decode cX10_move 50 = .ok (.iload_n 1, 1) := by decide +kernel
theorem dX10_move_51 : decode cX10_move 51 = .ok (.iload_n 2, 1) := by decide +kernel
theorem dX10_move_52 : decode cX10_move 52 = .ok (.invokestatic 164, 3) := by decide +kernel
theorem dX10_move_55 : decode cX10_move 55 = .ok (.aload_n 0, 1) := by decide +kernel
theorem dX10_move_56 : decode cX10_move 56 = .ok (.getfield 32, 3) := by decide +kernel
theorem dX10_move_59 : decode cX10_move 59 = .ok (.dup, 1) := by decide +kernel
theorem dX10_move_60 : decode cX10_move 60 = .ok (.getfield 86, 3) := by decide +kernel
theorem dX10_move_63 : decode cX10_move 63 = .ok (.iconst 1, 1) := by decide +kernel
theorem dX10_move_64 : decode cX10_move 64 = .ok (.iload_n 1, 1) := by decide +kernel
theorem dX10_move_65 : decode cX10_move 65 = .ok (.ishl, 1) := by decide +kernel
theorem dX10_move_66 : decode cX10_move 66 = .ok (.iconst (-1), 1) := by decide +kernel
theorem dX10_move_67 : decode cX10_move 67 = .ok (.ixor, 1) := by decide +kernel
theorem dX10_move_68 : decode cX10_move 68 = .ok (.iand, 1) := by decide +kernel
theorem dX10_move_69 : decode cX10_move 69 = .ok (.putfield 86, 3) := by decide +kernel
theorem dX10_move_72 : decode cX10_move 72 = .ok (.iload_n 3, 1) := by decide +kernel
theorem dX10_move_73 : decode cX10_move 73 = .ok (.ireturn, 1) := by decide +kernel
theorem dX10_train_0 : decode cX10_train 0 = .ok (.aload_n 0, 1) := by decide +kernel
theorem dX10_train_1 : decode cX10_train 1 = .ok (.iload_n 1, 1) := by decide +kernel
theorem dX10_train_2 : decode cX10_train 2 = .ok (.invokevirtual 99, 3) := by decide +kernel
theorem dX10_train_5 : decode cX10_train 5 = .ok (.ifnonnull 6, 3) := by decide +kernel
theorem dX10_train_8 : decode cX10_train 8 = .ok (.bipush (-101), 2) := by decide +kernel
theorem dX10_train_10 : decode cX10_train 10 = .ok (.ireturn, 1) := by decide +kernel
theorem dX10_train_11 : decode cX10_train 11 = .ok (.iload_n 2, 1) := by decide +kernel
theorem dX10_train_12 : decode cX10_train 12 = .ok (.invokestatic 185, 3) := by decide +kernel
theorem dX10_train_15 : decode cX10_train 15 = .ok (.ifCond .eq 10, 3) := by decide +kernel
theorem dX10_train_18 : decode cX10_train 18 = .ok (.iload_n 3, 1) := by decide +kernel
theorem dX10_train_19 : decode cX10_train 19 = .ok (.invokestatic 185, 3) := by decide +kernel
theorem dX10_train_22 : decode cX10_train 22 = .ok (.ifCond .ne 6, 3) := by decide +kernel
theorem dX10_train_25 : decode cX10_train 25 = .ok (.bipush (-102), 2) := by decide +kernel
theorem dX10_train_27 : decode cX10_train 27 = .ok (.ireturn, 1) := by decide +kernel
theorem dX10_train_28 : decode cX10_train 28 = .ok (.aload_n 0, 1) := by decide +kernel
theorem dX10_train_29 : decode cX10_train 29 = .ok (.getfield 32, 3) := by decide +kernel
theorem dX10_train_32 : decode cX10_train 32 = .ok (.getfield 110, 3) := by decide +kernel
theorem dX10_train_35 : decode cX10_train 35 = .ok (.iload_n 1, 1) := by decide +kernel
theorem dX10_train_36 : decode cX10_train 36 = .ok (.invokestatic 82, 3) := by decide +kernel
theorem dX10_train_39 : decode cX10_train 39 = .ok (.istore 4, 2) := by decide +kernel
theorem dX10_train_41 : decode cX10_train 41 = .ok (.aload_n 0, 1) := by decide +kernel
theorem dX10_train_42 : decode cX10_train 42 = .ok (.getfield 32, 3) := by decide +kernel
theorem dX10_train_45 : decode cX10_train 45 = .ok (.getfield 107, 3) := by decide +kernel
theorem dX10_train_48 : decode cX10_train 48 = .ok (.iload_n 1, 1) := by decide +kernel
theorem dX10_train_49 : decode cX10_train 49 = .ok (.iload_n 2, 1) := by decide +kernel
theorem dX10_train_50 : decode cX10_train 50 = .ok (.invokestatic 164, 3) := by decide +kernel
theorem dX10_train_53 : decode cX10_train 53 = .ok (.aload_n 0, 1) := by decide +kernel
theorem dX10_train_54 : decode cX10_train 54 = .ok (.getfield 32, 3) := by decide +kernel
theorem dX10_train_57 : decode cX10_train 57 = .ok (.getfield 110, 3) := by decide +kernel
theorem dX10_train_60 : decode cX10_train 60 = .ok (.iload_n 1, 1) := by decide +kernel
theorem dX10_train_61 : decode cX10_train 61 = .ok (.iload_n 3, 1) := by decide +kernel
theorem dX10_train_62 : decode cX10_train 62 = .ok (.invokestatic 164, 3) := by decide +kernel
theorem dX10_train_65 : decode cX10_train 65 = .ok (.iload 4, 2) := by decide +kernel
theorem dX10_train_67 : decode cX10_train 67 = .ok (.ireturn, 1) := by decide +kernel
theorem dX10_stir_0 : decode cX10_stir 0 = .ok (.iload_n 1, 1) := by decide +kernel
theorem dX10_stir_1 : decode cX10_stir 1 = .ok (.iconst 1, 1) := by decide +kernel
theorem dX10_stir_2 : decode cX10_stir 2 = .ok (.if_icmp .lt 9, 3) := by decide +kernel
theorem dX10_stir_5 : decode cX10_stir 5 = .ok (.iload_n 1, 1) := by decide +kernel
theorem dX10_stir_6 : decode cX10_stir 6 = .ok (.bipush 60, 2) := by decide +kernel
theorem dX10_stir_8 : decode cX10_stir 8 = .ok (.if_icmp .le 6, 3) := by decide +kernel
theorem dX10_stir_11 : decode cX10_stir 11 = .ok (.bipush (-102), 2) := by decide +kernel
theorem dX10_stir_13 : decode cX10_stir 13 = .ok (.ireturn, 1) := by decide +kernel
theorem dX10_stir_14 : decode cX10_stir 14 = .ok (.aload_n 0, 1) := by decide +kernel
theorem dX10_stir_15 : decode cX10_stir 15 = .ok (.invokevirtual 173, 3) := by decide +kernel
theorem dX10_stir_18 : decode cX10_stir 18 = .ok (.ifCond .ne 6, 3) := by decide +kernel
theorem dX10_stir_21 : decode cX10_stir 21 = .ok (.bipush (-103), 2) := by decide +kernel
theorem dX10_stir_23 : decode cX10_stir 23 = .ok (.ireturn, 1) := by decide +kernel
theorem dX10_stir_24 : decode cX10_stir 24 = .ok (.aload_n 0, 1) := by decide +kernel
theorem dX10_stir_25 : decode cX10_stir 25 = .ok (.getfield 32, 3) := by decide +kernel
theorem dX10_stir_28 : decode cX10_stir 28 = .ok (.getfield 159, 3) := by decide +kernel
theorem dX10_stir_31 : decode cX10_stir 31 = .ok (.iload_n 1, 1) := by decide +kernel
theorem dX10_stir_32 : decode cX10_stir 32 = .ok (.iadd, 1) := by decide +kernel
theorem dX10_stir_33 : decode cX10_stir 33 = .ok (.bipush 99, 2) := by decide +kernel
theorem dX10_stir_35 : decode cX10_stir 35 = .ok (.if_icmp .le 6, 3) := by decide +kernel
theorem dX10_stir_38 : decode cX10_stir 38 = .ok (.bipush (-104), 2) := by decide +kernel
theorem dX10_stir_40 : decode cX10_stir 40 = .ok (.ireturn, 1) := by decide +kernel
theorem dX10_stir_41 : decode cX10_stir 41 = .ok (.aload_n 0, 1) := by decide +kernel
theorem dX10_stir_42 : decode cX10_stir 42 = .ok (.getfield 32, 3) := by decide +kernel
theorem dX10_stir_45 : decode cX10_stir 45 = .ok (.dup, 1) := by decide +kernel
theorem dX10_stir_46 : decode cX10_stir 46 = .ok (.getfield 159, 3) := by decide +kernel
theorem dX10_stir_49 : decode cX10_stir 49 = .ok (.iload_n 1, 1) := by decide +kernel
theorem dX10_stir_50 : decode cX10_stir 50 = .ok (.iadd, 1) := by decide +kernel
theorem dX10_stir_51 : decode cX10_stir 51 = .ok (.putfield 159, 3) := by decide +kernel
theorem dX10_stir_54 : decode cX10_stir 54 = .ok (.aload_n 0, 1) := by decide +kernel
theorem dX10_stir_55 : decode cX10_stir 55 = .ok (.getfield 32, 3) := by decide +kernel
theorem dX10_stir_58 : decode cX10_stir 58 = .ok (.getfield 159, 3) := by decide +kernel
theorem dX10_stir_61 : decode cX10_stir 61 = .ok (.ireturn, 1) := by decide +kernel
theorem dX10_odds_0 : decode cX10_odds 0 = .ok (.aload_n 0, 1) := by decide +kernel
theorem dX10_odds_1 : decode cX10_odds 1 = .ok (.iload_n 1, 1) := by decide +kernel
theorem dX10_odds_2 : decode cX10_odds 2 = .ok (.invokevirtual 75, 3) := by decide +kernel
theorem dX10_odds_5 : decode cX10_odds 5 = .ok (.ifCond .eq 12, 3) := by decide +kernel
theorem dX10_odds_8 : decode cX10_odds 8 = .ok (.aload_n 0, 1) := by decide +kernel
theorem dX10_odds_9 : decode cX10_odds 9 = .ok (.iload_n 2, 1) := by decide +kernel
theorem dX10_odds_10 : decode cX10_odds 10 = .ok (.iload_n 3, 1) := by decide +kernel
theorem dX10_odds_11 : decode cX10_odds 11 = .ok (.invokevirtual 142, 3) := by decide +kernel
theorem dX10_odds_14 : decode cX10_odds 14 = .ok (.ifCond .ne 6, 3) := by decide +kernel
theorem dX10_odds_17 : decode cX10_odds 17 = .ok (.bipush (-101), 2) := by decide +kernel
theorem dX10_odds_19 : decode cX10_odds 19 = .ok (.ireturn, 1) := by decide +kernel
theorem dX10_odds_20 : decode cX10_odds 20 = .ok (.iconst 0, 1) := by decide +kernel
theorem dX10_odds_21 : decode cX10_odds 21 = .ok (.istore 4, 2) := by decide +kernel
theorem dX10_odds_23 : decode cX10_odds 23 = .ok (.iconst (-1), 1) := by decide +kernel
theorem dX10_odds_24 : decode cX10_odds 24 = .ok (.istore 5, 2) := by decide +kernel
theorem dX10_odds_26 : decode cX10_odds 26 = .ok (.iload 5, 2) := by decide +kernel
theorem dX10_odds_28 : decode cX10_odds 28 = .ok (.iconst 1, 1) := by decide +kernel
theorem dX10_odds_29 : decode cX10_odds 29 = .ok (.if_icmp .gt 26, 3) := by decide +kernel
theorem dX10_odds_32 : decode cX10_odds 32 = .ok (.iload 4, 2) := by decide +kernel
theorem dX10_odds_34 : decode cX10_odds 34 = .ok (.aload_n 0, 1) := by decide +kernel
theorem dX10_odds_35 : decode cX10_odds 35 = .ok (.iload_n 2, 1) := by decide +kernel
theorem dX10_odds_36 : decode cX10_odds 36 = .ok (.iload_n 3, 1) := by decide +kernel
theorem dX10_odds_37 : decode cX10_odds 37 = .ok (.iload 5, 2) := by decide +kernel
theorem dX10_odds_39 : decode cX10_odds 39 = .ok (.invokevirtual 153, 3) := by decide +kernel
theorem dX10_odds_42 : decode cX10_odds 42 = .ok (.iload_n 1, 1) := by decide +kernel
theorem dX10_odds_43 : decode cX10_odds 43 = .ok (.ishr, 1) := by decide +kernel
theorem dX10_odds_44 : decode cX10_odds 44 = .ok (.iconst 1, 1) := by decide +kernel
theorem dX10_odds_45 : decode cX10_odds 45 = .ok (.iand, 1) := by decide +kernel
theorem dX10_odds_46 : decode cX10_odds 46 = .ok (.iadd, 1) := by decide +kernel
theorem dX10_odds_47 : decode cX10_odds 47 = .ok (.istore 4, 2) := by decide +kernel
theorem dX10_odds_49 : decode cX10_odds 49 = .ok (.iinc 5 1, 3) := by decide +kernel
theorem dX10_odds_52 : decode cX10_odds 52 = .ok (.goto (-26), 3) := by decide +kernel
theorem dX10_odds_55 : decode cX10_odds 55 = .ok (.iload 4, 2) := by decide +kernel
theorem dX10_odds_57 : decode cX10_odds 57 = .ok (.ireturn, 1) := by decide +kernel
theorem dX10_who_0 : decode cX10_who 0 = .ok (.aload_n 0, 1) := by decide +kernel
theorem dX10_who_1 : decode cX10_who 1 = .ok (.iload_n 1, 1) := by decide +kernel
theorem dX10_who_2 : decode cX10_who 2 = .ok (.invokevirtual 156, 3) := by decide +kernel
theorem dX10_who_5 : decode cX10_who 5 = .ok (.ifCond .ne 6, 3) := by decide +kernel
theorem dX10_who_8 : decode cX10_who 8 = .ok (.bipush (-101), 2) := by decide +kernel
theorem dX10_who_10 : decode cX10_who 10 = .ok (.ireturn, 1) := by decide +kernel
theorem dX10_who_11 : decode cX10_who 11 = .ok (.iconst 0, 1) := by decide +kernel
theorem dX10_who_12 : decode cX10_who 12 = .ok (.istore_n 2, 1) := by decide +kernel
theorem dX10_who_13 : decode cX10_who 13 = .ok (.iconst 0, 1) := by decide +kernel
theorem dX10_who_14 : decode cX10_who 14 = .ok (.istore_n 3, 1) := by decide +kernel
theorem dX10_who_15 : decode cX10_who 15 = .ok (.iload_n 3, 1) := by decide +kernel
theorem dX10_who_16 : decode cX10_who 16 = .ok (.aload_n 0, 1) := by decide +kernel
theorem dX10_who_17 : decode cX10_who 17 = .ok (.getfield 197, 3) := by decide +kernel
theorem dX10_who_20 : decode cX10_who 20 = .ok (.if_icmp .ge 24, 3) := by decide +kernel
theorem dX10_who_23 : decode cX10_who 23 = .ok (.aload_n 0, 1) := by decide +kernel
theorem dX10_who_24 : decode cX10_who 24 = .ok (.iload_n 3, 1) := by decide +kernel
theorem dX10_who_25 : decode cX10_who 25 = .ok (.iload_n 1, 1) := by decide +kernel
theorem dX10_who_26 : decode cX10_who 26 = .ok (.invokevirtual 200, 3) := by decide +kernel
theorem dX10_who_29 : decode cX10_who 29 = .ok (.ifCond .eq 9, 3) := by decide +kernel
theorem dX10_who_32 : decode cX10_who 32 = .ok (.iload_n 2, 1) := by decide +kernel
theorem dX10_who_33 : decode cX10_who 33 = .ok (.iconst 1, 1) := by decide +kernel
theorem dX10_who_34 : decode cX10_who 34 = .ok (.iload_n 3, 1) := by decide +kernel
theorem dX10_who_35 : decode cX10_who 35 = .ok (.ishl, 1) := by decide +kernel
theorem dX10_who_36 : decode cX10_who 36 = .ok (.ior, 1) := by decide +kernel
theorem dX10_who_37 : decode cX10_who 37 = .ok (.istore_n 2, 1) := by decide +kernel
theorem dX10_who_38 : decode cX10_who 38 = .ok (.iinc 3 1, 3) := by decide +kernel
theorem dX10_who_41 : decode cX10_who 41 = .ok (.goto (-26), 3) := by decide +kernel
theorem dX10_who_44 : decode cX10_who 44 = .ok (.iload_n 2, 1) := by decide +kernel
theorem dX10_who_45 : decode cX10_who 45 = .ok (.ireturn, 1) := by decide +kernel
theorem dX10_seasons_0 : decode cX10_seasons 0 = .ok (.iload_n 1, 1) := by decide +kernel
theorem dX10_seasons_1 : decode cX10_seasons 1 = .ok (.iconst 1, 1) := by decide +kernel
theorem dX10_seasons_2 : decode cX10_seasons 2 = .ok (.if_icmp .lt 22, 3) := by decide +kernel
theorem dX10_seasons_5 : decode cX10_seasons 5 = .ok (.iload_n 1, 1) := by decide +kernel
theorem dX10_seasons_6 : decode cX10_seasons 6 = .ok (.bipush 60, 2) := by decide +kernel
theorem dX10_seasons_8 : decode cX10_seasons 8 = .ok (.if_icmp .gt 16, 3) := by decide +kernel
theorem dX10_seasons_11 : decode cX10_seasons 11 = .ok (.iload_n 2, 1) := by decide +kernel
theorem dX10_seasons_12 : decode cX10_seasons 12 = .ok (.ifCond .lt 12, 3) := by decide +kernel
theorem dX10_seasons_15 : decode cX10_seasons 15 = .ok (.iload_n 3, 1) := by decide +kernel
theorem dX10_seasons_16 : decode cX10_seasons 16 = .ok (.ifCond .lt 8, 3) := by decide +kernel
theorem dX10_seasons_19 : decode cX10_seasons 19 = .ok (.iload_n 3, 1) := by decide +kernel
theorem dX10_seasons_20 : decode cX10_seasons 20 = .ok (.iconst 2, 1) := by decide +kernel
theorem dX10_seasons_21 : decode cX10_seasons 21 = .ok (.if_icmp .le 6, 3) := by decide +kernel
theorem dX10_seasons_24 : decode cX10_seasons 24 = .ok (.bipush (-102), 2) := by decide +kernel
theorem dX10_seasons_26 : decode cX10_seasons 26 = .ok (.ireturn, 1) := by decide +kernel
theorem dX10_seasons_27 : decode cX10_seasons 27 = .ok (.aload_n 0, 1) := by decide +kernel
theorem dX10_seasons_28 : decode cX10_seasons 28 = .ok (.invokevirtual 173, 3) := by decide +kernel
theorem dX10_seasons_31 : decode cX10_seasons 31 = .ok (.ifCond .ne 6, 3) := by decide +kernel
theorem dX10_seasons_34 : decode cX10_seasons 34 = .ok (.bipush (-103), 2) := by decide +kernel
theorem dX10_seasons_36 : decode cX10_seasons 36 = .ok (.ireturn, 1) := by decide +kernel
theorem dX10_seasons_37 : decode cX10_seasons 37 = .ok (.iload_n 2, 1) := by decide +kernel
theorem dX10_seasons_38 : decode cX10_seasons 38 = .ok (.istore 4, 2) := by decide +kernel
theorem dX10_seasons_40 : decode cX10_seasons 40 = .ok (.iconst 0, 1) := by decide +kernel
theorem dX10_seasons_41 : decode cX10_seasons 41 = .ok (.istore 5, 2) := by decide +kernel
theorem dX10_seasons_43 : decode cX10_seasons 43 = .ok (.iconst 0, 1) := by decide +kernel
theorem dX10_seasons_44 : decode cX10_seasons 44 = .ok (.istore 6, 2) := by decide +kernel
theorem dX10_seasons_46 : decode cX10_seasons 46 = .ok (.iconst 0, 1) := by decide +kernel
theorem dX10_seasons_47 : decode cX10_seasons 47 = .ok (.istore 7, 2) := by decide +kernel
theorem dX10_seasons_49 : decode cX10_seasons 49 = .ok (.iload 7, 2) := by decide +kernel
theorem dX10_seasons_51 : decode cX10_seasons 51 = .ok (.iload_n 1, 1) := by decide +kernel
theorem dX10_seasons_52 : decode cX10_seasons 52 = .ok (.if_icmp .ge 85, 3) := by decide +kernel
theorem dX10_seasons_55 : decode cX10_seasons 55 = .ok (.iload 4, 2) := by decide +kernel
theorem dX10_seasons_57 : decode cX10_seasons 57 = .ok (.invokestatic 213, 3) := by decide +kernel
theorem dX10_seasons_60 : decode cX10_seasons 60 = .ok (.istore 4, 2) := by decide +kernel
theorem dX10_seasons_62 : decode cX10_seasons 62 = .ok (.iload 4, 2) := by decide +kernel
theorem dX10_seasons_64 : decode cX10_seasons 64 = .ok (.iconst 3, 1) := by decide +kernel
theorem dX10_seasons_65 : decode cX10_seasons 65 = .ok (.invokestatic 216, 3) := by decide +kernel
theorem dX10_seasons_68 : decode cX10_seasons 68 = .ok (.iconst 1, 1) := by decide +kernel
theorem dX10_seasons_69 : decode cX10_seasons 69 = .ok (.isub, 1) := by decide +kernel
theorem dX10_seasons_70 : decode cX10_seasons 70 = .ok (.istore 8, 2) := by decide +kernel
theorem dX10_seasons_72 : decode cX10_seasons 72 = .ok (.iload 4, 2) := by decide +kernel
theorem dX10_seasons_74 : decode cX10_seasons 74 = .ok (.invokestatic 213, 3) := by decide +kernel
theorem dX10_seasons_77 : decode cX10_seasons 77 = .ok (.istore 4, 2) := by decide +kernel
theorem dX10_seasons_79 : decode cX10_seasons 79 = .ok (.iload 4, 2) := by decide +kernel
theorem dX10_seasons_81 : decode cX10_seasons 81 = .ok (.aload_n 0, 1) := by decide +kernel
theorem dX10_seasons_82 : decode cX10_seasons 82 = .ok (.getfield 197, 3) := by decide +kernel
theorem dX10_seasons_85 : decode cX10_seasons 85 = .ok (.invokestatic 216, 3) := by decide +kernel
theorem dX10_seasons_88 : decode cX10_seasons 88 = .ok (.istore 9, 2) := by decide +kernel
theorem dX10_seasons_90 : decode cX10_seasons 90 = .ok (.iload 4, 2) := by decide +kernel
theorem dX10_seasons_92 : decode cX10_seasons 92 = .ok (.invokestatic 213, 3) := by decide +kernel
theorem dX10_seasons_95 : decode cX10_seasons 95 = .ok (.istore 4, 2) := by decide +kernel
theorem dX10_seasons_97 : decode cX10_seasons 97 = .ok (.aload_n 0, 1) := by decide +kernel
theorem dX10_seasons_98 : decode cX10_seasons 98 = .ok (.iload 9, 2) := by decide +kernel
theorem dX10_seasons_100 : decode cX10_seasons 100 = .ok (.iload 4, 2) := by decide +kernel
theorem dX10_seasons_102 : decode cX10_seasons 102 = .ok (.bipush 36, 2) := by decide +kernel
theorem dX10_seasons_104 : decode cX10_seasons 104 = .ok (.invokestatic 216, 3) := by decide +kernel
theorem dX10_seasons_107 : decode cX10_seasons 107 = .ok (.iload 8, 2) := by decide +kernel
theorem dX10_seasons_109 : decode cX10_seasons 109 = .ok (.invokevirtual 153, 3) := by decide +kernel
theorem dX10_seasons_112 : decode cX10_seasons 112 = .ok (.istore 10, 2) := by decide +kernel
theorem dX10_seasons_114 : decode cX10_seasons 114 = .ok (.iload 5, 2) := by decide +kernel
theorem dX10_seasons_116 : decode cX10_seasons 116 = .ok (.iload 10, 2) := by decide +kernel
theorem dX10_seasons_118 : decode cX10_seasons 118 = .ok (.invokestatic 168, 3) := by decide +kernel
theorem dX10_seasons_121 : decode cX10_seasons 121 = .ok (.iadd, 1) := by decide +kernel
theorem dX10_seasons_122 : decode cX10_seasons 122 = .ok (.istore 5, 2) := by decide +kernel
theorem dX10_seasons_124 : decode cX10_seasons 124 = .ok (.iload 6, 2) := by decide +kernel
theorem dX10_seasons_126 : decode cX10_seasons 126 = .ok (.iload 10, 2) := by decide +kernel
theorem dX10_seasons_128 : decode cX10_seasons 128 = .ok (.ior, 1) := by decide +kernel
theorem dX10_seasons_129 : decode cX10_seasons 129 = .ok (.istore 6, 2) := by decide +kernel
theorem dX10_seasons_131 : decode cX10_seasons 131 = .ok (.iinc 7 1, 3) := by decide +kernel
theorem dX10_seasons_134 : decode cX10_seasons 134 = .ok (.goto (-85), 3) := by decide +kernel
theorem dX10_seasons_137 : decode cX10_seasons 137 = .ok (.iload_n 3, 1) := by decide +kernel
theorem dX10_seasons_138 : decode cX10_seasons 138 = .ok (.iconst 2, 1) := by decide +kernel
theorem dX10_seasons_139 : decode cX10_seasons 139 = .ok (.if_icmp .ne 6, 3) := by decide +kernel
theorem dX10_seasons_142 : decode cX10_seasons 142 = .ok (.iload 4, 2) := by decide +kernel
theorem dX10_seasons_144 : decode cX10_seasons 144 = .ok (.ireturn, 1) := by decide +kernel
theorem dX10_seasons_145 : decode cX10_seasons 145 = .ok (.iload_n 3, 1) := by decide +kernel
theorem dX10_seasons_146 : decode cX10_seasons 146 = .ok (.ifCond .ne 8, 3) := by decide +kernel
theorem dX10_seasons_149 : decode cX10_seasons 149 = .ok (.iload 5, 2) := by decide +kernel
theorem dX10_seasons_151 : decode cX10_seasons 151 = .ok (.goto 8, 3) := by decide +kernel
theorem dX10_seasons_154 : decode cX10_seasons 154 = .ok (.iload 6, 2) := by decide +kernel
theorem dX10_seasons_156 : decode cX10_seasons 156 = .ok (.invokestatic 168, 3) := by decide +kernel
theorem dX10_seasons_159 : decode cX10_seasons 159 = .ok (.ireturn, 1) := by decide +kernel
theorem dX10_count_0 : decode cX10_count 0 = .ok (.iload_n 1, 1) := by decide +kernel
theorem dX10_count_1 : decode cX10_count 1 = .ok (.tableswitch 164 0 11 #[63, 68, 73, 84, 92, 102, 110, 121, 132, 140, 151, 159], 63) := by decide +kernel
theorem dX10_count_64 : decode cX10_count 64 = .ok (.aload_n 0, 1) := by decide +kernel
theorem dX10_count_65 : decode cX10_count 65 = .ok (.getfield 72, 3) := by decide +kernel
theorem dX10_count_68 : decode cX10_count 68 = .ok (.ireturn, 1) := by decide +kernel
theorem dX10_count_69 : decode cX10_count 69 = .ok (.aload_n 0, 1) := by decide +kernel
theorem dX10_count_70 : decode cX10_count 70 = .ok (.getfield 197, 3) := by decide +kernel
theorem dX10_count_73 : decode cX10_count 73 = .ok (.ireturn, 1) := by decide +kernel
theorem dX10_count_74 : decode cX10_count 74 = .ok (.aload_n 0, 1) := by decide +kernel
theorem dX10_count_75 : decode cX10_count 75 = .ok (.getfield 32, 3) := by decide +kernel
theorem dX10_count_78 : decode cX10_count 78 = .ok (.getfield 86, 3) := by decide +kernel
theorem dX10_count_81 : decode cX10_count 81 = .ok (.invokestatic 168, 3) := by decide +kernel
theorem dX10_count_84 : decode cX10_count 84 = .ok (.ireturn, 1) := by decide +kernel
theorem dX10_count_85 : decode cX10_count 85 = .ok (.aload_n 0, 1) := by decide +kernel
theorem dX10_count_86 : decode cX10_count 86 = .ok (.getfield 32, 3) := by decide +kernel
theorem dX10_count_89 : decode cX10_count 89 = .ok (.getfield 159, 3) := by decide +kernel
theorem dX10_count_92 : decode cX10_count 92 = .ok (.ireturn, 1) := by decide +kernel
theorem dX10_count_93 : decode cX10_count 93 = .ok (.aload_n 0, 1) := by decide +kernel
theorem dX10_count_94 : decode cX10_count 94 = .ok (.getfield 32, 3) := by decide +kernel
theorem dX10_count_97 : decode cX10_count 97 = .ok (.getfield 146, 3) := by decide +kernel
theorem dX10_count_100 : decode cX10_count 100 = .ok (.iconst 1, 1) := by decide +kernel
theorem dX10_count_101 : decode cX10_count 101 = .ok (.iadd, 1) := by decide +kernel
theorem dX10_count_102 : decode cX10_count 102 = .ok (.ireturn, 1) := by decide +kernel
theorem dX10_count_103 : decode cX10_count 103 = .ok (.aload_n 0, 1) := by decide +kernel
theorem dX10_count_104 : decode cX10_count 104 = .ok (.getfield 32, 3) := by decide +kernel
theorem dX10_count_107 : decode cX10_count 107 = .ok (.getfield 176, 3) := by decide +kernel
theorem dX10_count_110 : decode cX10_count 110 = .ok (.ireturn, 1) := by decide +kernel
theorem dX10_count_111 : decode cX10_count 111 = .ok (.aload_n 0, 1) := by decide +kernel
theorem dX10_count_112 : decode cX10_count 112 = .ok (.getfield 32, 3) := by decide +kernel
theorem dX10_count_115 : decode cX10_count 115 = .ok (.getfield 89, 3) := by decide +kernel
theorem dX10_count_118 : decode cX10_count 118 = .ok (.invokestatic 227, 3) := by decide +kernel
theorem dX10_count_121 : decode cX10_count 121 = .ok (.ireturn, 1) := by decide +kernel
theorem dX10_count_122 : decode cX10_count 122 = .ok (.aload_n 0, 1) := by decide +kernel
theorem dX10_count_123 : decode cX10_count 123 = .ok (.getfield 32, 3) := by decide +kernel
theorem dX10_count_126 : decode cX10_count 126 = .ok (.getfield 92, 3) := by decide +kernel
theorem dX10_count_129 : decode cX10_count 129 = .ok (.invokestatic 227, 3) := by decide +kernel
theorem dX10_count_132 : decode cX10_count 132 = .ok (.ireturn, 1) := by decide +kernel
theorem dX10_count_133 : decode cX10_count 133 = .ok (.aload_n 0, 1) := by decide +kernel
theorem dX10_count_134 : decode cX10_count 134 = .ok (.getfield 32, 3) := by decide +kernel
theorem dX10_count_137 : decode cX10_count 137 = .ok (.getfield 161, 3) := by decide +kernel
theorem dX10_count_140 : decode cX10_count 140 = .ok (.ireturn, 1) := by decide +kernel
theorem dX10_count_141 : decode cX10_count 141 = .ok (.aload_n 0, 1) := by decide +kernel
theorem dX10_count_142 : decode cX10_count 142 = .ok (.getfield 32, 3) := by decide +kernel
theorem dX10_count_145 : decode cX10_count 145 = .ok (.getfield 123, 3) := by decide +kernel
theorem dX10_count_148 : decode cX10_count 148 = .ok (.getfield 206, 3) := by decide +kernel
theorem dX10_count_151 : decode cX10_count 151 = .ok (.ireturn, 1) := by decide +kernel
theorem dX10_count_152 : decode cX10_count 152 = .ok (.aload_n 0, 1) := by decide +kernel
theorem dX10_count_153 : decode cX10_count 153 = .ok (.getfield 10, 3) := by decide +kernel
theorem dX10_count_156 : decode cX10_count 156 = .ok (.getfield 50, 3) := by decide +kernel
theorem dX10_count_159 : decode cX10_count 159 = .ok (.ireturn, 1) := by decide +kernel
theorem dX10_count_160 : decode cX10_count 160 = .ok (.aload_n 0, 1) := by decide +kernel
theorem dX10_count_161 : decode cX10_count 161 = .ok (.getfield 69, 3) := by decide +kernel
theorem dX10_count_164 : decode cX10_count 164 = .ok (.ireturn, 1) := by decide +kernel
theorem dX10_count_165 : decode cX10_count 165 = .ok (.bipush (-102), 2) := by decide +kernel
theorem dX10_count_167 : decode cX10_count 167 = .ok (.ireturn, 1) := by decide +kernel
theorem dX10_hasPort_0 : decode cX10_hasPort 0 = .ok (.aload_n 0, 1) := by decide +kernel
theorem dX10_hasPort_1 : decode cX10_hasPort 1 = .ok (.getfield 72, 3) := by decide +kernel
theorem dX10_hasPort_4 : decode cX10_hasPort 4 = .ok (.ifCond .le 7, 3) := by decide +kernel
theorem dX10_hasPort_7 : decode cX10_hasPort 7 = .ok (.iconst 1, 1) := by decide +kernel
theorem dX10_hasPort_8 : decode cX10_hasPort 8 = .ok (.goto 4, 3) := by decide +kernel
theorem dX10_hasPort_11 : decode cX10_hasPort 11 = .ok (.iconst 0, 1) := by decide +kernel
theorem dX10_hasPort_12 : decode cX10_hasPort 12 = .ok (.ireturn, 1) := by decide +kernel
theorem dX10_isCell_0 : decode cX10_isCell 0 = .ok (.aload_n 0, 1) := by decide +kernel
theorem dX10_isCell_1 : decode cX10_isCell 1 = .ok (.invokevirtual 173, 3) := by decide +kernel
theorem dX10_isCell_4 : decode cX10_isCell 4 = .ok (.ifCond .eq 17, 3) := by decide +kernel
theorem dX10_isCell_7 : decode cX10_isCell 7 = .ok (.iload_n 1, 1) := by decide +kernel
theorem dX10_isCell_8 : decode cX10_isCell 8 = .ok (.ifCond .lt 13, 3) := by decide +kernel
theorem dX10_isCell_11 : decode cX10_isCell 11 = .ok (.iload_n 1, 1) := by decide +kernel
theorem dX10_isCell_12 : decode cX10_isCell 12 = .ok (.bipush 36, 2) := by decide +kernel
theorem dX10_isCell_14 : decode cX10_isCell 14 = .ok (.if_icmp .ge 7, 3) := by decide +kernel
theorem dX10_isCell_17 : decode cX10_isCell 17 = .ok (.iconst 1, 1) := by decide +kernel
theorem dX10_isCell_18 : decode cX10_isCell 18 = .ok (.goto 4, 3) := by decide +kernel
theorem dX10_isCell_21 : decode cX10_isCell 21 = .ok (.iconst 0, 1) := by decide +kernel
theorem dX10_isCell_22 : decode cX10_isCell 22 = .ok (.ireturn, 1) := by decide +kernel
theorem dX10_isSleeper_0 : decode cX10_isSleeper 0 = .ok (.iload_n 1, 1) := by decide +kernel
theorem dX10_isSleeper_1 : decode cX10_isSleeper 1 = .ok (.ifCond .lt 15, 3) := by decide +kernel
theorem dX10_isSleeper_4 : decode cX10_isSleeper 4 = .ok (.iload_n 1, 1) := by decide +kernel
theorem dX10_isSleeper_5 : decode cX10_isSleeper 5 = .ok (.aload_n 0, 1) := by decide +kernel
theorem dX10_isSleeper_6 : decode cX10_isSleeper 6 = .ok (.getfield 72, 3) := by decide +kernel
theorem dX10_isSleeper_9 : decode cX10_isSleeper 9 = .ok (.if_icmp .ge 7, 3) := by decide +kernel
theorem dX10_isSleeper_12 : decode cX10_isSleeper 12 = .ok (.iconst 1, 1) := by decide +kernel
theorem dX10_isSleeper_13 : decode cX10_isSleeper 13 = .ok (.goto 4, 3) := by decide +kernel
theorem dX10_isSleeper_16 : decode cX10_isSleeper 16 = .ok (.iconst 0, 1) := by decide +kernel
theorem dX10_isSleeper_17 : decode cX10_isSleeper 17 = .ok (.ireturn, 1) := by decide +kernel
theorem dX10_tosserAt_0 : decode cX10_tosserAt 0 = .ok (.iload_n 1, 1) := by decide +kernel
theorem dX10_tosserAt_1 : decode cX10_tosserAt 1 = .ok (.ifCond .lt 24, 3) := by decide +kernel
theorem dX10_tosserAt_4 : decode cX10_tosserAt 4 = .ok (.iload_n 1, 1) := by decide +kernel
theorem dX10_tosserAt_5 : decode cX10_tosserAt 5 = .ok (.aload_n 0, 1) := by decide +kernel
theorem dX10_tosserAt_6 : decode cX10_tosserAt 6 = .ok (.getfield 197, 3) := by decide +kernel
theorem dX10_tosserAt_9 : decode cX10_tosserAt 9 = .ok (.if_icmp .ge 16, 3) := by decide +kernel
theorem dX10_tosserAt_12 : decode cX10_tosserAt 12 = .ok (.iload_n 1, 1) := by decide +kernel
theorem dX10_tosserAt_13 : decode cX10_tosserAt 13 = .ok (.aload_n 0, 1) := by decide +kernel
theorem dX10_tosserAt_14 : decode cX10_tosserAt 14 = .ok (.getfield 25, 3) := by decide +kernel
theorem dX10_tosserAt_17 : decode cX10_tosserAt 17 = .ok (.arraylength, 1) := by decide +kernel
theorem dX10_tosserAt_18 : decode cX10_tosserAt 18 = .ok (.if_icmp .ge 7, 3) := by decide +kernel
theorem dX10_tosserAt_21 : decode cX10_tosserAt 21 = .ok (.iconst 1, 1) := by decide +kernel
theorem dX10_tosserAt_22 : decode cX10_tosserAt 22 = .ok (.goto 4, 3) := by decide +kernel
theorem dX10_tosserAt_25 : decode cX10_tosserAt 25 = .ok (.iconst 0, 1) := by decide +kernel
theorem dX10_tosserAt_26 : decode cX10_tosserAt 26 = .ok (.istore_n 2, 1) := by decide +kernel
theorem dX10_tosserAt_27 : decode cX10_tosserAt 27 = .ok (.iload_n 2, 1) := by decide +kernel
theorem dX10_tosserAt_28 : decode cX10_tosserAt 28 = .ok (.ifCond .eq 12, 3) := by decide +kernel
theorem dX10_tosserAt_31 : decode cX10_tosserAt 31 = .ok (.aload_n 0, 1) := by decide +kernel
theorem dX10_tosserAt_32 : decode cX10_tosserAt 32 = .ok (.getfield 25, 3) := by decide +kernel
theorem dX10_tosserAt_35 : decode cX10_tosserAt 35 = .ok (.iload_n 1, 1) := by decide +kernel
theorem dX10_tosserAt_36 : decode cX10_tosserAt 36 = .ok (.aaload, 1) := by decide +kernel
theorem dX10_tosserAt_37 : decode cX10_tosserAt 37 = .ok (.goto 4, 3) := by decide +kernel
theorem dX10_tosserAt_40 : decode cX10_tosserAt 40 = .ok (.aconst_null, 1) := by decide +kernel
theorem dX10_tosserAt_41 : decode cX10_tosserAt 41 = .ok (.areturn, 1) := by decide +kernel
theorem dX10_isToss_0 : decode cX10_isToss 0 = .ok (.aload_n 0, 1) := by decide +kernel
theorem dX10_isToss_1 : decode cX10_isToss 1 = .ok (.iload_n 1, 1) := by decide +kernel
theorem dX10_isToss_2 : decode cX10_isToss 2 = .ok (.invokevirtual 99, 3) := by decide +kernel
theorem dX10_isToss_5 : decode cX10_isToss 5 = .ok (.ifnull 15, 3) := by decide +kernel
theorem dX10_isToss_8 : decode cX10_isToss 8 = .ok (.aload_n 0, 1) := by decide +kernel
theorem dX10_isToss_9 : decode cX10_isToss 9 = .ok (.iload_n 2, 1) := by decide +kernel
theorem dX10_isToss_10 : decode cX10_isToss 10 = .ok (.invokevirtual 156, 3) := by decide +kernel
theorem dX10_isToss_13 : decode cX10_isToss 13 = .ok (.ifCond .eq 7, 3) := by decide +kernel
theorem dX10_isToss_16 : decode cX10_isToss 16 = .ok (.iconst 1, 1) := by decide +kernel
theorem dX10_isToss_17 : decode cX10_isToss 17 = .ok (.goto 4, 3) := by decide +kernel
theorem dX10_isToss_20 : decode cX10_isToss 20 = .ok (.iconst 0, 1) := by decide +kernel
theorem dX10_isToss_21 : decode cX10_isToss 21 = .ok (.ireturn, 1) := by decide +kernel
theorem dX10_isTakenByAnother_0 : decode cX10_isTakenByAnother 0 = .ok (.iconst 0, 1) := by decide +kernel
theorem dX10_isTakenByAnother_1 : decode cX10_isTakenByAnother 1 = .ok (.istore_n 3, 1) := by decide +kernel
theorem dX10_isTakenByAnother_2 : decode cX10_isTakenByAnother 2 = .ok (.iload_n 3, 1) := by decide +kernel
theorem dX10_isTakenByAnother_3 : decode cX10_isTakenByAnother 3 = .ok (.aload_n 0, 1) := by decide +kernel
theorem dX10_isTakenByAnother_4 : decode cX10_isTakenByAnother 4 = .ok (.getfield 72, 3) := by decide +kernel
theorem dX10_isTakenByAnother_7 : decode cX10_isTakenByAnother 7 = .ok (.if_icmp .ge 31, 3) := by decide +kernel
theorem dX10_isTakenByAnother_10 : decode cX10_isTakenByAnother 10 = .ok (.iload_n 3, 1) := by decide +kernel
theorem dX10_isTakenByAnother_11 : decode cX10_isTakenByAnother 11 = .ok (.iload_n 2, 1) := by decide +kernel
theorem dX10_isTakenByAnother_12 : decode cX10_isTakenByAnother 12 = .ok (.if_icmp .eq 20, 3) := by decide +kernel
theorem dX10_isTakenByAnother_15 : decode cX10_isTakenByAnother 15 = .ok (.aload_n 0, 1) := by decide +kernel
theorem dX10_isTakenByAnother_16 : decode cX10_isTakenByAnother 16 = .ok (.getfield 32, 3) := by decide +kernel
theorem dX10_isTakenByAnother_19 : decode cX10_isTakenByAnother 19 = .ok (.getfield 79, 3) := by decide +kernel
theorem dX10_isTakenByAnother_22 : decode cX10_isTakenByAnother 22 = .ok (.iload_n 3, 1) := by decide +kernel
theorem dX10_isTakenByAnother_23 : decode cX10_isTakenByAnother 23 = .ok (.invokestatic 82, 3) := by decide +kernel
theorem dX10_isTakenByAnother_26 : decode cX10_isTakenByAnother 26 = .ok (.iload_n 1, 1) := by decide +kernel
theorem dX10_isTakenByAnother_27 : decode cX10_isTakenByAnother 27 = .ok (.if_icmp .ne 5, 3) := by decide +kernel
theorem dX10_isTakenByAnother_30 : decode cX10_isTakenByAnother 30 = .ok (.iconst 1, 1) := by decide +kernel
theorem dX10_isTakenByAnother_31 : decode cX10_isTakenByAnother 31 = .ok (.ireturn, 1) := by decide +kernel
theorem dX10_isTakenByAnother_32 : decode cX10_isTakenByAnother 32 = .ok (.iinc 3 1, 3) := by decide +kernel
theorem dX10_isTakenByAnother_35 : decode cX10_isTakenByAnother 35 = .ok (.goto (-33), 3) := by decide +kernel
theorem dX10_isTakenByAnother_38 : decode cX10_isTakenByAnother 38 = .ok (.iconst 0, 1) := by decide +kernel
theorem dX10_isTakenByAnother_39 : decode cX10_isTakenByAnother 39 = .ok (.ireturn, 1) := by decide +kernel
theorem dX10_settle_0 : decode cX10_settle 0 = .ok (.aload_n 0, 1) := by decide +kernel
theorem dX10_settle_1 : decode cX10_settle 1 = .ok (.aload_n 0, 1) := by decide +kernel
theorem dX10_settle_2 : decode cX10_settle 2 = .ok (.getfield 19, 3) := by decide +kernel
theorem dX10_settle_5 : decode cX10_settle 5 = .ok (.getfield 262, 3) := by decide +kernel
theorem dX10_settle_8 : decode cX10_settle 8 = .ok (.putfield 72, 3) := by decide +kernel
theorem dX10_settle_11 : decode cX10_settle 11 = .ok (.aload_n 0, 1) := by decide +kernel
theorem dX10_settle_12 : decode cX10_settle 12 = .ok (.aload_n 0, 1) := by decide +kernel
theorem dX10_settle_13 : decode cX10_settle 13 = .ok (.getfield 19, 3) := by decide +kernel
theorem dX10_settle_16 : decode cX10_settle 16 = .ok (.getfield 265, 3) := by decide +kernel
theorem dX10_settle_19 : decode cX10_settle 19 = .ok (.putfield 197, 3) := by decide +kernel
theorem dX10_settle_22 : decode cX10_settle 22 = .ok (.aload_n 0, 1) := by decide +kernel
theorem dX10_settle_23 : decode cX10_settle 23 = .ok (.iconst 0, 1) := by decide +kernel
theorem dX10_settle_24 : decode cX10_settle 24 = .ok (.putfield 223, 3) := by decide +kernel
theorem dX10_settle_27 : decode cX10_settle 27 = .ok (.aload_n 0, 1) := by decide +kernel
theorem dX10_settle_28 : decode cX10_settle 28 = .ok (.getfield 32, 3) := by decide +kernel
theorem dX10_settle_31 : decode cX10_settle 31 = .ok (.aload_n 0, 1) := by decide +kernel
theorem dX10_settle_32 : decode cX10_settle 32 = .ok (.getfield 19, 3) := by decide +kernel
theorem dX10_settle_35 : decode cX10_settle 35 = .ok (.invokevirtual 267, 3) := by decide +kernel
theorem dX10_settle_38 : decode cX10_settle 38 = .ok (.iconst 0, 1) := by decide +kernel
theorem dX10_settle_39 : decode cX10_settle 39 = .ok (.istore_n 1, 1) := by decide +kernel
theorem dX10_settle_40 : decode cX10_settle 40 = .ok (.iload_n 1, 1) := by decide +kernel
theorem dX10_settle_41 : decode cX10_settle 41 = .ok (.aload_n 0, 1) := by decide +kernel
theorem dX10_settle_42 : decode cX10_settle 42 = .ok (.getfield 197, 3) := by decide +kernel
theorem dX10_settle_45 : decode cX10_settle 45 = .ok (.if_icmp .ge 38, 3) := by decide +kernel
theorem dX10_settle_48 : decode cX10_settle 48 = .ok (.iload_n 1, 1) := by decide +kernel
theorem dX10_settle_49 : decode cX10_settle 49 = .ok (.aload_n 0, 1) := by decide +kernel
theorem dX10_settle_50 : decode cX10_settle 50 = .ok (.getfield 25, 3) := by decide +kernel
theorem dX10_settle_53 : decode cX10_settle 53 = .ok (.arraylength, 1) := by decide +kernel
theorem dX10_settle_54 : decode cX10_settle 54 = .ok (.if_icmp .ge 29, 3) := by decide +kernel
theorem dX10_settle_57 : decode cX10_settle 57 = .ok (.aload_n 0, 1) := by decide +kernel
theorem dX10_settle_58 : decode cX10_settle 58 = .ok (.getfield 25, 3) := by decide +kernel
theorem dX10_settle_61 : decode cX10_settle 61 = .ok (.iload_n 1, 1) := by decide +kernel
theorem dX10_settle_62 : decode cX10_settle 62 = .ok (.aload_n 0, 1) := by decide +kernel
theorem dX10_settle_63 : decode cX10_settle 63 = .ok (.getfield 19, 3) := by decide +kernel
theorem dX10_settle_66 : decode cX10_settle 66 = .ok (.getfield 271, 3) := by decide +kernel
theorem dX10_settle_69 : decode cX10_settle 69 = .ok (.iload_n 1, 1) := by decide +kernel
theorem dX10_settle_70 : decode cX10_settle 70 = .ok (.invokestatic 82, 3) := by decide +kernel
theorem dX10_settle_73 : decode cX10_settle 73 = .ok (.invokestatic 274, 3) := by decide +kernel
theorem dX10_settle_76 : decode cX10_settle 76 = .ok (.aastore, 1) := by decide +kernel
theorem dX10_settle_77 : decode cX10_settle 77 = .ok (.iinc 1 1, 3) := by decide +kernel
theorem dX10_settle_80 : decode cX10_settle 80 = .ok (.goto (-40), 3) := by decide +kernel
theorem dX10_settle_83 : decode cX10_settle 83 = .ok (.return_, 1) := by decide +kernel
theorem dX10_landing_0 : decode cX10_landing 0 = .ok (.iload_n 2, 1) := by decide +kernel
theorem dX10_landing_1 : decode cX10_landing 1 = .ok (.bipush 6, 2) := by decide +kernel
theorem dX10_landing_3 : decode cX10_landing 3 = .ok (.idiv, 1) := by decide +kernel
theorem dX10_landing_4 : decode cX10_landing 4 = .ok (.aload_n 0, 1) := by decide +kernel
theorem dX10_landing_5 : decode cX10_landing 5 = .ok (.getfield 32, 3) := by decide +kernel
theorem dX10_landing_8 : decode cX10_landing 8 = .ok (.getfield 107, 3) := by decide +kernel
theorem dX10_landing_11 : decode cX10_landing 11 = .ok (.iload_n 1, 1) := by decide +kernel
theorem dX10_landing_12 : decode cX10_landing 12 = .ok (.invokestatic 82, 3) := by decide +kernel
theorem dX10_landing_15 : decode cX10_landing 15 = .ok (.iadd, 1) := by decide +kernel
theorem dX10_landing_16 : decode cX10_landing 16 = .ok (.iconst 2, 1) := by decide +kernel
theorem dX10_landing_17 : decode cX10_landing 17 = .ok (.isub, 1) := by decide +kernel
theorem dX10_landing_18 : decode cX10_landing 18 = .ok (.istore 4, 2) := by decide +kernel
theorem dX10_landing_20 : decode cX10_landing 20 = .ok (.iload_n 2, 1) := by decide +kernel
theorem dX10_landing_21 : decode cX10_landing 21 = .ok (.bipush 6, 2) := by decide +kernel
theorem dX10_landing_23 : decode cX10_landing 23 = .ok (.irem, 1) := by decide +kernel
theorem dX10_landing_24 : decode cX10_landing 24 = .ok (.aload_n 0, 1) := by decide +kernel
theorem dX10_landing_25 : decode cX10_landing 25 = .ok (.getfield 32, 3) := by decide +kernel
theorem dX10_landing_28 : decode cX10_landing 28 = .ok (.getfield 110, 3) := by decide +kernel
theorem dX10_landing_31 : decode cX10_landing 31 = .ok (.iload_n 1, 1) := by decide +kernel
theorem dX10_landing_32 : decode cX10_landing 32 = .ok (.invokestatic 82, 3) := by decide +kernel
theorem dX10_landing_35 : decode cX10_landing 35 = .ok (.iadd, 1) := by decide +kernel
theorem dX10_landing_36 : decode cX10_landing 36 = .ok (.iconst 2, 1) := by decide +kernel
theorem dX10_landing_37 : decode cX10_landing 37 = .ok (.isub, 1) := by decide +kernel
theorem dX10_landing_38 : decode cX10_landing 38 = .ok (.iload_n 3, 1) := by decide +kernel
theorem dX10_landing_39 : decode cX10_landing 39 = .ok (.iadd, 1) := by decide +kernel
theorem dX10_landing_40 : decode cX10_landing 40 = .ok (.istore 5, 2) := by decide +kernel
theorem dX10_landing_42 : decode cX10_landing 42 = .ok (.iload 4, 2) := by decide +kernel
theorem dX10_landing_44 : decode cX10_landing 44 = .ok (.iload 5, 2) := by decide +kernel
theorem dX10_landing_46 : decode cX10_landing 46 = .ok (.invokestatic 277, 3) := by decide +kernel
theorem dX10_landing_49 : decode cX10_landing 49 = .ok (.ireturn, 1) := by decide +kernel
theorem dX10_crowdUnder_0 : decode cX10_crowdUnder 0 = .ok (.aload_n 0, 1) := by decide +kernel
theorem dX10_crowdUnder_1 : decode cX10_crowdUnder 1 = .ok (.iload_n 1, 1) := by decide +kernel
theorem dX10_crowdUnder_2 : decode cX10_crowdUnder 2 = .ok (.invokevirtual 99, 3) := by decide +kernel
theorem dX10_crowdUnder_5 : decode cX10_crowdUnder 5 = .ok (.astore 4, 2) := by decide +kernel
theorem dX10_crowdUnder_7 : decode cX10_crowdUnder 7 = .ok (.aload_n 0, 1) := by decide +kernel
theorem dX10_crowdUnder_8 : decode cX10_crowdUnder 8 = .ok (.iload_n 1, 1) := by decide +kernel
theorem dX10_crowdUnder_9 : decode cX10_crowdUnder 9 = .ok (.iload_n 2, 1) := by decide +kernel
theorem dX10_crowdUnder_10 : decode cX10_crowdUnder 10 = .ok (.iload_n 3, 1) := by decide +kernel
theorem dX10_crowdUnder_11 : decode cX10_crowdUnder 11 = .ok (.invokevirtual 149, 3) := by decide +kernel
theorem dX10_crowdUnder_14 : decode cX10_crowdUnder 14 = .ok (.istore 5, 2) := by decide +kernel
theorem dX10_crowdUnder_16 : decode cX10_crowdUnder 16 = .ok (.aload 4, 2) := by decide +kernel
theorem dX10_crowdUnder_18 : decode cX10_crowdUnder 18 = .ok (.ifnull 9, 3) := by decide +kernel
theorem dX10_crowdUnder_21 : decode cX10_crowdUnder 21 = .ok (.iload 5, 2) := by decide +kernel
theorem dX10_crowdUnder_23 : decode cX10_crowdUnder 23 = .ok (.iconst (-1), 1) := by decide +kernel
theorem dX10_crowdUnder_24 : decode cX10_crowdUnder 24 = .ok (.if_icmp .ne 5, 3) := by decide +kernel
theorem dX10_crowdUnder_27 : decode cX10_crowdUnder 27 = .ok (.iconst 0, 1) := by decide +kernel
theorem dX10_crowdUnder_28 : decode cX10_crowdUnder 28 = .ok (.ireturn, 1) := by decide +kernel
theorem dX10_crowdUnder_29 : decode cX10_crowdUnder 29 = .ok (.iconst 0, 1) := by decide +kernel
theorem dX10_crowdUnder_30 : decode cX10_crowdUnder 30 = .ok (.istore 6, 2) := by decide +kernel
theorem dX10_crowdUnder_32 : decode cX10_crowdUnder 32 = .ok (.iconst 0, 1) := by decide +kernel
theorem dX10_crowdUnder_33 : decode cX10_crowdUnder 33 = .ok (.istore 7, 2) := by decide +kernel
theorem dX10_crowdUnder_35 : decode cX10_crowdUnder 35 = .ok (.iload 7, 2) := by decide +kernel
theorem dX10_crowdUnder_37 : decode cX10_crowdUnder 37 = .ok (.aload_n 0, 1) := by decide +kernel
theorem dX10_crowdUnder_38 : decode cX10_crowdUnder 38 = .ok (.getfield 72, 3) := by decide +kernel
theorem dX10_crowdUnder_41 : decode cX10_crowdUnder 41 = .ok (.if_icmp .ge 62, 3) := by decide +kernel
theorem dX10_crowdUnder_44 : decode cX10_crowdUnder 44 = .ok (.aload_n 0, 1) := by decide +kernel
theorem dX10_crowdUnder_45 : decode cX10_crowdUnder 45 = .ok (.getfield 32, 3) := by decide +kernel
theorem dX10_crowdUnder_48 : decode cX10_crowdUnder 48 = .ok (.getfield 79, 3) := by decide +kernel
theorem dX10_crowdUnder_51 : decode cX10_crowdUnder 51 = .ok (.iload 7, 2) := by decide +kernel
theorem dX10_crowdUnder_53 : decode cX10_crowdUnder 53 = .ok (.invokestatic 82, 3) := by decide +kernel
theorem dX10_crowdUnder_56 : decode cX10_crowdUnder 56 = .ok (.istore 8, 2) := by decide +kernel
theorem dX10_crowdUnder_58 : decode cX10_crowdUnder 58 = .ok (.aload 4, 2) := by decide +kernel
theorem dX10_crowdUnder_60 : decode cX10_crowdUnder 60 = .ok (.iload 8, 2) := by decide +kernel
theorem dX10_crowdUnder_62 : decode cX10_crowdUnder 62 = .ok (.bipush 6, 2) := by decide +kernel
theorem dX10_crowdUnder_64 : decode cX10_crowdUnder 64 = .ok (.idiv, 1) := by decide +kernel
theorem dX10_crowdUnder_65 : decode cX10_crowdUnder 65 = .ok (.iload 5, 2) := by decide +kernel
theorem dX10_crowdUnder_67 : decode cX10_crowdUnder 67 = .ok (.bipush 6, 2) := by decide +kernel
theorem dX10_crowdUnder_69 : decode cX10_crowdUnder 69 = .ok (.idiv, 1) := by decide +kernel
theorem dX10_crowdUnder_70 : decode cX10_crowdUnder 70 = .ok (.isub, 1) := by decide +kernel
theorem dX10_crowdUnder_71 : decode cX10_crowdUnder 71 = .ok (.iload 8, 2) := by decide +kernel
theorem dX10_crowdUnder_73 : decode cX10_crowdUnder 73 = .ok (.bipush 6, 2) := by decide +kernel
theorem dX10_crowdUnder_75 : decode cX10_crowdUnder 75 = .ok (.irem, 1) := by decide +kernel
theorem dX10_crowdUnder_76 : decode cX10_crowdUnder 76 = .ok (.iload 5, 2) := by decide +kernel
theorem dX10_crowdUnder_78 : decode cX10_crowdUnder 78 = .ok (.bipush 6, 2) := by decide +kernel
theorem dX10_crowdUnder_80 : decode cX10_crowdUnder 80 = .ok (.irem, 1) := by decide +kernel
theorem dX10_crowdUnder_81 : decode cX10_crowdUnder 81 = .ok (.isub, 1) := by decide +kernel
theorem dX10_crowdUnder_82 : decode cX10_crowdUnder 82 = .ok (.invokevirtual 280, 3) := by decide +kernel
theorem dX10_crowdUnder_85 : decode cX10_crowdUnder 85 = .ok (.ifCond .eq 12, 3) := by decide +kernel
theorem dX10_crowdUnder_88 : decode cX10_crowdUnder 88 = .ok (.iload 6, 2) := by decide +kernel
theorem dX10_crowdUnder_90 : decode cX10_crowdUnder 90 = .ok (.iconst 1, 1) := by decide +kernel
theorem dX10_crowdUnder_91 : decode cX10_crowdUnder 91 = .ok (.iload 7, 2) := by decide +kernel
theorem dX10_crowdUnder_93 : decode cX10_crowdUnder 93 = .ok (.ishl, 1) := by decide +kernel
theorem dX10_crowdUnder_94 : decode cX10_crowdUnder 94 = .ok (.ior, 1) := by decide +kernel
theorem dX10_crowdUnder_95 : decode cX10_crowdUnder 95 = .ok (.istore 6, 2) := by decide +kernel
theorem dX10_crowdUnder_97 : decode cX10_crowdUnder 97 = .ok (.iinc 7 1, 3) := by decide +kernel
theorem dX10_crowdUnder_100 : decode cX10_crowdUnder 100 = .ok (.goto (-65), 3) := by decide +kernel
theorem dX10_crowdUnder_103 : decode cX10_crowdUnder 103 = .ok (.iload 6, 2) := by decide +kernel
theorem dX10_crowdUnder_105 : decode cX10_crowdUnder 105 = .ok (.ireturn, 1) := by decide +kernel
theorem dX10_canLandAt_0 : decode cX10_canLandAt 0 = .ok (.iconst 0, 1) := by decide +kernel
theorem dX10_canLandAt_1 : decode cX10_canLandAt 1 = .ok (.istore_n 3, 1) := by decide +kernel
theorem dX10_canLandAt_2 : decode cX10_canLandAt 2 = .ok (.iload_n 3, 1) := by decide +kernel
theorem dX10_canLandAt_3 : decode cX10_canLandAt 3 = .ok (.bipush 36, 2) := by decide +kernel
theorem dX10_canLandAt_5 : decode cX10_canLandAt 5 = .ok (.if_icmp .ge 28, 3) := by decide +kernel
theorem dX10_canLandAt_8 : decode cX10_canLandAt 8 = .ok (.aload_n 0, 1) := by decide +kernel
theorem dX10_canLandAt_9 : decode cX10_canLandAt 9 = .ok (.iload_n 1, 1) := by decide +kernel
theorem dX10_canLandAt_10 : decode cX10_canLandAt 10 = .ok (.iload_n 3, 1) := by decide +kernel
theorem dX10_canLandAt_11 : decode cX10_canLandAt 11 = .ok (.aload_n 0, 1) := by decide +kernel
theorem dX10_canLandAt_12 : decode cX10_canLandAt 12 = .ok (.getfield 32, 3) := by decide +kernel
theorem dX10_canLandAt_15 : decode cX10_canLandAt 15 = .ok (.getfield 146, 3) := by decide +kernel
theorem dX10_canLandAt_18 : decode cX10_canLandAt 18 = .ok (.invokevirtual 149, 3) := by decide +kernel
theorem dX10_canLandAt_21 : decode cX10_canLandAt 21 = .ok (.iload_n 2, 1) := by decide +kernel
theorem dX10_canLandAt_22 : decode cX10_canLandAt 22 = .ok (.if_icmp .ne 5, 3) := by decide +kernel
theorem dX10_canLandAt_25 : decode cX10_canLandAt 25 = .ok (.iconst 1, 1) := by decide +kernel
theorem dX10_canLandAt_26 : decode cX10_canLandAt 26 = .ok (.ireturn, 1) := by decide +kernel
theorem dX10_canLandAt_27 : decode cX10_canLandAt 27 = .ok (.iinc 3 1, 3) := by decide +kernel
theorem dX10_canLandAt_30 : decode cX10_canLandAt 30 = .ok (.goto (-28), 3) := by decide +kernel
theorem dX10_canLandAt_33 : decode cX10_canLandAt 33 = .ok (.iconst 0, 1) := by decide +kernel
theorem dX10_canLandAt_34 : decode cX10_canLandAt 34 = .ok (.ireturn, 1) := by decide +kernel
theorem dX10_freshOf_0 : decode cX10_freshOf 0 = .ok (.aload_n 0, 1) := by decide +kernel
theorem dX10_freshOf_1 : decode cX10_freshOf 1 = .ok (.iload_n 1, 1) := by decide +kernel
theorem dX10_freshOf_2 : decode cX10_freshOf 2 = .ok (.iload_n 2, 1) := by decide +kernel
theorem dX10_freshOf_3 : decode cX10_freshOf 3 = .ok (.aload_n 0, 1) := by decide +kernel
theorem dX10_freshOf_4 : decode cX10_freshOf 4 = .ok (.getfield 32, 3) := by decide +kernel
theorem dX10_freshOf_7 : decode cX10_freshOf 7 = .ok (.getfield 146, 3) := by decide +kernel
theorem dX10_freshOf_10 : decode cX10_freshOf 10 = .ok (.invokevirtual 153, 3) := by decide +kernel
theorem dX10_freshOf_13 : decode cX10_freshOf 13 = .ok (.aload_n 0, 1) := by decide +kernel
theorem dX10_freshOf_14 : decode cX10_freshOf 14 = .ok (.getfield 32, 3) := by decide +kernel
theorem dX10_freshOf_17 : decode cX10_freshOf 17 = .ok (.getfield 86, 3) := by decide +kernel
theorem dX10_freshOf_20 : decode cX10_freshOf 20 = .ok (.iconst (-1), 1) := by decide +kernel
theorem dX10_freshOf_21 : decode cX10_freshOf 21 = .ok (.ixor, 1) := by decide +kernel
theorem dX10_freshOf_22 : decode cX10_freshOf 22 = .ok (.iand, 1) := by decide +kernel
theorem dX10_freshOf_23 : decode cX10_freshOf 23 = .ok (.invokestatic 168, 3) := by decide +kernel
theorem dX10_freshOf_26 : decode cX10_freshOf 26 = .ok (.ireturn, 1) := by decide +kernel
theorem dX10_bestAimOf_0 : decode cX10_bestAimOf 0 = .ok (.iconst 0, 1) := by decide +kernel
theorem dX10_bestAimOf_1 : decode cX10_bestAimOf 1 = .ok (.istore_n 2, 1) := by decide +kernel
theorem dX10_bestAimOf_2 : decode cX10_bestAimOf 2 = .ok (.aload_n 0, 1) := by decide +kernel
theorem dX10_bestAimOf_3 : decode cX10_bestAimOf 3 = .ok (.iload_n 1, 1) := by decide +kernel
theorem dX10_bestAimOf_4 : decode cX10_bestAimOf 4 = .ok (.iconst 0, 1) := by decide +kernel
