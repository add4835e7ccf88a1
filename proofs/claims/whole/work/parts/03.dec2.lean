theorem dX10_digest_94 : decode cX10_digest 94 = .ok (.lload_n 1, 1) := by decide +kernel
theorem dX10_digest_95 : decode cX10_digest 95 = .ok (.lmul, 1) := by decide +kernel
theorem dX10_digest_96 : decode cX10_digest 96 = .ok (.aload_n 0, 1) := by decide +kernel
theorem dX10_digest_97 : decode cX10_digest 97 = .ok (.iload_n 3, 1) := by decide +kernel
theorem dX10_digest_98 : decode cX10_digest 98 = .ok (.bipush 14, 2) := by decide +kernel
theorem dX10_digest_100 : decode cX10_digest 100 = .ok (.invokevirtual 241, 3) := by decide +kernel
theorem dX10_digest_103 : decode cX10_digest 103 = .ok (.i2l, 1) := by decide +kernel
theorem dX10_digest_104 : decode cX10_digest 104 = .ok (.ladd, 1) := by decide +kernel
theorem dX10_digest_105 : decode cX10_digest 105 = .ok (.lstore_n 1, 1) := by decide +kernel
theorem dX10_digest_106 : decode cX10_digest 106 = .ok (.ldc2_w 233, 3) := by decide +kernel
theorem dX10_digest_109 : decode cX10_digest 109 = .ok (.lload_n 1, 1) := by decide +kernel
theorem dX10_digest_110 : decode cX10_digest 110 = .ok (.lmul, 1) := by decide +kernel
theorem dX10_digest_111 : decode cX10_digest 111 = .ok (.aload_n 0, 1) := by decide +kernel
theorem dX10_digest_112 : decode cX10_digest 112 = .ok (.iload_n 3, 1) := by decide +kernel
theorem dX10_digest_113 : decode cX10_digest 113 = .ok (.bipush 14, 2) := by decide +kernel
theorem dX10_digest_115 : decode cX10_digest 115 = .ok (.invokevirtual 244, 3) := by decide +kernel
theorem dX10_digest_118 : decode cX10_digest 118 = .ok (.i2l, 1) := by decide +kernel
theorem dX10_digest_119 : decode cX10_digest 119 = .ok (.ladd, 1) := by decide +kernel
theorem dX10_digest_120 : decode cX10_digest 120 = .ok (.lstore_n 1, 1) := by decide +kernel
theorem dX10_digest_121 : decode cX10_digest 121 = .ok (.iinc 3 1, 3) := by decide +kernel
theorem dX10_digest_124 : decode cX10_digest 124 = .ok (.goto (-72), 3) := by decide +kernel
theorem dX10_digest_127 : decode cX10_digest 127 = .ok (.aload_n 0, 1) := by decide +kernel
theorem dX10_digest_128 : decode cX10_digest 128 = .ok (.invokevirtual 173, 3) := by decide +kernel
theorem dX10_digest_131 : decode cX10_digest 131 = .ok (.ifCond .eq 9, 3) := by decide +kernel
theorem dX10_digest_134 : decode cX10_digest 134 = .ok (.aload_n 0, 1) := by decide +kernel
theorem dX10_digest_135 : decode cX10_digest 135 = .ok (.lload_n 1, 1) := by decide +kernel
theorem dX10_digest_136 : decode cX10_digest 136 = .ok (.invokevirtual 247, 3) := by decide +kernel
theorem dX10_digest_139 : decode cX10_digest 139 = .ok (.lstore_n 1, 1) := by decide +kernel
theorem dX10_digest_140 : decode cX10_digest 140 = .ok (.iconst 0, 1) := by decide +kernel
theorem dX10_digest_141 : decode cX10_digest 141 = .ok (.istore_n 3, 1) := by decide +kernel
theorem dX10_digest_142 : decode cX10_digest 142 = .ok (.iload_n 3, 1) := by decide +kernel
theorem dX10_digest_143 : decode cX10_digest 143 = .ok (.aload_n 0, 1) := by decide +kernel
theorem dX10_digest_144 : decode cX10_digest 144 = .ok (.getfield 10, 3) := by decide +kernel
theorem dX10_digest_147 : decode cX10_digest 147 = .ok (.getfield 50, 3) := by decide +kernel
theorem dX10_digest_150 : decode cX10_digest 150 = .ok (.if_icmp .ge 28, 3) := by decide +kernel
theorem dX10_digest_153 : decode cX10_digest 153 = .ok (.ldc2_w 233, 3) := by decide +kernel
theorem dX10_digest_156 : decode cX10_digest 156 = .ok (.lload_n 1, 1) := by decide +kernel
theorem dX10_digest_157 : decode cX10_digest 157 = .ok (.lmul, 1) := by decide +kernel
theorem dX10_digest_158 : decode cX10_digest 158 = .ok (.aload_n 0, 1) := by decide +kernel
theorem dX10_digest_159 : decode cX10_digest 159 = .ok (.getfield 10, 3) := by decide +kernel
theorem dX10_digest_162 : decode cX10_digest 162 = .ok (.getfield 251, 3) := by decide +kernel
theorem dX10_digest_165 : decode cX10_digest 165 = .ok (.iload_n 3, 1) := by decide +kernel
theorem dX10_digest_166 : decode cX10_digest 166 = .ok (.invokestatic 82, 3) := by decide +kernel
theorem dX10_digest_169 : decode cX10_digest 169 = .ok (.i2l, 1) := by decide +kernel
theorem dX10_digest_170 : decode cX10_digest 170 = .ok (.ladd, 1) := by decide +kernel
theorem dX10_digest_171 : decode cX10_digest 171 = .ok (.lstore_n 1, 1) := by decide +kernel
theorem dX10_digest_172 : decode cX10_digest 172 = .ok (.iinc 3 1, 3) := by decide +kernel
theorem dX10_digest_175 : decode cX10_digest 175 = .ok (.goto (-33), 3) := by decide +kernel
theorem dX10_digest_178 : decode cX10_digest 178 = .ok (.iconst 0, 1) := by decide +kernel
theorem dX10_digest_179 : decode cX10_digest 179 = .ok (.istore_n 3, 1) := by decide +kernel
theorem dX10_digest_180 : decode cX10_digest 180 = .ok (.iload_n 3, 1) := by decide +kernel
theorem dX10_digest_181 : decode cX10_digest 181 = .ok (.bipush 11, 2) := by decide +kernel
theorem dX10_digest_183 : decode cX10_digest 183 = .ok (.if_icmp .gt 22, 3) := by decide +kernel
theorem dX10_digest_186 : decode cX10_digest 186 = .ok (.ldc2_w 233, 3) := by decide +kernel
theorem dX10_digest_189 : decode cX10_digest 189 = .ok (.lload_n 1, 1) := by decide +kernel
theorem dX10_digest_190 : decode cX10_digest 190 = .ok (.lmul, 1) := by decide +kernel
theorem dX10_digest_191 : decode cX10_digest 191 = .ok (.aload_n 0, 1) := by decide +kernel
theorem dX10_digest_192 : decode cX10_digest 192 = .ok (.iload_n 3, 1) := by decide +kernel
theorem dX10_digest_193 : decode cX10_digest 193 = .ok (.invokevirtual 254, 3) := by decide +kernel
theorem dX10_digest_196 : decode cX10_digest 196 = .ok (.i2l, 1) := by decide +kernel
theorem dX10_digest_197 : decode cX10_digest 197 = .ok (.ladd, 1) := by decide +kernel
theorem dX10_digest_198 : decode cX10_digest 198 = .ok (.lstore_n 1, 1) := by decide +kernel
theorem dX10_digest_199 : decode cX10_digest 199 = .ok (.iinc 3 1, 3) := by decide +kernel
theorem dX10_digest_202 : decode cX10_digest 202 = .ok (.goto (-22), 3) := by decide +kernel
theorem dX10_digest_205 : decode cX10_digest 205 = .ok (.lload_n 1, 1) := by decide +kernel
theorem dX10_digest_206 : decode cX10_digest 206 = .ok (.lreturn, 1) := by decide +kernel
theorem dX10_digestOfPlans_0 : decode cX10_digestOfPlans 0 = .ok (.lload_n 1, 1) := by decide +kernel
theorem dX10_digestOfPlans_1 : decode cX10_digestOfPlans 1 = .ok (.lstore_n 3, 1) := by decide +kernel
theorem dX10_digestOfPlans_2 : decode cX10_digestOfPlans 2 = .ok (.aload_n 0, 1) := by decide +kernel
theorem dX10_digestOfPlans_3 : decode cX10_digestOfPlans 3 = .ok (.aload_n 0, 1) := by decide +kernel
theorem dX10_digestOfPlans_4 : decode cX10_digestOfPlans 4 = .ok (.invokevirtual 188, 3) := by decide +kernel
theorem dX10_digestOfPlans_7 : decode cX10_digestOfPlans 7 = .ok (.aload_n 0, 1) := by decide +kernel
theorem dX10_digestOfPlans_8 : decode cX10_digestOfPlans 8 = .ok (.getfield 32, 3) := by decide +kernel
theorem dX10_digestOfPlans_11 : decode cX10_digestOfPlans 11 = .ok (.getfield 86, 3) := by decide +kernel
theorem dX10_digestOfPlans_14 : decode cX10_digestOfPlans 14 = .ok (.iconst (-1), 1) := by decide +kernel
theorem dX10_digestOfPlans_15 : decode cX10_digestOfPlans 15 = .ok (.ixor, 1) := by decide +kernel
theorem dX10_digestOfPlans_16 : decode cX10_digestOfPlans 16 = .ok (.iand, 1) := by decide +kernel
theorem dX10_digestOfPlans_17 : decode cX10_digestOfPlans 17 = .ok (.invokevirtual 191, 3) := by decide +kernel
theorem dX10_digestOfPlans_20 : decode cX10_digestOfPlans 20 = .ok (.ldc2_w 233, 3) := by decide +kernel
theorem dX10_digestOfPlans_23 : decode cX10_digestOfPlans 23 = .ok (.lload_n 3, 1) := by decide +kernel
theorem dX10_digestOfPlans_24 : decode cX10_digestOfPlans 24 = .ok (.lmul, 1) := by decide +kernel
theorem dX10_digestOfPlans_25 : decode cX10_digestOfPlans 25 = .ok (.aload_n 0, 1) := by decide +kernel
theorem dX10_digestOfPlans_26 : decode cX10_digestOfPlans 26 = .ok (.getfield 42, 3) := by decide +kernel
theorem dX10_digestOfPlans_29 : decode cX10_digestOfPlans 29 = .ok (.iconst 0, 1) := by decide +kernel
theorem dX10_digestOfPlans_30 : decode cX10_digestOfPlans 30 = .ok (.invokevirtual 194, 3) := by decide +kernel
theorem dX10_digestOfPlans_33 : decode cX10_digestOfPlans 33 = .ok (.i2l, 1) := by decide +kernel
theorem dX10_digestOfPlans_34 : decode cX10_digestOfPlans 34 = .ok (.ladd, 1) := by decide +kernel
theorem dX10_digestOfPlans_35 : decode cX10_digestOfPlans 35 = .ok (.lstore_n 3, 1) := by decide +kernel
theorem dX10_digestOfPlans_36 : decode cX10_digestOfPlans 36 = .ok (.ldc2_w 233, 3) := by decide +kernel
theorem dX10_digestOfPlans_39 : decode cX10_digestOfPlans 39 = .ok (.lload_n 3, 1) := by decide +kernel
theorem dX10_digestOfPlans_40 : decode cX10_digestOfPlans 40 = .ok (.lmul, 1) := by decide +kernel
theorem dX10_digestOfPlans_41 : decode cX10_digestOfPlans 41 = .ok (.aload_n 0, 1) := by decide +kernel
theorem dX10_digestOfPlans_42 : decode cX10_digestOfPlans 42 = .ok (.getfield 42, 3) := by decide +kernel
theorem dX10_digestOfPlans_45 : decode cX10_digestOfPlans 45 = .ok (.iconst 1, 1) := by decide +kernel
theorem dX10_digestOfPlans_46 : decode cX10_digestOfPlans 46 = .ok (.invokevirtual 194, 3) := by decide +kernel
theorem dX10_digestOfPlans_49 : decode cX10_digestOfPlans 49 = .ok (.i2l, 1) := by decide +kernel
theorem dX10_digestOfPlans_50 : decode cX10_digestOfPlans 50 = .ok (.ladd, 1) := by decide +kernel
theorem dX10_digestOfPlans_51 : decode cX10_digestOfPlans 51 = .ok (.lstore_n 3, 1) := by decide +kernel
theorem dX10_digestOfPlans_52 : decode cX10_digestOfPlans 52 = .ok (.bipush 10, 2) := by decide +kernel
theorem dX10_digestOfPlans_54 : decode cX10_digestOfPlans 54 = .ok (.istore 5, 2) := by decide +kernel
theorem dX10_digestOfPlans_56 : decode cX10_digestOfPlans 56 = .ok (.iload 5, 2) := by decide +kernel
theorem dX10_digestOfPlans_58 : decode cX10_digestOfPlans 58 = .ok (.bipush 15, 2) := by decide +kernel
theorem dX10_digestOfPlans_60 : decode cX10_digestOfPlans 60 = .ok (.if_icmp .gt 26, 3) := by decide +kernel
theorem dX10_digestOfPlans_63 : decode cX10_digestOfPlans 63 = .ok (.ldc2_w 233, 3) := by decide +kernel
theorem dX10_digestOfPlans_66 : decode cX10_digestOfPlans 66 = .ok (.lload_n 3, 1) := by decide +kernel
theorem dX10_digestOfPlans_67 : decode cX10_digestOfPlans 67 = .ok (.lmul, 1) := by decide +kernel
theorem dX10_digestOfPlans_68 : decode cX10_digestOfPlans 68 = .ok (.aload_n 0, 1) := by decide +kernel
theorem dX10_digestOfPlans_69 : decode cX10_digestOfPlans 69 = .ok (.getfield 42, 3) := by decide +kernel
theorem dX10_digestOfPlans_72 : decode cX10_digestOfPlans 72 = .ok (.iload 5, 2) := by decide +kernel
theorem dX10_digestOfPlans_74 : decode cX10_digestOfPlans 74 = .ok (.invokevirtual 194, 3) := by decide +kernel
theorem dX10_digestOfPlans_77 : decode cX10_digestOfPlans 77 = .ok (.i2l, 1) := by decide +kernel
theorem dX10_digestOfPlans_78 : decode cX10_digestOfPlans 78 = .ok (.ladd, 1) := by decide +kernel
theorem dX10_digestOfPlans_79 : decode cX10_digestOfPlans 79 = .ok (.lstore_n 3, 1) := by decide +kernel
theorem dX10_digestOfPlans_80 : decode cX10_digestOfPlans 80 = .ok (.iinc 5 1, 3) := by decide +kernel
theorem dX10_digestOfPlans_83 : decode cX10_digestOfPlans 83 = .ok (.goto (-27), 3) := by decide +kernel
theorem dX10_digestOfPlans_86 : decode cX10_digestOfPlans 86 = .ok (.ldc2_w 233, 3) := by decide +kernel
theorem dX10_digestOfPlans_89 : decode cX10_digestOfPlans 89 = .ok (.lload_n 3, 1) := by decide +kernel
theorem dX10_digestOfPlans_90 : decode cX10_digestOfPlans 90 = .ok (.lmul, 1) := by decide +kernel
theorem dX10_digestOfPlans_91 : decode cX10_digestOfPlans 91 = .ok (.aload_n 0, 1) := by decide +kernel
theorem dX10_digestOfPlans_92 : decode cX10_digestOfPlans 92 = .ok (.invokevirtual 256, 3) := by decide +kernel
theorem dX10_digestOfPlans_95 : decode cX10_digestOfPlans 95 = .ok (.i2l, 1) := by decide +kernel
theorem dX10_digestOfPlans_96 : decode cX10_digestOfPlans 96 = .ok (.ladd, 1) := by decide +kernel
theorem dX10_digestOfPlans_97 : decode cX10_digestOfPlans 97 = .ok (.lstore_n 3, 1) := by decide +kernel
theorem dX10_digestOfPlans_98 : decode cX10_digestOfPlans 98 = .ok (.ldc2_w 233, 3) := by decide +kernel
theorem dX10_digestOfPlans_101 : decode cX10_digestOfPlans 101 = .ok (.lload_n 3, 1) := by decide +kernel
theorem dX10_digestOfPlans_102 : decode cX10_digestOfPlans 102 = .ok (.lmul, 1) := by decide +kernel
theorem dX10_digestOfPlans_103 : decode cX10_digestOfPlans 103 = .ok (.aload_n 0, 1) := by decide +kernel
theorem dX10_digestOfPlans_104 : decode cX10_digestOfPlans 104 = .ok (.iconst 0, 1) := by decide +kernel
theorem dX10_digestOfPlans_105 : decode cX10_digestOfPlans 105 = .ok (.invokevirtual 259, 3) := by decide +kernel
theorem dX10_digestOfPlans_108 : decode cX10_digestOfPlans 108 = .ok (.i2l, 1) := by decide +kernel
theorem dX10_digestOfPlans_109 : decode cX10_digestOfPlans 109 = .ok (.ladd, 1) := by decide +kernel
theorem dX10_digestOfPlans_110 : decode cX10_digestOfPlans 110 = .ok (.lstore_n 3, 1) := by decide +kernel
theorem dX10_digestOfPlans_111 : decode cX10_digestOfPlans 111 = .ok (.ldc2_w 233, 3) := by decide +kernel
theorem dX10_digestOfPlans_114 : decode cX10_digestOfPlans 114 = .ok (.lload_n 3, 1) := by decide +kernel
theorem dX10_digestOfPlans_115 : decode cX10_digestOfPlans 115 = .ok (.lmul, 1) := by decide +kernel
theorem dX10_digestOfPlans_116 : decode cX10_digestOfPlans 116 = .ok (.aload_n 0, 1) := by decide +kernel
theorem dX10_digestOfPlans_117 : decode cX10_digestOfPlans 117 = .ok (.bipush 21, 2) := by decide +kernel
theorem dX10_digestOfPlans_119 : decode cX10_digestOfPlans 119 = .ok (.invokevirtual 259, 3) := by decide +kernel
theorem dX10_digestOfPlans_122 : decode cX10_digestOfPlans 122 = .ok (.i2l, 1) := by decide +kernel
theorem dX10_digestOfPlans_123 : decode cX10_digestOfPlans 123 = .ok (.ladd, 1) := by decide +kernel
theorem dX10_digestOfPlans_124 : decode cX10_digestOfPlans 124 = .ok (.lreturn, 1) := by decide +kernel
theorem dX10_hasPort_0 : decode cX10_hasPort 0 = .ok (.aload_n 0, 1) := by decide +kernel
theorem dX10_hasPort_1 : decode cX10_hasPort 1 = .ok (.getfield 72, 3) := by decide +kernel
theorem dX10_hasPort_4 : decode cX10_hasPort 4 = .ok (.ifCond .le 7, 3) := by decide +kernel
theorem dX10_hasPort_7 : decode cX10_hasPort 7 = .ok (.iconst 1, 1) := by decide +kernel
theorem dX10_hasPort_8 : decode cX10_hasPort 8 = .ok (.goto 4, 3) := by decide +kernel
theorem dX10_hasPort_11 : decode cX10_hasPort 11 = .ok (.iconst 0, 1) := by decide +kernel
theorem dX10_hasPort_12 : decode cX10_hasPort 12 = .ok (.ireturn, 1) := by decide +kernel
theorem dX10_isCell_0 : decode cX10_isCell 0 = .ok (.aload_n 0, 1) := by decide +kernel
theorem dX10_isCell_1 : decode cX10_isCell 1 = .ok (.invokevirtual 173, 3) := by decide +kernel
theorem dX10_isCell_4 : decode cX10_isCell 4 = .ok (.ifCond .eq 17, 3) := by decide +kernel
theorem dX10_isCell_7 : decode cX10_isCell 7 = .ok (.iload_n 1, 1) := by decide +kernel
theorem dX10_isCell_8 : decode cX10_isCell 8 = .ok (.ifCond .lt 13, 3) := by decide +kernel
theorem dX10_isCell_11 : decode cX10_isCell 11 = .ok (.iload_n 1, 1) := by decide +kernel
theorem dX10_isCell_12 : decode cX10_isCell 12 = .ok (.bipush 36, 2) := by decide +kernel
theorem dX10_isCell_14 : decode cX10_isCell 14 = .ok (.if_icmp .ge 7, 3) := by decide +kernel
theorem dX10_isCell_17 : decode cX10_isCell 17 = .ok (.iconst 1, 1) := by decide +kernel
theorem dX10_isCell_18 : decode cX10_isCell 18 = .ok (.goto 4, 3) := by decide +kernel
theorem dX10_isCell_21 : decode cX10_isCell 21 = .ok (.iconst 0, 1) := by decide +kernel
theorem dX10_isCell_22 : decode cX10_isCell 22 = .ok (.ireturn, 1) := by decide +kernel
theorem dX10_isSleeper_0 : decode cX10_isSleeper 0 = .ok (.iload_n 1, 1) := by decide +kernel
theorem dX10_isSleeper_1 : decode cX10_isSleeper 1 = .ok (.ifCond .lt 15, 3) := by decide +kernel
theorem dX10_isSleeper_4 : decode cX10_isSleeper 4 = .ok (.iload_n 1, 1) := by decide +kernel
theorem dX10_isSleeper_5 : decode cX10_isSleeper 5 = .ok (.aload_n 0, 1) := by decide +kernel
theorem dX10_isSleeper_6 : decode cX10_isSleeper 6 = .ok (.getfield 72, 3) := by decide +kernel
theorem dX10_isSleeper_9 : decode cX10_isSleeper 9 = .ok (.if_icmp .ge 7, 3) := by decide +kernel
theorem dX10_isSleeper_12 : decode cX10_isSleeper 12 = .ok (.iconst 1, 1) := by decide +kernel
theorem dX10_isSleeper_13 : decode cX10_isSleeper 13 = .ok (.goto 4, 3) := by decide +kernel
theorem dX10_isSleeper_16 : decode cX10_isSleeper 16 = .ok (.iconst 0, 1) := by decide +kernel
theorem dX10_isSleeper_17 : decode cX10_isSleeper 17 = .ok (.ireturn, 1) := by decide +kernel
theorem dX10_tosserAt_0 : decode cX10_tosserAt 0 = .ok (.iload_n 1, 1) := by decide +kernel
theorem dX10_tosserAt_1 : decode cX10_tosserAt 1 = .ok (.ifCond .lt 24, 3) := by decide +kernel
theorem dX10_tosserAt_4 : decode cX10_tosserAt 4 = .ok (.iload_n 1, 1) := by decide +kernel
theorem dX10_tosserAt_5 : decode cX10_tosserAt 5 = .ok (.aload_n 0, 1) := by decide +kernel
theorem dX10_tosserAt_6 : decode cX10_tosserAt 6 = .ok (.getfield 197, 3) := by decide +kernel
theorem dX10_tosserAt_9 : decode cX10_tosserAt 9 = .ok (.if_icmp .ge 16, 3) := by decide +kernel
theorem dX10_tosserAt_12 : decode cX10_tosserAt 12 = .ok (.iload_n 1, 1) := by decide +kernel
theorem dX10_tosserAt_13 : decode cX10_tosserAt 13 = .ok (.aload_n 0, 1) := by decide +kernel
theorem dX10_tosserAt_14 : decode cX10_tosserAt 14 = .ok (.getfield 25, 3) := by decide +kernel
theorem dX10_tosserAt_17 : decode cX10_tosserAt 17 = .ok (.arraylength, 1) := by decide +kernel
theorem dX10_tosserAt_18 : decode cX10_tosserAt 18 = .ok (.if_icmp .ge 7, 3) := by decide +kernel
theorem dX10_tosserAt_21 : decode cX10_tosserAt 21 = .ok (.iconst 1, 1) := by decide +kernel
theorem dX10_tosserAt_22 : decode cX10_tosserAt 22 = .ok (.goto 4, 3) := by decide +kernel
theorem dX10_tosserAt_25 : decode cX10_tosserAt 25 = .ok (.iconst 0, 1) := by decide +kernel
theorem dX10_tosserAt_26 : decode cX10_tosserAt 26 = .ok (.istore_n 2, 1) := by decide +kernel
theorem dX10_tosserAt_27 : decode cX10_tosserAt 27 = .ok (.iload_n 2, 1) := by decide +kernel
theorem dX10_tosserAt_28 : decode cX10_tosserAt 28 = .ok (.ifCond .eq 12, 3) := by decide +kernel
theorem dX10_tosserAt_31 : decode cX10_tosserAt 31 = .ok (.aload_n 0, 1) := by decide +kernel
theorem dX10_tosserAt_32 : decode cX10_tosserAt 32 = .ok (.getfield 25, 3) := by decide +kernel
theorem dX10_tosserAt_35 : decode cX10_tosserAt 35 = .ok (.iload_n 1, 1) := by decide +kernel
theorem dX10_tosserAt_36 : decode cX10_tosserAt 36 = .ok (.aaload, 1) := by decide +kernel
theorem dX10_tosserAt_37 : decode cX10_tosserAt 37 = .ok (.goto 4, 3) := by decide +kernel
theorem dX10_tosserAt_40 : decode cX10_tosserAt 40 = .ok (.aconst_null, 1) := by decide +kernel
theorem dX10_tosserAt_41 : decode cX10_tosserAt 41 = .ok (.areturn, 1) := by decide +kernel
theorem dX10_isToss_0 : decode cX10_isToss 0 = .ok (.aload_n 0, 1) := by decide +kernel
theorem dX10_isToss_1 : decode cX10_isToss 1 = .ok (.iload_n 1, 1) := by decide +kernel
theorem dX10_isToss_2 : decode cX10_isToss 2 = .ok (.invokevirtual 99, 3) := by decide +kernel
theorem dX10_isToss_5 : decode cX10_isToss 5 = .ok (.ifnull 15, 3) := by decide +kernel
theorem dX10_isToss_8 : decode cX10_isToss 8 = .ok (.aload_n 0, 1) := by decide +kernel
theorem dX10_isToss_9 : decode cX10_isToss 9 = .ok (.iload_n 2, 1) := by decide +kernel
theorem dX10_isToss_10 : decode cX10_isToss 10 = .ok (.invokevirtual 156, 3) := by decide +kernel
theorem dX10_isToss_13 : decode cX10_isToss 13 = .ok (.ifCond .eq 7, 3) := by decide +kernel
theorem dX10_isToss_16 : decode cX10_isToss 16 = .ok (.iconst 1, 1) := by decide +kernel
theorem dX10_isToss_17 : decode cX10_isToss 17 = .ok (.goto 4, 3) := by decide +kernel
theorem dX10_isToss_20 : decode cX10_isToss 20 = .ok (.iconst 0, 1) := by decide +kernel
theorem dX10_isToss_21 : decode cX10_isToss 21 = .ok (.ireturn, 1) := by decide +kernel
theorem dX10_everybody_0 : decode cX10_everybody 0 = .ok (.iconst 1, 1) := by decide +kernel
theorem dX10_everybody_1 : decode cX10_everybody 1 = .ok (.aload_n 0, 1) := by decide +kernel
theorem dX10_everybody_2 : decode cX10_everybody 2 = .ok (.getfield 72, 3) := by decide +kernel
theorem dX10_everybody_5 : decode cX10_everybody 5 = .ok (.ishl, 1) := by decide +kernel
theorem dX10_everybody_6 : decode cX10_everybody 6 = .ok (.iconst 1, 1) := by decide +kernel
theorem dX10_everybody_7 : decode cX10_everybody 7 = .ok (.isub, 1) := by decide +kernel
theorem dX10_everybody_8 : decode cX10_everybody 8 = .ok (.ireturn, 1) := by decide +kernel
theorem dX10_isTakenByAnother_0 : decode cX10_isTakenByAnother 0 = .ok (.iconst 0, 1) := by decide +kernel
theorem dX10_isTakenByAnother_1 : decode cX10_isTakenByAnother 1 = .ok (.istore_n 3, 1) := by decide +kernel
theorem dX10_isTakenByAnother_2 : decode cX10_isTakenByAnother 2 = .ok (.iload_n 3, 1) := by decide +kernel
theorem dX10_isTakenByAnother_3 : decode cX10_isTakenByAnother 3 = .ok (.aload_n 0, 1) := by decide +kernel
theorem dX10_isTakenByAnother_4 : decode cX10_isTakenByAnother 4 = .ok (.getfield 72, 3) := by decide +kernel
theorem dX10_isTakenByAnother_7 : decode cX10_isTakenByAnother 7 = .ok (.if_icmp .ge 31, 3) := by decide +kernel
theorem dX10_isTakenByAnother_10 : decode cX10_isTakenByAnother 10 = .ok (.iload_n 3, 1) := by decide +kernel
theorem dX10_isTakenByAnother_11 : decode cX10_isTakenByAnother 11 = .ok (.iload_n 2, 1) := by decide +kernel
theorem dX10_isTakenByAnother_12 : decode cX10_isTakenByAnother 12 = .ok (.if_icmp .eq 20, 3) := by decide +kernel
theorem dX10_isTakenByAnother_15 : decode cX10_isTakenByAnother 15 = .ok (.aload_n 0, 1) := by decide +kernel
theorem dX10_isTakenByAnother_16 : decode cX10_isTakenByAnother 16 = .ok (.getfield 32, 3) := by decide +kernel
theorem dX10_isTakenByAnother_19 : decode cX10_isTakenByAnother 19 = .ok (.getfield 79, 3) := by decide +kernel
theorem dX10_isTakenByAnother_22 : decode cX10_isTakenByAnother 22 = .ok (.iload_n 3, 1) := by decide +kernel
theorem dX10_isTakenByAnother_23 : decode cX10_isTakenByAnother 23 = .ok (.invokestatic 82, 3) := by decide +kernel
theorem dX10_isTakenByAnother_26 : decode cX10_isTakenByAnother 26 = .ok (.iload_n 1, 1) := by decide +kernel
theorem dX10_isTakenByAnother_27 : decode cX10_isTakenByAnother 27 = .ok (.if_icmp .ne 5, 3) := by decide +kernel
theorem dX10_isTakenByAnother_30 : decode cX10_isTakenByAnother 30 = .ok (.iconst 1, 1) := by decide +kernel
theorem dX10_isTakenByAnother_31 : decode cX10_isTakenByAnother 31 = .ok (.ireturn, 1) := by decide +kernel
theorem dX10_isTakenByAnother_32 : decode cX10_isTakenByAnother 32 = .ok (.iinc 3 1, 3) := by decide +kernel
theorem dX10_isTakenByAnother_35 : decode cX10_isTakenByAnother 35 = .ok (.goto (-33), 3) := by decide +kernel
theorem dX10_isTakenByAnother_38 : decode cX10_isTakenByAnother 38 = .ok (.iconst 0, 1) := by decide +kernel
theorem dX10_isTakenByAnother_39 : decode cX10_isTakenByAnother 39 = .ok (.ireturn, 1) := by decide +kernel
theorem dX10_settle_0 : decode cX10_settle 0 = .ok (.aload_n 0, 1) := by decide +kernel
theorem dX10_settle_1 : decode cX10_settle 1 = .ok (.aload_n 0, 1) := by decide +kernel
theorem dX10_settle_2 : decode cX10_settle 2 = .ok (.getfield 19, 3) := by decide +kernel
theorem dX10_settle_5 : decode cX10_settle 5 = .ok (.getfield 262, 3) := by decide +kernel
theorem dX10_settle_8 : decode cX10_settle 8 = .ok (.putfield 72, 3) := by decide +kernel
theorem dX10_settle_11 : decode cX10_settle 11 = .ok (.aload_n 0, 1) := by decide +kernel
theorem dX10_settle_12 : decode cX10_settle 12 = .ok (.aload_n 0, 1) := by decide +kernel
theorem dX10_settle_13 : decode cX10_settle 13 = .ok (.getfield 19, 3) := by decide +kernel
theorem dX10_settle_16 : decode cX10_settle 16 = .ok (.getfield 265, 3) := by decide +kernel
theorem dX10_settle_19 : decode cX10_settle 19 = .ok (.putfield 197, 3) := by decide +kernel
theorem dX10_settle_22 : decode cX10_settle 22 = .ok (.aload_n 0, 1) := by decide +kernel
theorem dX10_settle_23 : decode cX10_settle 23 = .ok (.iconst 0, 1) := by decide +kernel
theorem dX10_settle_24 : decode cX10_settle 24 = .ok (.putfield 223, 3) := by decide +kernel
theorem dX10_settle_27 : decode cX10_settle 27 = .ok (.aload_n 0, 1) := by decide +kernel
theorem dX10_settle_28 : decode cX10_settle 28 = .ok (.getfield 32, 3) := by decide +kernel
theorem dX10_settle_31 : decode cX10_settle 31 = .ok (.aload_n 0, 1) := by decide +kernel
theorem dX10_settle_32 : decode cX10_settle 32 = .ok (.getfield 19, 3) := by decide +kernel
theorem dX10_settle_35 : decode cX10_settle 35 = .ok (.invokevirtual 267, 3) := by decide +kernel
theorem dX10_settle_38 : decode cX10_settle 38 = .ok (.iconst 0, 1) := by decide +kernel
theorem dX10_settle_39 : decode cX10_settle 39 = .ok (.istore_n 1, 1) := by decide +kernel
theorem dX10_settle_40 : decode cX10_settle 40 = .ok (.iload_n 1, 1) := by decide +kernel
theorem dX10_settle_41 : decode cX10_settle 41 = .ok (.aload_n 0, 1) := by decide +kernel
theorem dX10_settle_42 : decode cX10_settle 42 = .ok (.getfield 197, 3) := by decide +kernel
theorem dX10_settle_45 : decode cX10_settle 45 = .ok (.if_icmp .ge 38, 3) := by decide +kernel
theorem dX10_settle_48 : decode cX10_settle 48 = .ok (.iload_n 1, 1) := by decide +kernel
theorem dX10_settle_49 : decode cX10_settle 49 = .ok (.aload_n 0, 1) := by decide +kernel
theorem dX10_settle_50 : decode cX10_settle 50 = .ok (.getfield 25, 3) := by decide +kernel
theorem dX10_settle_53 : decode cX10_settle 53 = .ok (.arraylength, 1) := by decide +kernel
theorem dX10_settle_54 : decode cX10_settle 54 = .ok (.if_icmp .ge 29, 3) := by decide +kernel
theorem dX10_settle_57 : decode cX10_settle 57 = .ok (.aload_n 0, 1) := by decide +kernel
theorem dX10_settle_58 : decode cX10_settle 58 = .ok (.getfield 25, 3) := by decide +kernel
theorem dX10_settle_61 : decode cX10_settle 61 = .ok (.iload_n 1, 1) := by decide +kernel
theorem dX10_settle_62 : decode cX10_settle 62 = .ok (.aload_n 0, 1) := by decide +kernel
theorem dX10_settle_63 : decode cX10_settle 63 = .ok (.getfield 19, 3) := by decide +kernel
theorem dX10_settle_66 : decode cX10_settle 66 = .ok (.getfield 271, 3) := by decide +kernel
theorem dX10_settle_69 : decode cX10_settle 69 = .ok (.iload_n 1, 1) := by decide +kernel
theorem dX10_settle_70 : decode cX10_settle 70 = .ok (.invokestatic 82, 3) := by decide +kernel
theorem dX10_settle_73 : decode cX10_settle 73 = .ok (.invokestatic 274, 3) := by decide +kernel
theorem dX10_settle_76 : decode cX10_settle 76 = .ok (.aastore, 1) := by decide +kernel
theorem dX10_settle_77 : decode cX10_settle 77 = .ok (.iinc 1 1, 3) := by decide +kernel
theorem dX10_settle_80 : decode cX10_settle 80 = .ok (.goto (-40), 3) := by decide +kernel
theorem dX10_settle_83 : decode cX10_settle 83 = .ok (.return_, 1) := by decide +kernel
theorem dX10_landing_0 : decode cX10_landing 0 = .ok (.iload_n 2, 1) := by decide +kernel
theorem dX10_landing_1 : decode cX10_landing 1 = .ok (.bipush 6, 2) := by decide +kernel
theorem dX10_landing_3 : decode cX10_landing 3 = .ok (.idiv, 1) := by decide +kernel
theorem dX10_landing_4 : decode cX10_landing 4 = .ok (.aload_n 0, 1) := by decide +kernel
theorem dX10_landing_5 : decode cX10_landing 5 = .ok (.getfield 32, 3) := by decide +kernel
theorem dX10_landing_8 : decode cX10_landing 8 = .ok (.getfield 107, 3) := by decide +kernel
theorem dX10_landing_11 : decode cX10_landing 11 = .ok (.iload_n 1, 1) := by decide +kernel
theorem dX10_landing_12 : decode cX10_landing 12 = .ok (.invokestatic 82, 3) := by decide +kernel
theorem dX10_landing_15 : decode cX10_landing 15 = .ok (.iadd, 1) := by decide +kernel
theorem dX10_landing_16 : decode cX10_landing 16 = .ok (.iconst 2, 1) := by decide +kernel
theorem dX10_landing_17 : decode cX10_landing 17 = .ok (.isub, 1) := by decide +kernel
theorem dX10_landing_18 : decode cX10_landing 18 = .ok (.istore 4, 2) := by decide +kernel
theorem dX10_landing_20 : decode cX10_landing 20 = .ok (.iload_n 2, 1) := by decide +kernel
theorem dX10_landing_21 : decode cX10_landing 21 = .ok (.bipush 6, 2) := by decide +kernel
theorem dX10_landing_23 : decode cX10_landing 23 = .ok (.irem, 1) := by decide +kernel
theorem dX10_landing_24 : decode cX10_landing 24 = .ok (.aload_n 0, 1) := by decide +kernel
theorem dX10_landing_25 : decode cX10_landing 25 = .ok (.getfield 32, 3) := by decide +kernel
theorem dX10_landing_28 : decode cX10_landing 28 = .ok (.getfield 110, 3) := by decide +kernel
theorem dX10_landing_31 : decode cX10_landing 31 = .ok (.iload_n 1, 1) := by decide +kernel
theorem dX10_landing_32 : decode cX10_landing 32 = .ok (.invokestatic 82, 3) := by decide +kernel
theorem dX10_landing_35 : decode cX10_landing 35 = .ok (.iadd, 1) := by decide +kernel
theorem dX10_landing_36 : decode cX10_landing 36 = .ok (.iconst 2, 1) := by decide +kernel
theorem dX10_landing_37 : decode cX10_landing 37 = .ok (.isub, 1) := by decide +kernel
theorem dX10_landing_38 : decode cX10_landing 38 = .ok (.iload_n 3, 1) := by decide +kernel
theorem dX10_landing_39 : decode cX10_landing 39 = .ok (.iadd, 1) := by decide +kernel
theorem dX10_landing_40 : decode cX10_landing 40 = .ok (.istore 5, 2) := by decide +kernel
theorem dX10_landing_42 : decode cX10_landing 42 = .ok (.iload 4, 2) := by decide +kernel
theorem dX10_landing_44 : decode cX10_landing 44 = .ok (.iload 5, 2) := by decide +kernel
theorem dX10_landing_46 : decode cX10_landing 46 = .ok (.invokestatic 277, 3) := by decide +kernel
theorem dX10_landing_49 : decode cX10_landing 49 = .ok (.ireturn, 1) := by decide +kernel
theorem dX10_crowdUnder_0 : decode cX10_crowdUnder 0 = .ok (.aload_n 0, 1) := by decide +kernel
theorem dX10_crowdUnder_1 : decode cX10_crowdUnder 1 = .ok (.iload_n 1, 1) := by decide +kernel
theorem dX10_crowdUnder_2 : decode cX10_crowdUnder 2 = .ok (.invokevirtual 99, 3) := by decide +kernel
theorem dX10_crowdUnder_5 : decode cX10_crowdUnder 5 = .ok (.astore 4, 2) := by decide +kernel
theorem dX10_crowdUnder_7 : decode cX10_crowdUnder 7 = .ok (.aload_n 0, 1) := by decide +kernel
theorem dX10_crowdUnder_8 : decode cX10_crowdUnder 8 = .ok (.iload_n 1, 1) := by decide +kernel
theorem dX10_crowdUnder_9 : decode cX10_crowdUnder 9 = .ok (.iload_n 2, 1) := by decide +kernel
theorem dX10_crowdUnder_10 : decode cX10_crowdUnder 10 = .ok (.iload_n 3, 1) := by decide +kernel
theorem dX10_crowdUnder_11 : decode cX10_crowdUnder 11 = .ok (.invokevirtual 149, 3) := by decide +kernel
theorem dX10_crowdUnder_14 : decode cX10_crowdUnder 14 = .ok (.istore 5, 2) := by decide +kernel
theorem dX10_crowdUnder_16 : decode cX10_crowdUnder 16 = .ok (.aload 4, 2) := by decide +kernel
theorem dX10_crowdUnder_18 : decode cX10_crowdUnder 18 = .ok (.ifnull 9, 3) := by decide +kernel
theorem dX10_crowdUnder_21 : decode cX10_crowdUnder 21 = .ok (.iload 5, 2) := by decide +kernel
theorem dX10_crowdUnder_23 : decode cX10_crowdUnder 23 = .ok (.iconst (-1), 1) := by decide +kernel
theorem dX10_crowdUnder_24 : decode cX10_crowdUnder 24 = .ok (.if_icmp .ne 5, 3) := by decide +kernel
theorem dX10_crowdUnder_27 : decode cX10_crowdUnder 27 = .ok (.iconst 0, 1) := by decide +kernel
theorem dX10_crowdUnder_28 : decode cX10_crowdUnder 28 = .ok (.ireturn, 1) := by decide +kernel
theorem dX10_crowdUnder_29 : decode cX10_crowdUnder 29 = .ok (.iconst 0, 1) := by decide +kernel
theorem dX10_crowdUnder_30 : decode cX10_crowdUnder 30 = .ok (.istore 6, 2) := by decide +kernel
theorem dX10_crowdUnder_32 : decode cX10_crowdUnder 32 = .ok (.iconst 0, 1) := by decide +kernel
theorem dX10_crowdUnder_33 : decode cX10_crowdUnder 33 = .ok (.istore 7, 2) := by decide +kernel
theorem dX10_crowdUnder_35 : decode cX10_crowdUnder 35 = .ok (.iload 7, 2) := by decide +kernel
theorem dX10_crowdUnder_37 : decode cX10_crowdUnder 37 = .ok (.aload_n 0, 1) := by decide +kernel
theorem dX10_crowdUnder_38 : decode cX10_crowdUnder 38 = .ok (.getfield 72, 3) := by decide +kernel
theorem dX10_crowdUnder_41 : decode cX10_crowdUnder 41 = .ok (.if_icmp .ge 62, 3) := by decide +kernel
theorem dX10_crowdUnder_44 : decode cX10_crowdUnder 44 = .ok (.aload_n 0, 1) := by decide +kernel
theorem dX10_crowdUnder_45 : decode cX10_crowdUnder 45 = .ok (.getfield 32, 3) := by decide +kernel
theorem dX10_crowdUnder_48 : decode cX10_crowdUnder 48 = .ok (.getfield 79, 3) := by decide +kernel
theorem dX10_crowdUnder_51 : decode cX10_crowdUnder 51 = .ok (.iload 7, 2) := by decide +kernel
theorem dX10_crowdUnder_53 : decode cX10_crowdUnder 53 = .ok (.invokestatic 82, 3) := by decide +kernel
theorem dX10_crowdUnder_56 : decode cX10_crowdUnder 56 = .ok (.istore 8, 2) := by decide +kernel
theorem dX10_crowdUnder_58 : decode cX10_crowdUnder 58 = .ok (.aload 4, 2) := by decide +kernel
theorem dX10_crowdUnder_60 : decode cX10_crowdUnder 60 = .ok (.iload 8, 2) := by decide +kernel
theorem dX10_crowdUnder_62 : decode cX10_crowdUnder 62 = .ok (.bipush 6, 2) := by decide +kernel
theorem dX10_crowdUnder_64 : decode cX10_crowdUnder 64 = .ok (.idiv, 1) := by decide +kernel
theorem dX10_crowdUnder_65 : decode cX10_crowdUnder 65 = .ok (.iload 5, 2) := by decide +kernel
theorem dX10_crowdUnder_67 : decode cX10_crowdUnder 67 = .ok (.bipush 6, 2) := by decide +kernel
theorem dX10_crowdUnder_69 : decode cX10_crowdUnder 69 = .ok (.idiv, 1) := by decide +kernel
theorem dX10_crowdUnder_70 : decode cX10_crowdUnder 70 = .ok (.isub, 1) := by decide +kernel
theorem dX10_crowdUnder_71 : decode cX10_crowdUnder 71 = .ok (.iload 8, 2) := by decide +kernel
theorem dX10_crowdUnder_73 : decode cX10_crowdUnder 73 = .ok (.bipush 6, 2) := by decide +kernel
theorem dX10_crowdUnder_75 : decode cX10_crowdUnder 75 = .ok (.irem, 1) := by decide +kernel
theorem dX10_crowdUnder_76 : decode cX10_crowdUnder 76 = .ok (.iload 5, 2) := by decide +kernel
theorem dX10_crowdUnder_78 : decode cX10_crowdUnder 78 = .ok (.bipush 6, 2) := by decide +kernel
theorem dX10_crowdUnder_80 : decode cX10_crowdUnder 80 = .ok (.irem, 1) := by decide +kernel
theorem dX10_crowdUnder_81 : decode cX10_crowdUnder 81 = .ok (.isub, 1) := by decide +kernel
theorem dX10_crowdUnder_82 : decode cX10_crowdUnder 82 = .ok (.invokevirtual 280, 3) := by decide +kernel
theorem dX10_crowdUnder_85 : decode cX10_crowdUnder 85 = .ok (.ifCond .eq 12, 3) := by decide +kernel
theorem dX10_crowdUnder_88 : decode cX10_crowdUnder 88 = .ok (.iload 6, 2) := by decide +kernel
theorem dX10_crowdUnder_90 : decode cX10_crowdUnder 90 = .ok (.iconst 1, 1) := by decide +kernel
theorem dX10_crowdUnder_91 : decode cX10_crowdUnder 91 = .ok (.iload 7, 2) := by decide +kernel
theorem dX10_crowdUnder_93 : decode cX10_crowdUnder 93 = .ok (.ishl, 1) := by decide +kernel
theorem dX10_crowdUnder_94 : decode cX10_crowdUnder 94 = .ok (.ior, 1) := by decide +kernel
theorem dX10_crowdUnder_95 : decode cX10_crowdUnder 95 = .ok (.istore 6, 2) := by decide +kernel
theorem dX10_crowdUnder_97 : decode cX10_crowdUnder 97 = .ok (.iinc 7 1, 3) := by decide +kernel
theorem dX10_crowdUnder_100 : decode cX10_crowdUnder 100 = .ok (.goto (-65), 3) := by decide +kernel
theorem dX10_crowdUnder_103 : decode cX10_crowdUnder 103 = .ok (.iload 6, 2) := by decide +kernel
theorem dX10_crowdUnder_105 : decode cX10_crowdUnder 105 = .ok (.ireturn, 1) := by decide +kernel
theorem dX10_canLandAt_0 : decode cX10_canLandAt 0 = .ok (.iconst 0, 1) := by decide +kernel
theorem dX10_canLandAt_1 : decode cX10_canLandAt 1 = .ok (.istore_n 3, 1) := by decide +kernel
theorem dX10_canLandAt_2 : decode cX10_canLandAt 2 = .ok (.iload_n 3, 1) := by decide +kernel
theorem dX10_canLandAt_3 : decode cX10_canLandAt 3 = .ok (.bipush 36, 2) := by decide +kernel
theorem dX10_canLandAt_5 : decode cX10_canLandAt 5 = .ok (.if_icmp .ge 28, 3) := by decide +kernel
theorem dX10_canLandAt_8 : decode cX10_canLandAt 8 = .ok (.aload_n 0, 1) := by decide +kernel
theorem dX10_canLandAt_9 : decode cX10_canLandAt 9 = .ok (.iload_n 1, 1) := by decide +kernel
theorem dX10_canLandAt_10 : decode cX10_canLandAt 10 = .ok (.iload_n 3, 1) := by decide +kernel
theorem dX10_canLandAt_11 : decode cX10_canLandAt 11 = .ok (.aload_n 0, 1) := by decide +kernel
theorem dX10_canLandAt_12 : decode cX10_canLandAt 12 = .ok (.getfield 32, 3) := by decide +kernel
theorem dX10_canLandAt_15 : decode cX10_canLandAt 15 = .ok (.getfield 146, 3) := by decide +kernel
theorem dX10_canLandAt_18 : decode cX10_canLandAt 18 = .ok (.invokevirtual 149, 3) := by decide +kernel
theorem dX10_canLandAt_21 : decode cX10_canLandAt 21 = .ok (.iload_n 2, 1) := by decide +kernel
theorem dX10_canLandAt_22 : decode cX10_canLandAt 22 = .ok (.if_icmp .ne 5, 3) := by decide +kernel
theorem dX10_canLandAt_25 : decode cX10_canLandAt 25 = .ok (.iconst 1, 1) := by decide +kernel
theorem dX10_canLandAt_26 : decode cX10_canLandAt 26 = .ok (.ireturn, 1) := by decide +kernel
theorem dX10_canLandAt_27 : decode cX10_canLandAt 27 = .ok (.iinc 3 1, 3) := by decide +kernel
theorem dX10_canLandAt_30 : decode cX10_canLandAt 30 = .ok (.goto (-28), 3) := by decide +kernel
theorem dX10_canLandAt_33 : decode cX10_canLandAt 33 = .ok (.iconst 0, 1) := by decide +kernel
theorem dX10_canLandAt_34 : decode cX10_canLandAt 34 = .ok (.ireturn, 1) := by decide +kernel
theorem dX10_freshOf_0 : decode cX10_freshOf 0 = .ok (.aload_n 0, 1) := by decide +kernel
theorem dX10_freshOf_1 : decode cX10_freshOf 1 = .ok (.iload_n 1, 1) := by decide +kernel
theorem dX10_freshOf_2 : decode cX10_freshOf 2 = .ok (.iload_n 2, 1) := by decide +kernel
theorem dX10_freshOf_3 : decode cX10_freshOf 3 = .ok (.aload_n 0, 1) := by decide +kernel
theorem dX10_freshOf_4 : decode cX10_freshOf 4 = .ok (.getfield 32, 3) := by decide +kernel
theorem dX10_freshOf_7 : decode cX10_freshOf 7 = .ok (.getfield 146, 3) := by decide +kernel
theorem dX10_freshOf_10 : decode cX10_freshOf 10 = .ok (.invokevirtual 153, 3) := by decide +kernel
theorem dX10_freshOf_13 : decode cX10_freshOf 13 = .ok (.aload_n 0, 1) := by decide +kernel
theorem dX10_freshOf_14 : decode cX10_freshOf 14 = .ok (.getfield 32, 3) := by decide +kernel
theorem dX10_freshOf_17 : decode cX10_freshOf 17 = .ok (.getfield 86, 3) := by decide +kernel
theorem dX10_freshOf_20 : decode cX10_freshOf 20 = .ok (.iconst (-1), 1) := by decide +kernel
theorem dX10_freshOf_21 : decode cX10_freshOf 21 = .ok (.ixor, 1) := by decide +kernel
theorem dX10_freshOf_22 : decode cX10_freshOf 22 = .ok (.iand, 1) := by decide +kernel
theorem dX10_freshOf_23 : decode cX10_freshOf 23 = .ok (.invokestatic 168, 3) := by decide +kernel
theorem dX10_freshOf_26 : decode cX10_freshOf 26 = .ok (.ireturn, 1) := by decide +kernel
theorem dX10_bestAimOf_0 : decode cX10_bestAimOf 0 = .ok (.iconst 0, 1) := by decide +kernel
theorem dX10_bestAimOf_1 : decode cX10_bestAimOf 1 = .ok (.istore_n 2, 1) := by decide +kernel
theorem dX10_bestAimOf_2 : decode cX10_bestAimOf 2 = .ok (.aload_n 0, 1) := by decide +kernel
theorem dX10_bestAimOf_3 : decode cX10_bestAimOf 3 = .ok (.iload_n 1, 1) := by decide +kernel
theorem dX10_bestAimOf_4 : decode cX10_bestAimOf 4 = .ok (.iconst 0, 1) := by decide +kernel
theorem dX10_bestAimOf_5 : decode cX10_bestAimOf 5 = .ok (.invokevirtual 119, 3) := by decide +kernel
theorem dX10_bestAimOf_8 : decode cX10_bestAimOf 8 = .ok (.istore_n 3, 1) := by decide +kernel
theorem dX10_bestAimOf_9 : decode cX10_bestAimOf 9 = .ok (.iconst 1, 1) := by decide +kernel
theorem dX10_bestAimOf_10 : decode cX10_bestAimOf 10 = .ok (.istore 4, 2) := by decide +kernel
theorem dX10_bestAimOf_12 : decode cX10_bestAimOf 12 = .ok (.iload 4, 2) := by decide +kernel
theorem dX10_bestAimOf_14 : decode cX10_bestAimOf 14 = .ok (.bipush 36, 2) := by decide +kernel
theorem dX10_bestAimOf_16 : decode cX10_bestAimOf 16 = .ok (.if_icmp .ge 30, 3) := by decide +kernel
theorem dX10_bestAimOf_19 : decode cX10_bestAimOf 19 = .ok (.aload_n 0, 1) := by decide +kernel
theorem dX10_bestAimOf_20 : decode cX10_bestAimOf 20 = .ok (.iload_n 1, 1) := by decide +kernel
theorem dX10_bestAimOf_21 : decode cX10_bestAimOf 21 = .ok (.iload 4, 2) := by decide +kernel
theorem dX10_bestAimOf_23 : decode cX10_bestAimOf 23 = .ok (.invokevirtual 119, 3) := by decide +kernel
theorem dX10_bestAimOf_26 : decode cX10_bestAimOf 26 = .ok (.istore 5, 2) := by decide +kernel
theorem dX10_bestAimOf_28 : decode cX10_bestAimOf 28 = .ok (.iload 5, 2) := by decide +kernel
theorem dX10_bestAimOf_30 : decode cX10_bestAimOf 30 = .ok (.iload_n 3, 1) := by decide +kernel
theorem dX10_bestAimOf_31 : decode cX10_bestAimOf 31 = .ok (.if_icmp .le 9, 3) := by decide +kernel
theorem dX10_bestAimOf_34 : decode cX10_bestAimOf 34 = .ok (.iload 5, 2) := by decide +kernel
theorem dX10_bestAimOf_36 : decode cX10_bestAimOf 36 = .ok (.istore_n 3, 1) := by decide +kernel
theorem dX10_bestAimOf_37 : decode cX10_bestAimOf 37 = .ok (.iload 4, 2) := by decide +kernel
theorem dX10_bestAimOf_39 : decode cX10_bestAimOf 39 = .ok (.istore_n 2, 1) := by decide +kernel
theorem dX10_bestAimOf_40 : decode cX10_bestAimOf 40 = .ok (.iinc 4 1, 3) := by decide +kernel
theorem dX10_bestAimOf_43 : decode cX10_bestAimOf 43 = .ok (.goto (-31), 3) := by decide +kernel
theorem dX10_bestAimOf_46 : decode cX10_bestAimOf 46 = .ok (.iload_n 2, 1) := by decide +kernel
theorem dX10_bestAimOf_47 : decode cX10_bestAimOf 47 = .ok (.ireturn, 1) := by decide +kernel
theorem dX10_planFor_0 : decode cX10_planFor 0 = .ok (.aload_n 0, 1) := by decide +kernel
theorem dX10_planFor_1 : decode cX10_planFor 1 = .ok (.getfield 42, 3) := by decide +kernel
theorem dX10_planFor_4 : decode cX10_planFor 4 = .ok (.invokevirtual 283, 3) := by decide +kernel
theorem dX10_planFor_7 : decode cX10_planFor 7 = .ok (.iconst 0, 1) := by decide +kernel
theorem dX10_planFor_8 : decode cX10_planFor 8 = .ok (.istore_n 2, 1) := by decide +kernel
theorem dX10_planFor_9 : decode cX10_planFor 9 = .ok (.iload_n 2, 1) := by decide +kernel
theorem dX10_planFor_10 : decode cX10_planFor 10 = .ok (.aload_n 0, 1) := by decide +kernel
theorem dX10_planFor_11 : decode cX10_planFor 11 = .ok (.getfield 197, 3) := by decide +kernel
theorem dX10_planFor_14 : decode cX10_planFor 14 = .ok (.if_icmp .ge 81, 3) := by decide +kernel
theorem dX10_planFor_17 : decode cX10_planFor 17 = .ok (.aload_n 0, 1) := by decide +kernel
theorem dX10_planFor_18 : decode cX10_planFor 18 = .ok (.iload_n 2, 1) := by decide +kernel
theorem dX10_planFor_19 : decode cX10_planFor 19 = .ok (.invokevirtual 99, 3) := by decide +kernel
theorem dX10_planFor_22 : decode cX10_planFor 22 = .ok (.astore_n 3, 1) := by decide +kernel
theorem dX10_planFor_23 : decode cX10_planFor 23 = .ok (.aload_n 3, 1) := by decide +kernel
theorem dX10_planFor_24 : decode cX10_planFor 24 = .ok (.ifnonnull 7, 3) := by decide +kernel
theorem dX10_planFor_27 : decode cX10_planFor 27 = .ok (.iconst 0, 1) := by decide +kernel
theorem dX10_planFor_28 : decode cX10_planFor 28 = .ok (.goto 7, 3) := by decide +kernel
theorem dX10_planFor_31 : decode cX10_planFor 31 = .ok (.aload_n 3, 1) := by decide +kernel
theorem dX10_planFor_32 : decode cX10_planFor 32 = .ok (.invokevirtual 113, 3) := by decide +kernel
theorem dX10_planFor_35 : decode cX10_planFor 35 = .ok (.istore 4, 2) := by decide +kernel
theorem dX10_planFor_37 : decode cX10_planFor 37 = .ok (.iconst 0, 1) := by decide +kernel
theorem dX10_planFor_38 : decode cX10_planFor 38 = .ok (.istore 5, 2) := by decide +kernel
theorem dX10_planFor_40 : decode cX10_planFor 40 = .ok (.iload 5, 2) := by decide +kernel
theorem dX10_planFor_42 : decode cX10_planFor 42 = .ok (.bipush 36, 2) := by decide +kernel
theorem dX10_planFor_44 : decode cX10_planFor 44 = .ok (.if_icmp .ge 45, 3) := by decide +kernel
theorem dX10_planFor_47 : decode cX10_planFor 47 = .ok (.aload_n 0, 1) := by decide +kernel
theorem dX10_planFor_48 : decode cX10_planFor 48 = .ok (.iload_n 2, 1) := by decide +kernel
theorem dX10_planFor_49 : decode cX10_planFor 49 = .ok (.iload 5, 2) := by decide +kernel
theorem dX10_planFor_51 : decode cX10_planFor 51 = .ok (.aload_n 0, 1) := by decide +kernel
theorem dX10_planFor_52 : decode cX10_planFor 52 = .ok (.getfield 32, 3) := by decide +kernel
theorem dX10_planFor_55 : decode cX10_planFor 55 = .ok (.getfield 146, 3) := by decide +kernel
theorem dX10_planFor_58 : decode cX10_planFor 58 = .ok (.invokevirtual 153, 3) := by decide +kernel
theorem dX10_planFor_61 : decode cX10_planFor 61 = .ok (.iload_n 1, 1) := by decide +kernel
theorem dX10_planFor_62 : decode cX10_planFor 62 = .ok (.iand, 1) := by decide +kernel
theorem dX10_planFor_63 : decode cX10_planFor 63 = .ok (.istore 6, 2) := by decide +kernel
theorem dX10_planFor_65 : decode cX10_planFor 65 = .ok (.aload_n 0, 1) := by decide +kernel
theorem dX10_planFor_66 : decode cX10_planFor 66 = .ok (.getfield 42, 3) := by decide +kernel
theorem dX10_planFor_69 : decode cX10_planFor 69 = .ok (.bipush 36, 2) := by decide +kernel
theorem dX10_planFor_71 : decode cX10_planFor 71 = .ok (.iload_n 2, 1) := by decide +kernel
theorem dX10_planFor_72 : decode cX10_planFor 72 = .ok (.imul, 1) := by decide +kernel
theorem dX10_planFor_73 : decode cX10_planFor 73 = .ok (.iload 5, 2) := by decide +kernel
theorem dX10_planFor_75 : decode cX10_planFor 75 = .ok (.iadd, 1) := by decide +kernel
theorem dX10_planFor_76 : decode cX10_planFor 76 = .ok (.iload 6, 2) := by decide +kernel
theorem dX10_planFor_78 : decode cX10_planFor 78 = .ok (.iload 4, 2) := by decide +kernel
theorem dX10_planFor_80 : decode cX10_planFor 80 = .ok (.invokevirtual 285, 3) := by decide +kernel
theorem dX10_planFor_83 : decode cX10_planFor 83 = .ok (.iinc 5 1, 3) := by decide +kernel
theorem dX10_planFor_86 : decode cX10_planFor 86 = .ok (.goto (-46), 3) := by decide +kernel
theorem dX10_planFor_89 : decode cX10_planFor 89 = .ok (.iinc 2 1, 3) := by decide +kernel
theorem dX10_planFor_92 : decode cX10_planFor 92 = .ok (.goto (-83), 3) := by decide +kernel
theorem dX10_planFor_95 : decode cX10_planFor 95 = .ok (.aload_n 0, 1) := by decide +kernel
theorem dX10_planFor_96 : decode cX10_planFor 96 = .ok (.getfield 42, 3) := by decide +kernel
theorem dX10_planFor_99 : decode cX10_planFor 99 = .ok (.iload_n 1, 1) := by decide +kernel
theorem dX10_planFor_100 : decode cX10_planFor 100 = .ok (.invokevirtual 288, 3) := by decide +kernel
theorem dX10_planFor_103 : decode cX10_planFor 103 = .ok (.aload_n 0, 1) := by decide +kernel
theorem dX10_planFor_104 : decode cX10_planFor 104 = .ok (.getfield 42, 3) := by decide +kernel
theorem dX10_planFor_107 : decode cX10_planFor 107 = .ok (.iload_n 1, 1) := by decide +kernel
theorem dX10_planFor_108 : decode cX10_planFor 108 = .ok (.invokevirtual 291, 3) := by decide +kernel
theorem dX10_planFor_111 : decode cX10_planFor 111 = .ok (.return_, 1) := by decide +kernel
theorem dX10_bestPlaceFor_0 : decode cX10_bestPlaceFor 0 = .ok (.aload_n 0, 1) := by decide +kernel
theorem dX10_bestPlaceFor_1 : decode cX10_bestPlaceFor 1 = .ok (.invokevirtual 294, 3) := by decide +kernel
theorem dX10_bestPlaceFor_4 : decode cX10_bestPlaceFor 4 = .ok (.iconst (-1), 1) := by decide +kernel
theorem dX10_bestPlaceFor_5 : decode cX10_bestPlaceFor 5 = .ok (.istore_n 2, 1) := by decide +kernel
theorem dX10_bestPlaceFor_6 : decode cX10_bestPlaceFor 6 = .ok (.iconst (-1), 1) := by decide +kernel
theorem dX10_bestPlaceFor_7 : decode cX10_bestPlaceFor 7 = .ok (.istore_n 3, 1) := by decide +kernel
theorem dX10_bestPlaceFor_8 : decode cX10_bestPlaceFor 8 = .ok (.iconst 0, 1) := by decide +kernel
theorem dX10_bestPlaceFor_9 : decode cX10_bestPlaceFor 9 = .ok (.istore 4, 2) := by decide +kernel
theorem dX10_bestPlaceFor_11 : decode cX10_bestPlaceFor 11 = .ok (.iload 4, 2) := by decide +kernel
theorem dX10_bestPlaceFor_13 : decode cX10_bestPlaceFor 13 = .ok (.bipush 36, 2) := by decide +kernel
theorem dX10_bestPlaceFor_15 : decode cX10_bestPlaceFor 15 = .ok (.if_icmp .ge 42, 3) := by decide +kernel
theorem dX10_bestPlaceFor_18 : decode cX10_bestPlaceFor 18 = .ok (.aload_n 0, 1) := by decide +kernel
theorem dX10_bestPlaceFor_19 : decode cX10_bestPlaceFor 19 = .ok (.getfield 46, 3) := by decide +kernel
theorem dX10_bestPlaceFor_22 : decode cX10_bestPlaceFor 22 = .ok (.iload 4, 2) := by decide +kernel
theorem dX10_bestPlaceFor_24 : decode cX10_bestPlaceFor 24 = .ok (.invokestatic 82, 3) := by decide +kernel
theorem dX10_bestPlaceFor_27 : decode cX10_bestPlaceFor 27 = .ok (.istore 5, 2) := by decide +kernel
theorem dX10_bestPlaceFor_29 : decode cX10_bestPlaceFor 29 = .ok (.iload 5, 2) := by decide +kernel
theorem dX10_bestPlaceFor_31 : decode cX10_bestPlaceFor 31 = .ok (.iload_n 3, 1) := by decide +kernel
theorem dX10_bestPlaceFor_32 : decode cX10_bestPlaceFor 32 = .ok (.if_icmp .le 19, 3) := by decide +kernel
theorem dX10_bestPlaceFor_35 : decode cX10_bestPlaceFor 35 = .ok (.aload_n 0, 1) := by decide +kernel
theorem dX10_bestPlaceFor_36 : decode cX10_bestPlaceFor 36 = .ok (.iload 4, 2) := by decide +kernel
theorem dX10_bestPlaceFor_38 : decode cX10_bestPlaceFor 38 = .ok (.iload_n 1, 1) := by decide +kernel
theorem dX10_bestPlaceFor_39 : decode cX10_bestPlaceFor 39 = .ok (.invokevirtual 182, 3) := by decide +kernel
theorem dX10_bestPlaceFor_42 : decode cX10_bestPlaceFor 42 = .ok (.ifCond .ne 9, 3) := by decide +kernel
theorem dX10_bestPlaceFor_45 : decode cX10_bestPlaceFor 45 = .ok (.iload 5, 2) := by decide +kernel
theorem dX10_bestPlaceFor_47 : decode cX10_bestPlaceFor 47 = .ok (.istore_n 3, 1) := by decide +kernel
theorem dX10_bestPlaceFor_48 : decode cX10_bestPlaceFor 48 = .ok (.iload 4, 2) := by decide +kernel
theorem dX10_bestPlaceFor_50 : decode cX10_bestPlaceFor 50 = .ok (.istore_n 2, 1) := by decide +kernel
theorem dX10_bestPlaceFor_51 : decode cX10_bestPlaceFor 51 = .ok (.iinc 4 1, 3) := by decide +kernel
theorem dX10_bestPlaceFor_54 : decode cX10_bestPlaceFor 54 = .ok (.goto (-43), 3) := by decide +kernel
theorem dX10_bestPlaceFor_57 : decode cX10_bestPlaceFor 57 = .ok (.iload_n 2, 1) := by decide +kernel
theorem dX10_bestPlaceFor_58 : decode cX10_bestPlaceFor 58 = .ok (.ireturn, 1) := by decide +kernel
theorem dX10_countChances_0 : decode cX10_countChances 0 = .ok (.aload_n 0, 1) := by decide +kernel
theorem dX10_countChances_1 : decode cX10_countChances 1 = .ok (.getfield 46, 3) := by decide +kernel
theorem dX10_countChances_4 : decode cX10_countChances 4 = .ok (.invokestatic 297, 3) := by decide +kernel
theorem dX10_countChances_7 : decode cX10_countChances 7 = .ok (.iconst 0, 1) := by decide +kernel
theorem dX10_countChances_8 : decode cX10_countChances 8 = .ok (.istore_n 1, 1) := by decide +kernel
theorem dX10_countChances_9 : decode cX10_countChances 9 = .ok (.iload_n 1, 1) := by decide +kernel
theorem dX10_countChances_10 : decode cX10_countChances 10 = .ok (.aload_n 0, 1) := by decide +kernel
theorem dX10_countChances_11 : decode cX10_countChances 11 = .ok (.getfield 197, 3) := by decide +kernel
theorem dX10_countChances_14 : decode cX10_countChances 14 = .ok (.if_icmp .ge 61, 3) := by decide +kernel
theorem dX10_countChances_17 : decode cX10_countChances 17 = .ok (.aload_n 0, 1) := by decide +kernel
theorem dX10_countChances_18 : decode cX10_countChances 18 = .ok (.iload_n 1, 1) := by decide +kernel
theorem dX10_countChances_19 : decode cX10_countChances 19 = .ok (.invokevirtual 99, 3) := by decide +kernel
theorem dX10_countChances_22 : decode cX10_countChances 22 = .ok (.astore_n 2, 1) := by decide +kernel
theorem dX10_countChances_23 : decode cX10_countChances 23 = .ok (.iconst 0, 1) := by decide +kernel
theorem dX10_countChances_24 : decode cX10_countChances 24 = .ok (.istore_n 3, 1) := by decide +kernel
theorem dX10_countChances_25 : decode cX10_countChances 25 = .ok (.iload_n 3, 1) := by decide +kernel
theorem dX10_countChances_26 : decode cX10_countChances 26 = .ok (.bipush 36, 2) := by decide +kernel
theorem dX10_countChances_28 : decode cX10_countChances 28 = .ok (.if_icmp .ge 41, 3) := by decide +kernel
theorem dX10_countChances_31 : decode cX10_countChances 31 = .ok (.aload_n 0, 1) := by decide +kernel
theorem dX10_countChances_32 : decode cX10_countChances 32 = .ok (.iload_n 1, 1) := by decide +kernel
theorem dX10_countChances_33 : decode cX10_countChances 33 = .ok (.iload_n 3, 1) := by decide +kernel
theorem dX10_countChances_34 : decode cX10_countChances 34 = .ok (.aload_n 0, 1) := by decide +kernel
theorem dX10_countChances_35 : decode cX10_countChances 35 = .ok (.getfield 32, 3) := by decide +kernel
theorem dX10_countChances_38 : decode cX10_countChances 38 = .ok (.getfield 146, 3) := by decide +kernel
theorem dX10_countChances_41 : decode cX10_countChances 41 = .ok (.invokevirtual 149, 3) := by decide +kernel
theorem dX10_countChances_44 : decode cX10_countChances 44 = .ok (.istore 4, 2) := by decide +kernel
theorem dX10_countChances_46 : decode cX10_countChances 46 = .ok (.aload_n 2, 1) := by decide +kernel
theorem dX10_countChances_47 : decode cX10_countChances 47 = .ok (.ifnull 16, 3) := by decide +kernel
theorem dX10_countChances_50 : decode cX10_countChances 50 = .ok (.iload 4, 2) := by decide +kernel
theorem dX10_countChances_52 : decode cX10_countChances 52 = .ok (.iconst (-1), 1) := by decide +kernel
theorem dX10_countChances_53 : decode cX10_countChances 53 = .ok (.if_icmp .eq 10, 3) := by decide +kernel
theorem dX10_countChances_56 : decode cX10_countChances 56 = .ok (.aload_n 0, 1) := by decide +kernel
theorem dX10_countChances_57 : decode cX10_countChances 57 = .ok (.aload_n 2, 1) := by decide +kernel
theorem dX10_countChances_58 : decode cX10_countChances 58 = .ok (.iload 4, 2) := by decide +kernel
theorem dX10_countChances_60 : decode cX10_countChances 60 = .ok (.invokevirtual 301, 3) := by decide +kernel
theorem dX10_countChances_63 : decode cX10_countChances 63 = .ok (.iinc 3 1, 3) := by decide +kernel
theorem dX10_countChances_66 : decode cX10_countChances 66 = .ok (.goto (-41), 3) := by decide +kernel
theorem dX10_countChances_69 : decode cX10_countChances 69 = .ok (.iinc 1 1, 3) := by decide +kernel
theorem dX10_countChances_72 : decode cX10_countChances 72 = .ok (.goto (-63), 3) := by decide +kernel
theorem dX10_countChances_75 : decode cX10_countChances 75 = .ok (.return_, 1) := by decide +kernel
theorem dX10_addChances_0 : decode cX10_addChances 0 = .ok (.iconst (-1), 1) := by decide +kernel
theorem dX10_addChances_1 : decode cX10_addChances 1 = .ok (.istore_n 3, 1) := by decide +kernel
theorem dX10_addChances_2 : decode cX10_addChances 2 = .ok (.iload_n 3, 1) := by decide +kernel
theorem dX10_addChances_3 : decode cX10_addChances 3 = .ok (.iconst 1, 1) := by decide +kernel
theorem dX10_addChances_4 : decode cX10_addChances 4 = .ok (.if_icmp .gt 78, 3) := by decide +kernel
theorem dX10_addChances_7 : decode cX10_addChances 7 = .ok (.iconst (-1), 1) := by decide +kernel
theorem dX10_addChances_8 : decode cX10_addChances 8 = .ok (.istore 4, 2) := by decide +kernel
theorem dX10_addChances_10 : decode cX10_addChances 10 = .ok (.iload 4, 2) := by decide +kernel
theorem dX10_addChances_12 : decode cX10_addChances 12 = .ok (.iconst 1, 1) := by decide +kernel
theorem dX10_addChances_13 : decode cX10_addChances 13 = .ok (.if_icmp .gt 63, 3) := by decide +kernel
theorem dX10_addChances_16 : decode cX10_addChances 16 = .ok (.iload_n 2, 1) := by decide +kernel
theorem dX10_addChances_17 : decode cX10_addChances 17 = .ok (.bipush 6, 2) := by decide +kernel
theorem dX10_addChances_19 : decode cX10_addChances 19 = .ok (.idiv, 1) := by decide +kernel
theorem dX10_addChances_20 : decode cX10_addChances 20 = .ok (.iload_n 3, 1) := by decide +kernel
theorem dX10_addChances_21 : decode cX10_addChances 21 = .ok (.iadd, 1) := by decide +kernel
theorem dX10_addChances_22 : decode cX10_addChances 22 = .ok (.iload_n 2, 1) := by decide +kernel
theorem dX10_addChances_23 : decode cX10_addChances 23 = .ok (.bipush 6, 2) := by decide +kernel
theorem dX10_addChances_25 : decode cX10_addChances 25 = .ok (.irem, 1) := by decide +kernel
theorem dX10_addChances_26 : decode cX10_addChances 26 = .ok (.iload 4, 2) := by decide +kernel
theorem dX10_addChances_28 : decode cX10_addChances 28 = .ok (.iadd, 1) := by decide +kernel
theorem dX10_addChances_29 : decode cX10_addChances 29 = .ok (.invokestatic 277, 3) := by decide +kernel
theorem dX10_addChances_32 : decode cX10_addChances 32 = .ok (.istore 5, 2) := by decide +kernel
theorem dX10_addChances_34 : decode cX10_addChances 34 = .ok (.iload 5, 2) := by decide +kernel
theorem dX10_addChances_36 : decode cX10_addChances 36 = .ok (.iconst (-1), 1) := by decide +kernel
theorem dX10_addChances_37 : decode cX10_addChances 37 = .ok (.if_icmp .eq 33, 3) := by decide +kernel
theorem dX10_addChances_40 : decode cX10_addChances 40 = .ok (.aload_n 1, 1) := by decide +kernel
theorem dX10_addChances_41 : decode cX10_addChances 41 = .ok (.iload_n 3, 1) := by decide +kernel
theorem dX10_addChances_42 : decode cX10_addChances 42 = .ok (.iload 4, 2) := by decide +kernel
theorem dX10_addChances_44 : decode cX10_addChances 44 = .ok (.invokevirtual 280, 3) := by decide +kernel
theorem dX10_addChances_47 : decode cX10_addChances 47 = .ok (.ifCond .eq 23, 3) := by decide +kernel
theorem dX10_addChances_50 : decode cX10_addChances 50 = .ok (.aload_n 0, 1) := by decide +kernel
theorem dX10_addChances_51 : decode cX10_addChances 51 = .ok (.getfield 46, 3) := by decide +kernel
theorem dX10_addChances_54 : decode cX10_addChances 54 = .ok (.iload 5, 2) := by decide +kernel
theorem dX10_addChances_56 : decode cX10_addChances 56 = .ok (.aload_n 0, 1) := by decide +kernel
theorem dX10_addChances_57 : decode cX10_addChances 57 = .ok (.getfield 46, 3) := by decide +kernel
theorem dX10_addChances_60 : decode cX10_addChances 60 = .ok (.iload 5, 2) := by decide +kernel
theorem dX10_addChances_62 : decode cX10_addChances 62 = .ok (.invokestatic 82, 3) := by decide +kernel
theorem dX10_addChances_65 : decode cX10_addChances 65 = .ok (.iconst 1, 1) := by decide +kernel
theorem dX10_addChances_66 : decode cX10_addChances 66 = .ok (.iadd, 1) := by decide +kernel
theorem dX10_addChances_67 : decode cX10_addChances 67 = .ok (.invokestatic 164, 3) := by decide +kernel
theorem dX10_addChances_70 : decode cX10_addChances 70 = .ok (.iinc 4 1, 3) := by decide +kernel
theorem dX10_addChances_73 : decode cX10_addChances 73 = .ok (.goto (-63), 3) := by decide +kernel
theorem dX10_addChances_76 : decode cX10_addChances 76 = .ok (.iinc 3 1, 3) := by decide +kernel
theorem dX10_addChances_79 : decode cX10_addChances 79 = .ok (.goto (-77), 3) := by decide +kernel
theorem dX10_addChances_82 : decode cX10_addChances 82 = .ok (.return_, 1) := by decide +kernel
theorem dX10_isColumn_0 : decode cX10_isColumn 0 = .ok (.iload_n 0, 1) := by decide +kernel
theorem dX10_isColumn_1 : decode cX10_isColumn 1 = .ok (.ifCond .lt 13, 3) := by decide +kernel
theorem dX10_isColumn_4 : decode cX10_isColumn 4 = .ok (.iload_n 0, 1) := by decide +kernel
theorem dX10_isColumn_5 : decode cX10_isColumn 5 = .ok (.bipush 6, 2) := by decide +kernel
theorem dX10_isColumn_7 : decode cX10_isColumn 7 = .ok (.if_icmp .ge 7, 3) := by decide +kernel
theorem dX10_isColumn_10 : decode cX10_isColumn 10 = .ok (.iconst 1, 1) := by decide +kernel
theorem dX10_isColumn_11 : decode cX10_isColumn 11 = .ok (.goto 4, 3) := by decide +kernel
theorem dX10_isColumn_14 : decode cX10_isColumn 14 = .ok (.iconst 0, 1) := by decide +kernel
theorem dX10_isColumn_15 : decode cX10_isColumn 15 = .ok (.ireturn, 1) := by decide +kernel
theorem dX10_isTurn_0 : decode cX10_isTurn 0 = .ok (.iload_n 0, 1) := by decide +kernel
theorem dX10_isTurn_1 : decode cX10_isTurn 1 = .ok (.ifCond .lt 12, 3) := by decide +kernel
theorem dX10_isTurn_4 : decode cX10_isTurn 4 = .ok (.iload_n 0, 1) := by decide +kernel
theorem dX10_isTurn_5 : decode cX10_isTurn 5 = .ok (.iconst 5, 1) := by decide +kernel
theorem dX10_isTurn_6 : decode cX10_isTurn 6 = .ok (.if_icmp .ge 7, 3) := by decide +kernel
theorem dX10_isTurn_9 : decode cX10_isTurn 9 = .ok (.iconst 1, 1) := by decide +kernel
theorem dX10_isTurn_10 : decode cX10_isTurn 10 = .ok (.goto 4, 3) := by decide +kernel
theorem dX10_isTurn_13 : decode cX10_isTurn 13 = .ok (.iconst 0, 1) := by decide +kernel
theorem dX10_isTurn_14 : decode cX10_isTurn 14 = .ok (.ireturn, 1) := by decide +kernel
theorem dX10_cellAt_0 : decode cX10_cellAt 0 = .ok (.iload_n 0, 1) := by decide +kernel
theorem dX10_cellAt_1 : decode cX10_cellAt 1 = .ok (.ifCond .lt 23, 3) := by decide +kernel
theorem dX10_cellAt_4 : decode cX10_cellAt 4 = .ok (.iload_n 0, 1) := by decide +kernel
theorem dX10_cellAt_5 : decode cX10_cellAt 5 = .ok (.bipush 6, 2) := by decide +kernel
theorem dX10_cellAt_7 : decode cX10_cellAt 7 = .ok (.if_icmp .ge 17, 3) := by decide +kernel
theorem dX10_cellAt_10 : decode cX10_cellAt 10 = .ok (.iload_n 1, 1) := by decide +kernel
theorem dX10_cellAt_11 : decode cX10_cellAt 11 = .ok (.ifCond .lt 13, 3) := by decide +kernel
theorem dX10_cellAt_14 : decode cX10_cellAt 14 = .ok (.iload_n 1, 1) := by decide +kernel
theorem dX10_cellAt_15 : decode cX10_cellAt 15 = .ok (.bipush 6, 2) := by decide +kernel
theorem dX10_cellAt_17 : decode cX10_cellAt 17 = .ok (.if_icmp .ge 7, 3) := by decide +kernel
theorem dX10_cellAt_20 : decode cX10_cellAt 20 = .ok (.iconst 1, 1) := by decide +kernel
theorem dX10_cellAt_21 : decode cX10_cellAt 21 = .ok (.goto 4, 3) := by decide +kernel
theorem dX10_cellAt_24 : decode cX10_cellAt 24 = .ok (.iconst 0, 1) := by decide +kernel
theorem dX10_cellAt_25 : decode cX10_cellAt 25 = .ok (.istore_n 2, 1) := by decide +kernel
theorem dX10_cellAt_26 : decode cX10_cellAt 26 = .ok (.iload_n 2, 1) := by decide +kernel
theorem dX10_cellAt_27 : decode cX10_cellAt 27 = .ok (.ifCond .eq 12, 3) := by decide +kernel
theorem dX10_cellAt_30 : decode cX10_cellAt 30 = .ok (.bipush 6, 2) := by decide +kernel
theorem dX10_cellAt_32 : decode cX10_cellAt 32 = .ok (.iload_n 0, 1) := by decide +kernel
theorem dX10_cellAt_33 : decode cX10_cellAt 33 = .ok (.imul, 1) := by decide +kernel
theorem dX10_cellAt_34 : decode cX10_cellAt 34 = .ok (.iload_n 1, 1) := by decide +kernel
theorem dX10_cellAt_35 : decode cX10_cellAt 35 = .ok (.iadd, 1) := by decide +kernel
theorem dX10_cellAt_36 : decode cX10_cellAt 36 = .ok (.goto 4, 3) := by decide +kernel
theorem dX10_cellAt_39 : decode cX10_cellAt 39 = .ok (.iconst (-1), 1) := by decide +kernel
theorem dX10_cellAt_40 : decode cX10_cellAt 40 = .ok (.ireturn, 1) := by decide +kernel
theorem dX10_columnBy_0 : decode cX10_columnBy 0 = .ok (.iload_n 0, 1) := by decide +kernel
theorem dX10_columnBy_1 : decode cX10_columnBy 1 = .ok (.iload_n 1, 1) := by decide +kernel
theorem dX10_columnBy_2 : decode cX10_columnBy 2 = .ok (.iadd, 1) := by decide +kernel
theorem dX10_columnBy_3 : decode cX10_columnBy 3 = .ok (.iconst 2, 1) := by decide +kernel
theorem dX10_columnBy_4 : decode cX10_columnBy 4 = .ok (.isub, 1) := by decide +kernel
theorem dX10_columnBy_5 : decode cX10_columnBy 5 = .ok (.istore_n 2, 1) := by decide +kernel
theorem dX10_columnBy_6 : decode cX10_columnBy 6 = .ok (.iload_n 2, 1) := by decide +kernel
theorem dX10_columnBy_7 : decode cX10_columnBy 7 = .ok (.invokestatic 203, 3) := by decide +kernel
theorem dX10_columnBy_10 : decode cX10_columnBy 10 = .ok (.ifCond .eq 7, 3) := by decide +kernel
theorem dX10_columnBy_13 : decode cX10_columnBy 13 = .ok (.iload_n 2, 1) := by decide +kernel
theorem dX10_columnBy_14 : decode cX10_columnBy 14 = .ok (.goto 4, 3) := by decide +kernel
theorem dX10_columnBy_17 : decode cX10_columnBy 17 = .ok (.iconst (-1), 1) := by decide +kernel
theorem dX10_columnBy_18 : decode cX10_columnBy 18 = .ok (.ireturn, 1) := by decide +kernel
theorem dX10_tellingAim_0 : decode cX10_tellingAim 0 = .ok (.iload_n 0, 1) := by decide +kernel
theorem dX10_tellingAim_1 : decode cX10_tellingAim 1 = .ok (.ifCond .ne 5, 3) := by decide +kernel
theorem dX10_tellingAim_4 : decode cX10_tellingAim 4 = .ok (.iconst (-1), 1) := by decide +kernel
theorem dX10_tellingAim_5 : decode cX10_tellingAim 5 = .ok (.ireturn, 1) := by decide +kernel
theorem dX10_tellingAim_6 : decode cX10_tellingAim 6 = .ok (.iconst 0, 1) := by decide +kernel
theorem dX10_tellingAim_7 : decode cX10_tellingAim 7 = .ok (.istore_n 1, 1) := by decide +kernel
theorem dX10_tellingAim_8 : decode cX10_tellingAim 8 = .ok (.iload_n 0, 1) := by decide +kernel
theorem dX10_tellingAim_9 : decode cX10_tellingAim 9 = .ok (.iconst 0, 1) := by decide +kernel
theorem dX10_tellingAim_10 : decode cX10_tellingAim 10 = .ok (.invokestatic 305, 3) := by decide +kernel
theorem dX10_tellingAim_13 : decode cX10_tellingAim 13 = .ok (.istore_n 2, 1) := by decide +kernel
theorem dX10_tellingAim_14 : decode cX10_tellingAim 14 = .ok (.iconst 1, 1) := by decide +kernel
theorem dX10_tellingAim_15 : decode cX10_tellingAim 15 = .ok (.istore_n 3, 1) := by decide +kernel
theorem dX10_tellingAim_16 : decode cX10_tellingAim 16 = .ok (.iload_n 3, 1) := by decide +kernel
theorem dX10_tellingAim_17 : decode cX10_tellingAim 17 = .ok (.bipush 6, 2) := by decide +kernel
theorem dX10_tellingAim_19 : decode cX10_tellingAim 19 = .ok (.if_icmp .ge 27, 3) := by decide +kernel
theorem dX10_tellingAim_22 : decode cX10_tellingAim 22 = .ok (.iload_n 0, 1) := by decide +kernel
theorem dX10_tellingAim_23 : decode cX10_tellingAim 23 = .ok (.iload_n 3, 1) := by decide +kernel
theorem dX10_tellingAim_24 : decode cX10_tellingAim 24 = .ok (.invokestatic 305, 3) := by decide +kernel
theorem dX10_tellingAim_27 : decode cX10_tellingAim 27 = .ok (.istore 4, 2) := by decide +kernel
theorem dX10_tellingAim_29 : decode cX10_tellingAim 29 = .ok (.iload 4, 2) := by decide +kernel
theorem dX10_tellingAim_31 : decode cX10_tellingAim 31 = .ok (.iload_n 2, 1) := by decide +kernel
theorem dX10_tellingAim_32 : decode cX10_tellingAim 32 = .ok (.if_icmp .ge 8, 3) := by decide +kernel
theorem dX10_tellingAim_35 : decode cX10_tellingAim 35 = .ok (.iload 4, 2) := by decide +kernel
theorem dX10_tellingAim_37 : decode cX10_tellingAim 37 = .ok (.istore_n 2, 1) := by decide +kernel
theorem dX10_tellingAim_38 : decode cX10_tellingAim 38 = .ok (.iload_n 3, 1) := by decide +kernel
theorem dX10_tellingAim_39 : decode cX10_tellingAim 39 = .ok (.istore_n 1, 1) := by decide +kernel
theorem dX10_tellingAim_40 : decode cX10_tellingAim 40 = .ok (.iinc 3 1, 3) := by decide +kernel
theorem dX10_tellingAim_43 : decode cX10_tellingAim 43 = .ok (.goto (-27), 3) := by decide +kernel
theorem dX10_tellingAim_46 : decode cX10_tellingAim 46 = .ok (.iload_n 1, 1) := by decide +kernel
theorem dX10_tellingAim_47 : decode cX10_tellingAim 47 = .ok (.ireturn, 1) := by decide +kernel
theorem dX10_mostLeft_0 : decode cX10_mostLeft 0 = .ok (.iconst 0, 1) := by decide +kernel
theorem dX10_mostLeft_1 : decode cX10_mostLeft 1 = .ok (.istore_n 2, 1) := by decide +kernel
theorem dX10_mostLeft_2 : decode cX10_mostLeft 2 = .ok (.iconst (-1), 1) := by decide +kernel
theorem dX10_mostLeft_3 : decode cX10_mostLeft 3 = .ok (.istore_n 3, 1) := by decide +kernel
theorem dX10_mostLeft_4 : decode cX10_mostLeft 4 = .ok (.iload_n 3, 1) := by decide +kernel
theorem dX10_mostLeft_5 : decode cX10_mostLeft 5 = .ok (.bipush 6, 2) := by decide +kernel
theorem dX10_mostLeft_7 : decode cX10_mostLeft 7 = .ok (.if_icmp .ge 57, 3) := by decide +kernel
theorem dX10_mostLeft_10 : decode cX10_mostLeft 10 = .ok (.iconst 0, 1) := by decide +kernel
theorem dX10_mostLeft_11 : decode cX10_mostLeft 11 = .ok (.istore 4, 2) := by decide +kernel
theorem dX10_mostLeft_13 : decode cX10_mostLeft 13 = .ok (.iconst 0, 1) := by decide +kernel
theorem dX10_mostLeft_14 : decode cX10_mostLeft 14 = .ok (.istore 5, 2) := by decide +kernel
theorem dX10_mostLeft_16 : decode cX10_mostLeft 16 = .ok (.iload 5, 2) := by decide +kernel
theorem dX10_mostLeft_18 : decode cX10_mostLeft 18 = .ok (.iconst 5, 1) := by decide +kernel
theorem dX10_mostLeft_19 : decode cX10_mostLeft 19 = .ok (.if_icmp .ge 32, 3) := by decide +kernel
theorem dX10_mostLeft_22 : decode cX10_mostLeft 22 = .ok (.iload_n 0, 1) := by decide +kernel
theorem dX10_mostLeft_23 : decode cX10_mostLeft 23 = .ok (.iload 5, 2) := by decide +kernel
theorem dX10_mostLeft_25 : decode cX10_mostLeft 25 = .ok (.ishr, 1) := by decide +kernel
theorem dX10_mostLeft_26 : decode cX10_mostLeft 26 = .ok (.iconst 1, 1) := by decide +kernel
theorem dX10_mostLeft_27 : decode cX10_mostLeft 27 = .ok (.iand, 1) := by decide +kernel
theorem dX10_mostLeft_28 : decode cX10_mostLeft 28 = .ok (.iconst 1, 1) := by decide +kernel
theorem dX10_mostLeft_29 : decode cX10_mostLeft 29 = .ok (.if_icmp .ne 16, 3) := by decide +kernel
theorem dX10_mostLeft_32 : decode cX10_mostLeft 32 = .ok (.iload_n 1, 1) := by decide +kernel
theorem dX10_mostLeft_33 : decode cX10_mostLeft 33 = .ok (.iload 5, 2) := by decide +kernel
theorem dX10_mostLeft_35 : decode cX10_mostLeft 35 = .ok (.invokestatic 308, 3) := by decide +kernel
theorem dX10_mostLeft_38 : decode cX10_mostLeft 38 = .ok (.iload_n 3, 1) := by decide +kernel
theorem dX10_mostLeft_39 : decode cX10_mostLeft 39 = .ok (.if_icmp .ne 6, 3) := by decide +kernel
theorem dX10_mostLeft_42 : decode cX10_mostLeft 42 = .ok (.iinc 4 1, 3) := by decide +kernel
theorem dX10_mostLeft_45 : decode cX10_mostLeft 45 = .ok (.iinc 5 1, 3) := by decide +kernel
theorem dX10_mostLeft_48 : decode cX10_mostLeft 48 = .ok (.goto (-32), 3) := by decide +kernel
theorem dX10_mostLeft_51 : decode cX10_mostLeft 51 = .ok (.iload_n 2, 1) := by decide +kernel
theorem dX10_mostLeft_52 : decode cX10_mostLeft 52 = .ok (.iload 4, 2) := by decide +kernel
theorem dX10_mostLeft_54 : decode cX10_mostLeft 54 = .ok (.invokestatic 311, 3) := by decide +kernel
theorem dX10_mostLeft_57 : decode cX10_mostLeft 57 = .ok (.istore_n 2, 1) := by decide +kernel
theorem dX10_mostLeft_58 : decode cX10_mostLeft 58 = .ok (.iinc 3 1, 3) := by decide +kernel
theorem dX10_mostLeft_61 : decode cX10_mostLeft 61 = .ok (.goto (-57), 3) := by decide +kernel
theorem dX10_mostLeft_64 : decode cX10_mostLeft 64 = .ok (.iload_n 2, 1) := by decide +kernel
theorem dX10_mostLeft_65 : decode cX10_mostLeft 65 = .ok (.ireturn, 1) := by decide +kernel
theorem dX10_nextSeed_0 : decode cX10_nextSeed 0 = .ok (.ldc2_w 316, 3) := by decide +kernel
theorem dX10_nextSeed_3 : decode cX10_nextSeed 3 = .ok (.iload_n 0, 1) := by decide +kernel
theorem dX10_nextSeed_4 : decode cX10_nextSeed 4 = .ok (.i2l, 1) := by decide +kernel
theorem dX10_nextSeed_5 : decode cX10_nextSeed 5 = .ok (.lmul, 1) := by decide +kernel
theorem dX10_nextSeed_6 : decode cX10_nextSeed 6 = .ok (.ldc2_w 318, 3) := by decide +kernel
theorem dX10_nextSeed_9 : decode cX10_nextSeed 9 = .ok (.ladd, 1) := by decide +kernel
theorem dX10_nextSeed_10 : decode cX10_nextSeed 10 = .ok (.ldc2_w 320, 3) := by decide +kernel
theorem dX10_nextSeed_13 : decode cX10_nextSeed 13 = .ok (.lrem, 1) := by decide +kernel
theorem dX10_nextSeed_14 : decode cX10_nextSeed 14 = .ok (.l2i, 1) := by decide +kernel
theorem dX10_nextSeed_15 : decode cX10_nextSeed 15 = .ok (.ireturn, 1) := by decide +kernel
theorem dX10_draw_0 : decode cX10_draw 0 = .ok (.iload_n 1, 1) := by decide +kernel
theorem dX10_draw_1 : decode cX10_draw 1 = .ok (.ifCond .le 13, 3) := by decide +kernel
theorem dX10_draw_4 : decode cX10_draw 4 = .ok (.iload_n 0, 1) := by decide +kernel
theorem dX10_draw_5 : decode cX10_draw 5 = .ok (.ldc_w 322, 3) := by decide +kernel
theorem dX10_draw_8 : decode cX10_draw 8 = .ok (.idiv, 1) := by decide +kernel
theorem dX10_draw_9 : decode cX10_draw 9 = .ok (.iload_n 1, 1) := by decide +kernel
theorem dX10_draw_10 : decode cX10_draw 10 = .ok (.irem, 1) := by decide +kernel
theorem dX10_draw_11 : decode cX10_draw 11 = .ok (.goto 4, 3) := by decide +kernel
theorem dX10_draw_14 : decode cX10_draw 14 = .ok (.iconst 0, 1) := by decide +kernel
theorem dX10_draw_15 : decode cX10_draw 15 = .ok (.ireturn, 1) := by decide +kernel
theorem dX10_at_0 : decode cX10_at 0 = .ok (.aload_n 0, 1) := by decide +kernel
theorem dX10_at_1 : decode cX10_at 1 = .ok (.ifnull 19, 3) := by decide +kernel
theorem dX10_at_4 : decode cX10_at 4 = .ok (.iload_n 1, 1) := by decide +kernel
theorem dX10_at_5 : decode cX10_at 5 = .ok (.ifCond .lt 15, 3) := by decide +kernel
theorem dX10_at_8 : decode cX10_at 8 = .ok (.iload_n 1, 1) := by decide +kernel
theorem dX10_at_9 : decode cX10_at 9 = .ok (.aload_n 0, 1) := by decide +kernel
theorem dX10_at_10 : decode cX10_at 10 = .ok (.arraylength, 1) := by decide +kernel
theorem dX10_at_11 : decode cX10_at 11 = .ok (.if_icmp .ge 9, 3) := by decide +kernel
theorem dX10_at_14 : decode cX10_at 14 = .ok (.aload_n 0, 1) := by decide +kernel
theorem dX10_at_15 : decode cX10_at 15 = .ok (.iload_n 1, 1) := by decide +kernel
theorem dX10_at_16 : decode cX10_at 16 = .ok (.iaload, 1) := by decide +kernel
theorem dX10_at_17 : decode cX10_at 17 = .ok (.goto 4, 3) := by decide +kernel
theorem dX10_at_20 : decode cX10_at 20 = .ok (.iconst 0, 1) := by decide +kernel
theorem dX10_at_21 : decode cX10_at 21 = .ok (.ireturn, 1) := by decide +kernel
theorem dX10_put_0 : decode cX10_put 0 = .ok (.aload_n 0, 1) := by decide +kernel
theorem dX10_put_1 : decode cX10_put 1 = .ok (.ifnull 17, 3) := by decide +kernel
theorem dX10_put_4 : decode cX10_put 4 = .ok (.iload_n 1, 1) := by decide +kernel
theorem dX10_put_5 : decode cX10_put 5 = .ok (.ifCond .lt 13, 3) := by decide +kernel
theorem dX10_put_8 : decode cX10_put 8 = .ok (.iload_n 1, 1) := by decide +kernel
theorem dX10_put_9 : decode cX10_put 9 = .ok (.aload_n 0, 1) := by decide +kernel
theorem dX10_put_10 : decode cX10_put 10 = .ok (.arraylength, 1) := by decide +kernel
theorem dX10_put_11 : decode cX10_put 11 = .ok (.if_icmp .ge 7, 3) := by decide +kernel
theorem dX10_put_14 : decode cX10_put 14 = .ok (.aload_n 0, 1) := by decide +kernel
theorem dX10_put_15 : decode cX10_put 15 = .ok (.iload_n 1, 1) := by decide +kernel
theorem dX10_put_16 : decode cX10_put 16 = .ok (.iload_n 2, 1) := by decide +kernel
theorem dX10_put_17 : decode cX10_put 17 = .ok (.iastore, 1) := by decide +kernel
theorem dX10_put_18 : decode cX10_put 18 = .ok (.return_, 1) := by decide +kernel
theorem dX10_clear_0 : decode cX10_clear 0 = .ok (.iconst 0, 1) := by decide +kernel
theorem dX10_clear_1 : decode cX10_clear 1 = .ok (.istore_n 1, 1) := by decide +kernel
theorem dX10_clear_2 : decode cX10_clear 2 = .ok (.aload_n 0, 1) := by decide +kernel
theorem dX10_clear_3 : decode cX10_clear 3 = .ok (.ifnull 19, 3) := by decide +kernel
theorem dX10_clear_6 : decode cX10_clear 6 = .ok (.iload_n 1, 1) := by decide +kernel
theorem dX10_clear_7 : decode cX10_clear 7 = .ok (.aload_n 0, 1) := by decide +kernel
theorem dX10_clear_8 : decode cX10_clear 8 = .ok (.arraylength, 1) := by decide +kernel
theorem dX10_clear_9 : decode cX10_clear 9 = .ok (.if_icmp .ge 13, 3) := by decide +kernel
theorem dX10_clear_12 : decode cX10_clear 12 = .ok (.aload_n 0, 1) := by decide +kernel
theorem dX10_clear_13 : decode cX10_clear 13 = .ok (.iload_n 1, 1) := by decide +kernel
theorem dX10_clear_14 : decode cX10_clear 14 = .ok (.iconst 0, 1) := by decide +kernel
theorem dX10_clear_15 : decode cX10_clear 15 = .ok (.iastore, 1) := by decide +kernel
theorem dX10_clear_16 : decode cX10_clear 16 = .ok (.iinc 1 1, 3) := by decide +kernel
theorem dX10_clear_19 : decode cX10_clear 19 = .ok (.goto (-17), 3) := by decide +kernel
theorem dX10_clear_22 : decode cX10_clear 22 = .ok (.return_, 1) := by decide +kernel
theorem dX10_copy_0 : decode cX10_copy 0 = .ok (.iconst 0, 1) := by decide +kernel
theorem dX10_copy_1 : decode cX10_copy 1 = .ok (.istore_n 2, 1) := by decide +kernel
theorem dX10_copy_2 : decode cX10_copy 2 = .ok (.aload_n 0, 1) := by decide +kernel
theorem dX10_copy_3 : decode cX10_copy 3 = .ok (.ifnull 23, 3) := by decide +kernel
theorem dX10_copy_6 : decode cX10_copy 6 = .ok (.iload_n 2, 1) := by decide +kernel
theorem dX10_copy_7 : decode cX10_copy 7 = .ok (.aload_n 0, 1) := by decide +kernel
theorem dX10_copy_8 : decode cX10_copy 8 = .ok (.arraylength, 1) := by decide +kernel
theorem dX10_copy_9 : decode cX10_copy 9 = .ok (.if_icmp .ge 17, 3) := by decide +kernel
theorem dX10_copy_12 : decode cX10_copy 12 = .ok (.aload_n 1, 1) := by decide +kernel
theorem dX10_copy_13 : decode cX10_copy 13 = .ok (.iload_n 2, 1) := by decide +kernel
theorem dX10_copy_14 : decode cX10_copy 14 = .ok (.aload_n 0, 1) := by decide +kernel
theorem dX10_copy_15 : decode cX10_copy 15 = .ok (.iload_n 2, 1) := by decide +kernel
theorem dX10_copy_16 : decode cX10_copy 16 = .ok (.iaload, 1) := by decide +kernel
theorem dX10_copy_17 : decode cX10_copy 17 = .ok (.invokestatic 164, 3) := by decide +kernel
theorem dX10_copy_20 : decode cX10_copy 20 = .ok (.iinc 2 1, 3) := by decide +kernel
theorem dX10_copy_23 : decode cX10_copy 23 = .ok (.goto (-21), 3) := by decide +kernel
theorem dX10_copy_26 : decode cX10_copy 26 = .ok (.return_, 1) := by decide +kernel
theorem dX10_sum_0 : decode cX10_sum 0 = .ok (.iconst 0, 1) := by decide +kernel
theorem dX10_sum_1 : decode cX10_sum 1 = .ok (.istore_n 1, 1) := by decide +kernel
theorem dX10_sum_2 : decode cX10_sum 2 = .ok (.iconst 0, 1) := by decide +kernel
theorem dX10_sum_3 : decode cX10_sum 3 = .ok (.istore_n 2, 1) := by decide +kernel
theorem dX10_sum_4 : decode cX10_sum 4 = .ok (.aload_n 0, 1) := by decide +kernel
theorem dX10_sum_5 : decode cX10_sum 5 = .ok (.ifnull 21, 3) := by decide +kernel
theorem dX10_sum_8 : decode cX10_sum 8 = .ok (.iload_n 2, 1) := by decide +kernel
theorem dX10_sum_9 : decode cX10_sum 9 = .ok (.aload_n 0, 1) := by decide +kernel
theorem dX10_sum_10 : decode cX10_sum 10 = .ok (.arraylength, 1) := by decide +kernel
theorem dX10_sum_11 : decode cX10_sum 11 = .ok (.if_icmp .ge 15, 3) := by decide +kernel
theorem dX10_sum_14 : decode cX10_sum 14 = .ok (.iload_n 1, 1) := by decide +kernel
theorem dX10_sum_15 : decode cX10_sum 15 = .ok (.aload_n 0, 1) := by decide +kernel
theorem dX10_sum_16 : decode cX10_sum 16 = .ok (.iload_n 2, 1) := by decide +kernel
theorem dX10_sum_17 : decode cX10_sum 17 = .ok (.iaload, 1) := by decide +kernel
theorem dX10_sum_18 : decode cX10_sum 18 = .ok (.iadd, 1) := by decide +kernel
theorem dX10_sum_19 : decode cX10_sum 19 = .ok (.istore_n 1, 1) := by decide +kernel
theorem dX10_sum_20 : decode cX10_sum 20 = .ok (.iinc 2 1, 3) := by decide +kernel
theorem dX10_sum_23 : decode cX10_sum 23 = .ok (.goto (-19), 3) := by decide +kernel
theorem dX10_sum_26 : decode cX10_sum 26 = .ok (.iload_n 1, 1) := by decide +kernel
theorem dX10_sum_27 : decode cX10_sum 27 = .ok (.ireturn, 1) := by decide +kernel
theorem dX10_tosserOf_0 : decode cX10_tosserOf 0 = .ok (.iload_n 0, 1) := by decide +kernel
theorem dX10_tosserOf_1 : decode cX10_tosserOf 1 = .ok (.tableswitch 63 1 4 #[31, 39, 47, 55], 31) := by decide +kernel
theorem dX10_tosserOf_32 : decode cX10_tosserOf 32 = .ok (.new 323, 3) := by decide +kernel
theorem dX10_tosserOf_35 : decode cX10_tosserOf 35 = .ok (.dup, 1) := by decide +kernel
theorem dX10_tosserOf_36 : decode cX10_tosserOf 36 = .ok (.invokespecial 325, 3) := by decide +kernel
theorem dX10_tosserOf_39 : decode cX10_tosserOf 39 = .ok (.areturn, 1) := by decide +kernel
theorem dX10_tosserOf_40 : decode cX10_tosserOf 40 = .ok (.new 326, 3) := by decide +kernel
theorem dX10_tosserOf_43 : decode cX10_tosserOf 43 = .ok (.dup, 1) := by decide +kernel
theorem dX10_tosserOf_44 : decode cX10_tosserOf 44 = .ok (.invokespecial 328, 3) := by decide +kernel
theorem dX10_tosserOf_47 : decode cX10_tosserOf 47 = .ok (.areturn, 1) := by decide +kernel
theorem dX10_tosserOf_48 : decode cX10_tosserOf 48 = .ok (.new 329, 3) := by decide +kernel
theorem dX10_tosserOf_51 : decode cX10_tosserOf 51 = .ok (.dup, 1) := by decide +kernel
theorem dX10_tosserOf_52 : decode cX10_tosserOf 52 = .ok (.invokespecial 331, 3) := by decide +kernel
theorem dX10_tosserOf_55 : decode cX10_tosserOf 55 = .ok (.areturn, 1) := by decide +kernel
theorem dX10_tosserOf_56 : decode cX10_tosserOf 56 = .ok (.new 332, 3) := by decide +kernel
theorem dX10_tosserOf_59 : decode cX10_tosserOf 59 = .ok (.dup, 1) := by decide +kernel
theorem dX10_tosserOf_60 : decode cX10_tosserOf 60 = .ok (.invokespecial 334, 3) := by decide +kernel
theorem dX10_tosserOf_63 : decode cX10_tosserOf 63 = .ok (.areturn, 1) := by decide +kernel
theorem dX10_tosserOf_64 : decode cX10_tosserOf 64 = .ok (.new 23, 3) := by decide +kernel
theorem dX10_tosserOf_67 : decode cX10_tosserOf 67 = .ok (.dup, 1) := by decide +kernel
theorem dX10_tosserOf_68 : decode cX10_tosserOf 68 = .ok (.invokespecial 335, 3) := by decide +kernel
theorem dX10_tosserOf_71 : decode cX10_tosserOf 71 = .ok (.areturn, 1) := by decide +kernel
theorem dX10_isOfKind_0 : decode cX10_isOfKind 0 = .ok (.iload_n 1, 1) := by decide +kernel
theorem dX10_isOfKind_1 : decode cX10_isOfKind 1 = .ok (.tableswitch 65 0 4 #[35, 45, 50, 55, 60], 35) := by decide +kernel
theorem dX10_isOfKind_36 : decode cX10_isOfKind 36 = .ok (.aload_n 0, 1) := by decide +kernel
theorem dX10_isOfKind_37 : decode cX10_isOfKind 37 = .ok (.ifnull 7, 3) := by decide +kernel
theorem dX10_isOfKind_40 : decode cX10_isOfKind 40 = .ok (.iconst 1, 1) := by decide +kernel
theorem dX10_isOfKind_41 : decode cX10_isOfKind 41 = .ok (.goto 4, 3) := by decide +kernel
theorem dX10_isOfKind_44 : decode cX10_isOfKind 44 = .ok (.iconst 0, 1) := by decide +kernel
theorem dX10_isOfKind_45 : decode cX10_isOfKind 45 = .ok (.ireturn, 1) := by decide +kernel
theorem dX10_isOfKind_46 : decode cX10_isOfKind 46 = .ok (.aload_n 0, 1) := by decide +kernel
theorem dX10_isOfKind_47 : decode cX10_isOfKind 47 = .ok (.instanceof 323, 3) := by decide +kernel
theorem dX10_isOfKind_50 : decode cX10_isOfKind 50 = .ok (.ireturn, 1) := by decide +kernel
theorem dX10_isOfKind_51 : decode cX10_isOfKind 51 = .ok (.aload_n 0, 1) := by decide +kernel
theorem dX10_isOfKind_52 : decode cX10_isOfKind 52 = .ok (.instanceof 326, 3) := by decide +kernel
theorem dX10_isOfKind_55 : decode cX10_isOfKind 55 = .ok (.ireturn, 1) := by decide +kernel
theorem dX10_isOfKind_56 : decode cX10_isOfKind 56 = .ok (.aload_n 0, 1) := by decide +kernel
theorem dX10_isOfKind_57 : decode cX10_isOfKind 57 = .ok (.instanceof 329, 3) := by decide +kernel
theorem dX10_isOfKind_60 : decode cX10_isOfKind 60 = .ok (.ireturn, 1) := by decide +kernel
theorem dX10_isOfKind_61 : decode cX10_isOfKind 61 = .ok (.aload_n 0, 1) := by decide +kernel
theorem dX10_isOfKind_62 : decode cX10_isOfKind 62 = .ok (.instanceof 332, 3) := by decide +kernel
theorem dX10_isOfKind_65 : decode cX10_isOfKind 65 = .ok (.ireturn, 1) := by decide +kernel
theorem dX10_isOfKind_66 : decode cX10_isOfKind 66 = .ok (.iconst 0, 1) := by decide +kernel
theorem dX10_isOfKind_67 : decode cX10_isOfKind 67 = .ok (.ireturn, 1) := by decide +kernel
theorem dX11_init_0 : decode cX11_init 0 = .ok (.aload_n 0, 1) := by decide +kernel
theorem dX11_init_1 : decode cX11_init 1 = .ok (.invokespecial 1, 3) := by decide +kernel
theorem dX11_init_4 : decode cX11_init 4 = .ok (.aload_n 0, 1) := by decide +kernel
theorem dX11_init_5 : decode cX11_init 5 = .ok (.bipush 36, 2) := by decide +kernel
theorem dX11_init_7 : decode cX11_init 7 = .ok (.newarray .int, 2) := by decide +kernel
theorem dX11_init_9 : decode cX11_init 9 = .ok (.putfield 7, 3) := by decide +kernel
theorem dX11_init_12 : decode cX11_init 12 = .ok (.aload_n 0, 1) := by decide +kernel
theorem dX11_init_13 : decode cX11_init 13 = .ok (.bipush 6, 2) := by decide +kernel
theorem dX11_init_15 : decode cX11_init 15 = .ok (.newarray .int, 2) := by decide +kernel
theorem dX11_init_17 : decode cX11_init 17 = .ok (.putfield 13, 3) := by decide +kernel
theorem dX11_init_20 : decode cX11_init 20 = .ok (.aload_n 0, 1) := by decide +kernel
theorem dX11_init_21 : decode cX11_init 21 = .ok (.bipush 6, 2) := by decide +kernel
theorem dX11_init_23 : decode cX11_init 23 = .ok (.newarray .int, 2) := by decide +kernel
theorem dX11_init_25 : decode cX11_init 25 = .ok (.putfield 16, 3) := by decide +kernel
theorem dX11_init_28 : decode cX11_init 28 = .ok (.aload_n 0, 1) := by decide +kernel
theorem dX11_init_29 : decode cX11_init 29 = .ok (.bipush 6, 2) := by decide +kernel
theorem dX11_init_31 : decode cX11_init 31 = .ok (.newarray .int, 2) := by decide +kernel
theorem dX11_init_33 : decode cX11_init 33 = .ok (.putfield 19, 3) := by decide +kernel
theorem dX11_init_36 : decode cX11_init 36 = .ok (.aload_n 0, 1) := by decide +kernel
theorem dX11_init_37 : decode cX11_init 37 = .ok (.bipush 6, 2) := by decide +kernel
theorem dX11_init_39 : decode cX11_init 39 = .ok (.newarray .int, 2) := by decide +kernel
theorem dX11_init_41 : decode cX11_init 41 = .ok (.putfield 22, 3) := by decide +kernel
theorem dX11_init_44 : decode cX11_init 44 = .ok (.aload_n 0, 1) := by decide +kernel
theorem dX11_init_45 : decode cX11_init 45 = .ok (.iconst 4, 1) := by decide +kernel
theorem dX11_init_46 : decode cX11_init 46 = .ok (.newarray .int, 2) := by decide +kernel
theorem dX11_init_48 : decode cX11_init 48 = .ok (.putfield 25, 3) := by decide +kernel
theorem dX11_init_51 : decode cX11_init 51 = .ok (.aload_n 0, 1) := by decide +kernel
theorem dX11_init_52 : decode cX11_init 52 = .ok (.iconst 4, 1) := by decide +kernel
theorem dX11_init_53 : decode cX11_init 53 = .ok (.newarray .int, 2) := by decide +kernel
theorem dX11_init_55 : decode cX11_init 55 = .ok (.putfield 28, 3) := by decide +kernel
theorem dX11_init_58 : decode cX11_init 58 = .ok (.aload_n 0, 1) := by decide +kernel
theorem dX11_init_59 : decode cX11_init 59 = .ok (.iconst 4, 1) := by decide +kernel
theorem dX11_init_60 : decode cX11_init 60 = .ok (.newarray .int, 2) := by decide +kernel
theorem dX11_init_62 : decode cX11_init 62 = .ok (.putfield 31, 3) := by decide +kernel
theorem dX11_init_65 : decode cX11_init 65 = .ok (.aload_n 0, 1) := by decide +kernel
theorem dX11_init_66 : decode cX11_init 66 = .ok (.iconst 4, 1) := by decide +kernel
theorem dX11_init_67 : decode cX11_init 67 = .ok (.newarray .int, 2) := by decide +kernel
theorem dX11_init_69 : decode cX11_init 69 = .ok (.putfield 34, 3) := by decide +kernel
theorem dX11_init_72 : decode cX11_init 72 = .ok (.aload_n 0, 1) := by decide +kernel
theorem dX11_init_73 : decode cX11_init 73 = .ok (.sipush 144, 3) := by decide +kernel
theorem dX11_init_76 : decode cX11_init 76 = .ok (.newarray .int, 2) := by decide +kernel
theorem dX11_init_78 : decode cX11_init 78 = .ok (.putfield 37, 3) := by decide +kernel
theorem dX11_init_81 : decode cX11_init 81 = .ok (.aload_n 0, 1) := by decide +kernel
theorem dX11_init_82 : decode cX11_init 82 = .ok (.sipush 9280, 3) := by decide +kernel
theorem dX11_init_85 : decode cX11_init 85 = .ok (.newarray .int, 2) := by decide +kernel
theorem dX11_init_87 : decode cX11_init 87 = .ok (.putfield 40, 3) := by decide +kernel
theorem dX11_init_90 : decode cX11_init 90 = .ok (.aload_n 0, 1) := by decide +kernel
theorem dX11_init_91 : decode cX11_init 91 = .ok (.bipush 6, 2) := by decide +kernel
theorem dX11_init_93 : decode cX11_init 93 = .ok (.newarray .int, 2) := by decide +kernel
theorem dX11_init_95 : decode cX11_init 95 = .ok (.putfield 43, 3) := by decide +kernel
theorem dX11_init_98 : decode cX11_init 98 = .ok (.aload_n 0, 1) := by decide +kernel
theorem dX11_init_99 : decode cX11_init 99 = .ok (.bipush 18, 2) := by decide +kernel
theorem dX11_init_101 : decode cX11_init 101 = .ok (.newarray .int, 2) := by decide +kernel
theorem dX11_init_103 : decode cX11_init 103 = .ok (.putfield 46, 3) := by decide +kernel
theorem dX11_init_106 : decode cX11_init 106 = .ok (.aload_n 0, 1) := by decide +kernel
theorem dX11_init_107 : decode cX11_init 107 = .ok (.bipush 6, 2) := by decide +kernel
theorem dX11_init_109 : decode cX11_init 109 = .ok (.newarray .int, 2) := by decide +kernel
theorem dX11_init_111 : decode cX11_init 111 = .ok (.putfield 49, 3) := by decide +kernel
theorem dX11_init_114 : decode cX11_init 114 = .ok (.aload_n 0, 1) := by decide +kernel
theorem dX11_init_115 : decode cX11_init 115 = .ok (.bipush 6, 2) := by decide +kernel
theorem dX11_init_117 : decode cX11_init 117 = .ok (.newarray .int, 2) := by decide +kernel
theorem dX11_init_119 : decode cX11_init 119 = .ok (.putfield 52, 3) := by decide +kernel
theorem dX11_init_122 : decode cX11_init 122 = .ok (.aload_n 0, 1) := by decide +kernel
theorem dX11_init_123 : decode cX11_init 123 = .ok (.bipush 6, 2) := by decide +kernel
theorem dX11_init_125 : decode cX11_init 125 = .ok (.newarray .int, 2) := by decide +kernel
theorem dX11_init_127 : decode cX11_init 127 = .ok (.putfield 55, 3) := by decide +kernel
theorem dX11_init_130 : decode cX11_init 130 = .ok (.aload_n 0, 1) := by decide +kernel
theorem dX11_init_131 : decode cX11_init 131 = .ok (.bipush 6, 2) := by decide +kernel
theorem dX11_init_133 : decode cX11_init 133 = .ok (.newarray .int, 2) := by decide +kernel
theorem dX11_init_135 : decode cX11_init 135 = .ok (.putfield 58, 3) := by decide +kernel
theorem dX11_init_138 : decode cX11_init 138 = .ok (.aload_n 0, 1) := by decide +kernel
theorem dX11_init_139 : decode cX11_init 139 = .ok (.iconst 4, 1) := by decide +kernel
theorem dX11_init_140 : decode cX11_init 140 = .ok (.newarray .int, 2) := by decide +kernel
theorem dX11_init_142 : decode cX11_init 142 = .ok (.putfield 61, 3) := by decide +kernel
theorem dX11_init_145 : decode cX11_init 145 = .ok (.aload_n 0, 1) := by decide +kernel
theorem dX11_init_146 : decode cX11_init 146 = .ok (.iconst 4, 1) := by decide +kernel
theorem dX11_init_147 : decode cX11_init 147 = .ok (.newarray .int, 2) := by decide +kernel
theorem dX11_init_149 : decode cX11_init 149 = .ok (.putfield 64, 3) := by decide +kernel
theorem dX11_init_152 : decode cX11_init 152 = .ok (.aload_n 0, 1) := by decide +kernel
theorem dX11_init_153 : decode cX11_init 153 = .ok (.iconst 4, 1) := by decide +kernel
theorem dX11_init_154 : decode cX11_init 154 = .ok (.newarray .int, 2) := by decide +kernel
theorem dX11_init_156 : decode cX11_init 156 = .ok (.putfield 67, 3) := by decide +kernel
theorem dX11_init_159 : decode cX11_init 159 = .ok (.aload_n 0, 1) := by decide +kernel
theorem dX11_init_160 : decode cX11_init 160 = .ok (.bipush 18, 2) := by decide +kernel
theorem dX11_init_162 : decode cX11_init 162 = .ok (.newarray .int, 2) := by decide +kernel
theorem dX11_init_164 : decode cX11_init 164 = .ok (.putfield 70, 3) := by decide +kernel
theorem dX11_init_167 : decode cX11_init 167 = .ok (.aload_n 0, 1) := by decide +kernel
theorem dX11_init_168 : decode cX11_init 168 = .ok (.iconst (-1), 1) := by decide +kernel
theorem dX11_init_169 : decode cX11_init 169 = .ok (.putfield 73, 3) := by decide +kernel
theorem dX11_init_172 : decode cX11_init 172 = .ok (.return_, 1) := by decide +kernel
theorem dX11_in_0 : decode cX11_in 0 = .ok (.lload_n 0, 1) := by decide +kernel
theorem dX11_in_1 : decode cX11_in 1 = .ok (.lload_n 2, 1) := by decide +kernel
theorem dX11_in_2 : decode cX11_in 2 = .ok (.lcmp, 1) := by decide +kernel
theorem dX11_in_3 : decode cX11_in 3 = .ok (.ifCond .lt 14, 3) := by decide +kernel
theorem dX11_in_6 : decode cX11_in 6 = .ok (.lload_n 0, 1) := by decide +kernel
theorem dX11_in_7 : decode cX11_in 7 = .ok (.lload 4, 2) := by decide +kernel
theorem dX11_in_9 : decode cX11_in 9 = .ok (.lcmp, 1) := by decide +kernel
theorem dX11_in_10 : decode cX11_in 10 = .ok (.ifCond .gt 7, 3) := by decide +kernel
theorem dX11_in_13 : decode cX11_in 13 = .ok (.iconst 1, 1) := by decide +kernel
theorem dX11_in_14 : decode cX11_in 14 = .ok (.goto 4, 3) := by decide +kernel
theorem dX11_in_17 : decode cX11_in 17 = .ok (.iconst 0, 1) := by decide +kernel
theorem dX11_in_18 : decode cX11_in 18 = .ok (.ireturn, 1) := by decide +kernel
theorem dX11_copy_0 : decode cX11_copy 0 = .ok (.iconst 0, 1) := by decide +kernel
theorem dX11_copy_1 : decode cX11_copy 1 = .ok (.istore_n 2, 1) := by decide +kernel
theorem dX11_copy_2 : decode cX11_copy 2 = .ok (.iload_n 2, 1) := by decide +kernel
theorem dX11_copy_3 : decode cX11_copy 3 = .ok (.aload_n 0, 1) := by decide +kernel
theorem dX11_copy_4 : decode cX11_copy 4 = .ok (.arraylength, 1) := by decide +kernel
theorem dX11_copy_5 : decode cX11_copy 5 = .ok (.if_icmp .ge 15, 3) := by decide +kernel
theorem dX11_copy_8 : decode cX11_copy 8 = .ok (.aload_n 1, 1) := by decide +kernel
theorem dX11_copy_9 : decode cX11_copy 9 = .ok (.iload_n 2, 1) := by decide +kernel
theorem dX11_copy_10 : decode cX11_copy 10 = .ok (.aload_n 0, 1) := by decide +kernel
theorem dX11_copy_11 : decode cX11_copy 11 = .ok (.iload_n 2, 1) := by decide +kernel
theorem dX11_copy_12 : decode cX11_copy 12 = .ok (.iaload, 1) := by decide +kernel
theorem dX11_copy_13 : decode cX11_copy 13 = .ok (.iastore, 1) := by decide +kernel
theorem dX11_copy_14 : decode cX11_copy 14 = .ok (.iinc 2 1, 3) := by decide +kernel
theorem dX11_copy_17 : decode cX11_copy 17 = .ok (.goto (-15), 3) := by decide +kernel
theorem dX11_copy_20 : decode cX11_copy 20 = .ok (.return_, 1) := by decide +kernel
theorem dX11_letter_0 : decode cX11_letter 0 = .ok (.iload_n 1, 1) := by decide +kernel
theorem dX11_letter_1 : decode cX11_letter 1 = .ok (.i2l, 1) := by decide +kernel
theorem dX11_letter_2 : decode cX11_letter 2 = .ok (.lconst 1, 1) := by decide +kernel
theorem dX11_letter_3 : decode cX11_letter 3 = .ok (.ldc2_w 77, 3) := by decide +kernel
theorem dX11_letter_6 : decode cX11_letter 6 = .ok (.invokestatic 79, 3) := by decide +kernel
theorem dX11_letter_9 : decode cX11_letter 9 = .ok (.ifCond .ne 6, 3) := by decide +kernel
theorem dX11_letter_12 : decode cX11_letter 12 = .ok (.bipush (-102), 2) := by decide +kernel
theorem dX11_letter_14 : decode cX11_letter 14 = .ok (.ireturn, 1) := by decide +kernel
theorem dX11_letter_15 : decode cX11_letter 15 = .ok (.aload_n 0, 1) := by decide +kernel
theorem dX11_letter_16 : decode cX11_letter 16 = .ok (.getfield 83, 3) := by decide +kernel
theorem dX11_letter_19 : decode cX11_letter 19 = .ok (.bipush 36, 2) := by decide +kernel
theorem dX11_letter_21 : decode cX11_letter 21 = .ok (.if_icmp .ne 6, 3) := by decide +kernel
theorem dX11_letter_24 : decode cX11_letter 24 = .ok (.bipush (-104), 2) := by decide +kernel
theorem dX11_letter_26 : decode cX11_letter 26 = .ok (.ireturn, 1) := by decide +kernel
theorem dX11_letter_27 : decode cX11_letter 27 = .ok (.aload_n 0, 1) := by decide +kernel
theorem dX11_letter_28 : decode cX11_letter 28 = .ok (.getfield 7, 3) := by decide +kernel
theorem dX11_letter_31 : decode cX11_letter 31 = .ok (.aload_n 0, 1) := by decide +kernel
theorem dX11_letter_32 : decode cX11_letter 32 = .ok (.getfield 83, 3) := by decide +kernel
theorem dX11_letter_35 : decode cX11_letter 35 = .ok (.iload_n 1, 1) := by decide +kernel
theorem dX11_letter_36 : decode cX11_letter 36 = .ok (.iastore, 1) := by decide +kernel
theorem dX11_letter_37 : decode cX11_letter 37 = .ok (.aload_n 0, 1) := by decide +kernel
theorem dX11_letter_38 : decode cX11_letter 38 = .ok (.dup, 1) := by decide +kernel
theorem dX11_letter_39 : decode cX11_letter 39 = .ok (.getfield 83, 3) := by decide +kernel
theorem dX11_letter_42 : decode cX11_letter 42 = .ok (.iconst 1, 1) := by decide +kernel
theorem dX11_letter_43 : decode cX11_letter 43 = .ok (.iadd, 1) := by decide +kernel
theorem dX11_letter_44 : decode cX11_letter 44 = .ok (.putfield 83, 3) := by decide +kernel
theorem dX11_letter_47 : decode cX11_letter 47 = .ok (.aload_n 0, 1) := by decide +kernel
theorem dX11_letter_48 : decode cX11_letter 48 = .ok (.getfield 83, 3) := by decide +kernel
theorem dX11_letter_51 : decode cX11_letter 51 = .ok (.ireturn, 1) := by decide +kernel
theorem dX11_blank_0 : decode cX11_blank 0 = .ok (.aload_n 0, 1) := by decide +kernel
theorem dX11_blank_1 : decode cX11_blank 1 = .ok (.getfield 83, 3) := by decide +kernel
theorem dX11_blank_4 : decode cX11_blank 4 = .ok (.istore_n 1, 1) := by decide +kernel
theorem dX11_blank_5 : decode cX11_blank 5 = .ok (.aload_n 0, 1) := by decide +kernel
theorem dX11_blank_6 : decode cX11_blank 6 = .ok (.iconst 0, 1) := by decide +kernel
theorem dX11_blank_7 : decode cX11_blank 7 = .ok (.putfield 83, 3) := by decide +kernel
theorem dX11_blank_10 : decode cX11_blank 10 = .ok (.iload_n 1, 1) := by decide +kernel
theorem dX11_blank_11 : decode cX11_blank 11 = .ok (.ireturn, 1) := by decide +kernel
theorem dX11_kindBy_0 : decode cX11_kindBy 0 = .ok (.iload_n 0, 1) := by decide +kernel
theorem dX11_kindBy_1 : decode cX11_kindBy 1 = .ok (.lookupswitch 61 #[(104, 57), (108, 53), (109, 59), (116, 51), (119, 55)], 51) := by decide +kernel
theorem dX11_kindBy_52 : decode cX11_kindBy 52 = .ok (.iconst 0, 1) := by decide +kernel
theorem dX11_kindBy_53 : decode cX11_kindBy 53 = .ok (.ireturn, 1) := by decide +kernel
theorem dX11_kindBy_54 : decode cX11_kindBy 54 = .ok (.iconst 1, 1) := by decide +kernel
theorem dX11_kindBy_55 : decode cX11_kindBy 55 = .ok (.ireturn, 1) := by decide +kernel
theorem dX11_kindBy_56 : decode cX11_kindBy 56 = .ok (.iconst 2, 1) := by decide +kernel
theorem dX11_kindBy_57 : decode cX11_kindBy 57 = .ok (.ireturn, 1) := by decide +kernel
theorem dX11_kindBy_58 : decode cX11_kindBy 58 = .ok (.iconst 3, 1) := by decide +kernel
theorem dX11_kindBy_59 : decode cX11_kindBy 59 = .ok (.ireturn, 1) := by decide +kernel
theorem dX11_kindBy_60 : decode cX11_kindBy 60 = .ok (.iconst 4, 1) := by decide +kernel
theorem dX11_kindBy_61 : decode cX11_kindBy 61 = .ok (.ireturn, 1) := by decide +kernel
theorem dX11_kindBy_62 : decode cX11_kindBy 62 = .ok (.iconst (-1), 1) := by decide +kernel
theorem dX11_kindBy_63 : decode cX11_kindBy 63 = .ok (.ireturn, 1) := by decide +kernel
theorem dX11_cellAt_0 : decode cX11_cellAt 0 = .ok (.bipush 6, 2) := by decide +kernel
theorem dX11_cellAt_2 : decode cX11_cellAt 2 = .ok (.aload_n 0, 1) := by decide +kernel
theorem dX11_cellAt_3 : decode cX11_cellAt 3 = .ok (.getfield 7, 3) := by decide +kernel
theorem dX11_cellAt_6 : decode cX11_cellAt 6 = .ok (.iload_n 1, 1) := by decide +kernel
theorem dX11_cellAt_7 : decode cX11_cellAt 7 = .ok (.iaload, 1) := by decide +kernel
theorem dX11_cellAt_8 : decode cX11_cellAt 8 = .ok (.bipush 48, 2) := by decide +kernel
theorem dX11_cellAt_10 : decode cX11_cellAt 10 = .ok (.isub, 1) := by decide +kernel
theorem dX11_cellAt_11 : decode cX11_cellAt 11 = .ok (.imul, 1) := by decide +kernel
theorem dX11_cellAt_12 : decode cX11_cellAt 12 = .ok (.aload_n 0, 1) := by decide +kernel
theorem dX11_cellAt_13 : decode cX11_cellAt 13 = .ok (.getfield 7, 3) := by decide +kernel
theorem dX11_cellAt_16 : decode cX11_cellAt 16 = .ok (.iload_n 1, 1) := by decide +kernel
theorem dX11_cellAt_17 : decode cX11_cellAt 17 = .ok (.iconst 1, 1) := by decide +kernel
theorem dX11_cellAt_18 : decode cX11_cellAt 18 = .ok (.iadd, 1) := by decide +kernel
theorem dX11_cellAt_19 : decode cX11_cellAt 19 = .ok (.iaload, 1) := by decide +kernel
theorem dX11_cellAt_20 : decode cX11_cellAt 20 = .ok (.iadd, 1) := by decide +kernel
theorem dX11_cellAt_21 : decode cX11_cellAt 21 = .ok (.bipush 48, 2) := by decide +kernel
theorem dX11_cellAt_23 : decode cX11_cellAt 23 = .ok (.isub, 1) := by decide +kernel
theorem dX11_cellAt_24 : decode cX11_cellAt 24 = .ok (.ireturn, 1) := by decide +kernel
theorem dX11_isNew_0 : decode cX11_isNew 0 = .ok (.iconst 1, 1) := by decide +kernel
theorem dX11_isNew_1 : decode cX11_isNew 1 = .ok (.istore_n 2, 1) := by decide +kernel
theorem dX11_isNew_2 : decode cX11_isNew 2 = .ok (.iconst 0, 1) := by decide +kernel
theorem dX11_isNew_3 : decode cX11_isNew 3 = .ok (.istore_n 3, 1) := by decide +kernel
theorem dX11_isNew_4 : decode cX11_isNew 4 = .ok (.iload_n 3, 1) := by decide +kernel
theorem dX11_isNew_5 : decode cX11_isNew 5 = .ok (.iload_n 1, 1) := by decide +kernel
theorem dX11_isNew_6 : decode cX11_isNew 6 = .ok (.iconst 1, 1) := by decide +kernel
theorem dX11_isNew_7 : decode cX11_isNew 7 = .ok (.isub, 1) := by decide +kernel
theorem dX11_isNew_8 : decode cX11_isNew 8 = .ok (.if_icmp .ge 34, 3) := by decide +kernel
theorem dX11_isNew_11 : decode cX11_isNew 11 = .ok (.iload_n 2, 1) := by decide +kernel
theorem dX11_isNew_12 : decode cX11_isNew 12 = .ok (.ifCond .eq 22, 3) := by decide +kernel
theorem dX11_isNew_15 : decode cX11_isNew 15 = .ok (.aload_n 0, 1) := by decide +kernel
theorem dX11_isNew_16 : decode cX11_isNew 16 = .ok (.iload_n 3, 1) := by decide +kernel
theorem dX11_isNew_17 : decode cX11_isNew 17 = .ok (.invokevirtual 86, 3) := by decide +kernel
theorem dX11_isNew_20 : decode cX11_isNew 20 = .ok (.aload_n 0, 1) := by decide +kernel
theorem dX11_isNew_21 : decode cX11_isNew 21 = .ok (.iload_n 1, 1) := by decide +kernel
theorem dX11_isNew_22 : decode cX11_isNew 22 = .ok (.iconst 1, 1) := by decide +kernel
theorem dX11_isNew_23 : decode cX11_isNew 23 = .ok (.isub, 1) := by decide +kernel
theorem dX11_isNew_24 : decode cX11_isNew 24 = .ok (.invokevirtual 86, 3) := by decide +kernel
theorem dX11_isNew_27 : decode cX11_isNew 27 = .ok (.if_icmp .eq 7, 3) := by decide +kernel
theorem dX11_isNew_30 : decode cX11_isNew 30 = .ok (.iconst 1, 1) := by decide +kernel
theorem dX11_isNew_31 : decode cX11_isNew 31 = .ok (.goto 4, 3) := by decide +kernel
theorem dX11_isNew_34 : decode cX11_isNew 34 = .ok (.iconst 0, 1) := by decide +kernel
theorem dX11_isNew_35 : decode cX11_isNew 35 = .ok (.istore_n 2, 1) := by decide +kernel
theorem dX11_isNew_36 : decode cX11_isNew 36 = .ok (.iinc 3 3, 3) := by decide +kernel
theorem dX11_isNew_39 : decode cX11_isNew 39 = .ok (.goto (-35), 3) := by decide +kernel
theorem dX11_isNew_42 : decode cX11_isNew 42 = .ok (.iload_n 2, 1) := by decide +kernel
theorem dX11_isNew_43 : decode cX11_isNew 43 = .ok (.ireturn, 1) := by decide +kernel
theorem dX11_isSleeperLetter_0 : decode cX11_isSleeperLetter 0 = .ok (.aload_n 0, 1) := by decide +kernel
theorem dX11_isSleeperLetter_1 : decode cX11_isSleeperLetter 1 = .ok (.getfield 7, 3) := by decide +kernel
theorem dX11_isSleeperLetter_4 : decode cX11_isSleeperLetter 4 = .ok (.iload_n 1, 1) := by decide +kernel
theorem dX11_isSleeperLetter_5 : decode cX11_isSleeperLetter 5 = .ok (.iaload, 1) := by decide +kernel
theorem dX11_isSleeperLetter_6 : decode cX11_isSleeperLetter 6 = .ok (.istore_n 2, 1) := by decide +kernel
theorem dX11_isSleeperLetter_7 : decode cX11_isSleeperLetter 7 = .ok (.iload_n 1, 1) := by decide +kernel
theorem dX11_isSleeperLetter_8 : decode cX11_isSleeperLetter 8 = .ok (.iconst 3, 1) := by decide +kernel
theorem dX11_isSleeperLetter_9 : decode cX11_isSleeperLetter 9 = .ok (.irem, 1) := by decide +kernel
theorem dX11_isSleeperLetter_10 : decode cX11_isSleeperLetter 10 = .ok (.lookupswitch 66 #[(0, 26), (1, 38)], 26) := by decide +kernel
theorem dX11_isSleeperLetter_36 : decode cX11_isSleeperLetter 36 = .ok (.iload_n 2, 1) := by decide +kernel
theorem dX11_isSleeperLetter_37 : decode cX11_isSleeperLetter 37 = .ok (.i2l, 1) := by decide +kernel
theorem dX11_isSleeperLetter_38 : decode cX11_isSleeperLetter 38 = .ok (.ldc2_w 90, 3) := by decide +kernel
theorem dX11_isSleeperLetter_41 : decode cX11_isSleeperLetter 41 = .ok (.ldc2_w 92, 3) := by decide +kernel
theorem dX11_isSleeperLetter_44 : decode cX11_isSleeperLetter 44 = .ok (.invokestatic 79, 3) := by decide +kernel
theorem dX11_isSleeperLetter_47 : decode cX11_isSleeperLetter 47 = .ok (.ireturn, 1) := by decide +kernel
theorem dX11_isSleeperLetter_48 : decode cX11_isSleeperLetter 48 = .ok (.iload_n 2, 1) := by decide +kernel
theorem dX11_isSleeperLetter_49 : decode cX11_isSleeperLetter 49 = .ok (.i2l, 1) := by decide +kernel
theorem dX11_isSleeperLetter_50 : decode cX11_isSleeperLetter 50 = .ok (.ldc2_w 90, 3) := by decide +kernel
theorem dX11_isSleeperLetter_53 : decode cX11_isSleeperLetter 53 = .ok (.ldc2_w 92, 3) := by decide +kernel
theorem dX11_isSleeperLetter_56 : decode cX11_isSleeperLetter 56 = .ok (.invokestatic 79, 3) := by decide +kernel
theorem dX11_isSleeperLetter_59 : decode cX11_isSleeperLetter 59 = .ok (.ifCond .eq 15, 3) := by decide +kernel
theorem dX11_isSleeperLetter_62 : decode cX11_isSleeperLetter 62 = .ok (.aload_n 0, 1) := by decide +kernel
theorem dX11_isSleeperLetter_63 : decode cX11_isSleeperLetter 63 = .ok (.iload_n 1, 1) := by decide +kernel
theorem dX11_isSleeperLetter_64 : decode cX11_isSleeperLetter 64 = .ok (.invokevirtual 94, 3) := by decide +kernel
theorem dX11_isSleeperLetter_67 : decode cX11_isSleeperLetter 67 = .ok (.ifCond .eq 7, 3) := by decide +kernel
theorem dX11_isSleeperLetter_70 : decode cX11_isSleeperLetter 70 = .ok (.iconst 1, 1) := by decide +kernel
theorem dX11_isSleeperLetter_71 : decode cX11_isSleeperLetter 71 = .ok (.goto 4, 3) := by decide +kernel
theorem dX11_isSleeperLetter_74 : decode cX11_isSleeperLetter 74 = .ok (.iconst 0, 1) := by decide +kernel
theorem dX11_isSleeperLetter_75 : decode cX11_isSleeperLetter 75 = .ok (.ireturn, 1) := by decide +kernel
theorem dX11_isSleeperLetter_76 : decode cX11_isSleeperLetter 76 = .ok (.iload_n 2, 1) := by decide +kernel
theorem dX11_isSleeperLetter_77 : decode cX11_isSleeperLetter 77 = .ok (.bipush 59, 2) := by decide +kernel
theorem dX11_isSleeperLetter_79 : decode cX11_isSleeperLetter 79 = .ok (.if_icmp .ne 10, 3) := by decide +kernel
theorem dX11_isSleeperLetter_82 : decode cX11_isSleeperLetter 82 = .ok (.aload_n 0, 1) := by decide +kernel
theorem dX11_isSleeperLetter_83 : decode cX11_isSleeperLetter 83 = .ok (.iload_n 1, 1) := by decide +kernel
theorem dX11_isSleeperLetter_84 : decode cX11_isSleeperLetter 84 = .ok (.putfield 98, 3) := by decide +kernel
theorem dX11_isSleeperLetter_87 : decode cX11_isSleeperLetter 87 = .ok (.iconst 1, 1) := by decide +kernel
theorem dX11_isSleeperLetter_88 : decode cX11_isSleeperLetter 88 = .ok (.ireturn, 1) := by decide +kernel
theorem dX11_isSleeperLetter_89 : decode cX11_isSleeperLetter 89 = .ok (.iload_n 2, 1) := by decide +kernel
theorem dX11_isSleeperLetter_90 : decode cX11_isSleeperLetter 90 = .ok (.bipush 44, 2) := by decide +kernel
theorem dX11_isSleeperLetter_92 : decode cX11_isSleeperLetter 92 = .ok (.if_icmp .ne 13, 3) := by decide +kernel
theorem dX11_isSleeperLetter_95 : decode cX11_isSleeperLetter 95 = .ok (.iload_n 1, 1) := by decide +kernel
theorem dX11_isSleeperLetter_96 : decode cX11_isSleeperLetter 96 = .ok (.bipush 17, 2) := by decide +kernel
theorem dX11_isSleeperLetter_98 : decode cX11_isSleeperLetter 98 = .ok (.if_icmp .ge 7, 3) := by decide +kernel
theorem dX11_isSleeperLetter_101 : decode cX11_isSleeperLetter 101 = .ok (.iconst 1, 1) := by decide +kernel
theorem dX11_isSleeperLetter_102 : decode cX11_isSleeperLetter 102 = .ok (.goto 4, 3) := by decide +kernel
theorem dX11_isSleeperLetter_105 : decode cX11_isSleeperLetter 105 = .ok (.iconst 0, 1) := by decide +kernel
theorem dX11_isSleeperLetter_106 : decode cX11_isSleeperLetter 106 = .ok (.ireturn, 1) := by decide +kernel
theorem dX11_isTosserLetter_0 : decode cX11_isTosserLetter 0 = .ok (.aload_n 0, 1) := by decide +kernel
theorem dX11_isTosserLetter_1 : decode cX11_isTosserLetter 1 = .ok (.getfield 7, 3) := by decide +kernel
theorem dX11_isTosserLetter_4 : decode cX11_isTosserLetter 4 = .ok (.iload_n 1, 1) := by decide +kernel
theorem dX11_isTosserLetter_5 : decode cX11_isTosserLetter 5 = .ok (.iaload, 1) := by decide +kernel
theorem dX11_isTosserLetter_6 : decode cX11_isTosserLetter 6 = .ok (.istore_n 2, 1) := by decide +kernel
theorem dX11_isTosserLetter_7 : decode cX11_isTosserLetter 7 = .ok (.iload_n 1, 1) := by decide +kernel
theorem dX11_isTosserLetter_8 : decode cX11_isTosserLetter 8 = .ok (.aload_n 0, 1) := by decide +kernel
theorem dX11_isTosserLetter_9 : decode cX11_isTosserLetter 9 = .ok (.getfield 98, 3) := by decide +kernel
theorem dX11_isTosserLetter_12 : decode cX11_isTosserLetter 12 = .ok (.isub, 1) := by decide +kernel
theorem dX11_isTosserLetter_13 : decode cX11_isTosserLetter 13 = .ok (.iconst 1, 1) := by decide +kernel
theorem dX11_isTosserLetter_14 : decode cX11_isTosserLetter 14 = .ok (.isub, 1) := by decide +kernel
theorem dX11_isTosserLetter_15 : decode cX11_isTosserLetter 15 = .ok (.istore_n 3, 1) := by decide +kernel
theorem dX11_isTosserLetter_16 : decode cX11_isTosserLetter 16 = .ok (.iload_n 3, 1) := by decide +kernel
theorem dX11_isTosserLetter_17 : decode cX11_isTosserLetter 17 = .ok (.iconst 4, 1) := by decide +kernel
theorem dX11_isTosserLetter_18 : decode cX11_isTosserLetter 18 = .ok (.irem, 1) := by decide +kernel
theorem dX11_isTosserLetter_19 : decode cX11_isTosserLetter 19 = .ok (.lookupswitch 57 #[(0, 25), (3, 39)], 25) := by decide +kernel
theorem dX11_isTosserLetter_44 : decode cX11_isTosserLetter 44 = .ok (.iload_n 2, 1) := by decide +kernel
theorem dX11_isTosserLetter_45 : decode cX11_isTosserLetter 45 = .ok (.invokestatic 101, 3) := by decide +kernel
theorem dX11_isTosserLetter_48 : decode cX11_isTosserLetter 48 = .ok (.iconst (-1), 1) := by decide +kernel
theorem dX11_isTosserLetter_49 : decode cX11_isTosserLetter 49 = .ok (.if_icmp .eq 7, 3) := by decide +kernel
theorem dX11_isTosserLetter_52 : decode cX11_isTosserLetter 52 = .ok (.iconst 1, 1) := by decide +kernel
theorem dX11_isTosserLetter_53 : decode cX11_isTosserLetter 53 = .ok (.goto 4, 3) := by decide +kernel
theorem dX11_isTosserLetter_56 : decode cX11_isTosserLetter 56 = .ok (.iconst 0, 1) := by decide +kernel
theorem dX11_isTosserLetter_57 : decode cX11_isTosserLetter 57 = .ok (.ireturn, 1) := by decide +kernel
theorem dX11_isTosserLetter_58 : decode cX11_isTosserLetter 58 = .ok (.iload_n 2, 1) := by decide +kernel
theorem dX11_isTosserLetter_59 : decode cX11_isTosserLetter 59 = .ok (.bipush 44, 2) := by decide +kernel
theorem dX11_isTosserLetter_61 : decode cX11_isTosserLetter 61 = .ok (.if_icmp .ne 13, 3) := by decide +kernel
theorem dX11_isTosserLetter_64 : decode cX11_isTosserLetter 64 = .ok (.iload_n 3, 1) := by decide +kernel
theorem dX11_isTosserLetter_65 : decode cX11_isTosserLetter 65 = .ok (.bipush 15, 2) := by decide +kernel
theorem dX11_isTosserLetter_67 : decode cX11_isTosserLetter 67 = .ok (.if_icmp .ge 7, 3) := by decide +kernel
theorem dX11_isTosserLetter_70 : decode cX11_isTosserLetter 70 = .ok (.iconst 1, 1) := by decide +kernel
theorem dX11_isTosserLetter_71 : decode cX11_isTosserLetter 71 = .ok (.goto 4, 3) := by decide +kernel
theorem dX11_isTosserLetter_74 : decode cX11_isTosserLetter 74 = .ok (.iconst 0, 1) := by decide +kernel
theorem dX11_isTosserLetter_75 : decode cX11_isTosserLetter 75 = .ok (.ireturn, 1) := by decide +kernel
theorem dX11_isTosserLetter_76 : decode cX11_isTosserLetter 76 = .ok (.iload_n 2, 1) := by decide +kernel
theorem dX11_isTosserLetter_77 : decode cX11_isTosserLetter 77 = .ok (.i2l, 1) := by decide +kernel
theorem dX11_isTosserLetter_78 : decode cX11_isTosserLetter 78 = .ok (.ldc2_w 90, 3) := by decide +kernel
theorem dX11_isTosserLetter_81 : decode cX11_isTosserLetter 81 = .ok (.ldc2_w 104, 3) := by decide +kernel
theorem dX11_isTosserLetter_84 : decode cX11_isTosserLetter 84 = .ok (.invokestatic 79, 3) := by decide +kernel
theorem dX11_isTosserLetter_87 : decode cX11_isTosserLetter 87 = .ok (.ireturn, 1) := by decide +kernel
theorem dX11_faultOf_0 : decode cX11_faultOf 0 = .ok (.aload_n 0, 1) := by decide +kernel
theorem dX11_faultOf_1 : decode cX11_faultOf 1 = .ok (.iconst 0, 1) := by decide +kernel
theorem dX11_faultOf_2 : decode cX11_faultOf 2 = .ok (.putfield 98, 3) := by decide +kernel
theorem dX11_faultOf_5 : decode cX11_faultOf 5 = .ok (.iconst 0, 1) := by decide +kernel
theorem dX11_faultOf_6 : decode cX11_faultOf 6 = .ok (.istore_n 1, 1) := by decide +kernel
theorem dX11_faultOf_7 : decode cX11_faultOf 7 = .ok (.iload_n 1, 1) := by decide +kernel
theorem dX11_faultOf_8 : decode cX11_faultOf 8 = .ok (.aload_n 0, 1) := by decide +kernel
theorem dX11_faultOf_9 : decode cX11_faultOf 9 = .ok (.getfield 83, 3) := by decide +kernel
theorem dX11_faultOf_12 : decode cX11_faultOf 12 = .ok (.if_icmp .ge 35, 3) := by decide +kernel
theorem dX11_faultOf_15 : decode cX11_faultOf 15 = .ok (.aload_n 0, 1) := by decide +kernel
theorem dX11_faultOf_16 : decode cX11_faultOf 16 = .ok (.getfield 98, 3) := by decide +kernel
theorem dX11_faultOf_19 : decode cX11_faultOf 19 = .ok (.ifCond .ne 14, 3) := by decide +kernel
theorem dX11_faultOf_22 : decode cX11_faultOf 22 = .ok (.aload_n 0, 1) := by decide +kernel
theorem dX11_faultOf_23 : decode cX11_faultOf 23 = .ok (.iload_n 1, 1) := by decide +kernel
theorem dX11_faultOf_24 : decode cX11_faultOf 24 = .ok (.invokevirtual 106, 3) := by decide +kernel
theorem dX11_faultOf_27 : decode cX11_faultOf 27 = .ok (.ifCond .eq 20, 3) := by decide +kernel
theorem dX11_faultOf_30 : decode cX11_faultOf 30 = .ok (.goto 11, 3) := by decide +kernel
theorem dX11_faultOf_33 : decode cX11_faultOf 33 = .ok (.aload_n 0, 1) := by decide +kernel
theorem dX11_faultOf_34 : decode cX11_faultOf 34 = .ok (.iload_n 1, 1) := by decide +kernel
theorem dX11_faultOf_35 : decode cX11_faultOf 35 = .ok (.invokevirtual 109, 3) := by decide +kernel
theorem dX11_faultOf_38 : decode cX11_faultOf 38 = .ok (.ifCond .eq 9, 3) := by decide +kernel
theorem dX11_faultOf_41 : decode cX11_faultOf 41 = .ok (.iinc 1 1, 3) := by decide +kernel
theorem dX11_faultOf_44 : decode cX11_faultOf 44 = .ok (.goto (-37), 3) := by decide +kernel
theorem dX11_faultOf_47 : decode cX11_faultOf 47 = .ok (.iload_n 1, 1) := by decide +kernel
theorem dX11_faultOf_48 : decode cX11_faultOf 48 = .ok (.ireturn, 1) := by decide +kernel
theorem dX11_fault_0 : decode cX11_fault 0 = .ok (.aload_n 0, 1) := by decide +kernel
theorem dX11_fault_1 : decode cX11_fault 1 = .ok (.invokevirtual 112, 3) := by decide +kernel
theorem dX11_fault_4 : decode cX11_fault 4 = .ok (.ireturn, 1) := by decide +kernel
theorem dX11_port_0 : decode cX11_port 0 = .ok (.aload_n 0, 1) := by decide +kernel
theorem dX11_port_1 : decode cX11_port 1 = .ok (.invokevirtual 112, 3) := by decide +kernel
theorem dX11_port_4 : decode cX11_port 4 = .ok (.aload_n 0, 1) := by decide +kernel
theorem dX11_port_5 : decode cX11_port 5 = .ok (.getfield 83, 3) := by decide +kernel
theorem dX11_port_8 : decode cX11_port 8 = .ok (.if_icmp .lt 24, 3) := by decide +kernel
theorem dX11_port_11 : decode cX11_port 11 = .ok (.aload_n 0, 1) := by decide +kernel
theorem dX11_port_12 : decode cX11_port 12 = .ok (.getfield 98, 3) := by decide +kernel
theorem dX11_port_15 : decode cX11_port 15 = .ok (.ifCond .eq 17, 3) := by decide +kernel
theorem dX11_port_18 : decode cX11_port 18 = .ok (.aload_n 0, 1) := by decide +kernel
theorem dX11_port_19 : decode cX11_port 19 = .ok (.getfield 83, 3) := by decide +kernel
theorem dX11_port_22 : decode cX11_port 22 = .ok (.aload_n 0, 1) := by decide +kernel
theorem dX11_port_23 : decode cX11_port 23 = .ok (.getfield 98, 3) := by decide +kernel
theorem dX11_port_26 : decode cX11_port 26 = .ok (.isub, 1) := by decide +kernel
theorem dX11_port_27 : decode cX11_port 27 = .ok (.iconst 4, 1) := by decide +kernel
theorem dX11_port_28 : decode cX11_port 28 = .ok (.irem, 1) := by decide +kernel
theorem dX11_port_29 : decode cX11_port 29 = .ok (.ifCond .eq 6, 3) := by decide +kernel
theorem dX11_port_32 : decode cX11_port 32 = .ok (.bipush (-103), 2) := by decide +kernel
theorem dX11_port_34 : decode cX11_port 34 = .ok (.ireturn, 1) := by decide +kernel
theorem dX11_port_35 : decode cX11_port 35 = .ok (.aload_n 0, 1) := by decide +kernel
theorem dX11_port_36 : decode cX11_port 36 = .ok (.aload_n 0, 1) := by decide +kernel
theorem dX11_port_37 : decode cX11_port 37 = .ok (.getfield 98, 3) := by decide +kernel
theorem dX11_port_40 : decode cX11_port 40 = .ok (.iconst 1, 1) := by decide +kernel
theorem dX11_port_41 : decode cX11_port 41 = .ok (.iadd, 1) := by decide +kernel
theorem dX11_port_42 : decode cX11_port 42 = .ok (.iconst 3, 1) := by decide +kernel
theorem dX11_port_43 : decode cX11_port 43 = .ok (.idiv, 1) := by decide +kernel
theorem dX11_port_44 : decode cX11_port 44 = .ok (.putfield 116, 3) := by decide +kernel
theorem dX11_port_47 : decode cX11_port 47 = .ok (.aload_n 0, 1) := by decide +kernel
theorem dX11_port_48 : decode cX11_port 48 = .ok (.aload_n 0, 1) := by decide +kernel
theorem dX11_port_49 : decode cX11_port 49 = .ok (.getfield 83, 3) := by decide +kernel
theorem dX11_port_52 : decode cX11_port 52 = .ok (.aload_n 0, 1) := by decide +kernel
theorem dX11_port_53 : decode cX11_port 53 = .ok (.getfield 98, 3) := by decide +kernel
theorem dX11_port_56 : decode cX11_port 56 = .ok (.isub, 1) := by decide +kernel
theorem dX11_port_57 : decode cX11_port 57 = .ok (.iconst 4, 1) := by decide +kernel
theorem dX11_port_58 : decode cX11_port 58 = .ok (.idiv, 1) := by decide +kernel
theorem dX11_port_59 : decode cX11_port 59 = .ok (.putfield 119, 3) := by decide +kernel
theorem dX11_port_62 : decode cX11_port 62 = .ok (.iconst 0, 1) := by decide +kernel
theorem dX11_port_63 : decode cX11_port 63 = .ok (.istore_n 1, 1) := by decide +kernel
theorem dX11_port_64 : decode cX11_port 64 = .ok (.iload_n 1, 1) := by decide +kernel
theorem dX11_port_65 : decode cX11_port 65 = .ok (.aload_n 0, 1) := by decide +kernel
theorem dX11_port_66 : decode cX11_port 66 = .ok (.getfield 116, 3) := by decide +kernel
theorem dX11_port_69 : decode cX11_port 69 = .ok (.if_icmp .ge 43, 3) := by decide +kernel
theorem dX11_port_72 : decode cX11_port 72 = .ok (.aload_n 0, 1) := by decide +kernel
theorem dX11_port_73 : decode cX11_port 73 = .ok (.getfield 13, 3) := by decide +kernel
theorem dX11_port_76 : decode cX11_port 76 = .ok (.iload_n 1, 1) := by decide +kernel
theorem dX11_port_77 : decode cX11_port 77 = .ok (.aload_n 0, 1) := by decide +kernel
theorem dX11_port_78 : decode cX11_port 78 = .ok (.iconst 3, 1) := by decide +kernel
theorem dX11_port_79 : decode cX11_port 79 = .ok (.iload_n 1, 1) := by decide +kernel
theorem dX11_port_80 : decode cX11_port 80 = .ok (.imul, 1) := by decide +kernel
theorem dX11_port_81 : decode cX11_port 81 = .ok (.invokevirtual 86, 3) := by decide +kernel
theorem dX11_port_84 : decode cX11_port 84 = .ok (.iastore, 1) := by decide +kernel
theorem dX11_port_85 : decode cX11_port 85 = .ok (.aload_n 0, 1) := by decide +kernel
theorem dX11_port_86 : decode cX11_port 86 = .ok (.getfield 16, 3) := by decide +kernel
theorem dX11_port_89 : decode cX11_port 89 = .ok (.iload_n 1, 1) := by decide +kernel
theorem dX11_port_90 : decode cX11_port 90 = .ok (.iconst 0, 1) := by decide +kernel
theorem dX11_port_91 : decode cX11_port 91 = .ok (.iastore, 1) := by decide +kernel
theorem dX11_port_92 : decode cX11_port 92 = .ok (.aload_n 0, 1) := by decide +kernel
theorem dX11_port_93 : decode cX11_port 93 = .ok (.getfield 19, 3) := by decide +kernel
theorem dX11_port_96 : decode cX11_port 96 = .ok (.iload_n 1, 1) := by decide +kernel
theorem dX11_port_97 : decode cX11_port 97 = .ok (.iconst 0, 1) := by decide +kernel
theorem dX11_port_98 : decode cX11_port 98 = .ok (.iastore, 1) := by decide +kernel
theorem dX11_port_99 : decode cX11_port 99 = .ok (.aload_n 0, 1) := by decide +kernel
theorem dX11_port_100 : decode cX11_port 100 = .ok (.getfield 22, 3) := by decide +kernel
theorem dX11_port_103 : decode cX11_port 103 = .ok (.iload_n 1, 1) := by decide +kernel
theorem dX11_port_104 : decode cX11_port 104 = .ok (.iconst 0, 1) := by decide +kernel
theorem dX11_port_105 : decode cX11_port 105 = .ok (.iastore, 1) := by decide +kernel
theorem dX11_port_106 : decode cX11_port 106 = .ok (.iinc 1 1, 3) := by decide +kernel
theorem dX11_port_109 : decode cX11_port 109 = .ok (.goto (-45), 3) := by decide +kernel
theorem dX11_port_112 : decode cX11_port 112 = .ok (.iconst 0, 1) := by decide +kernel
theorem dX11_port_113 : decode cX11_port 113 = .ok (.istore_n 1, 1) := by decide +kernel
theorem dX11_port_114 : decode cX11_port 114 = .ok (.iload_n 1, 1) := by decide +kernel
theorem dX11_port_115 : decode cX11_port 115 = .ok (.aload_n 0, 1) := by decide +kernel
theorem dX11_port_116 : decode cX11_port 116 = .ok (.getfield 119, 3) := by decide +kernel
theorem dX11_port_119 : decode cX11_port 119 = .ok (.if_icmp .ge 76, 3) := by decide +kernel
theorem dX11_port_122 : decode cX11_port 122 = .ok (.aload_n 0, 1) := by decide +kernel
theorem dX11_port_123 : decode cX11_port 123 = .ok (.getfield 98, 3) := by decide +kernel
theorem dX11_port_126 : decode cX11_port 126 = .ok (.iconst 1, 1) := by decide +kernel
theorem dX11_port_127 : decode cX11_port 127 = .ok (.iadd, 1) := by decide +kernel
theorem dX11_port_128 : decode cX11_port 128 = .ok (.iconst 4, 1) := by decide +kernel
theorem dX11_port_129 : decode cX11_port 129 = .ok (.iload_n 1, 1) := by decide +kernel
theorem dX11_port_130 : decode cX11_port 130 = .ok (.imul, 1) := by decide +kernel
theorem dX11_port_131 : decode cX11_port 131 = .ok (.iadd, 1) := by decide +kernel
theorem dX11_port_132 : decode cX11_port 132 = .ok (.istore_n 2, 1) := by decide +kernel
theorem dX11_port_133 : decode cX11_port 133 = .ok (.aload_n 0, 1) := by decide +kernel
theorem dX11_port_134 : decode cX11_port 134 = .ok (.getfield 25, 3) := by decide +kernel
theorem dX11_port_137 : decode cX11_port 137 = .ok (.iload_n 1, 1) := by decide +kernel
theorem dX11_port_138 : decode cX11_port 138 = .ok (.aload_n 0, 1) := by decide +kernel
theorem dX11_port_139 : decode cX11_port 139 = .ok (.getfield 7, 3) := by decide +kernel
theorem dX11_port_142 : decode cX11_port 142 = .ok (.iload_n 2, 1) := by decide +kernel
theorem dX11_port_143 : decode cX11_port 143 = .ok (.iaload, 1) := by decide +kernel
theorem dX11_port_144 : decode cX11_port 144 = .ok (.invokestatic 101, 3) := by decide +kernel
theorem dX11_port_147 : decode cX11_port 147 = .ok (.iastore, 1) := by decide +kernel
theorem dX11_port_148 : decode cX11_port 148 = .ok (.aload_n 0, 1) := by decide +kernel
theorem dX11_port_149 : decode cX11_port 149 = .ok (.getfield 28, 3) := by decide +kernel
theorem dX11_port_152 : decode cX11_port 152 = .ok (.iload_n 1, 1) := by decide +kernel
theorem dX11_port_153 : decode cX11_port 153 = .ok (.aload_n 0, 1) := by decide +kernel
theorem dX11_port_154 : decode cX11_port 154 = .ok (.getfield 7, 3) := by decide +kernel
theorem dX11_port_157 : decode cX11_port 157 = .ok (.iload_n 2, 1) := by decide +kernel
theorem dX11_port_158 : decode cX11_port 158 = .ok (.iconst 1, 1) := by decide +kernel
theorem dX11_port_159 : decode cX11_port 159 = .ok (.iadd, 1) := by decide +kernel
theorem dX11_port_160 : decode cX11_port 160 = .ok (.iaload, 1) := by decide +kernel
theorem dX11_port_161 : decode cX11_port 161 = .ok (.bipush 48, 2) := by decide +kernel
theorem dX11_port_163 : decode cX11_port 163 = .ok (.isub, 1) := by decide +kernel
theorem dX11_port_164 : decode cX11_port 164 = .ok (.iastore, 1) := by decide +kernel
theorem dX11_port_165 : decode cX11_port 165 = .ok (.aload_n 0, 1) := by decide +kernel
theorem dX11_port_166 : decode cX11_port 166 = .ok (.getfield 31, 3) := by decide +kernel
theorem dX11_port_169 : decode cX11_port 169 = .ok (.iload_n 1, 1) := by decide +kernel
theorem dX11_port_170 : decode cX11_port 170 = .ok (.aload_n 0, 1) := by decide +kernel
theorem dX11_port_171 : decode cX11_port 171 = .ok (.getfield 7, 3) := by decide +kernel
theorem dX11_port_174 : decode cX11_port 174 = .ok (.iload_n 2, 1) := by decide +kernel
theorem dX11_port_175 : decode cX11_port 175 = .ok (.iconst 2, 1) := by decide +kernel
theorem dX11_port_176 : decode cX11_port 176 = .ok (.iadd, 1) := by decide +kernel
theorem dX11_port_177 : decode cX11_port 177 = .ok (.iaload, 1) := by decide +kernel
theorem dX11_port_178 : decode cX11_port 178 = .ok (.bipush 48, 2) := by decide +kernel
theorem dX11_port_180 : decode cX11_port 180 = .ok (.isub, 1) := by decide +kernel
theorem dX11_port_181 : decode cX11_port 181 = .ok (.iastore, 1) := by decide +kernel
theorem dX11_port_182 : decode cX11_port 182 = .ok (.aload_n 0, 1) := by decide +kernel
theorem dX11_port_183 : decode cX11_port 183 = .ok (.getfield 34, 3) := by decide +kernel
theorem dX11_port_186 : decode cX11_port 186 = .ok (.iload_n 1, 1) := by decide +kernel
theorem dX11_port_187 : decode cX11_port 187 = .ok (.iconst 0, 1) := by decide +kernel
theorem dX11_port_188 : decode cX11_port 188 = .ok (.iastore, 1) := by decide +kernel
theorem dX11_port_189 : decode cX11_port 189 = .ok (.iinc 1 1, 3) := by decide +kernel
theorem dX11_port_192 : decode cX11_port 192 = .ok (.goto (-78), 3) := by decide +kernel
theorem dX11_port_195 : decode cX11_port 195 = .ok (.aload_n 0, 1) := by decide +kernel
theorem dX11_port_196 : decode cX11_port 196 = .ok (.iconst 0, 1) := by decide +kernel
theorem dX11_port_197 : decode cX11_port 197 = .ok (.putfield 122, 3) := by decide +kernel
theorem dX11_port_200 : decode cX11_port 200 = .ok (.aload_n 0, 1) := by decide +kernel
theorem dX11_port_201 : decode cX11_port 201 = .ok (.bipush 60, 2) := by decide +kernel
theorem dX11_port_203 : decode cX11_port 203 = .ok (.putfield 125, 3) := by decide +kernel
theorem dX11_port_206 : decode cX11_port 206 = .ok (.aload_n 0, 1) := by decide +kernel
theorem dX11_port_207 : decode cX11_port 207 = .ok (.iconst 0, 1) := by decide +kernel
theorem dX11_port_208 : decode cX11_port 208 = .ok (.putfield 128, 3) := by decide +kernel
theorem dX11_port_211 : decode cX11_port 211 = .ok (.aload_n 0, 1) := by decide +kernel
theorem dX11_port_212 : decode cX11_port 212 = .ok (.iconst 0, 1) := by decide +kernel
theorem dX11_port_213 : decode cX11_port 213 = .ok (.putfield 131, 3) := by decide +kernel
theorem dX11_port_216 : decode cX11_port 216 = .ok (.aload_n 0, 1) := by decide +kernel
theorem dX11_port_217 : decode cX11_port 217 = .ok (.iconst 0, 1) := by decide +kernel
theorem dX11_port_218 : decode cX11_port 218 = .ok (.putfield 134, 3) := by decide +kernel
theorem dX11_port_221 : decode cX11_port 221 = .ok (.aload_n 0, 1) := by decide +kernel
theorem dX11_port_222 : decode cX11_port 222 = .ok (.dup, 1) := by decide +kernel
theorem dX11_port_223 : decode cX11_port 223 = .ok (.getfield 137, 3) := by decide +kernel
theorem dX11_port_226 : decode cX11_port 226 = .ok (.iconst 1, 1) := by decide +kernel
theorem dX11_port_227 : decode cX11_port 227 = .ok (.iadd, 1) := by decide +kernel
theorem dX11_port_228 : decode cX11_port 228 = .ok (.putfield 137, 3) := by decide +kernel
theorem dX11_port_231 : decode cX11_port 231 = .ok (.aload_n 0, 1) := by decide +kernel
theorem dX11_port_232 : decode cX11_port 232 = .ok (.iconst 0, 1) := by decide +kernel
theorem dX11_port_233 : decode cX11_port 233 = .ok (.putfield 83, 3) := by decide +kernel
theorem dX11_port_236 : decode cX11_port 236 = .ok (.aload_n 0, 1) := by decide +kernel
theorem dX11_port_237 : decode cX11_port 237 = .ok (.getfield 116, 3) := by decide +kernel
theorem dX11_port_240 : decode cX11_port 240 = .ok (.ireturn, 1) := by decide +kernel
theorem dX11_lacks_0 : decode cX11_lacks 0 = .ok (.aload_n 0, 1) := by decide +kernel
theorem dX11_lacks_1 : decode cX11_lacks 1 = .ok (.getfield 116, 3) := by decide +kernel
theorem dX11_lacks_4 : decode cX11_lacks 4 = .ok (.ifCond .ne 7, 3) := by decide +kernel
theorem dX11_lacks_7 : decode cX11_lacks 7 = .ok (.iconst 1, 1) := by decide +kernel
theorem dX11_lacks_8 : decode cX11_lacks 8 = .ok (.goto 4, 3) := by decide +kernel
theorem dX11_lacks_11 : decode cX11_lacks 11 = .ok (.iconst 0, 1) := by decide +kernel
theorem dX11_lacks_12 : decode cX11_lacks 12 = .ok (.ireturn, 1) := by decide +kernel
theorem dX11_isSleeper_0 : decode cX11_isSleeper 0 = .ok (.iload_n 1, 1) := by decide +kernel
theorem dX11_isSleeper_1 : decode cX11_isSleeper 1 = .ok (.i2l, 1) := by decide +kernel
theorem dX11_isSleeper_2 : decode cX11_isSleeper 2 = .ok (.lconst 0, 1) := by decide +kernel
theorem dX11_isSleeper_3 : decode cX11_isSleeper 3 = .ok (.aload_n 0, 1) := by decide +kernel
theorem dX11_isSleeper_4 : decode cX11_isSleeper 4 = .ok (.getfield 116, 3) := by decide +kernel
theorem dX11_isSleeper_7 : decode cX11_isSleeper 7 = .ok (.iconst 1, 1) := by decide +kernel
theorem dX11_isSleeper_8 : decode cX11_isSleeper 8 = .ok (.isub, 1) := by decide +kernel
theorem dX11_isSleeper_9 : decode cX11_isSleeper 9 = .ok (.i2l, 1) := by decide +kernel
theorem dX11_isSleeper_10 : decode cX11_isSleeper 10 = .ok (.invokestatic 79, 3) := by decide +kernel
theorem dX11_isSleeper_13 : decode cX11_isSleeper 13 = .ok (.ireturn, 1) := by decide +kernel
theorem dX11_isTosser_0 : decode cX11_isTosser 0 = .ok (.iload_n 1, 1) := by decide +kernel
theorem dX11_isTosser_1 : decode cX11_isTosser 1 = .ok (.i2l, 1) := by decide +kernel
theorem dX11_isTosser_2 : decode cX11_isTosser 2 = .ok (.lconst 0, 1) := by decide +kernel
theorem dX11_isTosser_3 : decode cX11_isTosser 3 = .ok (.aload_n 0, 1) := by decide +kernel
theorem dX11_isTosser_4 : decode cX11_isTosser 4 = .ok (.getfield 119, 3) := by decide +kernel
theorem dX11_isTosser_7 : decode cX11_isTosser 7 = .ok (.iconst 1, 1) := by decide +kernel
theorem dX11_isTosser_8 : decode cX11_isTosser 8 = .ok (.isub, 1) := by decide +kernel
theorem dX11_isTosser_9 : decode cX11_isTosser 9 = .ok (.i2l, 1) := by decide +kernel
theorem dX11_isTosser_10 : decode cX11_isTosser 10 = .ok (.invokestatic 79, 3) := by decide +kernel
theorem dX11_isTosser_13 : decode cX11_isTosser 13 = .ok (.ireturn, 1) := by decide +kernel
theorem dX11_isCell_0 : decode cX11_isCell 0 = .ok (.iload_n 0, 1) := by decide +kernel
theorem dX11_isCell_1 : decode cX11_isCell 1 = .ok (.i2l, 1) := by decide +kernel
theorem dX11_isCell_2 : decode cX11_isCell 2 = .ok (.lconst 0, 1) := by decide +kernel
theorem dX11_isCell_3 : decode cX11_isCell 3 = .ok (.ldc2_w 140, 3) := by decide +kernel
theorem dX11_isCell_6 : decode cX11_isCell 6 = .ok (.invokestatic 79, 3) := by decide +kernel
theorem dX11_isCell_9 : decode cX11_isCell 9 = .ok (.ireturn, 1) := by decide +kernel
theorem dX11_cellOf_0 : decode cX11_cellOf 0 = .ok (.iload_n 0, 1) := by decide +kernel
theorem dX11_cellOf_1 : decode cX11_cellOf 1 = .ok (.i2l, 1) := by decide +kernel
theorem dX11_cellOf_2 : decode cX11_cellOf 2 = .ok (.lconst 0, 1) := by decide +kernel
theorem dX11_cellOf_3 : decode cX11_cellOf 3 = .ok (.ldc2_w 142, 3) := by decide +kernel
theorem dX11_cellOf_6 : decode cX11_cellOf 6 = .ok (.invokestatic 79, 3) := by decide +kernel
theorem dX11_cellOf_9 : decode cX11_cellOf 9 = .ok (.ifCond .eq 24, 3) := by decide +kernel
theorem dX11_cellOf_12 : decode cX11_cellOf 12 = .ok (.iload_n 1, 1) := by decide +kernel
theorem dX11_cellOf_13 : decode cX11_cellOf 13 = .ok (.i2l, 1) := by decide +kernel
theorem dX11_cellOf_14 : decode cX11_cellOf 14 = .ok (.lconst 0, 1) := by decide +kernel
theorem dX11_cellOf_15 : decode cX11_cellOf 15 = .ok (.ldc2_w 142, 3) := by decide +kernel
theorem dX11_cellOf_18 : decode cX11_cellOf 18 = .ok (.invokestatic 79, 3) := by decide +kernel
theorem dX11_cellOf_21 : decode cX11_cellOf 21 = .ok (.ifCond .eq 12, 3) := by decide +kernel
theorem dX11_cellOf_24 : decode cX11_cellOf 24 = .ok (.bipush 6, 2) := by decide +kernel
theorem dX11_cellOf_26 : decode cX11_cellOf 26 = .ok (.iload_n 0, 1) := by decide +kernel
theorem dX11_cellOf_27 : decode cX11_cellOf 27 = .ok (.imul, 1) := by decide +kernel
theorem dX11_cellOf_28 : decode cX11_cellOf 28 = .ok (.iload_n 1, 1) := by decide +kernel
theorem dX11_cellOf_29 : decode cX11_cellOf 29 = .ok (.iadd, 1) := by decide +kernel
theorem dX11_cellOf_30 : decode cX11_cellOf 30 = .ok (.goto 4, 3) := by decide +kernel
theorem dX11_cellOf_33 : decode cX11_cellOf 33 = .ok (.iconst (-1), 1) := by decide +kernel
theorem dX11_cellOf_34 : decode cX11_cellOf 34 = .ok (.ireturn, 1) := by decide +kernel
theorem dX11_landsBy_0 : decode cX11_landsBy 0 = .ok (.iload_n 2, 1) := by decide +kernel
theorem dX11_landsBy_1 : decode cX11_landsBy 1 = .ok (.bipush 6, 2) := by decide +kernel
theorem dX11_landsBy_3 : decode cX11_landsBy 3 = .ok (.idiv, 1) := by decide +kernel
theorem dX11_landsBy_4 : decode cX11_landsBy 4 = .ok (.aload_n 0, 1) := by decide +kernel
theorem dX11_landsBy_5 : decode cX11_landsBy 5 = .ok (.getfield 28, 3) := by decide +kernel
theorem dX11_landsBy_8 : decode cX11_landsBy 8 = .ok (.iload_n 1, 1) := by decide +kernel
theorem dX11_landsBy_9 : decode cX11_landsBy 9 = .ok (.iaload, 1) := by decide +kernel
theorem dX11_landsBy_10 : decode cX11_landsBy 10 = .ok (.iadd, 1) := by decide +kernel
theorem dX11_landsBy_11 : decode cX11_landsBy 11 = .ok (.iconst 2, 1) := by decide +kernel
theorem dX11_landsBy_12 : decode cX11_landsBy 12 = .ok (.isub, 1) := by decide +kernel
theorem dX11_landsBy_13 : decode cX11_landsBy 13 = .ok (.iload_n 2, 1) := by decide +kernel
theorem dX11_landsBy_14 : decode cX11_landsBy 14 = .ok (.bipush 6, 2) := by decide +kernel
theorem dX11_landsBy_16 : decode cX11_landsBy 16 = .ok (.irem, 1) := by decide +kernel
theorem dX11_landsBy_17 : decode cX11_landsBy 17 = .ok (.aload_n 0, 1) := by decide +kernel
theorem dX11_landsBy_18 : decode cX11_landsBy 18 = .ok (.getfield 31, 3) := by decide +kernel
theorem dX11_landsBy_21 : decode cX11_landsBy 21 = .ok (.iload_n 1, 1) := by decide +kernel
theorem dX11_landsBy_22 : decode cX11_landsBy 22 = .ok (.iaload, 1) := by decide +kernel
theorem dX11_landsBy_23 : decode cX11_landsBy 23 = .ok (.iadd, 1) := by decide +kernel
theorem dX11_landsBy_24 : decode cX11_landsBy 24 = .ok (.iconst 2, 1) := by decide +kernel
theorem dX11_landsBy_25 : decode cX11_landsBy 25 = .ok (.isub, 1) := by decide +kernel
theorem dX11_landsBy_26 : decode cX11_landsBy 26 = .ok (.iload_n 3, 1) := by decide +kernel
theorem dX11_landsBy_27 : decode cX11_landsBy 27 = .ok (.iadd, 1) := by decide +kernel
theorem dX11_landsBy_28 : decode cX11_landsBy 28 = .ok (.invokestatic 144, 3) := by decide +kernel
theorem dX11_landsBy_31 : decode cX11_landsBy 31 = .ok (.ireturn, 1) := by decide +kernel
theorem dX11_far_0 : decode cX11_far 0 = .ok (.iload_n 0, 1) := by decide +kernel
theorem dX11_far_1 : decode cX11_far 1 = .ok (.iload_n 1, 1) := by decide +kernel
theorem dX11_far_2 : decode cX11_far 2 = .ok (.if_icmp .ge 9, 3) := by decide +kernel
theorem dX11_far_5 : decode cX11_far 5 = .ok (.iload_n 1, 1) := by decide +kernel
theorem dX11_far_6 : decode cX11_far 6 = .ok (.iload_n 0, 1) := by decide +kernel
theorem dX11_far_7 : decode cX11_far 7 = .ok (.isub, 1) := by decide +kernel
theorem dX11_far_8 : decode cX11_far 8 = .ok (.goto 6, 3) := by decide +kernel
theorem dX11_far_11 : decode cX11_far 11 = .ok (.iload_n 0, 1) := by decide +kernel
theorem dX11_far_12 : decode cX11_far 12 = .ok (.iload_n 1, 1) := by decide +kernel
theorem dX11_far_13 : decode cX11_far 13 = .ok (.isub, 1) := by decide +kernel
theorem dX11_far_14 : decode cX11_far 14 = .ok (.ireturn, 1) := by decide +kernel
theorem dX11_reaches_0 : decode cX11_reaches 0 = .ok (.iload_n 1, 1) := by decide +kernel
theorem dX11_reaches_1 : decode cX11_reaches 1 = .ok (.bipush 6, 2) := by decide +kernel
theorem dX11_reaches_3 : decode cX11_reaches 3 = .ok (.idiv, 1) := by decide +kernel
theorem dX11_reaches_4 : decode cX11_reaches 4 = .ok (.iload_n 2, 1) := by decide +kernel
theorem dX11_reaches_5 : decode cX11_reaches 5 = .ok (.bipush 6, 2) := by decide +kernel
theorem dX11_reaches_7 : decode cX11_reaches 7 = .ok (.idiv, 1) := by decide +kernel
theorem dX11_reaches_8 : decode cX11_reaches 8 = .ok (.invokestatic 148, 3) := by decide +kernel
theorem dX11_reaches_11 : decode cX11_reaches 11 = .ok (.istore_n 3, 1) := by decide +kernel
theorem dX11_reaches_12 : decode cX11_reaches 12 = .ok (.iload_n 1, 1) := by decide +kernel
theorem dX11_reaches_13 : decode cX11_reaches 13 = .ok (.bipush 6, 2) := by decide +kernel
theorem dX11_reaches_15 : decode cX11_reaches 15 = .ok (.irem, 1) := by decide +kernel
theorem dX11_reaches_16 : decode cX11_reaches 16 = .ok (.iload_n 2, 1) := by decide +kernel
theorem dX11_reaches_17 : decode cX11_reaches 17 = .ok (.bipush 6, 2) := by decide +kernel
theorem dX11_reaches_19 : decode cX11_reaches 19 = .ok (.irem, 1) := by decide +kernel
theorem dX11_reaches_20 : decode cX11_reaches 20 = .ok (.invokestatic 148, 3) := by decide +kernel
theorem dX11_reaches_23 : decode cX11_reaches 23 = .ok (.istore 4, 2) := by decide +kernel
theorem dX11_reaches_25 : decode cX11_reaches 25 = .ok (.iload_n 3, 1) := by decide +kernel
theorem dX11_reaches_26 : decode cX11_reaches 26 = .ok (.iconst 2, 1) := by decide +kernel
theorem dX11_reaches_27 : decode cX11_reaches 27 = .ok (.if_icmp .ge 13, 3) := by decide +kernel
theorem dX11_reaches_30 : decode cX11_reaches 30 = .ok (.iload 4, 2) := by decide +kernel
theorem dX11_reaches_32 : decode cX11_reaches 32 = .ok (.iconst 2, 1) := by decide +kernel
theorem dX11_reaches_33 : decode cX11_reaches 33 = .ok (.if_icmp .ge 7, 3) := by decide +kernel
theorem dX11_reaches_36 : decode cX11_reaches 36 = .ok (.iconst 1, 1) := by decide +kernel
theorem dX11_reaches_37 : decode cX11_reaches 37 = .ok (.goto 4, 3) := by decide +kernel
theorem dX11_reaches_40 : decode cX11_reaches 40 = .ok (.iconst 0, 1) := by decide +kernel
theorem dX11_reaches_41 : decode cX11_reaches 41 = .ok (.istore 5, 2) := by decide +kernel
theorem dX11_reaches_43 : decode cX11_reaches 43 = .ok (.iload_n 0, 1) := by decide +kernel
theorem dX11_reaches_44 : decode cX11_reaches 44 = .ok (.tableswitch 85 1 4 #[32, 49, 52, 67], 32) := by decide +kernel
theorem dX11_reaches_76 : decode cX11_reaches 76 = .ok (.iload 5, 2) := by decide +kernel
theorem dX11_reaches_78 : decode cX11_reaches 78 = .ok (.ifCond .eq 13, 3) := by decide +kernel
theorem dX11_reaches_81 : decode cX11_reaches 81 = .ok (.iload_n 3, 1) := by decide +kernel
theorem dX11_reaches_82 : decode cX11_reaches 82 = .ok (.iload 4, 2) := by decide +kernel
theorem dX11_reaches_84 : decode cX11_reaches 84 = .ok (.if_icmp .ne 7, 3) := by decide +kernel
theorem dX11_reaches_87 : decode cX11_reaches 87 = .ok (.iconst 1, 1) := by decide +kernel
theorem dX11_reaches_88 : decode cX11_reaches 88 = .ok (.goto 4, 3) := by decide +kernel
theorem dX11_reaches_91 : decode cX11_reaches 91 = .ok (.iconst 0, 1) := by decide +kernel
theorem dX11_reaches_92 : decode cX11_reaches 92 = .ok (.ireturn, 1) := by decide +kernel
theorem dX11_reaches_93 : decode cX11_reaches 93 = .ok (.iload 5, 2) := by decide +kernel
theorem dX11_reaches_95 : decode cX11_reaches 95 = .ok (.ireturn, 1) := by decide +kernel
theorem dX11_reaches_96 : decode cX11_reaches 96 = .ok (.iload 5, 2) := by decide +kernel
theorem dX11_reaches_98 : decode cX11_reaches 98 = .ok (.ifCond .eq 11, 3) := by decide +kernel
theorem dX11_reaches_101 : decode cX11_reaches 101 = .ok (.iload_n 3, 1) := by decide +kernel
theorem dX11_reaches_102 : decode cX11_reaches 102 = .ok (.ifCond .ne 7, 3) := by decide +kernel
theorem dX11_reaches_105 : decode cX11_reaches 105 = .ok (.iconst 1, 1) := by decide +kernel
theorem dX11_reaches_106 : decode cX11_reaches 106 = .ok (.goto 4, 3) := by decide +kernel
theorem dX11_reaches_109 : decode cX11_reaches 109 = .ok (.iconst 0, 1) := by decide +kernel
theorem dX11_reaches_110 : decode cX11_reaches 110 = .ok (.ireturn, 1) := by decide +kernel
theorem dX11_reaches_111 : decode cX11_reaches 111 = .ok (.iload 5, 2) := by decide +kernel
theorem dX11_reaches_113 : decode cX11_reaches 113 = .ok (.ifCond .eq 14, 3) := by decide +kernel
theorem dX11_reaches_116 : decode cX11_reaches 116 = .ok (.iload_n 3, 1) := by decide +kernel
theorem dX11_reaches_117 : decode cX11_reaches 117 = .ok (.iload 4, 2) := by decide +kernel
theorem dX11_reaches_119 : decode cX11_reaches 119 = .ok (.iadd, 1) := by decide +kernel
theorem dX11_reaches_120 : decode cX11_reaches 120 = .ok (.ifCond .le 7, 3) := by decide +kernel
theorem dX11_reaches_123 : decode cX11_reaches 123 = .ok (.iconst 1, 1) := by decide +kernel
theorem dX11_reaches_124 : decode cX11_reaches 124 = .ok (.goto 4, 3) := by decide +kernel
theorem dX11_reaches_127 : decode cX11_reaches 127 = .ok (.iconst 0, 1) := by decide +kernel
theorem dX11_reaches_128 : decode cX11_reaches 128 = .ok (.ireturn, 1) := by decide +kernel
theorem dX11_reaches_129 : decode cX11_reaches 129 = .ok (.iload_n 3, 1) := by decide +kernel
theorem dX11_reaches_130 : decode cX11_reaches 130 = .ok (.iload 4, 2) := by decide +kernel
theorem dX11_reaches_132 : decode cX11_reaches 132 = .ok (.iadd, 1) := by decide +kernel
theorem dX11_reaches_133 : decode cX11_reaches 133 = .ok (.iconst 2, 1) := by decide +kernel
theorem dX11_reaches_134 : decode cX11_reaches 134 = .ok (.if_icmp .ge 7, 3) := by decide +kernel
theorem dX11_reaches_137 : decode cX11_reaches 137 = .ok (.iconst 1, 1) := by decide +kernel
theorem dX11_reaches_138 : decode cX11_reaches 138 = .ok (.goto 4, 3) := by decide +kernel
theorem dX11_reaches_141 : decode cX11_reaches 141 = .ok (.iconst 0, 1) := by decide +kernel
theorem dX11_reaches_142 : decode cX11_reaches 142 = .ok (.ireturn, 1) := by decide +kernel
theorem dX11_coversCell_0 : decode cX11_coversCell 0 = .ok (.aload_n 0, 1) := by decide +kernel
theorem dX11_coversCell_1 : decode cX11_coversCell 1 = .ok (.iload_n 1, 1) := by decide +kernel
theorem dX11_coversCell_2 : decode cX11_coversCell 2 = .ok (.iload_n 2, 1) := by decide +kernel
theorem dX11_coversCell_3 : decode cX11_coversCell 3 = .ok (.iload_n 3, 1) := by decide +kernel
theorem dX11_coversCell_4 : decode cX11_coversCell 4 = .ok (.invokevirtual 151, 3) := by decide +kernel
theorem dX11_coversCell_7 : decode cX11_coversCell 7 = .ok (.istore 5, 2) := by decide +kernel
theorem dX11_coversCell_9 : decode cX11_coversCell 9 = .ok (.iload 5, 2) := by decide +kernel
theorem dX11_coversCell_11 : decode cX11_coversCell 11 = .ok (.iconst (-1), 1) := by decide +kernel
theorem dX11_coversCell_12 : decode cX11_coversCell 12 = .ok (.if_icmp .eq 23, 3) := by decide +kernel
theorem dX11_coversCell_15 : decode cX11_coversCell 15 = .ok (.aload_n 0, 1) := by decide +kernel
theorem dX11_coversCell_16 : decode cX11_coversCell 16 = .ok (.getfield 25, 3) := by decide +kernel
theorem dX11_coversCell_19 : decode cX11_coversCell 19 = .ok (.iload_n 1, 1) := by decide +kernel
theorem dX11_coversCell_20 : decode cX11_coversCell 20 = .ok (.iaload, 1) := by decide +kernel
theorem dX11_coversCell_21 : decode cX11_coversCell 21 = .ok (.iload 5, 2) := by decide +kernel
theorem dX11_coversCell_23 : decode cX11_coversCell 23 = .ok (.iload 4, 2) := by decide +kernel
theorem dX11_coversCell_25 : decode cX11_coversCell 25 = .ok (.invokestatic 155, 3) := by decide +kernel
theorem dX11_coversCell_28 : decode cX11_coversCell 28 = .ok (.ifCond .eq 7, 3) := by decide +kernel
theorem dX11_coversCell_31 : decode cX11_coversCell 31 = .ok (.iconst 1, 1) := by decide +kernel
theorem dX11_coversCell_32 : decode cX11_coversCell 32 = .ok (.goto 4, 3) := by decide +kernel
theorem dX11_coversCell_35 : decode cX11_coversCell 35 = .ok (.iconst 0, 1) := by decide +kernel
theorem dX11_coversCell_36 : decode cX11_coversCell 36 = .ok (.ireturn, 1) := by decide +kernel
theorem dX11_coversOf_0 : decode cX11_coversOf 0 = .ok (.iconst 0, 1) := by decide +kernel
theorem dX11_coversOf_1 : decode cX11_coversOf 1 = .ok (.istore 4, 2) := by decide +kernel
theorem dX11_coversOf_3 : decode cX11_coversOf 3 = .ok (.iconst 0, 1) := by decide +kernel
theorem dX11_coversOf_4 : decode cX11_coversOf 4 = .ok (.istore 5, 2) := by decide +kernel
theorem dX11_coversOf_6 : decode cX11_coversOf 6 = .ok (.iload 5, 2) := by decide +kernel
theorem dX11_coversOf_8 : decode cX11_coversOf 8 = .ok (.aload_n 0, 1) := by decide +kernel
theorem dX11_coversOf_9 : decode cX11_coversOf 9 = .ok (.getfield 116, 3) := by decide +kernel
theorem dX11_coversOf_12 : decode cX11_coversOf 12 = .ok (.if_icmp .ge 39, 3) := by decide +kernel
theorem dX11_coversOf_15 : decode cX11_coversOf 15 = .ok (.iload 4, 2) := by decide +kernel
theorem dX11_coversOf_17 : decode cX11_coversOf 17 = .ok (.aload_n 0, 1) := by decide +kernel
theorem dX11_coversOf_18 : decode cX11_coversOf 18 = .ok (.iload_n 1, 1) := by decide +kernel
theorem dX11_coversOf_19 : decode cX11_coversOf 19 = .ok (.iload_n 2, 1) := by decide +kernel
theorem dX11_coversOf_20 : decode cX11_coversOf 20 = .ok (.iload_n 3, 1) := by decide +kernel
theorem dX11_coversOf_21 : decode cX11_coversOf 21 = .ok (.aload_n 0, 1) := by decide +kernel
theorem dX11_coversOf_22 : decode cX11_coversOf 22 = .ok (.getfield 13, 3) := by decide +kernel
theorem dX11_coversOf_25 : decode cX11_coversOf 25 = .ok (.iload 5, 2) := by decide +kernel
theorem dX11_coversOf_27 : decode cX11_coversOf 27 = .ok (.iaload, 1) := by decide +kernel
theorem dX11_coversOf_28 : decode cX11_coversOf 28 = .ok (.invokevirtual 159, 3) := by decide +kernel
theorem dX11_coversOf_31 : decode cX11_coversOf 31 = .ok (.ifCond .eq 10, 3) := by decide +kernel
theorem dX11_coversOf_34 : decode cX11_coversOf 34 = .ok (.iconst 1, 1) := by decide +kernel
theorem dX11_coversOf_35 : decode cX11_coversOf 35 = .ok (.iload 5, 2) := by decide +kernel
theorem dX11_coversOf_37 : decode cX11_coversOf 37 = .ok (.ishl, 1) := by decide +kernel
theorem dX11_coversOf_38 : decode cX11_coversOf 38 = .ok (.goto 4, 3) := by decide +kernel
theorem dX11_coversOf_41 : decode cX11_coversOf 41 = .ok (.iconst 0, 1) := by decide +kernel
theorem dX11_coversOf_42 : decode cX11_coversOf 42 = .ok (.ior, 1) := by decide +kernel
theorem dX11_coversOf_43 : decode cX11_coversOf 43 = .ok (.istore 4, 2) := by decide +kernel
theorem dX11_coversOf_45 : decode cX11_coversOf 45 = .ok (.iinc 5 1, 3) := by decide +kernel
theorem dX11_coversOf_48 : decode cX11_coversOf 48 = .ok (.goto (-42), 3) := by decide +kernel
theorem dX11_coversOf_51 : decode cX11_coversOf 51 = .ok (.iload 4, 2) := by decide +kernel
theorem dX11_coversOf_53 : decode cX11_coversOf 53 = .ok (.ireturn, 1) := by decide +kernel
theorem dX11_ones_0 : decode cX11_ones 0 = .ok (.iconst 0, 1) := by decide +kernel
theorem dX11_ones_1 : decode cX11_ones 1 = .ok (.istore_n 1, 1) := by decide +kernel
theorem dX11_ones_2 : decode cX11_ones 2 = .ok (.iconst 0, 1) := by decide +kernel
theorem dX11_ones_3 : decode cX11_ones 3 = .ok (.istore_n 2, 1) := by decide +kernel
theorem dX11_ones_4 : decode cX11_ones 4 = .ok (.iload_n 2, 1) := by decide +kernel
theorem dX11_ones_5 : decode cX11_ones 5 = .ok (.bipush 6, 2) := by decide +kernel
theorem dX11_ones_7 : decode cX11_ones 7 = .ok (.if_icmp .ge 17, 3) := by decide +kernel
theorem dX11_ones_10 : decode cX11_ones 10 = .ok (.iload_n 1, 1) := by decide +kernel
theorem dX11_ones_11 : decode cX11_ones 11 = .ok (.iload_n 0, 1) := by decide +kernel
theorem dX11_ones_12 : decode cX11_ones 12 = .ok (.iload_n 2, 1) := by decide +kernel
theorem dX11_ones_13 : decode cX11_ones 13 = .ok (.ishr, 1) := by decide +kernel
theorem dX11_ones_14 : decode cX11_ones 14 = .ok (.iconst 1, 1) := by decide +kernel
theorem dX11_ones_15 : decode cX11_ones 15 = .ok (.iand, 1) := by decide +kernel
theorem dX11_ones_16 : decode cX11_ones 16 = .ok (.iadd, 1) := by decide +kernel
theorem dX11_ones_17 : decode cX11_ones 17 = .ok (.istore_n 1, 1) := by decide +kernel
theorem dX11_ones_18 : decode cX11_ones 18 = .ok (.iinc 2 1, 3) := by decide +kernel
theorem dX11_ones_21 : decode cX11_ones 21 = .ok (.goto (-17), 3) := by decide +kernel
theorem dX11_ones_24 : decode cX11_ones 24 = .ok (.iload_n 1, 1) := by decide +kernel
theorem dX11_ones_25 : decode cX11_ones 25 = .ok (.ireturn, 1) := by decide +kernel
theorem dX11_batterOf_0 : decode cX11_batterOf 0 = .ok (.iload_n 0, 1) := by decide +kernel
theorem dX11_batterOf_1 : decode cX11_batterOf 1 = .ok (.tableswitch 39 1 4 #[31, 33, 35, 37], 31) := by decide +kernel
theorem dX11_batterOf_32 : decode cX11_batterOf 32 = .ok (.iconst 2, 1) := by decide +kernel
theorem dX11_batterOf_33 : decode cX11_batterOf 33 = .ok (.ireturn, 1) := by decide +kernel
theorem dX11_batterOf_34 : decode cX11_batterOf 34 = .ok (.iconst 5, 1) := by decide +kernel
theorem dX11_batterOf_35 : decode cX11_batterOf 35 = .ok (.ireturn, 1) := by decide +kernel
theorem dX11_batterOf_36 : decode cX11_batterOf 36 = .ok (.iconst 1, 1) := by decide +kernel
theorem dX11_batterOf_37 : decode cX11_batterOf 37 = .ok (.ireturn, 1) := by decide +kernel
theorem dX11_batterOf_38 : decode cX11_batterOf 38 = .ok (.iconst 4, 1) := by decide +kernel
theorem dX11_batterOf_39 : decode cX11_batterOf 39 = .ok (.ireturn, 1) := by decide +kernel
theorem dX11_batterOf_40 : decode cX11_batterOf 40 = .ok (.iconst 3, 1) := by decide +kernel
theorem dX11_batterOf_41 : decode cX11_batterOf 41 = .ok (.ireturn, 1) := by decide +kernel
theorem dX11_open_0 : decode cX11_open 0 = .ok (.iconst 0, 1) := by decide +kernel
theorem dX11_open_1 : decode cX11_open 1 = .ok (.istore_n 1, 1) := by decide +kernel
theorem dX11_open_2 : decode cX11_open 2 = .ok (.iconst 0, 1) := by decide +kernel
theorem dX11_open_3 : decode cX11_open 3 = .ok (.istore_n 2, 1) := by decide +kernel
theorem dX11_open_4 : decode cX11_open 4 = .ok (.iload_n 2, 1) := by decide +kernel
theorem dX11_open_5 : decode cX11_open 5 = .ok (.aload_n 0, 1) := by decide +kernel
theorem dX11_open_6 : decode cX11_open 6 = .ok (.getfield 116, 3) := by decide +kernel
theorem dX11_open_9 : decode cX11_open 9 = .ok (.if_icmp .ge 28, 3) := by decide +kernel
theorem dX11_open_12 : decode cX11_open 12 = .ok (.iload_n 1, 1) := by decide +kernel
theorem dX11_open_13 : decode cX11_open 13 = .ok (.aload_n 0, 1) := by decide +kernel
theorem dX11_open_14 : decode cX11_open 14 = .ok (.getfield 16, 3) := by decide +kernel
theorem dX11_open_17 : decode cX11_open 17 = .ok (.iload_n 2, 1) := by decide +kernel
theorem dX11_open_18 : decode cX11_open 18 = .ok (.iaload, 1) := by decide +kernel
theorem dX11_open_19 : decode cX11_open 19 = .ok (.ifCond .ne 9, 3) := by decide +kernel
theorem dX11_open_22 : decode cX11_open 22 = .ok (.iconst 1, 1) := by decide +kernel
theorem dX11_open_23 : decode cX11_open 23 = .ok (.iload_n 2, 1) := by decide +kernel
theorem dX11_open_24 : decode cX11_open 24 = .ok (.ishl, 1) := by decide +kernel
theorem dX11_open_25 : decode cX11_open 25 = .ok (.goto 4, 3) := by decide +kernel
theorem dX11_open_28 : decode cX11_open 28 = .ok (.iconst 0, 1) := by decide +kernel
theorem dX11_open_29 : decode cX11_open 29 = .ok (.ior, 1) := by decide +kernel
theorem dX11_open_30 : decode cX11_open 30 = .ok (.istore_n 1, 1) := by decide +kernel
theorem dX11_open_31 : decode cX11_open 31 = .ok (.iinc 2 1, 3) := by decide +kernel
theorem dX11_open_34 : decode cX11_open 34 = .ok (.goto (-30), 3) := by decide +kernel
theorem dX11_open_37 : decode cX11_open 37 = .ok (.iload_n 1, 1) := by decide +kernel
theorem dX11_open_38 : decode cX11_open 38 = .ok (.ireturn, 1) := by decide +kernel
theorem dX11_lands_0 : decode cX11_lands 0 = .ok (.aload_n 0, 1) := by decide +kernel
theorem dX11_lands_1 : decode cX11_lands 1 = .ok (.iload_n 1, 1) := by decide +kernel
theorem dX11_lands_2 : decode cX11_lands 2 = .ok (.invokevirtual 163, 3) := by decide +kernel
theorem dX11_lands_5 : decode cX11_lands 5 = .ok (.ifCond .eq 23, 3) := by decide +kernel
theorem dX11_lands_8 : decode cX11_lands 8 = .ok (.iload_n 2, 1) := by decide +kernel
theorem dX11_lands_9 : decode cX11_lands 9 = .ok (.invokestatic 166, 3) := by decide +kernel
theorem dX11_lands_12 : decode cX11_lands 12 = .ok (.ifCond .eq 16, 3) := by decide +kernel
theorem dX11_lands_15 : decode cX11_lands 15 = .ok (.aload_n 0, 1) := by decide +kernel
theorem dX11_lands_16 : decode cX11_lands 16 = .ok (.iload_n 1, 1) := by decide +kernel
theorem dX11_lands_17 : decode cX11_lands 17 = .ok (.iload_n 2, 1) := by decide +kernel
theorem dX11_lands_18 : decode cX11_lands 18 = .ok (.aload_n 0, 1) := by decide +kernel
theorem dX11_lands_19 : decode cX11_lands 19 = .ok (.getfield 122, 3) := by decide +kernel
theorem dX11_lands_22 : decode cX11_lands 22 = .ok (.invokevirtual 151, 3) := by decide +kernel
theorem dX11_lands_25 : decode cX11_lands 25 = .ok (.goto 5, 3) := by decide +kernel
theorem dX11_lands_28 : decode cX11_lands 28 = .ok (.bipush (-101), 2) := by decide +kernel
theorem dX11_lands_30 : decode cX11_lands 30 = .ok (.ireturn, 1) := by decide +kernel
theorem dX11_covers_0 : decode cX11_covers 0 = .ok (.aload_n 0, 1) := by decide +kernel
theorem dX11_covers_1 : decode cX11_covers 1 = .ok (.iload_n 1, 1) := by decide +kernel
theorem dX11_covers_2 : decode cX11_covers 2 = .ok (.invokevirtual 163, 3) := by decide +kernel
theorem dX11_covers_5 : decode cX11_covers 5 = .ok (.ifCond .eq 23, 3) := by decide +kernel
theorem dX11_covers_8 : decode cX11_covers 8 = .ok (.iload_n 2, 1) := by decide +kernel
theorem dX11_covers_9 : decode cX11_covers 9 = .ok (.invokestatic 166, 3) := by decide +kernel
theorem dX11_covers_12 : decode cX11_covers 12 = .ok (.ifCond .eq 16, 3) := by decide +kernel
theorem dX11_covers_15 : decode cX11_covers 15 = .ok (.aload_n 0, 1) := by decide +kernel
theorem dX11_covers_16 : decode cX11_covers 16 = .ok (.iload_n 1, 1) := by decide +kernel
theorem dX11_covers_17 : decode cX11_covers 17 = .ok (.iload_n 2, 1) := by decide +kernel
theorem dX11_covers_18 : decode cX11_covers 18 = .ok (.aload_n 0, 1) := by decide +kernel
theorem dX11_covers_19 : decode cX11_covers 19 = .ok (.getfield 122, 3) := by decide +kernel
theorem dX11_covers_22 : decode cX11_covers 22 = .ok (.invokevirtual 169, 3) := by decide +kernel
theorem dX11_covers_25 : decode cX11_covers 25 = .ok (.goto 5, 3) := by decide +kernel
theorem dX11_covers_28 : decode cX11_covers 28 = .ok (.bipush (-101), 2) := by decide +kernel
theorem dX11_covers_30 : decode cX11_covers 30 = .ok (.ireturn, 1) := by decide +kernel
theorem dX11_isFreeFor_0 : decode cX11_isFreeFor 0 = .ok (.iconst 1, 1) := by decide +kernel
theorem dX11_isFreeFor_1 : decode cX11_isFreeFor 1 = .ok (.istore_n 3, 1) := by decide +kernel
theorem dX11_isFreeFor_2 : decode cX11_isFreeFor 2 = .ok (.iconst 0, 1) := by decide +kernel
theorem dX11_isFreeFor_3 : decode cX11_isFreeFor 3 = .ok (.istore 4, 2) := by decide +kernel
theorem dX11_isFreeFor_5 : decode cX11_isFreeFor 5 = .ok (.iload 4, 2) := by decide +kernel
theorem dX11_isFreeFor_7 : decode cX11_isFreeFor 7 = .ok (.aload_n 0, 1) := by decide +kernel
theorem dX11_isFreeFor_8 : decode cX11_isFreeFor 8 = .ok (.getfield 116, 3) := by decide +kernel
theorem dX11_isFreeFor_11 : decode cX11_isFreeFor 11 = .ok (.if_icmp .ge 36, 3) := by decide +kernel
theorem dX11_isFreeFor_14 : decode cX11_isFreeFor 14 = .ok (.iload_n 3, 1) := by decide +kernel
theorem dX11_isFreeFor_15 : decode cX11_isFreeFor 15 = .ok (.ifCond .eq 24, 3) := by decide +kernel
theorem dX11_isFreeFor_18 : decode cX11_isFreeFor 18 = .ok (.iload 4, 2) := by decide +kernel
theorem dX11_isFreeFor_20 : decode cX11_isFreeFor 20 = .ok (.iload_n 1, 1) := by decide +kernel
theorem dX11_isFreeFor_21 : decode cX11_isFreeFor 21 = .ok (.if_icmp .eq 14, 3) := by decide +kernel
theorem dX11_isFreeFor_24 : decode cX11_isFreeFor 24 = .ok (.aload_n 0, 1) := by decide +kernel
theorem dX11_isFreeFor_25 : decode cX11_isFreeFor 25 = .ok (.getfield 13, 3) := by decide +kernel
theorem dX11_isFreeFor_28 : decode cX11_isFreeFor 28 = .ok (.iload 4, 2) := by decide +kernel
theorem dX11_isFreeFor_30 : decode cX11_isFreeFor 30 = .ok (.iaload, 1) := by decide +kernel
theorem dX11_isFreeFor_31 : decode cX11_isFreeFor 31 = .ok (.iload_n 2, 1) := by decide +kernel
theorem dX11_isFreeFor_32 : decode cX11_isFreeFor 32 = .ok (.if_icmp .eq 7, 3) := by decide +kernel
theorem dX11_isFreeFor_35 : decode cX11_isFreeFor 35 = .ok (.iconst 1, 1) := by decide +kernel
theorem dX11_isFreeFor_36 : decode cX11_isFreeFor 36 = .ok (.goto 4, 3) := by decide +kernel
theorem dX11_isFreeFor_39 : decode cX11_isFreeFor 39 = .ok (.iconst 0, 1) := by decide +kernel
theorem dX11_isFreeFor_40 : decode cX11_isFreeFor 40 = .ok (.istore_n 3, 1) := by decide +kernel
theorem dX11_isFreeFor_41 : decode cX11_isFreeFor 41 = .ok (.iinc 4 1, 3) := by decide +kernel
theorem dX11_isFreeFor_44 : decode cX11_isFreeFor 44 = .ok (.goto (-39), 3) := by decide +kernel
theorem dX11_isFreeFor_47 : decode cX11_isFreeFor 47 = .ok (.iload_n 3, 1) := by decide +kernel
theorem dX11_isFreeFor_48 : decode cX11_isFreeFor 48 = .ok (.ireturn, 1) := by decide +kernel
theorem dX11_tossesOver_0 : decode cX11_tossesOver 0 = .ok (.iconst 0, 1) := by decide +kernel
theorem dX11_tossesOver_1 : decode cX11_tossesOver 1 = .ok (.istore_n 2, 1) := by decide +kernel
theorem dX11_tossesOver_2 : decode cX11_tossesOver 2 = .ok (.iconst 0, 1) := by decide +kernel
theorem dX11_tossesOver_3 : decode cX11_tossesOver 3 = .ok (.istore_n 3, 1) := by decide +kernel
theorem dX11_tossesOver_4 : decode cX11_tossesOver 4 = .ok (.iload_n 3, 1) := by decide +kernel
theorem dX11_tossesOver_5 : decode cX11_tossesOver 5 = .ok (.aload_n 0, 1) := by decide +kernel
theorem dX11_tossesOver_6 : decode cX11_tossesOver 6 = .ok (.getfield 119, 3) := by decide +kernel
theorem dX11_tossesOver_9 : decode cX11_tossesOver 9 = .ok (.if_icmp .ge 48, 3) := by decide +kernel
theorem dX11_tossesOver_12 : decode cX11_tossesOver 12 = .ok (.iconst 0, 1) := by decide +kernel
theorem dX11_tossesOver_13 : decode cX11_tossesOver 13 = .ok (.istore 4, 2) := by decide +kernel
theorem dX11_tossesOver_15 : decode cX11_tossesOver 15 = .ok (.iload 4, 2) := by decide +kernel
theorem dX11_tossesOver_17 : decode cX11_tossesOver 17 = .ok (.bipush 36, 2) := by decide +kernel
theorem dX11_tossesOver_19 : decode cX11_tossesOver 19 = .ok (.if_icmp .ge 32, 3) := by decide +kernel
theorem dX11_tossesOver_22 : decode cX11_tossesOver 22 = .ok (.iload_n 2, 1) := by decide +kernel
theorem dX11_tossesOver_23 : decode cX11_tossesOver 23 = .ok (.aload_n 0, 1) := by decide +kernel
theorem dX11_tossesOver_24 : decode cX11_tossesOver 24 = .ok (.iload_n 3, 1) := by decide +kernel
theorem dX11_tossesOver_25 : decode cX11_tossesOver 25 = .ok (.iload 4, 2) := by decide +kernel
theorem dX11_tossesOver_27 : decode cX11_tossesOver 27 = .ok (.aload_n 0, 1) := by decide +kernel
theorem dX11_tossesOver_28 : decode cX11_tossesOver 28 = .ok (.getfield 122, 3) := by decide +kernel
theorem dX11_tossesOver_31 : decode cX11_tossesOver 31 = .ok (.iload_n 1, 1) := by decide +kernel
theorem dX11_tossesOver_32 : decode cX11_tossesOver 32 = .ok (.invokevirtual 159, 3) := by decide +kernel
theorem dX11_tossesOver_35 : decode cX11_tossesOver 35 = .ok (.ifCond .eq 7, 3) := by decide +kernel
theorem dX11_tossesOver_38 : decode cX11_tossesOver 38 = .ok (.iconst 1, 1) := by decide +kernel
theorem dX11_tossesOver_39 : decode cX11_tossesOver 39 = .ok (.goto 4, 3) := by decide +kernel
theorem dX11_tossesOver_42 : decode cX11_tossesOver 42 = .ok (.iconst 0, 1) := by decide +kernel
theorem dX11_tossesOver_43 : decode cX11_tossesOver 43 = .ok (.iadd, 1) := by decide +kernel
theorem dX11_tossesOver_44 : decode cX11_tossesOver 44 = .ok (.istore_n 2, 1) := by decide +kernel
theorem dX11_tossesOver_45 : decode cX11_tossesOver 45 = .ok (.iinc 4 1, 3) := by decide +kernel
theorem dX11_tossesOver_48 : decode cX11_tossesOver 48 = .ok (.goto (-33), 3) := by decide +kernel
theorem dX11_tossesOver_51 : decode cX11_tossesOver 51 = .ok (.iinc 3 1, 3) := by decide +kernel
theorem dX11_tossesOver_54 : decode cX11_tossesOver 54 = .ok (.goto (-50), 3) := by decide +kernel
theorem dX11_tossesOver_57 : decode cX11_tossesOver 57 = .ok (.iload_n 2, 1) := by decide +kernel
theorem dX11_tossesOver_58 : decode cX11_tossesOver 58 = .ok (.ireturn, 1) := by decide +kernel
theorem dX11_lieOf_0 : decode cX11_lieOf 0 = .ok (.iconst (-1), 1) := by decide +kernel
theorem dX11_lieOf_1 : decode cX11_lieOf 1 = .ok (.istore_n 2, 1) := by decide +kernel
theorem dX11_lieOf_2 : decode cX11_lieOf 2 = .ok (.iconst (-1), 1) := by decide +kernel
theorem dX11_lieOf_3 : decode cX11_lieOf 3 = .ok (.istore_n 3, 1) := by decide +kernel
theorem dX11_lieOf_4 : decode cX11_lieOf 4 = .ok (.iconst 0, 1) := by decide +kernel
theorem dX11_lieOf_5 : decode cX11_lieOf 5 = .ok (.istore 4, 2) := by decide +kernel
theorem dX11_lieOf_7 : decode cX11_lieOf 7 = .ok (.iload 4, 2) := by decide +kernel
theorem dX11_lieOf_9 : decode cX11_lieOf 9 = .ok (.bipush 36, 2) := by decide +kernel
theorem dX11_lieOf_11 : decode cX11_lieOf 11 = .ok (.if_icmp .ge 57, 3) := by decide +kernel
theorem dX11_lieOf_14 : decode cX11_lieOf 14 = .ok (.aload_n 0, 1) := by decide +kernel
theorem dX11_lieOf_15 : decode cX11_lieOf 15 = .ok (.iload_n 1, 1) := by decide +kernel
theorem dX11_lieOf_16 : decode cX11_lieOf 16 = .ok (.iload 4, 2) := by decide +kernel
theorem dX11_lieOf_18 : decode cX11_lieOf 18 = .ok (.invokevirtual 172, 3) := by decide +kernel
theorem dX11_lieOf_21 : decode cX11_lieOf 21 = .ok (.ifCond .eq 12, 3) := by decide +kernel
theorem dX11_lieOf_24 : decode cX11_lieOf 24 = .ok (.aload_n 0, 1) := by decide +kernel
theorem dX11_lieOf_25 : decode cX11_lieOf 25 = .ok (.iload 4, 2) := by decide +kernel
theorem dX11_lieOf_27 : decode cX11_lieOf 27 = .ok (.invokevirtual 176, 3) := by decide +kernel
theorem dX11_lieOf_30 : decode cX11_lieOf 30 = .ok (.goto 4, 3) := by decide +kernel
theorem dX11_lieOf_33 : decode cX11_lieOf 33 = .ok (.iconst (-1), 1) := by decide +kernel
theorem dX11_lieOf_34 : decode cX11_lieOf 34 = .ok (.istore 5, 2) := by decide +kernel
theorem dX11_lieOf_36 : decode cX11_lieOf 36 = .ok (.iload 5, 2) := by decide +kernel
theorem dX11_lieOf_38 : decode cX11_lieOf 38 = .ok (.iload_n 3, 1) := by decide +kernel
theorem dX11_lieOf_39 : decode cX11_lieOf 39 = .ok (.if_icmp .le 8, 3) := by decide +kernel
theorem dX11_lieOf_42 : decode cX11_lieOf 42 = .ok (.iload 4, 2) := by decide +kernel
theorem dX11_lieOf_44 : decode cX11_lieOf 44 = .ok (.goto 4, 3) := by decide +kernel
theorem dX11_lieOf_47 : decode cX11_lieOf 47 = .ok (.iload_n 2, 1) := by decide +kernel
theorem dX11_lieOf_48 : decode cX11_lieOf 48 = .ok (.istore_n 2, 1) := by decide +kernel
theorem dX11_lieOf_49 : decode cX11_lieOf 49 = .ok (.iload 5, 2) := by decide +kernel
theorem dX11_lieOf_51 : decode cX11_lieOf 51 = .ok (.iload_n 3, 1) := by decide +kernel
theorem dX11_lieOf_52 : decode cX11_lieOf 52 = .ok (.if_icmp .le 8, 3) := by decide +kernel
theorem dX11_lieOf_55 : decode cX11_lieOf 55 = .ok (.iload 5, 2) := by decide +kernel
theorem dX11_lieOf_57 : decode cX11_lieOf 57 = .ok (.goto 4, 3) := by decide +kernel
theorem dX11_lieOf_60 : decode cX11_lieOf 60 = .ok (.iload_n 3, 1) := by decide +kernel
theorem dX11_lieOf_61 : decode cX11_lieOf 61 = .ok (.istore_n 3, 1) := by decide +kernel
theorem dX11_lieOf_62 : decode cX11_lieOf 62 = .ok (.iinc 4 1, 3) := by decide +kernel
theorem dX11_lieOf_65 : decode cX11_lieOf 65 = .ok (.goto (-58), 3) := by decide +kernel
theorem dX11_lieOf_68 : decode cX11_lieOf 68 = .ok (.iload_n 2, 1) := by decide +kernel
theorem dX11_lieOf_69 : decode cX11_lieOf 69 = .ok (.ireturn, 1) := by decide +kernel
theorem dX11_tellSleeper_0 : decode cX11_tellSleeper 0 = .ok (.iload_n 2, 1) := by decide +kernel
theorem dX11_tellSleeper_1 : decode cX11_tellSleeper 1 = .ok (.tableswitch 69 0 4 #[35, 42, 49, 56, 63], 35) := by decide +kernel
theorem dX11_tellSleeper_36 : decode cX11_tellSleeper 36 = .ok (.aload_n 0, 1) := by decide +kernel
theorem dX11_tellSleeper_37 : decode cX11_tellSleeper 37 = .ok (.getfield 13, 3) := by decide +kernel
theorem dX11_tellSleeper_40 : decode cX11_tellSleeper 40 = .ok (.iload_n 1, 1) := by decide +kernel
theorem dX11_tellSleeper_41 : decode cX11_tellSleeper 41 = .ok (.iaload, 1) := by decide +kernel
theorem dX11_tellSleeper_42 : decode cX11_tellSleeper 42 = .ok (.ireturn, 1) := by decide +kernel
theorem dX11_tellSleeper_43 : decode cX11_tellSleeper 43 = .ok (.aload_n 0, 1) := by decide +kernel
theorem dX11_tellSleeper_44 : decode cX11_tellSleeper 44 = .ok (.getfield 16, 3) := by decide +kernel
theorem dX11_tellSleeper_47 : decode cX11_tellSleeper 47 = .ok (.iload_n 1, 1) := by decide +kernel
theorem dX11_tellSleeper_48 : decode cX11_tellSleeper 48 = .ok (.iaload, 1) := by decide +kernel
theorem dX11_tellSleeper_49 : decode cX11_tellSleeper 49 = .ok (.ireturn, 1) := by decide +kernel
theorem dX11_tellSleeper_50 : decode cX11_tellSleeper 50 = .ok (.aload_n 0, 1) := by decide +kernel
theorem dX11_tellSleeper_51 : decode cX11_tellSleeper 51 = .ok (.getfield 19, 3) := by decide +kernel
theorem dX11_tellSleeper_54 : decode cX11_tellSleeper 54 = .ok (.iload_n 1, 1) := by decide +kernel
theorem dX11_tellSleeper_55 : decode cX11_tellSleeper 55 = .ok (.iaload, 1) := by decide +kernel
theorem dX11_tellSleeper_56 : decode cX11_tellSleeper 56 = .ok (.ireturn, 1) := by decide +kernel
theorem dX11_tellSleeper_57 : decode cX11_tellSleeper 57 = .ok (.aload_n 0, 1) := by decide +kernel
theorem dX11_tellSleeper_58 : decode cX11_tellSleeper 58 = .ok (.getfield 22, 3) := by decide +kernel
theorem dX11_tellSleeper_61 : decode cX11_tellSleeper 61 = .ok (.iload_n 1, 1) := by decide +kernel
theorem dX11_tellSleeper_62 : decode cX11_tellSleeper 62 = .ok (.iaload, 1) := by decide +kernel
theorem dX11_tellSleeper_63 : decode cX11_tellSleeper 63 = .ok (.ireturn, 1) := by decide +kernel
theorem dX11_tellSleeper_64 : decode cX11_tellSleeper 64 = .ok (.aload_n 0, 1) := by decide +kernel
theorem dX11_tellSleeper_65 : decode cX11_tellSleeper 65 = .ok (.iload_n 1, 1) := by decide +kernel
theorem dX11_tellSleeper_66 : decode cX11_tellSleeper 66 = .ok (.invokevirtual 179, 3) := by decide +kernel
theorem dX11_tellSleeper_69 : decode cX11_tellSleeper 69 = .ok (.ireturn, 1) := by decide +kernel
theorem dX11_tellSleeper_70 : decode cX11_tellSleeper 70 = .ok (.bipush (-102), 2) := by decide +kernel
theorem dX11_tellSleeper_72 : decode cX11_tellSleeper 72 = .ok (.ireturn, 1) := by decide +kernel
theorem dX11_sleeper_0 : decode cX11_sleeper 0 = .ok (.aload_n 0, 1) := by decide +kernel
theorem dX11_sleeper_1 : decode cX11_sleeper 1 = .ok (.iload_n 1, 1) := by decide +kernel
theorem dX11_sleeper_2 : decode cX11_sleeper 2 = .ok (.invokevirtual 182, 3) := by decide +kernel
theorem dX11_sleeper_5 : decode cX11_sleeper 5 = .ok (.ifCond .eq 12, 3) := by decide +kernel
theorem dX11_sleeper_8 : decode cX11_sleeper 8 = .ok (.aload_n 0, 1) := by decide +kernel
theorem dX11_sleeper_9 : decode cX11_sleeper 9 = .ok (.iload_n 1, 1) := by decide +kernel
theorem dX11_sleeper_10 : decode cX11_sleeper 10 = .ok (.iload_n 2, 1) := by decide +kernel
theorem dX11_sleeper_11 : decode cX11_sleeper 11 = .ok (.invokevirtual 185, 3) := by decide +kernel
theorem dX11_sleeper_14 : decode cX11_sleeper 14 = .ok (.goto 5, 3) := by decide +kernel
theorem dX11_sleeper_17 : decode cX11_sleeper 17 = .ok (.bipush (-101), 2) := by decide +kernel
theorem dX11_sleeper_19 : decode cX11_sleeper 19 = .ok (.ireturn, 1) := by decide +kernel
theorem dX11_mostOf_0 : decode cX11_mostOf 0 = .ok (.iconst 0, 1) := by decide +kernel
theorem dX11_mostOf_1 : decode cX11_mostOf 1 = .ok (.istore_n 3, 1) := by decide +kernel
theorem dX11_mostOf_2 : decode cX11_mostOf 2 = .ok (.iconst (-1), 1) := by decide +kernel
theorem dX11_mostOf_3 : decode cX11_mostOf 3 = .ok (.istore 4, 2) := by decide +kernel
theorem dX11_mostOf_5 : decode cX11_mostOf 5 = .ok (.iconst 0, 1) := by decide +kernel
theorem dX11_mostOf_6 : decode cX11_mostOf 6 = .ok (.istore 5, 2) := by decide +kernel
theorem dX11_mostOf_8 : decode cX11_mostOf 8 = .ok (.iload 5, 2) := by decide +kernel
theorem dX11_mostOf_10 : decode cX11_mostOf 10 = .ok (.bipush 36, 2) := by decide +kernel
theorem dX11_mostOf_12 : decode cX11_mostOf 12 = .ok (.if_icmp .ge 60, 3) := by decide +kernel
theorem dX11_mostOf_15 : decode cX11_mostOf 15 = .ok (.aload_n 0, 1) := by decide +kernel
theorem dX11_mostOf_16 : decode cX11_mostOf 16 = .ok (.iload_n 1, 1) := by decide +kernel
theorem dX11_mostOf_17 : decode cX11_mostOf 17 = .ok (.iload 5, 2) := by decide +kernel
theorem dX11_mostOf_19 : decode cX11_mostOf 19 = .ok (.aload_n 0, 1) := by decide +kernel
theorem dX11_mostOf_20 : decode cX11_mostOf 20 = .ok (.getfield 122, 3) := by decide +kernel
theorem dX11_mostOf_23 : decode cX11_mostOf 23 = .ok (.invokevirtual 169, 3) := by decide +kernel
theorem dX11_mostOf_26 : decode cX11_mostOf 26 = .ok (.aload_n 0, 1) := by decide +kernel
theorem dX11_mostOf_27 : decode cX11_mostOf 27 = .ok (.invokevirtual 188, 3) := by decide +kernel
theorem dX11_mostOf_30 : decode cX11_mostOf 30 = .ok (.iand, 1) := by decide +kernel
theorem dX11_mostOf_31 : decode cX11_mostOf 31 = .ok (.invokestatic 191, 3) := by decide +kernel
theorem dX11_mostOf_34 : decode cX11_mostOf 34 = .ok (.istore 6, 2) := by decide +kernel
theorem dX11_mostOf_36 : decode cX11_mostOf 36 = .ok (.iload 6, 2) := by decide +kernel
theorem dX11_mostOf_38 : decode cX11_mostOf 38 = .ok (.iload 4, 2) := by decide +kernel
theorem dX11_mostOf_40 : decode cX11_mostOf 40 = .ok (.if_icmp .le 8, 3) := by decide +kernel
theorem dX11_mostOf_43 : decode cX11_mostOf 43 = .ok (.iload 5, 2) := by decide +kernel
