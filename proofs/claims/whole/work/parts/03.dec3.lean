theorem dX11_mostOf_45 : decode cX11_mostOf 45 = .ok (.goto 4, 3) := by decide +kernel
theorem dX11_mostOf_48 : decode cX11_mostOf 48 = .ok (.iload_n 3, 1) := by decide +kernel
theorem dX11_mostOf_49 : decode cX11_mostOf 49 = .ok (.istore_n 3, 1) := by decide +kernel
theorem dX11_mostOf_50 : decode cX11_mostOf 50 = .ok (.iload 6, 2) := by decide +kernel
theorem dX11_mostOf_52 : decode cX11_mostOf 52 = .ok (.iload 4, 2) := by decide +kernel
theorem dX11_mostOf_54 : decode cX11_mostOf 54 = .ok (.if_icmp .le 8, 3) := by decide +kernel
theorem dX11_mostOf_57 : decode cX11_mostOf 57 = .ok (.iload 6, 2) := by decide +kernel
theorem dX11_mostOf_59 : decode cX11_mostOf 59 = .ok (.goto 5, 3) := by decide +kernel
theorem dX11_mostOf_62 : decode cX11_mostOf 62 = .ok (.iload 4, 2) := by decide +kernel
theorem dX11_mostOf_64 : decode cX11_mostOf 64 = .ok (.istore 4, 2) := by decide +kernel
theorem dX11_mostOf_66 : decode cX11_mostOf 66 = .ok (.iinc 5 1, 3) := by decide +kernel
theorem dX11_mostOf_69 : decode cX11_mostOf 69 = .ok (.goto (-61), 3) := by decide +kernel
theorem dX11_mostOf_72 : decode cX11_mostOf 72 = .ok (.iload_n 2, 1) := by decide +kernel
theorem dX11_mostOf_73 : decode cX11_mostOf 73 = .ok (.iconst 4, 1) := by decide +kernel
theorem dX11_mostOf_74 : decode cX11_mostOf 74 = .ok (.if_icmp .ne 7, 3) := by decide +kernel
theorem dX11_mostOf_77 : decode cX11_mostOf 77 = .ok (.iload_n 3, 1) := by decide +kernel
theorem dX11_mostOf_78 : decode cX11_mostOf 78 = .ok (.goto 5, 3) := by decide +kernel
theorem dX11_mostOf_81 : decode cX11_mostOf 81 = .ok (.iload 4, 2) := by decide +kernel
theorem dX11_mostOf_83 : decode cX11_mostOf 83 = .ok (.ireturn, 1) := by decide +kernel
theorem dX11_tellTosser_0 : decode cX11_tellTosser 0 = .ok (.iload_n 2, 1) := by decide +kernel
theorem dX11_tellTosser_1 : decode cX11_tellTosser 1 = .ok (.tableswitch 108 0 8 #[51, 58, 65, 72, 82, 82, 89, 95, 101], 51) := by decide +kernel
theorem dX11_tellTosser_52 : decode cX11_tellTosser 52 = .ok (.aload_n 0, 1) := by decide +kernel
theorem dX11_tellTosser_53 : decode cX11_tellTosser 53 = .ok (.getfield 25, 3) := by decide +kernel
theorem dX11_tellTosser_56 : decode cX11_tellTosser 56 = .ok (.iload_n 1, 1) := by decide +kernel
theorem dX11_tellTosser_57 : decode cX11_tellTosser 57 = .ok (.iaload, 1) := by decide +kernel
theorem dX11_tellTosser_58 : decode cX11_tellTosser 58 = .ok (.ireturn, 1) := by decide +kernel
theorem dX11_tellTosser_59 : decode cX11_tellTosser 59 = .ok (.aload_n 0, 1) := by decide +kernel
theorem dX11_tellTosser_60 : decode cX11_tellTosser 60 = .ok (.getfield 28, 3) := by decide +kernel
theorem dX11_tellTosser_63 : decode cX11_tellTosser 63 = .ok (.iload_n 1, 1) := by decide +kernel
theorem dX11_tellTosser_64 : decode cX11_tellTosser 64 = .ok (.iaload, 1) := by decide +kernel
theorem dX11_tellTosser_65 : decode cX11_tellTosser 65 = .ok (.ireturn, 1) := by decide +kernel
theorem dX11_tellTosser_66 : decode cX11_tellTosser 66 = .ok (.aload_n 0, 1) := by decide +kernel
theorem dX11_tellTosser_67 : decode cX11_tellTosser 67 = .ok (.getfield 31, 3) := by decide +kernel
theorem dX11_tellTosser_70 : decode cX11_tellTosser 70 = .ok (.iload_n 1, 1) := by decide +kernel
theorem dX11_tellTosser_71 : decode cX11_tellTosser 71 = .ok (.iaload, 1) := by decide +kernel
theorem dX11_tellTosser_72 : decode cX11_tellTosser 72 = .ok (.ireturn, 1) := by decide +kernel
theorem dX11_tellTosser_73 : decode cX11_tellTosser 73 = .ok (.aload_n 0, 1) := by decide +kernel
theorem dX11_tellTosser_74 : decode cX11_tellTosser 74 = .ok (.getfield 25, 3) := by decide +kernel
theorem dX11_tellTosser_77 : decode cX11_tellTosser 77 = .ok (.iload_n 1, 1) := by decide +kernel
theorem dX11_tellTosser_78 : decode cX11_tellTosser 78 = .ok (.iaload, 1) := by decide +kernel
theorem dX11_tellTosser_79 : decode cX11_tellTosser 79 = .ok (.invokestatic 194, 3) := by decide +kernel
theorem dX11_tellTosser_82 : decode cX11_tellTosser 82 = .ok (.ireturn, 1) := by decide +kernel
theorem dX11_tellTosser_83 : decode cX11_tellTosser 83 = .ok (.aload_n 0, 1) := by decide +kernel
theorem dX11_tellTosser_84 : decode cX11_tellTosser 84 = .ok (.iload_n 1, 1) := by decide +kernel
theorem dX11_tellTosser_85 : decode cX11_tellTosser 85 = .ok (.iload_n 2, 1) := by decide +kernel
theorem dX11_tellTosser_86 : decode cX11_tellTosser 86 = .ok (.invokevirtual 197, 3) := by decide +kernel
theorem dX11_tellTosser_89 : decode cX11_tellTosser 89 = .ok (.ireturn, 1) := by decide +kernel
theorem dX11_tellTosser_90 : decode cX11_tellTosser 90 = .ok (.aload_n 0, 1) := by decide +kernel
theorem dX11_tellTosser_91 : decode cX11_tellTosser 91 = .ok (.iload_n 1, 1) := by decide +kernel
theorem dX11_tellTosser_92 : decode cX11_tellTosser 92 = .ok (.invokevirtual 200, 3) := by decide +kernel
theorem dX11_tellTosser_95 : decode cX11_tellTosser 95 = .ok (.ireturn, 1) := by decide +kernel
theorem dX11_tellTosser_96 : decode cX11_tellTosser 96 = .ok (.aload_n 0, 1) := by decide +kernel
theorem dX11_tellTosser_97 : decode cX11_tellTosser 97 = .ok (.iload_n 1, 1) := by decide +kernel
theorem dX11_tellTosser_98 : decode cX11_tellTosser 98 = .ok (.invokevirtual 203, 3) := by decide +kernel
theorem dX11_tellTosser_101 : decode cX11_tellTosser 101 = .ok (.ireturn, 1) := by decide +kernel
theorem dX11_tellTosser_102 : decode cX11_tellTosser 102 = .ok (.aload_n 0, 1) := by decide +kernel
theorem dX11_tellTosser_103 : decode cX11_tellTosser 103 = .ok (.getfield 34, 3) := by decide +kernel
theorem dX11_tellTosser_106 : decode cX11_tellTosser 106 = .ok (.iload_n 1, 1) := by decide +kernel
theorem dX11_tellTosser_107 : decode cX11_tellTosser 107 = .ok (.iaload, 1) := by decide +kernel
theorem dX11_tellTosser_108 : decode cX11_tellTosser 108 = .ok (.ireturn, 1) := by decide +kernel
theorem dX11_tellTosser_109 : decode cX11_tellTosser 109 = .ok (.bipush (-102), 2) := by decide +kernel
theorem dX11_tellTosser_111 : decode cX11_tellTosser 111 = .ok (.ireturn, 1) := by decide +kernel
theorem dX11_tosser_0 : decode cX11_tosser 0 = .ok (.aload_n 0, 1) := by decide +kernel
theorem dX11_tosser_1 : decode cX11_tosser 1 = .ok (.iload_n 1, 1) := by decide +kernel
theorem dX11_tosser_2 : decode cX11_tosser 2 = .ok (.invokevirtual 163, 3) := by decide +kernel
theorem dX11_tosser_5 : decode cX11_tosser 5 = .ok (.ifCond .eq 12, 3) := by decide +kernel
theorem dX11_tosser_8 : decode cX11_tosser 8 = .ok (.aload_n 0, 1) := by decide +kernel
theorem dX11_tosser_9 : decode cX11_tosser 9 = .ok (.iload_n 1, 1) := by decide +kernel
theorem dX11_tosser_10 : decode cX11_tosser 10 = .ok (.iload_n 2, 1) := by decide +kernel
theorem dX11_tosser_11 : decode cX11_tosser 11 = .ok (.invokevirtual 206, 3) := by decide +kernel
theorem dX11_tosser_14 : decode cX11_tosser 14 = .ok (.goto 5, 3) := by decide +kernel
theorem dX11_tosser_17 : decode cX11_tosser 17 = .ok (.bipush (-101), 2) := by decide +kernel
theorem dX11_tosser_19 : decode cX11_tosser 19 = .ok (.ireturn, 1) := by decide +kernel
theorem dX11_as_0 : decode cX11_as 0 = .ok (.aload_n 0, 1) := by decide +kernel
theorem dX11_as_1 : decode cX11_as 1 = .ok (.iload_n 1, 1) := by decide +kernel
theorem dX11_as_2 : decode cX11_as 2 = .ok (.invokevirtual 163, 3) := by decide +kernel
theorem dX11_as_5 : decode cX11_as 5 = .ok (.ifCond .ne 6, 3) := by decide +kernel
theorem dX11_as_8 : decode cX11_as 8 = .ok (.bipush (-101), 2) := by decide +kernel
theorem dX11_as_10 : decode cX11_as 10 = .ok (.ireturn, 1) := by decide +kernel
theorem dX11_as_11 : decode cX11_as 11 = .ok (.iload_n 2, 1) := by decide +kernel
theorem dX11_as_12 : decode cX11_as 12 = .ok (.i2l, 1) := by decide +kernel
theorem dX11_as_13 : decode cX11_as 13 = .ok (.lconst 0, 1) := by decide +kernel
theorem dX11_as_14 : decode cX11_as 14 = .ok (.ldc2_w 209, 3) := by decide +kernel
theorem dX11_as_17 : decode cX11_as 17 = .ok (.invokestatic 79, 3) := by decide +kernel
theorem dX11_as_20 : decode cX11_as 20 = .ok (.ifCond .ne 6, 3) := by decide +kernel
theorem dX11_as_23 : decode cX11_as 23 = .ok (.bipush (-102), 2) := by decide +kernel
theorem dX11_as_25 : decode cX11_as 25 = .ok (.ireturn, 1) := by decide +kernel
theorem dX11_as_26 : decode cX11_as 26 = .ok (.iload_n 2, 1) := by decide +kernel
theorem dX11_as_27 : decode cX11_as 27 = .ok (.ifCond .eq 28, 3) := by decide +kernel
theorem dX11_as_30 : decode cX11_as 30 = .ok (.iload_n 2, 1) := by decide +kernel
theorem dX11_as_31 : decode cX11_as 31 = .ok (.aload_n 0, 1) := by decide +kernel
theorem dX11_as_32 : decode cX11_as 32 = .ok (.getfield 25, 3) := by decide +kernel
theorem dX11_as_35 : decode cX11_as 35 = .ok (.iload_n 1, 1) := by decide +kernel
theorem dX11_as_36 : decode cX11_as 36 = .ok (.iaload, 1) := by decide +kernel
theorem dX11_as_37 : decode cX11_as 37 = .ok (.if_icmp .eq 18, 3) := by decide +kernel
theorem dX11_as_40 : decode cX11_as 40 = .ok (.iload_n 2, 1) := by decide +kernel
theorem dX11_as_41 : decode cX11_as 41 = .ok (.iconst 2, 1) := by decide +kernel
theorem dX11_as_42 : decode cX11_as 42 = .ok (.if_icmp .ne 17, 3) := by decide +kernel
theorem dX11_as_45 : decode cX11_as 45 = .ok (.aload_n 0, 1) := by decide +kernel
theorem dX11_as_46 : decode cX11_as 46 = .ok (.getfield 25, 3) := by decide +kernel
theorem dX11_as_49 : decode cX11_as 49 = .ok (.iload_n 1, 1) := by decide +kernel
theorem dX11_as_50 : decode cX11_as 50 = .ok (.iaload, 1) := by decide +kernel
theorem dX11_as_51 : decode cX11_as 51 = .ok (.iconst 4, 1) := by decide +kernel
theorem dX11_as_52 : decode cX11_as 52 = .ok (.if_icmp .ne 7, 3) := by decide +kernel
theorem dX11_as_55 : decode cX11_as 55 = .ok (.iconst 1, 1) := by decide +kernel
theorem dX11_as_56 : decode cX11_as 56 = .ok (.goto 4, 3) := by decide +kernel
theorem dX11_as_59 : decode cX11_as 59 = .ok (.iconst 0, 1) := by decide +kernel
theorem dX11_as_60 : decode cX11_as 60 = .ok (.istore_n 3, 1) := by decide +kernel
theorem dX11_as_61 : decode cX11_as 61 = .ok (.iload_n 3, 1) := by decide +kernel
theorem dX11_as_62 : decode cX11_as 62 = .ok (.ifCond .eq 7, 3) := by decide +kernel
theorem dX11_as_65 : decode cX11_as 65 = .ok (.iload_n 1, 1) := by decide +kernel
theorem dX11_as_66 : decode cX11_as 66 = .ok (.goto 4, 3) := by decide +kernel
theorem dX11_as_69 : decode cX11_as 69 = .ok (.iconst (-1), 1) := by decide +kernel
theorem dX11_as_70 : decode cX11_as 70 = .ok (.ireturn, 1) := by decide +kernel
theorem dX11_toss_0 : decode cX11_toss 0 = .ok (.aload_n 0, 1) := by decide +kernel
theorem dX11_toss_1 : decode cX11_toss 1 = .ok (.iload_n 1, 1) := by decide +kernel
theorem dX11_toss_2 : decode cX11_toss 2 = .ok (.invokevirtual 163, 3) := by decide +kernel
theorem dX11_toss_5 : decode cX11_toss 5 = .ok (.ifCond .eq 10, 3) := by decide +kernel
theorem dX11_toss_8 : decode cX11_toss 8 = .ok (.iload_n 2, 1) := by decide +kernel
theorem dX11_toss_9 : decode cX11_toss 9 = .ok (.invokestatic 166, 3) := by decide +kernel
theorem dX11_toss_12 : decode cX11_toss 12 = .ok (.ifCond .ne 6, 3) := by decide +kernel
theorem dX11_toss_15 : decode cX11_toss 15 = .ok (.bipush (-101), 2) := by decide +kernel
theorem dX11_toss_17 : decode cX11_toss 17 = .ok (.ireturn, 1) := by decide +kernel
theorem dX11_toss_18 : decode cX11_toss 18 = .ok (.aload_n 0, 1) := by decide +kernel
theorem dX11_toss_19 : decode cX11_toss 19 = .ok (.getfield 125, 3) := by decide +kernel
theorem dX11_toss_22 : decode cX11_toss 22 = .ok (.aload_n 0, 1) := by decide +kernel
theorem dX11_toss_23 : decode cX11_toss 23 = .ok (.getfield 25, 3) := by decide +kernel
theorem dX11_toss_26 : decode cX11_toss 26 = .ok (.iload_n 1, 1) := by decide +kernel
theorem dX11_toss_27 : decode cX11_toss 27 = .ok (.iaload, 1) := by decide +kernel
theorem dX11_toss_28 : decode cX11_toss 28 = .ok (.invokestatic 194, 3) := by decide +kernel
theorem dX11_toss_31 : decode cX11_toss 31 = .ok (.if_icmp .ge 6, 3) := by decide +kernel
theorem dX11_toss_34 : decode cX11_toss 34 = .ok (.bipush (-103), 2) := by decide +kernel
theorem dX11_toss_36 : decode cX11_toss 36 = .ok (.ireturn, 1) := by decide +kernel
theorem dX11_toss_37 : decode cX11_toss 37 = .ok (.aload_n 0, 1) := by decide +kernel
theorem dX11_toss_38 : decode cX11_toss 38 = .ok (.getfield 131, 3) := by decide +kernel
theorem dX11_toss_41 : decode cX11_toss 41 = .ok (.sipush 999, 3) := by decide +kernel
theorem dX11_toss_44 : decode cX11_toss 44 = .ok (.if_icmp .ne 6, 3) := by decide +kernel
theorem dX11_toss_47 : decode cX11_toss 47 = .ok (.bipush (-104), 2) := by decide +kernel
theorem dX11_toss_49 : decode cX11_toss 49 = .ok (.ireturn, 1) := by decide +kernel
theorem dX11_toss_50 : decode cX11_toss 50 = .ok (.aload_n 0, 1) := by decide +kernel
theorem dX11_toss_51 : decode cX11_toss 51 = .ok (.iload_n 1, 1) := by decide +kernel
theorem dX11_toss_52 : decode cX11_toss 52 = .ok (.iload_n 2, 1) := by decide +kernel
theorem dX11_toss_53 : decode cX11_toss 53 = .ok (.aload_n 0, 1) := by decide +kernel
theorem dX11_toss_54 : decode cX11_toss 54 = .ok (.getfield 122, 3) := by decide +kernel
theorem dX11_toss_57 : decode cX11_toss 57 = .ok (.invokevirtual 169, 3) := by decide +kernel
theorem dX11_toss_60 : decode cX11_toss 60 = .ok (.aload_n 0, 1) := by decide +kernel
theorem dX11_toss_61 : decode cX11_toss 61 = .ok (.invokevirtual 188, 3) := by decide +kernel
theorem dX11_toss_64 : decode cX11_toss 64 = .ok (.iand, 1) := by decide +kernel
theorem dX11_toss_65 : decode cX11_toss 65 = .ok (.istore_n 3, 1) := by decide +kernel
theorem dX11_toss_66 : decode cX11_toss 66 = .ok (.iconst 0, 1) := by decide +kernel
theorem dX11_toss_67 : decode cX11_toss 67 = .ok (.istore 4, 2) := by decide +kernel
theorem dX11_toss_69 : decode cX11_toss 69 = .ok (.iload 4, 2) := by decide +kernel
theorem dX11_toss_71 : decode cX11_toss 71 = .ok (.aload_n 0, 1) := by decide +kernel
theorem dX11_toss_72 : decode cX11_toss 72 = .ok (.getfield 116, 3) := by decide +kernel
theorem dX11_toss_75 : decode cX11_toss 75 = .ok (.if_icmp .ge 25, 3) := by decide +kernel
theorem dX11_toss_78 : decode cX11_toss 78 = .ok (.aload_n 0, 1) := by decide +kernel
theorem dX11_toss_79 : decode cX11_toss 79 = .ok (.getfield 16, 3) := by decide +kernel
theorem dX11_toss_82 : decode cX11_toss 82 = .ok (.iload 4, 2) := by decide +kernel
theorem dX11_toss_84 : decode cX11_toss 84 = .ok (.dup2, 1) := by decide +kernel
theorem dX11_toss_85 : decode cX11_toss 85 = .ok (.iaload, 1) := by decide +kernel
theorem dX11_toss_86 : decode cX11_toss 86 = .ok (.iload_n 3, 1) := by decide +kernel
theorem dX11_toss_87 : decode cX11_toss 87 = .ok (.iload 4, 2) := by decide +kernel
theorem dX11_toss_89 : decode cX11_toss 89 = .ok (.ishr, 1) := by decide +kernel
theorem dX11_toss_90 : decode cX11_toss 90 = .ok (.iconst 1, 1) := by decide +kernel
theorem dX11_toss_91 : decode cX11_toss 91 = .ok (.iand, 1) := by decide +kernel
theorem dX11_toss_92 : decode cX11_toss 92 = .ok (.ior, 1) := by decide +kernel
theorem dX11_toss_93 : decode cX11_toss 93 = .ok (.iastore, 1) := by decide +kernel
theorem dX11_toss_94 : decode cX11_toss 94 = .ok (.iinc 4 1, 3) := by decide +kernel
theorem dX11_toss_97 : decode cX11_toss 97 = .ok (.goto (-28), 3) := by decide +kernel
theorem dX11_toss_100 : decode cX11_toss 100 = .ok (.aload_n 0, 1) := by decide +kernel
theorem dX11_toss_101 : decode cX11_toss 101 = .ok (.dup, 1) := by decide +kernel
theorem dX11_toss_102 : decode cX11_toss 102 = .ok (.getfield 125, 3) := by decide +kernel
theorem dX11_toss_105 : decode cX11_toss 105 = .ok (.aload_n 0, 1) := by decide +kernel
theorem dX11_toss_106 : decode cX11_toss 106 = .ok (.getfield 25, 3) := by decide +kernel
theorem dX11_toss_109 : decode cX11_toss 109 = .ok (.iload_n 1, 1) := by decide +kernel
theorem dX11_toss_110 : decode cX11_toss 110 = .ok (.iaload, 1) := by decide +kernel
theorem dX11_toss_111 : decode cX11_toss 111 = .ok (.invokestatic 194, 3) := by decide +kernel
theorem dX11_toss_114 : decode cX11_toss 114 = .ok (.isub, 1) := by decide +kernel
theorem dX11_toss_115 : decode cX11_toss 115 = .ok (.putfield 125, 3) := by decide +kernel
theorem dX11_toss_118 : decode cX11_toss 118 = .ok (.aload_n 0, 1) := by decide +kernel
theorem dX11_toss_119 : decode cX11_toss 119 = .ok (.dup, 1) := by decide +kernel
theorem dX11_toss_120 : decode cX11_toss 120 = .ok (.getfield 131, 3) := by decide +kernel
theorem dX11_toss_123 : decode cX11_toss 123 = .ok (.iconst 1, 1) := by decide +kernel
theorem dX11_toss_124 : decode cX11_toss 124 = .ok (.iadd, 1) := by decide +kernel
theorem dX11_toss_125 : decode cX11_toss 125 = .ok (.putfield 131, 3) := by decide +kernel
theorem dX11_toss_128 : decode cX11_toss 128 = .ok (.aload_n 0, 1) := by decide +kernel
theorem dX11_toss_129 : decode cX11_toss 129 = .ok (.getfield 34, 3) := by decide +kernel
theorem dX11_toss_132 : decode cX11_toss 132 = .ok (.iload_n 1, 1) := by decide +kernel
theorem dX11_toss_133 : decode cX11_toss 133 = .ok (.dup2, 1) := by decide +kernel
theorem dX11_toss_134 : decode cX11_toss 134 = .ok (.iaload, 1) := by decide +kernel
theorem dX11_toss_135 : decode cX11_toss 135 = .ok (.iconst 1, 1) := by decide +kernel
theorem dX11_toss_136 : decode cX11_toss 136 = .ok (.iadd, 1) := by decide +kernel
theorem dX11_toss_137 : decode cX11_toss 137 = .ok (.iastore, 1) := by decide +kernel
theorem dX11_toss_138 : decode cX11_toss 138 = .ok (.iload_n 3, 1) := by decide +kernel
theorem dX11_toss_139 : decode cX11_toss 139 = .ok (.invokestatic 191, 3) := by decide +kernel
theorem dX11_toss_142 : decode cX11_toss 142 = .ok (.ireturn, 1) := by decide +kernel
theorem dX11_wind_0 : decode cX11_wind 0 = .ok (.iload_n 1, 1) := by decide +kernel
theorem dX11_wind_1 : decode cX11_wind 1 = .ok (.i2l, 1) := by decide +kernel
theorem dX11_wind_2 : decode cX11_wind 2 = .ok (.ldc2_w 211, 3) := by decide +kernel
theorem dX11_wind_5 : decode cX11_wind 5 = .ok (.lconst 1, 1) := by decide +kernel
theorem dX11_wind_6 : decode cX11_wind 6 = .ok (.invokestatic 79, 3) := by decide +kernel
theorem dX11_wind_9 : decode cX11_wind 9 = .ok (.ifCond .ne 6, 3) := by decide +kernel
theorem dX11_wind_12 : decode cX11_wind 12 = .ok (.bipush (-102), 2) := by decide +kernel
theorem dX11_wind_14 : decode cX11_wind 14 = .ok (.ireturn, 1) := by decide +kernel
theorem dX11_wind_15 : decode cX11_wind 15 = .ok (.aload_n 0, 1) := by decide +kernel
theorem dX11_wind_16 : decode cX11_wind 16 = .ok (.invokevirtual 213, 3) := by decide +kernel
theorem dX11_wind_19 : decode cX11_wind 19 = .ok (.ifCond .eq 6, 3) := by decide +kernel
theorem dX11_wind_22 : decode cX11_wind 22 = .ok (.bipush (-103), 2) := by decide +kernel
theorem dX11_wind_24 : decode cX11_wind 24 = .ok (.ireturn, 1) := by decide +kernel
theorem dX11_wind_25 : decode cX11_wind 25 = .ok (.aload_n 0, 1) := by decide +kernel
theorem dX11_wind_26 : decode cX11_wind 26 = .ok (.getfield 122, 3) := by decide +kernel
theorem dX11_wind_29 : decode cX11_wind 29 = .ok (.istore_n 2, 1) := by decide +kernel
theorem dX11_wind_30 : decode cX11_wind 30 = .ok (.aload_n 0, 1) := by decide +kernel
theorem dX11_wind_31 : decode cX11_wind 31 = .ok (.iload_n 1, 1) := by decide +kernel
theorem dX11_wind_32 : decode cX11_wind 32 = .ok (.putfield 122, 3) := by decide +kernel
theorem dX11_wind_35 : decode cX11_wind 35 = .ok (.iload_n 2, 1) := by decide +kernel
theorem dX11_wind_36 : decode cX11_wind 36 = .ok (.iconst 1, 1) := by decide +kernel
theorem dX11_wind_37 : decode cX11_wind 37 = .ok (.iadd, 1) := by decide +kernel
theorem dX11_wind_38 : decode cX11_wind 38 = .ok (.ireturn, 1) := by decide +kernel
theorem dX11_morning_0 : decode cX11_morning 0 = .ok (.aload_n 0, 1) := by decide +kernel
theorem dX11_morning_1 : decode cX11_morning 1 = .ok (.invokevirtual 213, 3) := by decide +kernel
theorem dX11_morning_4 : decode cX11_morning 4 = .ok (.ifCond .eq 6, 3) := by decide +kernel
theorem dX11_morning_7 : decode cX11_morning 7 = .ok (.bipush (-103), 2) := by decide +kernel
theorem dX11_morning_9 : decode cX11_morning 9 = .ok (.ireturn, 1) := by decide +kernel
theorem dX11_morning_10 : decode cX11_morning 10 = .ok (.aload_n 0, 1) := by decide +kernel
theorem dX11_morning_11 : decode cX11_morning 11 = .ok (.getfield 128, 3) := by decide +kernel
theorem dX11_morning_14 : decode cX11_morning 14 = .ok (.sipush 999, 3) := by decide +kernel
theorem dX11_morning_17 : decode cX11_morning 17 = .ok (.if_icmp .ne 6, 3) := by decide +kernel
theorem dX11_morning_20 : decode cX11_morning 20 = .ok (.bipush (-104), 2) := by decide +kernel
theorem dX11_morning_22 : decode cX11_morning 22 = .ok (.ireturn, 1) := by decide +kernel
theorem dX11_morning_23 : decode cX11_morning 23 = .ok (.iconst 0, 1) := by decide +kernel
theorem dX11_morning_24 : decode cX11_morning 24 = .ok (.istore_n 1, 1) := by decide +kernel
theorem dX11_morning_25 : decode cX11_morning 25 = .ok (.iconst 0, 1) := by decide +kernel
theorem dX11_morning_26 : decode cX11_morning 26 = .ok (.istore_n 2, 1) := by decide +kernel
theorem dX11_morning_27 : decode cX11_morning 27 = .ok (.iload_n 2, 1) := by decide +kernel
theorem dX11_morning_28 : decode cX11_morning 28 = .ok (.aload_n 0, 1) := by decide +kernel
theorem dX11_morning_29 : decode cX11_morning 29 = .ok (.getfield 116, 3) := by decide +kernel
theorem dX11_morning_32 : decode cX11_morning 32 = .ok (.if_icmp .ge 57, 3) := by decide +kernel
theorem dX11_morning_35 : decode cX11_morning 35 = .ok (.aload_n 0, 1) := by decide +kernel
theorem dX11_morning_36 : decode cX11_morning 36 = .ok (.getfield 19, 3) := by decide +kernel
theorem dX11_morning_39 : decode cX11_morning 39 = .ok (.iload_n 2, 1) := by decide +kernel
theorem dX11_morning_40 : decode cX11_morning 40 = .ok (.dup2, 1) := by decide +kernel
theorem dX11_morning_41 : decode cX11_morning 41 = .ok (.iaload, 1) := by decide +kernel
theorem dX11_morning_42 : decode cX11_morning 42 = .ok (.aload_n 0, 1) := by decide +kernel
theorem dX11_morning_43 : decode cX11_morning 43 = .ok (.getfield 16, 3) := by decide +kernel
theorem dX11_morning_46 : decode cX11_morning 46 = .ok (.iload_n 2, 1) := by decide +kernel
theorem dX11_morning_47 : decode cX11_morning 47 = .ok (.iaload, 1) := by decide +kernel
theorem dX11_morning_48 : decode cX11_morning 48 = .ok (.iadd, 1) := by decide +kernel
theorem dX11_morning_49 : decode cX11_morning 49 = .ok (.iastore, 1) := by decide +kernel
theorem dX11_morning_50 : decode cX11_morning 50 = .ok (.aload_n 0, 1) := by decide +kernel
theorem dX11_morning_51 : decode cX11_morning 51 = .ok (.getfield 22, 3) := by decide +kernel
theorem dX11_morning_54 : decode cX11_morning 54 = .ok (.iload_n 2, 1) := by decide +kernel
theorem dX11_morning_55 : decode cX11_morning 55 = .ok (.dup2, 1) := by decide +kernel
theorem dX11_morning_56 : decode cX11_morning 56 = .ok (.iaload, 1) := by decide +kernel
theorem dX11_morning_57 : decode cX11_morning 57 = .ok (.iconst 1, 1) := by decide +kernel
theorem dX11_morning_58 : decode cX11_morning 58 = .ok (.aload_n 0, 1) := by decide +kernel
theorem dX11_morning_59 : decode cX11_morning 59 = .ok (.getfield 16, 3) := by decide +kernel
theorem dX11_morning_62 : decode cX11_morning 62 = .ok (.iload_n 2, 1) := by decide +kernel
theorem dX11_morning_63 : decode cX11_morning 63 = .ok (.iaload, 1) := by decide +kernel
theorem dX11_morning_64 : decode cX11_morning 64 = .ok (.isub, 1) := by decide +kernel
theorem dX11_morning_65 : decode cX11_morning 65 = .ok (.iadd, 1) := by decide +kernel
theorem dX11_morning_66 : decode cX11_morning 66 = .ok (.iastore, 1) := by decide +kernel
theorem dX11_morning_67 : decode cX11_morning 67 = .ok (.iload_n 1, 1) := by decide +kernel
theorem dX11_morning_68 : decode cX11_morning 68 = .ok (.aload_n 0, 1) := by decide +kernel
theorem dX11_morning_69 : decode cX11_morning 69 = .ok (.getfield 16, 3) := by decide +kernel
theorem dX11_morning_72 : decode cX11_morning 72 = .ok (.iload_n 2, 1) := by decide +kernel
theorem dX11_morning_73 : decode cX11_morning 73 = .ok (.iaload, 1) := by decide +kernel
theorem dX11_morning_74 : decode cX11_morning 74 = .ok (.iadd, 1) := by decide +kernel
theorem dX11_morning_75 : decode cX11_morning 75 = .ok (.istore_n 1, 1) := by decide +kernel
theorem dX11_morning_76 : decode cX11_morning 76 = .ok (.aload_n 0, 1) := by decide +kernel
theorem dX11_morning_77 : decode cX11_morning 77 = .ok (.getfield 16, 3) := by decide +kernel
theorem dX11_morning_80 : decode cX11_morning 80 = .ok (.iload_n 2, 1) := by decide +kernel
theorem dX11_morning_81 : decode cX11_morning 81 = .ok (.iconst 0, 1) := by decide +kernel
theorem dX11_morning_82 : decode cX11_morning 82 = .ok (.iastore, 1) := by decide +kernel
theorem dX11_morning_83 : decode cX11_morning 83 = .ok (.iinc 2 1, 3) := by decide +kernel
theorem dX11_morning_86 : decode cX11_morning 86 = .ok (.goto (-59), 3) := by decide +kernel
theorem dX11_morning_89 : decode cX11_morning 89 = .ok (.aload_n 0, 1) := by decide +kernel
theorem dX11_morning_90 : decode cX11_morning 90 = .ok (.dup, 1) := by decide +kernel
theorem dX11_morning_91 : decode cX11_morning 91 = .ok (.getfield 128, 3) := by decide +kernel
theorem dX11_morning_94 : decode cX11_morning 94 = .ok (.iconst 1, 1) := by decide +kernel
theorem dX11_morning_95 : decode cX11_morning 95 = .ok (.iadd, 1) := by decide +kernel
theorem dX11_morning_96 : decode cX11_morning 96 = .ok (.putfield 128, 3) := by decide +kernel
theorem dX11_morning_99 : decode cX11_morning 99 = .ok (.iload_n 1, 1) := by decide +kernel
theorem dX11_morning_100 : decode cX11_morning 100 = .ok (.ireturn, 1) := by decide +kernel
theorem dX11_move_0 : decode cX11_move 0 = .ok (.aload_n 0, 1) := by decide +kernel
theorem dX11_move_1 : decode cX11_move 1 = .ok (.iload_n 1, 1) := by decide +kernel
theorem dX11_move_2 : decode cX11_move 2 = .ok (.invokevirtual 182, 3) := by decide +kernel
theorem dX11_move_5 : decode cX11_move 5 = .ok (.ifCond .eq 10, 3) := by decide +kernel
theorem dX11_move_8 : decode cX11_move 8 = .ok (.iload_n 2, 1) := by decide +kernel
theorem dX11_move_9 : decode cX11_move 9 = .ok (.invokestatic 166, 3) := by decide +kernel
theorem dX11_move_12 : decode cX11_move 12 = .ok (.ifCond .ne 6, 3) := by decide +kernel
theorem dX11_move_15 : decode cX11_move 15 = .ok (.bipush (-101), 2) := by decide +kernel
theorem dX11_move_17 : decode cX11_move 17 = .ok (.ireturn, 1) := by decide +kernel
theorem dX11_move_18 : decode cX11_move 18 = .ok (.aload_n 0, 1) := by decide +kernel
theorem dX11_move_19 : decode cX11_move 19 = .ok (.iload_n 1, 1) := by decide +kernel
theorem dX11_move_20 : decode cX11_move 20 = .ok (.iload_n 2, 1) := by decide +kernel
theorem dX11_move_21 : decode cX11_move 21 = .ok (.invokevirtual 172, 3) := by decide +kernel
theorem dX11_move_24 : decode cX11_move 24 = .ok (.ifCond .ne 6, 3) := by decide +kernel
theorem dX11_move_27 : decode cX11_move 27 = .ok (.bipush (-103), 2) := by decide +kernel
theorem dX11_move_29 : decode cX11_move 29 = .ok (.ireturn, 1) := by decide +kernel
theorem dX11_move_30 : decode cX11_move 30 = .ok (.aload_n 0, 1) := by decide +kernel
theorem dX11_move_31 : decode cX11_move 31 = .ok (.getfield 13, 3) := by decide +kernel
theorem dX11_move_34 : decode cX11_move 34 = .ok (.iload_n 1, 1) := by decide +kernel
theorem dX11_move_35 : decode cX11_move 35 = .ok (.iaload, 1) := by decide +kernel
theorem dX11_move_36 : decode cX11_move 36 = .ok (.istore_n 3, 1) := by decide +kernel
theorem dX11_move_37 : decode cX11_move 37 = .ok (.aload_n 0, 1) := by decide +kernel
theorem dX11_move_38 : decode cX11_move 38 = .ok (.getfield 13, 3) := by decide +kernel
theorem dX11_move_41 : decode cX11_move 41 = .ok (.iload_n 1, 1) := by decide +kernel
theorem dX11_move_42 : decode cX11_move 42 = .ok (.iload_n 2, 1) := by decide +kernel
theorem dX11_move_43 : decode cX11_move 43 = .ok (.iastore, 1) := by decide +kernel
theorem dX11_move_44 : decode cX11_move 44 = .ok (.aload_n 0, 1) := by decide +kernel
theorem dX11_move_45 : decode cX11_move 45 = .ok (.getfield 16, 3) := by decide +kernel
theorem dX11_move_48 : decode cX11_move 48 = .ok (.iload_n 1, 1) := by decide +kernel
theorem dX11_move_49 : decode cX11_move 49 = .ok (.iconst 0, 1) := by decide +kernel
theorem dX11_move_50 : decode cX11_move 50 = .ok (.iastore, 1) := by decide +kernel
theorem dX11_move_51 : decode cX11_move 51 = .ok (.iload_n 3, 1) := by decide +kernel
theorem dX11_move_52 : decode cX11_move 52 = .ok (.ireturn, 1) := by decide +kernel
theorem dX11_train_0 : decode cX11_train 0 = .ok (.aload_n 0, 1) := by decide +kernel
theorem dX11_train_1 : decode cX11_train 1 = .ok (.iload_n 1, 1) := by decide +kernel
theorem dX11_train_2 : decode cX11_train 2 = .ok (.invokevirtual 163, 3) := by decide +kernel
theorem dX11_train_5 : decode cX11_train 5 = .ok (.ifCond .ne 6, 3) := by decide +kernel
theorem dX11_train_8 : decode cX11_train 8 = .ok (.bipush (-101), 2) := by decide +kernel
theorem dX11_train_10 : decode cX11_train 10 = .ok (.ireturn, 1) := by decide +kernel
theorem dX11_train_11 : decode cX11_train 11 = .ok (.iload_n 2, 1) := by decide +kernel
theorem dX11_train_12 : decode cX11_train 12 = .ok (.i2l, 1) := by decide +kernel
theorem dX11_train_13 : decode cX11_train 13 = .ok (.lconst 0, 1) := by decide +kernel
theorem dX11_train_14 : decode cX11_train 14 = .ok (.ldc2_w 209, 3) := by decide +kernel
theorem dX11_train_17 : decode cX11_train 17 = .ok (.invokestatic 79, 3) := by decide +kernel
theorem dX11_train_20 : decode cX11_train 20 = .ok (.ifCond .eq 15, 3) := by decide +kernel
theorem dX11_train_23 : decode cX11_train 23 = .ok (.iload_n 3, 1) := by decide +kernel
theorem dX11_train_24 : decode cX11_train 24 = .ok (.i2l, 1) := by decide +kernel
theorem dX11_train_25 : decode cX11_train 25 = .ok (.lconst 0, 1) := by decide +kernel
theorem dX11_train_26 : decode cX11_train 26 = .ok (.ldc2_w 209, 3) := by decide +kernel
theorem dX11_train_29 : decode cX11_train 29 = .ok (.invokestatic 79, 3) := by decide +kernel
theorem dX11_train_32 : decode cX11_train 32 = .ok (.ifCond .ne 6, 3) := by decide +kernel
theorem dX11_train_35 : decode cX11_train 35 = .ok (.bipush (-102), 2) := by decide +kernel
theorem dX11_train_37 : decode cX11_train 37 = .ok (.ireturn, 1) := by decide +kernel
theorem dX11_train_38 : decode cX11_train 38 = .ok (.aload_n 0, 1) := by decide +kernel
theorem dX11_train_39 : decode cX11_train 39 = .ok (.getfield 31, 3) := by decide +kernel
theorem dX11_train_42 : decode cX11_train 42 = .ok (.iload_n 1, 1) := by decide +kernel
theorem dX11_train_43 : decode cX11_train 43 = .ok (.iaload, 1) := by decide +kernel
theorem dX11_train_44 : decode cX11_train 44 = .ok (.istore 4, 2) := by decide +kernel
theorem dX11_train_46 : decode cX11_train 46 = .ok (.aload_n 0, 1) := by decide +kernel
theorem dX11_train_47 : decode cX11_train 47 = .ok (.getfield 28, 3) := by decide +kernel
theorem dX11_train_50 : decode cX11_train 50 = .ok (.iload_n 1, 1) := by decide +kernel
theorem dX11_train_51 : decode cX11_train 51 = .ok (.iload_n 2, 1) := by decide +kernel
theorem dX11_train_52 : decode cX11_train 52 = .ok (.iastore, 1) := by decide +kernel
theorem dX11_train_53 : decode cX11_train 53 = .ok (.aload_n 0, 1) := by decide +kernel
theorem dX11_train_54 : decode cX11_train 54 = .ok (.getfield 31, 3) := by decide +kernel
theorem dX11_train_57 : decode cX11_train 57 = .ok (.iload_n 1, 1) := by decide +kernel
theorem dX11_train_58 : decode cX11_train 58 = .ok (.iload_n 3, 1) := by decide +kernel
theorem dX11_train_59 : decode cX11_train 59 = .ok (.iastore, 1) := by decide +kernel
theorem dX11_train_60 : decode cX11_train 60 = .ok (.iload 4, 2) := by decide +kernel
theorem dX11_train_62 : decode cX11_train 62 = .ok (.ireturn, 1) := by decide +kernel
theorem dX11_stir_0 : decode cX11_stir 0 = .ok (.iload_n 1, 1) := by decide +kernel
theorem dX11_stir_1 : decode cX11_stir 1 = .ok (.i2l, 1) := by decide +kernel
theorem dX11_stir_2 : decode cX11_stir 2 = .ok (.lconst 1, 1) := by decide +kernel
theorem dX11_stir_3 : decode cX11_stir 3 = .ok (.ldc2_w 217, 3) := by decide +kernel
theorem dX11_stir_6 : decode cX11_stir 6 = .ok (.invokestatic 79, 3) := by decide +kernel
theorem dX11_stir_9 : decode cX11_stir 9 = .ok (.ifCond .ne 6, 3) := by decide +kernel
theorem dX11_stir_12 : decode cX11_stir 12 = .ok (.bipush (-102), 2) := by decide +kernel
theorem dX11_stir_14 : decode cX11_stir 14 = .ok (.ireturn, 1) := by decide +kernel
theorem dX11_stir_15 : decode cX11_stir 15 = .ok (.aload_n 0, 1) := by decide +kernel
theorem dX11_stir_16 : decode cX11_stir 16 = .ok (.invokevirtual 213, 3) := by decide +kernel
theorem dX11_stir_19 : decode cX11_stir 19 = .ok (.ifCond .eq 6, 3) := by decide +kernel
theorem dX11_stir_22 : decode cX11_stir 22 = .ok (.bipush (-103), 2) := by decide +kernel
theorem dX11_stir_24 : decode cX11_stir 24 = .ok (.ireturn, 1) := by decide +kernel
theorem dX11_stir_25 : decode cX11_stir 25 = .ok (.aload_n 0, 1) := by decide +kernel
theorem dX11_stir_26 : decode cX11_stir 26 = .ok (.getfield 125, 3) := by decide +kernel
theorem dX11_stir_29 : decode cX11_stir 29 = .ok (.iload_n 1, 1) := by decide +kernel
theorem dX11_stir_30 : decode cX11_stir 30 = .ok (.iadd, 1) := by decide +kernel
theorem dX11_stir_31 : decode cX11_stir 31 = .ok (.bipush 99, 2) := by decide +kernel
theorem dX11_stir_33 : decode cX11_stir 33 = .ok (.if_icmp .le 6, 3) := by decide +kernel
theorem dX11_stir_36 : decode cX11_stir 36 = .ok (.bipush (-104), 2) := by decide +kernel
theorem dX11_stir_38 : decode cX11_stir 38 = .ok (.ireturn, 1) := by decide +kernel
theorem dX11_stir_39 : decode cX11_stir 39 = .ok (.aload_n 0, 1) := by decide +kernel
theorem dX11_stir_40 : decode cX11_stir 40 = .ok (.dup, 1) := by decide +kernel
theorem dX11_stir_41 : decode cX11_stir 41 = .ok (.getfield 125, 3) := by decide +kernel
theorem dX11_stir_44 : decode cX11_stir 44 = .ok (.iload_n 1, 1) := by decide +kernel
theorem dX11_stir_45 : decode cX11_stir 45 = .ok (.iadd, 1) := by decide +kernel
theorem dX11_stir_46 : decode cX11_stir 46 = .ok (.putfield 125, 3) := by decide +kernel
theorem dX11_stir_49 : decode cX11_stir 49 = .ok (.aload_n 0, 1) := by decide +kernel
theorem dX11_stir_50 : decode cX11_stir 50 = .ok (.getfield 125, 3) := by decide +kernel
theorem dX11_stir_53 : decode cX11_stir 53 = .ok (.ireturn, 1) := by decide +kernel
theorem dX11_priceOf_0 : decode cX11_priceOf 0 = .ok (.bipush 100, 2) := by decide +kernel
theorem dX11_priceOf_2 : decode cX11_priceOf 2 = .ok (.aload_n 0, 1) := by decide +kernel
theorem dX11_priceOf_3 : decode cX11_priceOf 3 = .ok (.getfield 25, 3) := by decide +kernel
theorem dX11_priceOf_6 : decode cX11_priceOf 6 = .ok (.iload_n 1, 1) := by decide +kernel
theorem dX11_priceOf_7 : decode cX11_priceOf 7 = .ok (.bipush 36, 2) := by decide +kernel
theorem dX11_priceOf_9 : decode cX11_priceOf 9 = .ok (.idiv, 1) := by decide +kernel
theorem dX11_priceOf_10 : decode cX11_priceOf 10 = .ok (.iaload, 1) := by decide +kernel
theorem dX11_priceOf_11 : decode cX11_priceOf 11 = .ok (.invokestatic 194, 3) := by decide +kernel
theorem dX11_priceOf_14 : decode cX11_priceOf 14 = .ok (.imul, 1) := by decide +kernel
theorem dX11_priceOf_15 : decode cX11_priceOf 15 = .ok (.iconst 1, 1) := by decide +kernel
theorem dX11_priceOf_16 : decode cX11_priceOf 16 = .ok (.iadd, 1) := by decide +kernel
theorem dX11_priceOf_17 : decode cX11_priceOf 17 = .ok (.ireturn, 1) := by decide +kernel
theorem dX11_layLeast_0 : decode cX11_layLeast 0 = .ok (.bipush 36, 2) := by decide +kernel
theorem dX11_layLeast_2 : decode cX11_layLeast 2 = .ok (.aload_n 0, 1) := by decide +kernel
theorem dX11_layLeast_3 : decode cX11_layLeast 3 = .ok (.getfield 119, 3) := by decide +kernel
theorem dX11_layLeast_6 : decode cX11_layLeast 6 = .ok (.imul, 1) := by decide +kernel
theorem dX11_layLeast_7 : decode cX11_layLeast 7 = .ok (.istore_n 1, 1) := by decide +kernel
theorem dX11_layLeast_8 : decode cX11_layLeast 8 = .ok (.iconst 0, 1) := by decide +kernel
theorem dX11_layLeast_9 : decode cX11_layLeast 9 = .ok (.istore_n 2, 1) := by decide +kernel
theorem dX11_layLeast_10 : decode cX11_layLeast 10 = .ok (.iload_n 2, 1) := by decide +kernel
theorem dX11_layLeast_11 : decode cX11_layLeast 11 = .ok (.bipush 64, 2) := by decide +kernel
theorem dX11_layLeast_13 : decode cX11_layLeast 13 = .ok (.if_icmp .ge 30, 3) := by decide +kernel
theorem dX11_layLeast_16 : decode cX11_layLeast 16 = .ok (.aload_n 0, 1) := by decide +kernel
theorem dX11_layLeast_17 : decode cX11_layLeast 17 = .ok (.getfield 40, 3) := by decide +kernel
theorem dX11_layLeast_20 : decode cX11_layLeast 20 = .ok (.bipush 64, 2) := by decide +kernel
theorem dX11_layLeast_22 : decode cX11_layLeast 22 = .ok (.iload_n 1, 1) := by decide +kernel
theorem dX11_layLeast_23 : decode cX11_layLeast 23 = .ok (.imul, 1) := by decide +kernel
theorem dX11_layLeast_24 : decode cX11_layLeast 24 = .ok (.iload_n 2, 1) := by decide +kernel
theorem dX11_layLeast_25 : decode cX11_layLeast 25 = .ok (.iadd, 1) := by decide +kernel
theorem dX11_layLeast_26 : decode cX11_layLeast 26 = .ok (.iload_n 2, 1) := by decide +kernel
theorem dX11_layLeast_27 : decode cX11_layLeast 27 = .ok (.ifCond .ne 7, 3) := by decide +kernel
theorem dX11_layLeast_30 : decode cX11_layLeast 30 = .ok (.iconst 0, 1) := by decide +kernel
theorem dX11_layLeast_31 : decode cX11_layLeast 31 = .ok (.goto 5, 3) := by decide +kernel
theorem dX11_layLeast_34 : decode cX11_layLeast 34 = .ok (.ldc 219, 2) := by decide +kernel
theorem dX11_layLeast_36 : decode cX11_layLeast 36 = .ok (.iastore, 1) := by decide +kernel
theorem dX11_layLeast_37 : decode cX11_layLeast 37 = .ok (.iinc 2 1, 3) := by decide +kernel
theorem dX11_layLeast_40 : decode cX11_layLeast 40 = .ok (.goto (-30), 3) := by decide +kernel
theorem dX11_layLeast_43 : decode cX11_layLeast 43 = .ok (.iload_n 1, 1) := by decide +kernel
theorem dX11_layLeast_44 : decode cX11_layLeast 44 = .ok (.iconst 1, 1) := by decide +kernel
theorem dX11_layLeast_45 : decode cX11_layLeast 45 = .ok (.isub, 1) := by decide +kernel
theorem dX11_layLeast_46 : decode cX11_layLeast 46 = .ok (.istore_n 2, 1) := by decide +kernel
theorem dX11_layLeast_47 : decode cX11_layLeast 47 = .ok (.iload_n 2, 1) := by decide +kernel
theorem dX11_layLeast_48 : decode cX11_layLeast 48 = .ok (.ifCond .lt 117, 3) := by decide +kernel
theorem dX11_layLeast_51 : decode cX11_layLeast 51 = .ok (.aload_n 0, 1) := by decide +kernel
theorem dX11_layLeast_52 : decode cX11_layLeast 52 = .ok (.getfield 37, 3) := by decide +kernel
theorem dX11_layLeast_55 : decode cX11_layLeast 55 = .ok (.iload_n 2, 1) := by decide +kernel
theorem dX11_layLeast_56 : decode cX11_layLeast 56 = .ok (.aload_n 0, 1) := by decide +kernel
theorem dX11_layLeast_57 : decode cX11_layLeast 57 = .ok (.iload_n 2, 1) := by decide +kernel
theorem dX11_layLeast_58 : decode cX11_layLeast 58 = .ok (.bipush 36, 2) := by decide +kernel
theorem dX11_layLeast_60 : decode cX11_layLeast 60 = .ok (.idiv, 1) := by decide +kernel
theorem dX11_layLeast_61 : decode cX11_layLeast 61 = .ok (.iload_n 2, 1) := by decide +kernel
theorem dX11_layLeast_62 : decode cX11_layLeast 62 = .ok (.bipush 36, 2) := by decide +kernel
theorem dX11_layLeast_64 : decode cX11_layLeast 64 = .ok (.irem, 1) := by decide +kernel
theorem dX11_layLeast_65 : decode cX11_layLeast 65 = .ok (.aload_n 0, 1) := by decide +kernel
theorem dX11_layLeast_66 : decode cX11_layLeast 66 = .ok (.getfield 122, 3) := by decide +kernel
theorem dX11_layLeast_69 : decode cX11_layLeast 69 = .ok (.invokevirtual 169, 3) := by decide +kernel
theorem dX11_layLeast_72 : decode cX11_layLeast 72 = .ok (.iastore, 1) := by decide +kernel
theorem dX11_layLeast_73 : decode cX11_layLeast 73 = .ok (.iconst 0, 1) := by decide +kernel
theorem dX11_layLeast_74 : decode cX11_layLeast 74 = .ok (.istore_n 3, 1) := by decide +kernel
theorem dX11_layLeast_75 : decode cX11_layLeast 75 = .ok (.iload_n 3, 1) := by decide +kernel
theorem dX11_layLeast_76 : decode cX11_layLeast 76 = .ok (.bipush 64, 2) := by decide +kernel
theorem dX11_layLeast_78 : decode cX11_layLeast 78 = .ok (.if_icmp .ge 81, 3) := by decide +kernel
theorem dX11_layLeast_81 : decode cX11_layLeast 81 = .ok (.aload_n 0, 1) := by decide +kernel
theorem dX11_layLeast_82 : decode cX11_layLeast 82 = .ok (.getfield 40, 3) := by decide +kernel
theorem dX11_layLeast_85 : decode cX11_layLeast 85 = .ok (.bipush 64, 2) := by decide +kernel
theorem dX11_layLeast_87 : decode cX11_layLeast 87 = .ok (.iload_n 2, 1) := by decide +kernel
theorem dX11_layLeast_88 : decode cX11_layLeast 88 = .ok (.imul, 1) := by decide +kernel
theorem dX11_layLeast_89 : decode cX11_layLeast 89 = .ok (.bipush 64, 2) := by decide +kernel
theorem dX11_layLeast_91 : decode cX11_layLeast 91 = .ok (.iadd, 1) := by decide +kernel
theorem dX11_layLeast_92 : decode cX11_layLeast 92 = .ok (.iload_n 3, 1) := by decide +kernel
theorem dX11_layLeast_93 : decode cX11_layLeast 93 = .ok (.iadd, 1) := by decide +kernel
theorem dX11_layLeast_94 : decode cX11_layLeast 94 = .ok (.iaload, 1) := by decide +kernel
theorem dX11_layLeast_95 : decode cX11_layLeast 95 = .ok (.istore 4, 2) := by decide +kernel
theorem dX11_layLeast_97 : decode cX11_layLeast 97 = .ok (.aload_n 0, 1) := by decide +kernel
theorem dX11_layLeast_98 : decode cX11_layLeast 98 = .ok (.iload_n 2, 1) := by decide +kernel
theorem dX11_layLeast_99 : decode cX11_layLeast 99 = .ok (.invokevirtual 220, 3) := by decide +kernel
theorem dX11_layLeast_102 : decode cX11_layLeast 102 = .ok (.aload_n 0, 1) := by decide +kernel
theorem dX11_layLeast_103 : decode cX11_layLeast 103 = .ok (.getfield 40, 3) := by decide +kernel
theorem dX11_layLeast_106 : decode cX11_layLeast 106 = .ok (.bipush 64, 2) := by decide +kernel
theorem dX11_layLeast_108 : decode cX11_layLeast 108 = .ok (.iload_n 2, 1) := by decide +kernel
theorem dX11_layLeast_109 : decode cX11_layLeast 109 = .ok (.imul, 1) := by decide +kernel
theorem dX11_layLeast_110 : decode cX11_layLeast 110 = .ok (.bipush 64, 2) := by decide +kernel
theorem dX11_layLeast_112 : decode cX11_layLeast 112 = .ok (.iadd, 1) := by decide +kernel
theorem dX11_layLeast_113 : decode cX11_layLeast 113 = .ok (.iload_n 3, 1) := by decide +kernel
theorem dX11_layLeast_114 : decode cX11_layLeast 114 = .ok (.aload_n 0, 1) := by decide +kernel
theorem dX11_layLeast_115 : decode cX11_layLeast 115 = .ok (.getfield 37, 3) := by decide +kernel
theorem dX11_layLeast_118 : decode cX11_layLeast 118 = .ok (.iload_n 2, 1) := by decide +kernel
theorem dX11_layLeast_119 : decode cX11_layLeast 119 = .ok (.iaload, 1) := by decide +kernel
theorem dX11_layLeast_120 : decode cX11_layLeast 120 = .ok (.iconst (-1), 1) := by decide +kernel
theorem dX11_layLeast_121 : decode cX11_layLeast 121 = .ok (.ixor, 1) := by decide +kernel
theorem dX11_layLeast_122 : decode cX11_layLeast 122 = .ok (.iand, 1) := by decide +kernel
theorem dX11_layLeast_123 : decode cX11_layLeast 123 = .ok (.iadd, 1) := by decide +kernel
theorem dX11_layLeast_124 : decode cX11_layLeast 124 = .ok (.iaload, 1) := by decide +kernel
theorem dX11_layLeast_125 : decode cX11_layLeast 125 = .ok (.iadd, 1) := by decide +kernel
theorem dX11_layLeast_126 : decode cX11_layLeast 126 = .ok (.istore 5, 2) := by decide +kernel
theorem dX11_layLeast_128 : decode cX11_layLeast 128 = .ok (.aload_n 0, 1) := by decide +kernel
theorem dX11_layLeast_129 : decode cX11_layLeast 129 = .ok (.getfield 40, 3) := by decide +kernel
theorem dX11_layLeast_132 : decode cX11_layLeast 132 = .ok (.bipush 64, 2) := by decide +kernel
theorem dX11_layLeast_134 : decode cX11_layLeast 134 = .ok (.iload_n 2, 1) := by decide +kernel
theorem dX11_layLeast_135 : decode cX11_layLeast 135 = .ok (.imul, 1) := by decide +kernel
theorem dX11_layLeast_136 : decode cX11_layLeast 136 = .ok (.iload_n 3, 1) := by decide +kernel
theorem dX11_layLeast_137 : decode cX11_layLeast 137 = .ok (.iadd, 1) := by decide +kernel
theorem dX11_layLeast_138 : decode cX11_layLeast 138 = .ok (.iload 5, 2) := by decide +kernel
theorem dX11_layLeast_140 : decode cX11_layLeast 140 = .ok (.iload 4, 2) := by decide +kernel
theorem dX11_layLeast_142 : decode cX11_layLeast 142 = .ok (.if_icmp .ge 8, 3) := by decide +kernel
theorem dX11_layLeast_145 : decode cX11_layLeast 145 = .ok (.iload 5, 2) := by decide +kernel
theorem dX11_layLeast_147 : decode cX11_layLeast 147 = .ok (.goto 5, 3) := by decide +kernel
theorem dX11_layLeast_150 : decode cX11_layLeast 150 = .ok (.iload 4, 2) := by decide +kernel
theorem dX11_layLeast_152 : decode cX11_layLeast 152 = .ok (.iastore, 1) := by decide +kernel
theorem dX11_layLeast_153 : decode cX11_layLeast 153 = .ok (.iinc 3 1, 3) := by decide +kernel
theorem dX11_layLeast_156 : decode cX11_layLeast 156 = .ok (.goto (-81), 3) := by decide +kernel
theorem dX11_layLeast_159 : decode cX11_layLeast 159 = .ok (.iinc 2 (-1), 3) := by decide +kernel
theorem dX11_layLeast_162 : decode cX11_layLeast 162 = .ok (.goto (-115), 3) := by decide +kernel
theorem dX11_layLeast_165 : decode cX11_layLeast 165 = .ok (.return_, 1) := by decide +kernel
theorem dX11_layRow_0 : decode cX11_layRow 0 = .ok (.aload_n 0, 1) := by decide +kernel
theorem dX11_layRow_1 : decode cX11_layRow 1 = .ok (.iconst 0, 1) := by decide +kernel
theorem dX11_layRow_2 : decode cX11_layRow 2 = .ok (.putfield 223, 3) := by decide +kernel
theorem dX11_layRow_5 : decode cX11_layRow 5 = .ok (.iload_n 1, 1) := by decide +kernel
theorem dX11_layRow_6 : decode cX11_layRow 6 = .ok (.istore_n 2, 1) := by decide +kernel
theorem dX11_layRow_7 : decode cX11_layRow 7 = .ok (.iconst 0, 1) := by decide +kernel
theorem dX11_layRow_8 : decode cX11_layRow 8 = .ok (.istore_n 3, 1) := by decide +kernel
theorem dX11_layRow_9 : decode cX11_layRow 9 = .ok (.iload_n 2, 1) := by decide +kernel
theorem dX11_layRow_10 : decode cX11_layRow 10 = .ok (.ifCond .le 87, 3) := by decide +kernel
theorem dX11_layRow_13 : decode cX11_layRow 13 = .ok (.aload_n 0, 1) := by decide +kernel
theorem dX11_layRow_14 : decode cX11_layRow 14 = .ok (.iload_n 3, 1) := by decide +kernel
theorem dX11_layRow_15 : decode cX11_layRow 15 = .ok (.invokevirtual 220, 3) := by decide +kernel
theorem dX11_layRow_18 : decode cX11_layRow 18 = .ok (.aload_n 0, 1) := by decide +kernel
theorem dX11_layRow_19 : decode cX11_layRow 19 = .ok (.getfield 40, 3) := by decide +kernel
theorem dX11_layRow_22 : decode cX11_layRow 22 = .ok (.bipush 64, 2) := by decide +kernel
theorem dX11_layRow_24 : decode cX11_layRow 24 = .ok (.iload_n 3, 1) := by decide +kernel
theorem dX11_layRow_25 : decode cX11_layRow 25 = .ok (.imul, 1) := by decide +kernel
theorem dX11_layRow_26 : decode cX11_layRow 26 = .ok (.bipush 64, 2) := by decide +kernel
theorem dX11_layRow_28 : decode cX11_layRow 28 = .ok (.iadd, 1) := by decide +kernel
theorem dX11_layRow_29 : decode cX11_layRow 29 = .ok (.iload_n 2, 1) := by decide +kernel
theorem dX11_layRow_30 : decode cX11_layRow 30 = .ok (.aload_n 0, 1) := by decide +kernel
theorem dX11_layRow_31 : decode cX11_layRow 31 = .ok (.getfield 37, 3) := by decide +kernel
theorem dX11_layRow_34 : decode cX11_layRow 34 = .ok (.iload_n 3, 1) := by decide +kernel
theorem dX11_layRow_35 : decode cX11_layRow 35 = .ok (.iaload, 1) := by decide +kernel
theorem dX11_layRow_36 : decode cX11_layRow 36 = .ok (.iconst (-1), 1) := by decide +kernel
theorem dX11_layRow_37 : decode cX11_layRow 37 = .ok (.ixor, 1) := by decide +kernel
theorem dX11_layRow_38 : decode cX11_layRow 38 = .ok (.iand, 1) := by decide +kernel
theorem dX11_layRow_39 : decode cX11_layRow 39 = .ok (.iadd, 1) := by decide +kernel
theorem dX11_layRow_40 : decode cX11_layRow 40 = .ok (.iaload, 1) := by decide +kernel
theorem dX11_layRow_41 : decode cX11_layRow 41 = .ok (.iadd, 1) := by decide +kernel
theorem dX11_layRow_42 : decode cX11_layRow 42 = .ok (.istore 4, 2) := by decide +kernel
theorem dX11_layRow_44 : decode cX11_layRow 44 = .ok (.iload 4, 2) := by decide +kernel
theorem dX11_layRow_46 : decode cX11_layRow 46 = .ok (.aload_n 0, 1) := by decide +kernel
theorem dX11_layRow_47 : decode cX11_layRow 47 = .ok (.getfield 40, 3) := by decide +kernel
theorem dX11_layRow_50 : decode cX11_layRow 50 = .ok (.bipush 64, 2) := by decide +kernel
theorem dX11_layRow_52 : decode cX11_layRow 52 = .ok (.iload_n 3, 1) := by decide +kernel
theorem dX11_layRow_53 : decode cX11_layRow 53 = .ok (.imul, 1) := by decide +kernel
theorem dX11_layRow_54 : decode cX11_layRow 54 = .ok (.iload_n 2, 1) := by decide +kernel
theorem dX11_layRow_55 : decode cX11_layRow 55 = .ok (.iadd, 1) := by decide +kernel
theorem dX11_layRow_56 : decode cX11_layRow 56 = .ok (.iaload, 1) := by decide +kernel
theorem dX11_layRow_57 : decode cX11_layRow 57 = .ok (.if_icmp .ne 34, 3) := by decide +kernel
theorem dX11_layRow_60 : decode cX11_layRow 60 = .ok (.aload_n 0, 1) := by decide +kernel
theorem dX11_layRow_61 : decode cX11_layRow 61 = .ok (.getfield 43, 3) := by decide +kernel
theorem dX11_layRow_64 : decode cX11_layRow 64 = .ok (.aload_n 0, 1) := by decide +kernel
theorem dX11_layRow_65 : decode cX11_layRow 65 = .ok (.getfield 223, 3) := by decide +kernel
theorem dX11_layRow_68 : decode cX11_layRow 68 = .ok (.iload_n 3, 1) := by decide +kernel
theorem dX11_layRow_69 : decode cX11_layRow 69 = .ok (.iastore, 1) := by decide +kernel
theorem dX11_layRow_70 : decode cX11_layRow 70 = .ok (.aload_n 0, 1) := by decide +kernel
theorem dX11_layRow_71 : decode cX11_layRow 71 = .ok (.dup, 1) := by decide +kernel
theorem dX11_layRow_72 : decode cX11_layRow 72 = .ok (.getfield 223, 3) := by decide +kernel
theorem dX11_layRow_75 : decode cX11_layRow 75 = .ok (.iconst 1, 1) := by decide +kernel
theorem dX11_layRow_76 : decode cX11_layRow 76 = .ok (.iadd, 1) := by decide +kernel
theorem dX11_layRow_77 : decode cX11_layRow 77 = .ok (.putfield 223, 3) := by decide +kernel
theorem dX11_layRow_80 : decode cX11_layRow 80 = .ok (.iload_n 2, 1) := by decide +kernel
theorem dX11_layRow_81 : decode cX11_layRow 81 = .ok (.aload_n 0, 1) := by decide +kernel
theorem dX11_layRow_82 : decode cX11_layRow 82 = .ok (.getfield 37, 3) := by decide +kernel
theorem dX11_layRow_85 : decode cX11_layRow 85 = .ok (.iload_n 3, 1) := by decide +kernel
theorem dX11_layRow_86 : decode cX11_layRow 86 = .ok (.iaload, 1) := by decide +kernel
theorem dX11_layRow_87 : decode cX11_layRow 87 = .ok (.iconst (-1), 1) := by decide +kernel
theorem dX11_layRow_88 : decode cX11_layRow 88 = .ok (.ixor, 1) := by decide +kernel
theorem dX11_layRow_89 : decode cX11_layRow 89 = .ok (.iand, 1) := by decide +kernel
theorem dX11_layRow_90 : decode cX11_layRow 90 = .ok (.istore_n 2, 1) := by decide +kernel
theorem dX11_layRow_91 : decode cX11_layRow 91 = .ok (.iinc 3 1, 3) := by decide +kernel
theorem dX11_layRow_94 : decode cX11_layRow 94 = .ok (.goto (-85), 3) := by decide +kernel
theorem dX11_layRow_97 : decode cX11_layRow 97 = .ok (.return_, 1) := by decide +kernel
theorem dX11_allOf_0 : decode cX11_allOf 0 = .ok (.aload_n 0, 1) := by decide +kernel
theorem dX11_allOf_1 : decode cX11_allOf 1 = .ok (.invokevirtual 226, 3) := by decide +kernel
theorem dX11_allOf_4 : decode cX11_allOf 4 = .ok (.aload_n 0, 1) := by decide +kernel
theorem dX11_allOf_5 : decode cX11_allOf 5 = .ok (.invokevirtual 188, 3) := by decide +kernel
theorem dX11_allOf_8 : decode cX11_allOf 8 = .ok (.istore_n 2, 1) := by decide +kernel
theorem dX11_allOf_9 : decode cX11_allOf 9 = .ok (.aload_n 0, 1) := by decide +kernel
theorem dX11_allOf_10 : decode cX11_allOf 10 = .ok (.getfield 40, 3) := by decide +kernel
theorem dX11_allOf_13 : decode cX11_allOf 13 = .ok (.iload_n 2, 1) := by decide +kernel
theorem dX11_allOf_14 : decode cX11_allOf 14 = .ok (.iaload, 1) := by decide +kernel
theorem dX11_allOf_15 : decode cX11_allOf 15 = .ok (.ldc 219, 2) := by decide +kernel
theorem dX11_allOf_17 : decode cX11_allOf 17 = .ok (.if_icmp .lt 5, 3) := by decide +kernel
theorem dX11_allOf_20 : decode cX11_allOf 20 = .ok (.iconst (-1), 1) := by decide +kernel
theorem dX11_allOf_21 : decode cX11_allOf 21 = .ok (.ireturn, 1) := by decide +kernel
theorem dX11_allOf_22 : decode cX11_allOf 22 = .ok (.iload_n 1, 1) := by decide +kernel
theorem dX11_allOf_23 : decode cX11_allOf 23 = .ok (.iconst 2, 1) := by decide +kernel
theorem dX11_allOf_24 : decode cX11_allOf 24 = .ok (.if_icmp .ge 29, 3) := by decide +kernel
theorem dX11_allOf_27 : decode cX11_allOf 27 = .ok (.iload_n 1, 1) := by decide +kernel
theorem dX11_allOf_28 : decode cX11_allOf 28 = .ok (.ifCond .ne 15, 3) := by decide +kernel
theorem dX11_allOf_31 : decode cX11_allOf 31 = .ok (.aload_n 0, 1) := by decide +kernel
theorem dX11_allOf_32 : decode cX11_allOf 32 = .ok (.getfield 40, 3) := by decide +kernel
theorem dX11_allOf_35 : decode cX11_allOf 35 = .ok (.iload_n 2, 1) := by decide +kernel
theorem dX11_allOf_36 : decode cX11_allOf 36 = .ok (.iaload, 1) := by decide +kernel
theorem dX11_allOf_37 : decode cX11_allOf 37 = .ok (.bipush 100, 2) := by decide +kernel
theorem dX11_allOf_39 : decode cX11_allOf 39 = .ok (.idiv, 1) := by decide +kernel
theorem dX11_allOf_40 : decode cX11_allOf 40 = .ok (.goto 12, 3) := by decide +kernel
theorem dX11_allOf_43 : decode cX11_allOf 43 = .ok (.aload_n 0, 1) := by decide +kernel
theorem dX11_allOf_44 : decode cX11_allOf 44 = .ok (.getfield 40, 3) := by decide +kernel
theorem dX11_allOf_47 : decode cX11_allOf 47 = .ok (.iload_n 2, 1) := by decide +kernel
theorem dX11_allOf_48 : decode cX11_allOf 48 = .ok (.iaload, 1) := by decide +kernel
theorem dX11_allOf_49 : decode cX11_allOf 49 = .ok (.bipush 100, 2) := by decide +kernel
theorem dX11_allOf_51 : decode cX11_allOf 51 = .ok (.irem, 1) := by decide +kernel
theorem dX11_allOf_52 : decode cX11_allOf 52 = .ok (.ireturn, 1) := by decide +kernel
theorem dX11_allOf_53 : decode cX11_allOf 53 = .ok (.aload_n 0, 1) := by decide +kernel
theorem dX11_allOf_54 : decode cX11_allOf 54 = .ok (.iload_n 2, 1) := by decide +kernel
theorem dX11_allOf_55 : decode cX11_allOf 55 = .ok (.invokevirtual 229, 3) := by decide +kernel
theorem dX11_allOf_58 : decode cX11_allOf 58 = .ok (.iload_n 1, 1) := by decide +kernel
theorem dX11_allOf_59 : decode cX11_allOf 59 = .ok (.bipush 10, 2) := by decide +kernel
theorem dX11_allOf_61 : decode cX11_allOf 61 = .ok (.isub, 1) := by decide +kernel
theorem dX11_allOf_62 : decode cX11_allOf 62 = .ok (.aload_n 0, 1) := by decide +kernel
theorem dX11_allOf_63 : decode cX11_allOf 63 = .ok (.getfield 223, 3) := by decide +kernel
theorem dX11_allOf_66 : decode cX11_allOf 66 = .ok (.if_icmp .ge 15, 3) := by decide +kernel
theorem dX11_allOf_69 : decode cX11_allOf 69 = .ok (.aload_n 0, 1) := by decide +kernel
theorem dX11_allOf_70 : decode cX11_allOf 70 = .ok (.getfield 43, 3) := by decide +kernel
theorem dX11_allOf_73 : decode cX11_allOf 73 = .ok (.iload_n 1, 1) := by decide +kernel
theorem dX11_allOf_74 : decode cX11_allOf 74 = .ok (.bipush 10, 2) := by decide +kernel
theorem dX11_allOf_76 : decode cX11_allOf 76 = .ok (.isub, 1) := by decide +kernel
theorem dX11_allOf_77 : decode cX11_allOf 77 = .ok (.iaload, 1) := by decide +kernel
theorem dX11_allOf_78 : decode cX11_allOf 78 = .ok (.goto 4, 3) := by decide +kernel
theorem dX11_allOf_81 : decode cX11_allOf 81 = .ok (.iconst (-1), 1) := by decide +kernel
theorem dX11_allOf_82 : decode cX11_allOf 82 = .ok (.ireturn, 1) := by decide +kernel
theorem dX11_all_0 : decode cX11_all 0 = .ok (.iload_n 1, 1) := by decide +kernel
theorem dX11_all_1 : decode cX11_all 1 = .ok (.i2l, 1) := by decide +kernel
theorem dX11_all_2 : decode cX11_all 2 = .ok (.lconst 0, 1) := by decide +kernel
theorem dX11_all_3 : decode cX11_all 3 = .ok (.lconst 1, 1) := by decide +kernel
theorem dX11_all_4 : decode cX11_all 4 = .ok (.invokestatic 79, 3) := by decide +kernel
theorem dX11_all_7 : decode cX11_all 7 = .ok (.ifCond .ne 20, 3) := by decide +kernel
theorem dX11_all_10 : decode cX11_all 10 = .ok (.iload_n 1, 1) := by decide +kernel
theorem dX11_all_11 : decode cX11_all 11 = .ok (.i2l, 1) := by decide +kernel
theorem dX11_all_12 : decode cX11_all 12 = .ok (.ldc2_w 233, 3) := by decide +kernel
theorem dX11_all_15 : decode cX11_all 15 = .ok (.ldc2_w 235, 3) := by decide +kernel
theorem dX11_all_18 : decode cX11_all 18 = .ok (.invokestatic 79, 3) := by decide +kernel
theorem dX11_all_21 : decode cX11_all 21 = .ok (.ifCond .ne 6, 3) := by decide +kernel
theorem dX11_all_24 : decode cX11_all 24 = .ok (.bipush (-102), 2) := by decide +kernel
theorem dX11_all_26 : decode cX11_all 26 = .ok (.ireturn, 1) := by decide +kernel
theorem dX11_all_27 : decode cX11_all 27 = .ok (.aload_n 0, 1) := by decide +kernel
theorem dX11_all_28 : decode cX11_all 28 = .ok (.invokevirtual 213, 3) := by decide +kernel
theorem dX11_all_31 : decode cX11_all 31 = .ok (.ifCond .eq 8, 3) := by decide +kernel
theorem dX11_all_34 : decode cX11_all 34 = .ok (.bipush (-103), 2) := by decide +kernel
theorem dX11_all_36 : decode cX11_all 36 = .ok (.goto 8, 3) := by decide +kernel
theorem dX11_all_39 : decode cX11_all 39 = .ok (.aload_n 0, 1) := by decide +kernel
theorem dX11_all_40 : decode cX11_all 40 = .ok (.iload_n 1, 1) := by decide +kernel
theorem dX11_all_41 : decode cX11_all 41 = .ok (.invokevirtual 237, 3) := by decide +kernel
theorem dX11_all_44 : decode cX11_all 44 = .ok (.ireturn, 1) := by decide +kernel
theorem dX11_nightsOf_0 : decode cX11_nightsOf 0 = .ok (.aload_n 0, 1) := by decide +kernel
theorem dX11_nightsOf_1 : decode cX11_nightsOf 1 = .ok (.invokevirtual 226, 3) := by decide +kernel
theorem dX11_nightsOf_4 : decode cX11_nightsOf 4 = .ok (.aload_n 0, 1) := by decide +kernel
theorem dX11_nightsOf_5 : decode cX11_nightsOf 5 = .ok (.getfield 40, 3) := by decide +kernel
theorem dX11_nightsOf_8 : decode cX11_nightsOf 8 = .ok (.iconst 1, 1) := by decide +kernel
theorem dX11_nightsOf_9 : decode cX11_nightsOf 9 = .ok (.aload_n 0, 1) := by decide +kernel
theorem dX11_nightsOf_10 : decode cX11_nightsOf 10 = .ok (.getfield 116, 3) := by decide +kernel
theorem dX11_nightsOf_13 : decode cX11_nightsOf 13 = .ok (.ishl, 1) := by decide +kernel
theorem dX11_nightsOf_14 : decode cX11_nightsOf 14 = .ok (.iconst 1, 1) := by decide +kernel
theorem dX11_nightsOf_15 : decode cX11_nightsOf 15 = .ok (.isub, 1) := by decide +kernel
theorem dX11_nightsOf_16 : decode cX11_nightsOf 16 = .ok (.iaload, 1) := by decide +kernel
theorem dX11_nightsOf_17 : decode cX11_nightsOf 17 = .ok (.istore_n 1, 1) := by decide +kernel
theorem dX11_nightsOf_18 : decode cX11_nightsOf 18 = .ok (.iload_n 1, 1) := by decide +kernel
theorem dX11_nightsOf_19 : decode cX11_nightsOf 19 = .ok (.ldc 219, 2) := by decide +kernel
theorem dX11_nightsOf_21 : decode cX11_nightsOf 21 = .ok (.if_icmp .lt 7, 3) := by decide +kernel
theorem dX11_nightsOf_24 : decode cX11_nightsOf 24 = .ok (.iconst (-1), 1) := by decide +kernel
theorem dX11_nightsOf_25 : decode cX11_nightsOf 25 = .ok (.goto 12, 3) := by decide +kernel
theorem dX11_nightsOf_28 : decode cX11_nightsOf 28 = .ok (.aload_n 0, 1) := by decide +kernel
theorem dX11_nightsOf_29 : decode cX11_nightsOf 29 = .ok (.getfield 125, 3) := by decide +kernel
theorem dX11_nightsOf_32 : decode cX11_nightsOf 32 = .ok (.iload_n 1, 1) := by decide +kernel
theorem dX11_nightsOf_33 : decode cX11_nightsOf 33 = .ok (.bipush 100, 2) := by decide +kernel
theorem dX11_nightsOf_35 : decode cX11_nightsOf 35 = .ok (.idiv, 1) := by decide +kernel
theorem dX11_nightsOf_36 : decode cX11_nightsOf 36 = .ok (.idiv, 1) := by decide +kernel
theorem dX11_nightsOf_37 : decode cX11_nightsOf 37 = .ok (.ireturn, 1) := by decide +kernel
theorem dX11_nights_0 : decode cX11_nights 0 = .ok (.aload_n 0, 1) := by decide +kernel
theorem dX11_nights_1 : decode cX11_nights 1 = .ok (.invokevirtual 213, 3) := by decide +kernel
theorem dX11_nights_4 : decode cX11_nights 4 = .ok (.ifCond .eq 8, 3) := by decide +kernel
theorem dX11_nights_7 : decode cX11_nights 7 = .ok (.bipush (-103), 2) := by decide +kernel
theorem dX11_nights_9 : decode cX11_nights 9 = .ok (.goto 7, 3) := by decide +kernel
theorem dX11_nights_12 : decode cX11_nights 12 = .ok (.aload_n 0, 1) := by decide +kernel
theorem dX11_nights_13 : decode cX11_nights 13 = .ok (.invokevirtual 240, 3) := by decide +kernel
theorem dX11_nights_16 : decode cX11_nights 16 = .ok (.ireturn, 1) := by decide +kernel
theorem dX11_odds_0 : decode cX11_odds 0 = .ok (.aload_n 0, 1) := by decide +kernel
theorem dX11_odds_1 : decode cX11_odds 1 = .ok (.iload_n 1, 1) := by decide +kernel
theorem dX11_odds_2 : decode cX11_odds 2 = .ok (.invokevirtual 182, 3) := by decide +kernel
theorem dX11_odds_5 : decode cX11_odds 5 = .ok (.ifCond .eq 18, 3) := by decide +kernel
theorem dX11_odds_8 : decode cX11_odds 8 = .ok (.aload_n 0, 1) := by decide +kernel
theorem dX11_odds_9 : decode cX11_odds 9 = .ok (.iload_n 2, 1) := by decide +kernel
theorem dX11_odds_10 : decode cX11_odds 10 = .ok (.invokevirtual 163, 3) := by decide +kernel
theorem dX11_odds_13 : decode cX11_odds 13 = .ok (.ifCond .eq 10, 3) := by decide +kernel
theorem dX11_odds_16 : decode cX11_odds 16 = .ok (.iload_n 3, 1) := by decide +kernel
theorem dX11_odds_17 : decode cX11_odds 17 = .ok (.invokestatic 166, 3) := by decide +kernel
theorem dX11_odds_20 : decode cX11_odds 20 = .ok (.ifCond .ne 6, 3) := by decide +kernel
theorem dX11_odds_23 : decode cX11_odds 23 = .ok (.bipush (-101), 2) := by decide +kernel
theorem dX11_odds_25 : decode cX11_odds 25 = .ok (.ireturn, 1) := by decide +kernel
theorem dX11_odds_26 : decode cX11_odds 26 = .ok (.iconst 0, 1) := by decide +kernel
theorem dX11_odds_27 : decode cX11_odds 27 = .ok (.istore 4, 2) := by decide +kernel
theorem dX11_odds_29 : decode cX11_odds 29 = .ok (.iconst (-1), 1) := by decide +kernel
theorem dX11_odds_30 : decode cX11_odds 30 = .ok (.istore 5, 2) := by decide +kernel
theorem dX11_odds_32 : decode cX11_odds 32 = .ok (.iload 5, 2) := by decide +kernel
theorem dX11_odds_34 : decode cX11_odds 34 = .ok (.iconst 2, 1) := by decide +kernel
theorem dX11_odds_35 : decode cX11_odds 35 = .ok (.if_icmp .ge 36, 3) := by decide +kernel
theorem dX11_odds_38 : decode cX11_odds 38 = .ok (.iload 4, 2) := by decide +kernel
theorem dX11_odds_40 : decode cX11_odds 40 = .ok (.aload_n 0, 1) := by decide +kernel
theorem dX11_odds_41 : decode cX11_odds 41 = .ok (.iload_n 2, 1) := by decide +kernel
theorem dX11_odds_42 : decode cX11_odds 42 = .ok (.iload_n 3, 1) := by decide +kernel
theorem dX11_odds_43 : decode cX11_odds 43 = .ok (.iload 5, 2) := by decide +kernel
theorem dX11_odds_45 : decode cX11_odds 45 = .ok (.aload_n 0, 1) := by decide +kernel
theorem dX11_odds_46 : decode cX11_odds 46 = .ok (.getfield 13, 3) := by decide +kernel
theorem dX11_odds_49 : decode cX11_odds 49 = .ok (.iload_n 1, 1) := by decide +kernel
theorem dX11_odds_50 : decode cX11_odds 50 = .ok (.iaload, 1) := by decide +kernel
theorem dX11_odds_51 : decode cX11_odds 51 = .ok (.invokevirtual 159, 3) := by decide +kernel
theorem dX11_odds_54 : decode cX11_odds 54 = .ok (.ifCond .eq 7, 3) := by decide +kernel
theorem dX11_odds_57 : decode cX11_odds 57 = .ok (.iconst 1, 1) := by decide +kernel
theorem dX11_odds_58 : decode cX11_odds 58 = .ok (.goto 4, 3) := by decide +kernel
theorem dX11_odds_61 : decode cX11_odds 61 = .ok (.iconst 0, 1) := by decide +kernel
theorem dX11_odds_62 : decode cX11_odds 62 = .ok (.iadd, 1) := by decide +kernel
theorem dX11_odds_63 : decode cX11_odds 63 = .ok (.istore 4, 2) := by decide +kernel
theorem dX11_odds_65 : decode cX11_odds 65 = .ok (.iinc 5 1, 3) := by decide +kernel
theorem dX11_odds_68 : decode cX11_odds 68 = .ok (.goto (-36), 3) := by decide +kernel
theorem dX11_odds_71 : decode cX11_odds 71 = .ok (.iload 4, 2) := by decide +kernel
theorem dX11_odds_73 : decode cX11_odds 73 = .ok (.ireturn, 1) := by decide +kernel
theorem dX11_whoOf_0 : decode cX11_whoOf 0 = .ok (.iconst 0, 1) := by decide +kernel
theorem dX11_whoOf_1 : decode cX11_whoOf 1 = .ok (.istore_n 2, 1) := by decide +kernel
theorem dX11_whoOf_2 : decode cX11_whoOf 2 = .ok (.iconst 0, 1) := by decide +kernel
theorem dX11_whoOf_3 : decode cX11_whoOf 3 = .ok (.istore_n 3, 1) := by decide +kernel
theorem dX11_whoOf_4 : decode cX11_whoOf 4 = .ok (.iload_n 3, 1) := by decide +kernel
theorem dX11_whoOf_5 : decode cX11_whoOf 5 = .ok (.aload_n 0, 1) := by decide +kernel
theorem dX11_whoOf_6 : decode cX11_whoOf 6 = .ok (.getfield 119, 3) := by decide +kernel
theorem dX11_whoOf_9 : decode cX11_whoOf 9 = .ok (.if_icmp .ge 50, 3) := by decide +kernel
theorem dX11_whoOf_12 : decode cX11_whoOf 12 = .ok (.iconst 0, 1) := by decide +kernel
theorem dX11_whoOf_13 : decode cX11_whoOf 13 = .ok (.istore 4, 2) := by decide +kernel
theorem dX11_whoOf_15 : decode cX11_whoOf 15 = .ok (.iload 4, 2) := by decide +kernel
theorem dX11_whoOf_17 : decode cX11_whoOf 17 = .ok (.bipush 36, 2) := by decide +kernel
theorem dX11_whoOf_19 : decode cX11_whoOf 19 = .ok (.if_icmp .ge 34, 3) := by decide +kernel
theorem dX11_whoOf_22 : decode cX11_whoOf 22 = .ok (.iload_n 2, 1) := by decide +kernel
theorem dX11_whoOf_23 : decode cX11_whoOf 23 = .ok (.aload_n 0, 1) := by decide +kernel
theorem dX11_whoOf_24 : decode cX11_whoOf 24 = .ok (.iload_n 3, 1) := by decide +kernel
theorem dX11_whoOf_25 : decode cX11_whoOf 25 = .ok (.iload 4, 2) := by decide +kernel
theorem dX11_whoOf_27 : decode cX11_whoOf 27 = .ok (.aload_n 0, 1) := by decide +kernel
theorem dX11_whoOf_28 : decode cX11_whoOf 28 = .ok (.getfield 122, 3) := by decide +kernel
theorem dX11_whoOf_31 : decode cX11_whoOf 31 = .ok (.invokevirtual 151, 3) := by decide +kernel
theorem dX11_whoOf_34 : decode cX11_whoOf 34 = .ok (.iload_n 1, 1) := by decide +kernel
theorem dX11_whoOf_35 : decode cX11_whoOf 35 = .ok (.if_icmp .ne 9, 3) := by decide +kernel
theorem dX11_whoOf_38 : decode cX11_whoOf 38 = .ok (.iconst 1, 1) := by decide +kernel
theorem dX11_whoOf_39 : decode cX11_whoOf 39 = .ok (.iload_n 3, 1) := by decide +kernel
theorem dX11_whoOf_40 : decode cX11_whoOf 40 = .ok (.ishl, 1) := by decide +kernel
theorem dX11_whoOf_41 : decode cX11_whoOf 41 = .ok (.goto 4, 3) := by decide +kernel
theorem dX11_whoOf_44 : decode cX11_whoOf 44 = .ok (.iconst 0, 1) := by decide +kernel
theorem dX11_whoOf_45 : decode cX11_whoOf 45 = .ok (.ior, 1) := by decide +kernel
theorem dX11_whoOf_46 : decode cX11_whoOf 46 = .ok (.istore_n 2, 1) := by decide +kernel
theorem dX11_whoOf_47 : decode cX11_whoOf 47 = .ok (.iinc 4 1, 3) := by decide +kernel
theorem dX11_whoOf_50 : decode cX11_whoOf 50 = .ok (.goto (-35), 3) := by decide +kernel
theorem dX11_whoOf_53 : decode cX11_whoOf 53 = .ok (.iinc 3 1, 3) := by decide +kernel
theorem dX11_whoOf_56 : decode cX11_whoOf 56 = .ok (.goto (-52), 3) := by decide +kernel
theorem dX11_whoOf_59 : decode cX11_whoOf 59 = .ok (.iload_n 2, 1) := by decide +kernel
theorem dX11_whoOf_60 : decode cX11_whoOf 60 = .ok (.ireturn, 1) := by decide +kernel
theorem dX11_who_0 : decode cX11_who 0 = .ok (.aload_n 0, 1) := by decide +kernel
theorem dX11_who_1 : decode cX11_who 1 = .ok (.invokevirtual 213, 3) := by decide +kernel
theorem dX11_who_4 : decode cX11_who 4 = .ok (.ifCond .ne 18, 3) := by decide +kernel
theorem dX11_who_7 : decode cX11_who 7 = .ok (.iload_n 1, 1) := by decide +kernel
theorem dX11_who_8 : decode cX11_who 8 = .ok (.invokestatic 166, 3) := by decide +kernel
theorem dX11_who_11 : decode cX11_who 11 = .ok (.ifCond .eq 11, 3) := by decide +kernel
theorem dX11_who_14 : decode cX11_who 14 = .ok (.aload_n 0, 1) := by decide +kernel
theorem dX11_who_15 : decode cX11_who 15 = .ok (.iload_n 1, 1) := by decide +kernel
theorem dX11_who_16 : decode cX11_who 16 = .ok (.invokevirtual 243, 3) := by decide +kernel
theorem dX11_who_19 : decode cX11_who 19 = .ok (.goto 5, 3) := by decide +kernel
theorem dX11_who_22 : decode cX11_who 22 = .ok (.bipush (-101), 2) := by decide +kernel
theorem dX11_who_24 : decode cX11_who 24 = .ok (.ireturn, 1) := by decide +kernel
theorem dX11_see_0 : decode cX11_see 0 = .ok (.aload_n 0, 1) := by decide +kernel
theorem dX11_see_1 : decode cX11_see 1 = .ok (.iload_n 1, 1) := by decide +kernel
theorem dX11_see_2 : decode cX11_see 2 = .ok (.invokevirtual 163, 3) := by decide +kernel
theorem dX11_see_5 : decode cX11_see 5 = .ok (.ifCond .ne 6, 3) := by decide +kernel
theorem dX11_see_8 : decode cX11_see 8 = .ok (.bipush (-101), 2) := by decide +kernel
theorem dX11_see_10 : decode cX11_see 10 = .ok (.ireturn, 1) := by decide +kernel
theorem dX11_see_11 : decode cX11_see 11 = .ok (.iload_n 2, 1) := by decide +kernel
theorem dX11_see_12 : decode cX11_see 12 = .ok (.i2l, 1) := by decide +kernel
theorem dX11_see_13 : decode cX11_see 13 = .ok (.lconst 0, 1) := by decide +kernel
theorem dX11_see_14 : decode cX11_see 14 = .ok (.ldc2_w 142, 3) := by decide +kernel
theorem dX11_see_17 : decode cX11_see 17 = .ok (.invokestatic 79, 3) := by decide +kernel
theorem dX11_see_20 : decode cX11_see 20 = .ok (.ifCond .eq 17, 3) := by decide +kernel
theorem dX11_see_23 : decode cX11_see 23 = .ok (.iload_n 3, 1) := by decide +kernel
theorem dX11_see_24 : decode cX11_see 24 = .ok (.i2l, 1) := by decide +kernel
theorem dX11_see_25 : decode cX11_see 25 = .ok (.ldc2_w 211, 3) := by decide +kernel
theorem dX11_see_28 : decode cX11_see 28 = .ok (.ldc2_w 142, 3) := by decide +kernel
theorem dX11_see_31 : decode cX11_see 31 = .ok (.invokestatic 79, 3) := by decide +kernel
theorem dX11_see_34 : decode cX11_see 34 = .ok (.ifCond .ne 6, 3) := by decide +kernel
theorem dX11_see_37 : decode cX11_see 37 = .ok (.bipush (-102), 2) := by decide +kernel
theorem dX11_see_39 : decode cX11_see 39 = .ok (.ireturn, 1) := by decide +kernel
theorem dX11_see_40 : decode cX11_see 40 = .ok (.aload_n 0, 1) := by decide +kernel
theorem dX11_see_41 : decode cX11_see 41 = .ok (.getfield 134, 3) := by decide +kernel
theorem dX11_see_44 : decode cX11_see 44 = .ok (.bipush 6, 2) := by decide +kernel
theorem dX11_see_46 : decode cX11_see 46 = .ok (.if_icmp .ne 6, 3) := by decide +kernel
theorem dX11_see_49 : decode cX11_see 49 = .ok (.bipush (-104), 2) := by decide +kernel
theorem dX11_see_51 : decode cX11_see 51 = .ok (.ireturn, 1) := by decide +kernel
theorem dX11_see_52 : decode cX11_see 52 = .ok (.aload_n 0, 1) := by decide +kernel
theorem dX11_see_53 : decode cX11_see 53 = .ok (.getfield 46, 3) := by decide +kernel
theorem dX11_see_56 : decode cX11_see 56 = .ok (.iconst 3, 1) := by decide +kernel
theorem dX11_see_57 : decode cX11_see 57 = .ok (.aload_n 0, 1) := by decide +kernel
theorem dX11_see_58 : decode cX11_see 58 = .ok (.getfield 134, 3) := by decide +kernel
theorem dX11_see_61 : decode cX11_see 61 = .ok (.imul, 1) := by decide +kernel
theorem dX11_see_62 : decode cX11_see 62 = .ok (.iload_n 1, 1) := by decide +kernel
theorem dX11_see_63 : decode cX11_see 63 = .ok (.iastore, 1) := by decide +kernel
theorem dX11_see_64 : decode cX11_see 64 = .ok (.aload_n 0, 1) := by decide +kernel
theorem dX11_see_65 : decode cX11_see 65 = .ok (.getfield 46, 3) := by decide +kernel
theorem dX11_see_68 : decode cX11_see 68 = .ok (.iconst 3, 1) := by decide +kernel
theorem dX11_see_69 : decode cX11_see 69 = .ok (.aload_n 0, 1) := by decide +kernel
theorem dX11_see_70 : decode cX11_see 70 = .ok (.getfield 134, 3) := by decide +kernel
theorem dX11_see_73 : decode cX11_see 73 = .ok (.imul, 1) := by decide +kernel
theorem dX11_see_74 : decode cX11_see 74 = .ok (.iconst 1, 1) := by decide +kernel
theorem dX11_see_75 : decode cX11_see 75 = .ok (.iadd, 1) := by decide +kernel
theorem dX11_see_76 : decode cX11_see 76 = .ok (.iload_n 2, 1) := by decide +kernel
theorem dX11_see_77 : decode cX11_see 77 = .ok (.iastore, 1) := by decide +kernel
theorem dX11_see_78 : decode cX11_see 78 = .ok (.aload_n 0, 1) := by decide +kernel
theorem dX11_see_79 : decode cX11_see 79 = .ok (.getfield 46, 3) := by decide +kernel
theorem dX11_see_82 : decode cX11_see 82 = .ok (.iconst 3, 1) := by decide +kernel
theorem dX11_see_83 : decode cX11_see 83 = .ok (.aload_n 0, 1) := by decide +kernel
theorem dX11_see_84 : decode cX11_see 84 = .ok (.getfield 134, 3) := by decide +kernel
theorem dX11_see_87 : decode cX11_see 87 = .ok (.imul, 1) := by decide +kernel
theorem dX11_see_88 : decode cX11_see 88 = .ok (.iconst 2, 1) := by decide +kernel
theorem dX11_see_89 : decode cX11_see 89 = .ok (.iadd, 1) := by decide +kernel
theorem dX11_see_90 : decode cX11_see 90 = .ok (.iload_n 3, 1) := by decide +kernel
theorem dX11_see_91 : decode cX11_see 91 = .ok (.iastore, 1) := by decide +kernel
theorem dX11_see_92 : decode cX11_see 92 = .ok (.aload_n 0, 1) := by decide +kernel
theorem dX11_see_93 : decode cX11_see 93 = .ok (.dup, 1) := by decide +kernel
theorem dX11_see_94 : decode cX11_see 94 = .ok (.getfield 134, 3) := by decide +kernel
theorem dX11_see_97 : decode cX11_see 97 = .ok (.iconst 1, 1) := by decide +kernel
theorem dX11_see_98 : decode cX11_see 98 = .ok (.iadd, 1) := by decide +kernel
theorem dX11_see_99 : decode cX11_see 99 = .ok (.putfield 134, 3) := by decide +kernel
theorem dX11_see_102 : decode cX11_see 102 = .ok (.aload_n 0, 1) := by decide +kernel
theorem dX11_see_103 : decode cX11_see 103 = .ok (.getfield 134, 3) := by decide +kernel
theorem dX11_see_106 : decode cX11_see 106 = .ok (.ireturn, 1) := by decide +kernel
theorem dX11_forget_0 : decode cX11_forget 0 = .ok (.aload_n 0, 1) := by decide +kernel
theorem dX11_forget_1 : decode cX11_forget 1 = .ok (.getfield 134, 3) := by decide +kernel
theorem dX11_forget_4 : decode cX11_forget 4 = .ok (.istore_n 1, 1) := by decide +kernel
theorem dX11_forget_5 : decode cX11_forget 5 = .ok (.aload_n 0, 1) := by decide +kernel
theorem dX11_forget_6 : decode cX11_forget 6 = .ok (.iconst 0, 1) := by decide +kernel
theorem dX11_forget_7 : decode cX11_forget 7 = .ok (.putfield 134, 3) := by decide +kernel
theorem dX11_forget_10 : decode cX11_forget 10 = .ok (.iload_n 1, 1) := by decide +kernel
theorem dX11_forget_11 : decode cX11_forget 11 = .ok (.ireturn, 1) := by decide +kernel
theorem dX11_columnBy_0 : decode cX11_columnBy 0 = .ok (.iload_n 0, 1) := by decide +kernel
theorem dX11_columnBy_1 : decode cX11_columnBy 1 = .ok (.iload_n 1, 1) := by decide +kernel
theorem dX11_columnBy_2 : decode cX11_columnBy 2 = .ok (.iadd, 1) := by decide +kernel
theorem dX11_columnBy_3 : decode cX11_columnBy 3 = .ok (.iconst 2, 1) := by decide +kernel
theorem dX11_columnBy_4 : decode cX11_columnBy 4 = .ok (.isub, 1) := by decide +kernel
theorem dX11_columnBy_5 : decode cX11_columnBy 5 = .ok (.istore_n 2, 1) := by decide +kernel
theorem dX11_columnBy_6 : decode cX11_columnBy 6 = .ok (.iload_n 2, 1) := by decide +kernel
theorem dX11_columnBy_7 : decode cX11_columnBy 7 = .ok (.i2l, 1) := by decide +kernel
theorem dX11_columnBy_8 : decode cX11_columnBy 8 = .ok (.lconst 0, 1) := by decide +kernel
theorem dX11_columnBy_9 : decode cX11_columnBy 9 = .ok (.ldc2_w 142, 3) := by decide +kernel
theorem dX11_columnBy_12 : decode cX11_columnBy 12 = .ok (.invokestatic 79, 3) := by decide +kernel
theorem dX11_columnBy_15 : decode cX11_columnBy 15 = .ok (.ifCond .eq 7, 3) := by decide +kernel
theorem dX11_columnBy_18 : decode cX11_columnBy 18 = .ok (.iload_n 2, 1) := by decide +kernel
theorem dX11_columnBy_19 : decode cX11_columnBy 19 = .ok (.goto 4, 3) := by decide +kernel
theorem dX11_columnBy_22 : decode cX11_columnBy 22 = .ok (.iconst (-1), 1) := by decide +kernel
theorem dX11_columnBy_23 : decode cX11_columnBy 23 = .ok (.ireturn, 1) := by decide +kernel
theorem dX11_turnsOf_0 : decode cX11_turnsOf 0 = .ok (.iconst 0, 1) := by decide +kernel
theorem dX11_turnsOf_1 : decode cX11_turnsOf 1 = .ok (.istore_n 2, 1) := by decide +kernel
theorem dX11_turnsOf_2 : decode cX11_turnsOf 2 = .ok (.iconst 0, 1) := by decide +kernel
theorem dX11_turnsOf_3 : decode cX11_turnsOf 3 = .ok (.istore_n 3, 1) := by decide +kernel
theorem dX11_turnsOf_4 : decode cX11_turnsOf 4 = .ok (.iload_n 3, 1) := by decide +kernel
theorem dX11_turnsOf_5 : decode cX11_turnsOf 5 = .ok (.iconst 5, 1) := by decide +kernel
theorem dX11_turnsOf_6 : decode cX11_turnsOf 6 = .ok (.if_icmp .ge 95, 3) := by decide +kernel
theorem dX11_turnsOf_9 : decode cX11_turnsOf 9 = .ok (.iconst 1, 1) := by decide +kernel
theorem dX11_turnsOf_10 : decode cX11_turnsOf 10 = .ok (.istore 4, 2) := by decide +kernel
theorem dX11_turnsOf_12 : decode cX11_turnsOf 12 = .ok (.iconst 0, 1) := by decide +kernel
theorem dX11_turnsOf_13 : decode cX11_turnsOf 13 = .ok (.istore 5, 2) := by decide +kernel
theorem dX11_turnsOf_15 : decode cX11_turnsOf 15 = .ok (.iload 5, 2) := by decide +kernel
theorem dX11_turnsOf_17 : decode cX11_turnsOf 17 = .ok (.iconst 3, 1) := by decide +kernel
theorem dX11_turnsOf_18 : decode cX11_turnsOf 18 = .ok (.aload_n 0, 1) := by decide +kernel
theorem dX11_turnsOf_19 : decode cX11_turnsOf 19 = .ok (.getfield 134, 3) := by decide +kernel
theorem dX11_turnsOf_22 : decode cX11_turnsOf 22 = .ok (.imul, 1) := by decide +kernel
theorem dX11_turnsOf_23 : decode cX11_turnsOf 23 = .ok (.if_icmp .ge 57, 3) := by decide +kernel
theorem dX11_turnsOf_26 : decode cX11_turnsOf 26 = .ok (.iload 4, 2) := by decide +kernel
theorem dX11_turnsOf_28 : decode cX11_turnsOf 28 = .ok (.ifCond .eq 43, 3) := by decide +kernel
theorem dX11_turnsOf_31 : decode cX11_turnsOf 31 = .ok (.aload_n 0, 1) := by decide +kernel
theorem dX11_turnsOf_32 : decode cX11_turnsOf 32 = .ok (.getfield 46, 3) := by decide +kernel
theorem dX11_turnsOf_35 : decode cX11_turnsOf 35 = .ok (.iload 5, 2) := by decide +kernel
theorem dX11_turnsOf_37 : decode cX11_turnsOf 37 = .ok (.iaload, 1) := by decide +kernel
theorem dX11_turnsOf_38 : decode cX11_turnsOf 38 = .ok (.iload_n 1, 1) := by decide +kernel
theorem dX11_turnsOf_39 : decode cX11_turnsOf 39 = .ok (.if_icmp .ne 28, 3) := by decide +kernel
theorem dX11_turnsOf_42 : decode cX11_turnsOf 42 = .ok (.aload_n 0, 1) := by decide +kernel
theorem dX11_turnsOf_43 : decode cX11_turnsOf 43 = .ok (.getfield 46, 3) := by decide +kernel
theorem dX11_turnsOf_46 : decode cX11_turnsOf 46 = .ok (.iload 5, 2) := by decide +kernel
theorem dX11_turnsOf_48 : decode cX11_turnsOf 48 = .ok (.iconst 1, 1) := by decide +kernel
theorem dX11_turnsOf_49 : decode cX11_turnsOf 49 = .ok (.iadd, 1) := by decide +kernel
theorem dX11_turnsOf_50 : decode cX11_turnsOf 50 = .ok (.iaload, 1) := by decide +kernel
theorem dX11_turnsOf_51 : decode cX11_turnsOf 51 = .ok (.iload_n 3, 1) := by decide +kernel
theorem dX11_turnsOf_52 : decode cX11_turnsOf 52 = .ok (.invokestatic 246, 3) := by decide +kernel
theorem dX11_turnsOf_55 : decode cX11_turnsOf 55 = .ok (.aload_n 0, 1) := by decide +kernel
theorem dX11_turnsOf_56 : decode cX11_turnsOf 56 = .ok (.getfield 46, 3) := by decide +kernel
theorem dX11_turnsOf_59 : decode cX11_turnsOf 59 = .ok (.iload 5, 2) := by decide +kernel
theorem dX11_turnsOf_61 : decode cX11_turnsOf 61 = .ok (.iconst 2, 1) := by decide +kernel
theorem dX11_turnsOf_62 : decode cX11_turnsOf 62 = .ok (.iadd, 1) := by decide +kernel
theorem dX11_turnsOf_63 : decode cX11_turnsOf 63 = .ok (.iaload, 1) := by decide +kernel
theorem dX11_turnsOf_64 : decode cX11_turnsOf 64 = .ok (.if_icmp .ne 7, 3) := by decide +kernel
theorem dX11_turnsOf_67 : decode cX11_turnsOf 67 = .ok (.iconst 1, 1) := by decide +kernel
theorem dX11_turnsOf_68 : decode cX11_turnsOf 68 = .ok (.goto 4, 3) := by decide +kernel
theorem dX11_turnsOf_71 : decode cX11_turnsOf 71 = .ok (.iconst 0, 1) := by decide +kernel
theorem dX11_turnsOf_72 : decode cX11_turnsOf 72 = .ok (.istore 4, 2) := by decide +kernel
theorem dX11_turnsOf_74 : decode cX11_turnsOf 74 = .ok (.iinc 5 3, 3) := by decide +kernel
theorem dX11_turnsOf_77 : decode cX11_turnsOf 77 = .ok (.goto (-62), 3) := by decide +kernel
theorem dX11_turnsOf_80 : decode cX11_turnsOf 80 = .ok (.iload_n 2, 1) := by decide +kernel
theorem dX11_turnsOf_81 : decode cX11_turnsOf 81 = .ok (.iload 4, 2) := by decide +kernel
theorem dX11_turnsOf_83 : decode cX11_turnsOf 83 = .ok (.ifCond .eq 9, 3) := by decide +kernel
theorem dX11_turnsOf_86 : decode cX11_turnsOf 86 = .ok (.iconst 1, 1) := by decide +kernel
theorem dX11_turnsOf_87 : decode cX11_turnsOf 87 = .ok (.iload_n 3, 1) := by decide +kernel
theorem dX11_turnsOf_88 : decode cX11_turnsOf 88 = .ok (.ishl, 1) := by decide +kernel
theorem dX11_turnsOf_89 : decode cX11_turnsOf 89 = .ok (.goto 4, 3) := by decide +kernel
theorem dX11_turnsOf_92 : decode cX11_turnsOf 92 = .ok (.iconst 0, 1) := by decide +kernel
theorem dX11_turnsOf_93 : decode cX11_turnsOf 93 = .ok (.ior, 1) := by decide +kernel
theorem dX11_turnsOf_94 : decode cX11_turnsOf 94 = .ok (.istore_n 2, 1) := by decide +kernel
theorem dX11_turnsOf_95 : decode cX11_turnsOf 95 = .ok (.iinc 3 1, 3) := by decide +kernel
theorem dX11_turnsOf_98 : decode cX11_turnsOf 98 = .ok (.goto (-94), 3) := by decide +kernel
theorem dX11_turnsOf_101 : decode cX11_turnsOf 101 = .ok (.iload_n 2, 1) := by decide +kernel
theorem dX11_turnsOf_102 : decode cX11_turnsOf 102 = .ok (.ireturn, 1) := by decide +kernel
theorem dX11_aimOf_0 : decode cX11_aimOf 0 = .ok (.aload_n 0, 1) := by decide +kernel
theorem dX11_aimOf_1 : decode cX11_aimOf 1 = .ok (.iload_n 1, 1) := by decide +kernel
theorem dX11_aimOf_2 : decode cX11_aimOf 2 = .ok (.invokevirtual 200, 3) := by decide +kernel
theorem dX11_aimOf_5 : decode cX11_aimOf 5 = .ok (.istore_n 2, 1) := by decide +kernel
theorem dX11_aimOf_6 : decode cX11_aimOf 6 = .ok (.iconst (-1), 1) := by decide +kernel
theorem dX11_aimOf_7 : decode cX11_aimOf 7 = .ok (.istore_n 3, 1) := by decide +kernel
theorem dX11_aimOf_8 : decode cX11_aimOf 8 = .ok (.bipush 6, 2) := by decide +kernel
theorem dX11_aimOf_10 : decode cX11_aimOf 10 = .ok (.istore 4, 2) := by decide +kernel
theorem dX11_aimOf_12 : decode cX11_aimOf 12 = .ok (.iconst 0, 1) := by decide +kernel
theorem dX11_aimOf_13 : decode cX11_aimOf 13 = .ok (.istore 5, 2) := by decide +kernel
theorem dX11_aimOf_15 : decode cX11_aimOf 15 = .ok (.iload 5, 2) := by decide +kernel
theorem dX11_aimOf_17 : decode cX11_aimOf 17 = .ok (.bipush 6, 2) := by decide +kernel
theorem dX11_aimOf_19 : decode cX11_aimOf 19 = .ok (.if_icmp .ge 137, 3) := by decide +kernel
theorem dX11_aimOf_22 : decode cX11_aimOf 22 = .ok (.iload_n 2, 1) := by decide +kernel
theorem dX11_aimOf_23 : decode cX11_aimOf 23 = .ok (.ifCond .eq 133, 3) := by decide +kernel
theorem dX11_aimOf_26 : decode cX11_aimOf 26 = .ok (.iconst 0, 1) := by decide +kernel
theorem dX11_aimOf_27 : decode cX11_aimOf 27 = .ok (.istore 6, 2) := by decide +kernel
theorem dX11_aimOf_29 : decode cX11_aimOf 29 = .ok (.iconst 0, 1) := by decide +kernel
theorem dX11_aimOf_30 : decode cX11_aimOf 30 = .ok (.istore 7, 2) := by decide +kernel
theorem dX11_aimOf_32 : decode cX11_aimOf 32 = .ok (.iload 7, 2) := by decide +kernel
theorem dX11_aimOf_34 : decode cX11_aimOf 34 = .ok (.iconst 5, 1) := by decide +kernel
theorem dX11_aimOf_35 : decode cX11_aimOf 35 = .ok (.if_icmp .ge 85, 3) := by decide +kernel
theorem dX11_aimOf_38 : decode cX11_aimOf 38 = .ok (.iconst 0, 1) := by decide +kernel
theorem dX11_aimOf_39 : decode cX11_aimOf 39 = .ok (.istore 8, 2) := by decide +kernel
theorem dX11_aimOf_41 : decode cX11_aimOf 41 = .ok (.iconst 0, 1) := by decide +kernel
theorem dX11_aimOf_42 : decode cX11_aimOf 42 = .ok (.istore 9, 2) := by decide +kernel
theorem dX11_aimOf_44 : decode cX11_aimOf 44 = .ok (.iload 9, 2) := by decide +kernel
theorem dX11_aimOf_46 : decode cX11_aimOf 46 = .ok (.iconst 5, 1) := by decide +kernel
theorem dX11_aimOf_47 : decode cX11_aimOf 47 = .ok (.if_icmp .ge 41, 3) := by decide +kernel
theorem dX11_aimOf_50 : decode cX11_aimOf 50 = .ok (.iload 8, 2) := by decide +kernel
theorem dX11_aimOf_52 : decode cX11_aimOf 52 = .ok (.iload 5, 2) := by decide +kernel
theorem dX11_aimOf_54 : decode cX11_aimOf 54 = .ok (.iload 9, 2) := by decide +kernel
theorem dX11_aimOf_56 : decode cX11_aimOf 56 = .ok (.invokestatic 246, 3) := by decide +kernel
theorem dX11_aimOf_59 : decode cX11_aimOf 59 = .ok (.iload 5, 2) := by decide +kernel
theorem dX11_aimOf_61 : decode cX11_aimOf 61 = .ok (.iload 7, 2) := by decide +kernel
theorem dX11_aimOf_63 : decode cX11_aimOf 63 = .ok (.invokestatic 246, 3) := by decide +kernel
theorem dX11_aimOf_66 : decode cX11_aimOf 66 = .ok (.if_icmp .ne 12, 3) := by decide +kernel
theorem dX11_aimOf_69 : decode cX11_aimOf 69 = .ok (.iload_n 2, 1) := by decide +kernel
theorem dX11_aimOf_70 : decode cX11_aimOf 70 = .ok (.iload 9, 2) := by decide +kernel
theorem dX11_aimOf_72 : decode cX11_aimOf 72 = .ok (.ishr, 1) := by decide +kernel
theorem dX11_aimOf_73 : decode cX11_aimOf 73 = .ok (.iconst 1, 1) := by decide +kernel
theorem dX11_aimOf_74 : decode cX11_aimOf 74 = .ok (.iand, 1) := by decide +kernel
theorem dX11_aimOf_75 : decode cX11_aimOf 75 = .ok (.goto 4, 3) := by decide +kernel
theorem dX11_aimOf_78 : decode cX11_aimOf 78 = .ok (.iconst 0, 1) := by decide +kernel
theorem dX11_aimOf_79 : decode cX11_aimOf 79 = .ok (.iadd, 1) := by decide +kernel
theorem dX11_aimOf_80 : decode cX11_aimOf 80 = .ok (.istore 8, 2) := by decide +kernel
theorem dX11_aimOf_82 : decode cX11_aimOf 82 = .ok (.iinc 9 1, 3) := by decide +kernel
theorem dX11_aimOf_85 : decode cX11_aimOf 85 = .ok (.goto (-41), 3) := by decide +kernel
theorem dX11_aimOf_88 : decode cX11_aimOf 88 = .ok (.iload_n 2, 1) := by decide +kernel
theorem dX11_aimOf_89 : decode cX11_aimOf 89 = .ok (.iload 7, 2) := by decide +kernel
theorem dX11_aimOf_91 : decode cX11_aimOf 91 = .ok (.ishr, 1) := by decide +kernel
theorem dX11_aimOf_92 : decode cX11_aimOf 92 = .ok (.iconst 1, 1) := by decide +kernel
theorem dX11_aimOf_93 : decode cX11_aimOf 93 = .ok (.iand, 1) := by decide +kernel
theorem dX11_aimOf_94 : decode cX11_aimOf 94 = .ok (.iconst 1, 1) := by decide +kernel
theorem dX11_aimOf_95 : decode cX11_aimOf 95 = .ok (.if_icmp .ne 15, 3) := by decide +kernel
theorem dX11_aimOf_98 : decode cX11_aimOf 98 = .ok (.iload 8, 2) := by decide +kernel
theorem dX11_aimOf_100 : decode cX11_aimOf 100 = .ok (.iload 6, 2) := by decide +kernel
theorem dX11_aimOf_102 : decode cX11_aimOf 102 = .ok (.if_icmp .le 8, 3) := by decide +kernel
theorem dX11_aimOf_105 : decode cX11_aimOf 105 = .ok (.iload 8, 2) := by decide +kernel
theorem dX11_aimOf_107 : decode cX11_aimOf 107 = .ok (.goto 5, 3) := by decide +kernel
theorem dX11_aimOf_110 : decode cX11_aimOf 110 = .ok (.iload 6, 2) := by decide +kernel
theorem dX11_aimOf_112 : decode cX11_aimOf 112 = .ok (.istore 6, 2) := by decide +kernel
theorem dX11_aimOf_114 : decode cX11_aimOf 114 = .ok (.iinc 7 1, 3) := by decide +kernel
theorem dX11_aimOf_117 : decode cX11_aimOf 117 = .ok (.goto (-85), 3) := by decide +kernel
theorem dX11_aimOf_120 : decode cX11_aimOf 120 = .ok (.iload 6, 2) := by decide +kernel
theorem dX11_aimOf_122 : decode cX11_aimOf 122 = .ok (.iload 4, 2) := by decide +kernel
theorem dX11_aimOf_124 : decode cX11_aimOf 124 = .ok (.if_icmp .ge 8, 3) := by decide +kernel
theorem dX11_aimOf_127 : decode cX11_aimOf 127 = .ok (.iload 5, 2) := by decide +kernel
theorem dX11_aimOf_129 : decode cX11_aimOf 129 = .ok (.goto 4, 3) := by decide +kernel
theorem dX11_aimOf_132 : decode cX11_aimOf 132 = .ok (.iload_n 3, 1) := by decide +kernel
theorem dX11_aimOf_133 : decode cX11_aimOf 133 = .ok (.istore_n 3, 1) := by decide +kernel
theorem dX11_aimOf_134 : decode cX11_aimOf 134 = .ok (.iload 6, 2) := by decide +kernel
theorem dX11_aimOf_136 : decode cX11_aimOf 136 = .ok (.iload 4, 2) := by decide +kernel
theorem dX11_aimOf_138 : decode cX11_aimOf 138 = .ok (.if_icmp .ge 8, 3) := by decide +kernel
theorem dX11_aimOf_141 : decode cX11_aimOf 141 = .ok (.iload 6, 2) := by decide +kernel
theorem dX11_aimOf_143 : decode cX11_aimOf 143 = .ok (.goto 5, 3) := by decide +kernel
theorem dX11_aimOf_146 : decode cX11_aimOf 146 = .ok (.iload 4, 2) := by decide +kernel
theorem dX11_aimOf_148 : decode cX11_aimOf 148 = .ok (.istore 4, 2) := by decide +kernel
theorem dX11_aimOf_150 : decode cX11_aimOf 150 = .ok (.iinc 5 1, 3) := by decide +kernel
theorem dX11_aimOf_153 : decode cX11_aimOf 153 = .ok (.goto (-138), 3) := by decide +kernel
theorem dX11_aimOf_156 : decode cX11_aimOf 156 = .ok (.iload_n 3, 1) := by decide +kernel
theorem dX11_aimOf_157 : decode cX11_aimOf 157 = .ok (.ireturn, 1) := by decide +kernel
theorem dX11_draw_0 : decode cX11_draw 0 = .ok (.aload_n 0, 1) := by decide +kernel
theorem dX11_draw_1 : decode cX11_draw 1 = .ok (.ldc2_w 249, 3) := by decide +kernel
theorem dX11_draw_4 : decode cX11_draw 4 = .ok (.aload_n 0, 1) := by decide +kernel
theorem dX11_draw_5 : decode cX11_draw 5 = .ok (.getfield 251, 3) := by decide +kernel
theorem dX11_draw_8 : decode cX11_draw 8 = .ok (.i2l, 1) := by decide +kernel
theorem dX11_draw_9 : decode cX11_draw 9 = .ok (.lmul, 1) := by decide +kernel
theorem dX11_draw_10 : decode cX11_draw 10 = .ok (.ldc2_w 254, 3) := by decide +kernel
theorem dX11_draw_13 : decode cX11_draw 13 = .ok (.ladd, 1) := by decide +kernel
theorem dX11_draw_14 : decode cX11_draw 14 = .ok (.ldc2_w 256, 3) := by decide +kernel
theorem dX11_draw_17 : decode cX11_draw 17 = .ok (.land, 1) := by decide +kernel
theorem dX11_draw_18 : decode cX11_draw 18 = .ok (.l2i, 1) := by decide +kernel
theorem dX11_draw_19 : decode cX11_draw 19 = .ok (.putfield 251, 3) := by decide +kernel
theorem dX11_draw_22 : decode cX11_draw 22 = .ok (.aload_n 0, 1) := by decide +kernel
theorem dX11_draw_23 : decode cX11_draw 23 = .ok (.getfield 251, 3) := by decide +kernel
theorem dX11_draw_26 : decode cX11_draw 26 = .ok (.ldc_w 258, 3) := by decide +kernel
theorem dX11_draw_29 : decode cX11_draw 29 = .ok (.idiv, 1) := by decide +kernel
theorem dX11_draw_30 : decode cX11_draw 30 = .ok (.iload_n 1, 1) := by decide +kernel
theorem dX11_draw_31 : decode cX11_draw 31 = .ok (.irem, 1) := by decide +kernel
theorem dX11_draw_32 : decode cX11_draw 32 = .ok (.ireturn, 1) := by decide +kernel
theorem dX11_seasons_0 : decode cX11_seasons 0 = .ok (.iload_n 1, 1) := by decide +kernel
theorem dX11_seasons_1 : decode cX11_seasons 1 = .ok (.i2l, 1) := by decide +kernel
theorem dX11_seasons_2 : decode cX11_seasons 2 = .ok (.lconst 1, 1) := by decide +kernel
theorem dX11_seasons_3 : decode cX11_seasons 3 = .ok (.ldc2_w 217, 3) := by decide +kernel
theorem dX11_seasons_6 : decode cX11_seasons 6 = .ok (.invokestatic 79, 3) := by decide +kernel
theorem dX11_seasons_9 : decode cX11_seasons 9 = .ok (.ifCond .eq 19, 3) := by decide +kernel
theorem dX11_seasons_12 : decode cX11_seasons 12 = .ok (.iload_n 2, 1) := by decide +kernel
theorem dX11_seasons_13 : decode cX11_seasons 13 = .ok (.ifCond .lt 15, 3) := by decide +kernel
theorem dX11_seasons_16 : decode cX11_seasons 16 = .ok (.iload_n 3, 1) := by decide +kernel
theorem dX11_seasons_17 : decode cX11_seasons 17 = .ok (.i2l, 1) := by decide +kernel
theorem dX11_seasons_18 : decode cX11_seasons 18 = .ok (.lconst 0, 1) := by decide +kernel
theorem dX11_seasons_19 : decode cX11_seasons 19 = .ok (.ldc2_w 259, 3) := by decide +kernel
theorem dX11_seasons_22 : decode cX11_seasons 22 = .ok (.invokestatic 79, 3) := by decide +kernel
theorem dX11_seasons_25 : decode cX11_seasons 25 = .ok (.ifCond .ne 6, 3) := by decide +kernel
theorem dX11_seasons_28 : decode cX11_seasons 28 = .ok (.bipush (-102), 2) := by decide +kernel
theorem dX11_seasons_30 : decode cX11_seasons 30 = .ok (.ireturn, 1) := by decide +kernel
theorem dX11_seasons_31 : decode cX11_seasons 31 = .ok (.aload_n 0, 1) := by decide +kernel
theorem dX11_seasons_32 : decode cX11_seasons 32 = .ok (.invokevirtual 213, 3) := by decide +kernel
theorem dX11_seasons_35 : decode cX11_seasons 35 = .ok (.ifCond .eq 6, 3) := by decide +kernel
theorem dX11_seasons_38 : decode cX11_seasons 38 = .ok (.bipush (-103), 2) := by decide +kernel
theorem dX11_seasons_40 : decode cX11_seasons 40 = .ok (.ireturn, 1) := by decide +kernel
theorem dX11_seasons_41 : decode cX11_seasons 41 = .ok (.aload_n 0, 1) := by decide +kernel
theorem dX11_seasons_42 : decode cX11_seasons 42 = .ok (.iload_n 2, 1) := by decide +kernel
theorem dX11_seasons_43 : decode cX11_seasons 43 = .ok (.putfield 251, 3) := by decide +kernel
theorem dX11_seasons_46 : decode cX11_seasons 46 = .ok (.iconst 0, 1) := by decide +kernel
theorem dX11_seasons_47 : decode cX11_seasons 47 = .ok (.istore 4, 2) := by decide +kernel
theorem dX11_seasons_49 : decode cX11_seasons 49 = .ok (.iconst 0, 1) := by decide +kernel
theorem dX11_seasons_50 : decode cX11_seasons 50 = .ok (.istore 5, 2) := by decide +kernel
theorem dX11_seasons_52 : decode cX11_seasons 52 = .ok (.iconst 0, 1) := by decide +kernel
theorem dX11_seasons_53 : decode cX11_seasons 53 = .ok (.istore 6, 2) := by decide +kernel
theorem dX11_seasons_55 : decode cX11_seasons 55 = .ok (.iload 6, 2) := by decide +kernel
theorem dX11_seasons_57 : decode cX11_seasons 57 = .ok (.iload_n 1, 1) := by decide +kernel
theorem dX11_seasons_58 : decode cX11_seasons 58 = .ok (.if_icmp .ge 61, 3) := by decide +kernel
theorem dX11_seasons_61 : decode cX11_seasons 61 = .ok (.aload_n 0, 1) := by decide +kernel
theorem dX11_seasons_62 : decode cX11_seasons 62 = .ok (.iconst 3, 1) := by decide +kernel
theorem dX11_seasons_63 : decode cX11_seasons 63 = .ok (.invokevirtual 261, 3) := by decide +kernel
theorem dX11_seasons_66 : decode cX11_seasons 66 = .ok (.iconst 1, 1) := by decide +kernel
theorem dX11_seasons_67 : decode cX11_seasons 67 = .ok (.isub, 1) := by decide +kernel
theorem dX11_seasons_68 : decode cX11_seasons 68 = .ok (.istore 7, 2) := by decide +kernel
theorem dX11_seasons_70 : decode cX11_seasons 70 = .ok (.aload_n 0, 1) := by decide +kernel
theorem dX11_seasons_71 : decode cX11_seasons 71 = .ok (.aload_n 0, 1) := by decide +kernel
theorem dX11_seasons_72 : decode cX11_seasons 72 = .ok (.getfield 119, 3) := by decide +kernel
theorem dX11_seasons_75 : decode cX11_seasons 75 = .ok (.invokevirtual 261, 3) := by decide +kernel
theorem dX11_seasons_78 : decode cX11_seasons 78 = .ok (.istore 8, 2) := by decide +kernel
theorem dX11_seasons_80 : decode cX11_seasons 80 = .ok (.aload_n 0, 1) := by decide +kernel
theorem dX11_seasons_81 : decode cX11_seasons 81 = .ok (.iload 8, 2) := by decide +kernel
theorem dX11_seasons_83 : decode cX11_seasons 83 = .ok (.aload_n 0, 1) := by decide +kernel
theorem dX11_seasons_84 : decode cX11_seasons 84 = .ok (.bipush 36, 2) := by decide +kernel
theorem dX11_seasons_86 : decode cX11_seasons 86 = .ok (.invokevirtual 261, 3) := by decide +kernel
theorem dX11_seasons_89 : decode cX11_seasons 89 = .ok (.iload 7, 2) := by decide +kernel
theorem dX11_seasons_91 : decode cX11_seasons 91 = .ok (.invokevirtual 169, 3) := by decide +kernel
theorem dX11_seasons_94 : decode cX11_seasons 94 = .ok (.istore 9, 2) := by decide +kernel
theorem dX11_seasons_96 : decode cX11_seasons 96 = .ok (.iload 4, 2) := by decide +kernel
theorem dX11_seasons_98 : decode cX11_seasons 98 = .ok (.iload 9, 2) := by decide +kernel
theorem dX11_seasons_100 : decode cX11_seasons 100 = .ok (.invokestatic 191, 3) := by decide +kernel
theorem dX11_seasons_103 : decode cX11_seasons 103 = .ok (.iadd, 1) := by decide +kernel
theorem dX11_seasons_104 : decode cX11_seasons 104 = .ok (.istore 4, 2) := by decide +kernel
theorem dX11_seasons_106 : decode cX11_seasons 106 = .ok (.iload 5, 2) := by decide +kernel
theorem dX11_seasons_108 : decode cX11_seasons 108 = .ok (.iload 9, 2) := by decide +kernel
theorem dX11_seasons_110 : decode cX11_seasons 110 = .ok (.ior, 1) := by decide +kernel
theorem dX11_seasons_111 : decode cX11_seasons 111 = .ok (.istore 5, 2) := by decide +kernel
theorem dX11_seasons_113 : decode cX11_seasons 113 = .ok (.iinc 6 1, 3) := by decide +kernel
theorem dX11_seasons_116 : decode cX11_seasons 116 = .ok (.goto (-61), 3) := by decide +kernel
theorem dX11_seasons_119 : decode cX11_seasons 119 = .ok (.iload_n 3, 1) := by decide +kernel
theorem dX11_seasons_120 : decode cX11_seasons 120 = .ok (.ifCond .ne 8, 3) := by decide +kernel
theorem dX11_seasons_123 : decode cX11_seasons 123 = .ok (.iload 4, 2) := by decide +kernel
theorem dX11_seasons_125 : decode cX11_seasons 125 = .ok (.goto 20, 3) := by decide +kernel
theorem dX11_seasons_128 : decode cX11_seasons 128 = .ok (.iload_n 3, 1) := by decide +kernel
theorem dX11_seasons_129 : decode cX11_seasons 129 = .ok (.iconst 1, 1) := by decide +kernel
theorem dX11_seasons_130 : decode cX11_seasons 130 = .ok (.if_icmp .ne 11, 3) := by decide +kernel
theorem dX11_seasons_133 : decode cX11_seasons 133 = .ok (.iload 5, 2) := by decide +kernel
theorem dX11_seasons_135 : decode cX11_seasons 135 = .ok (.invokestatic 191, 3) := by decide +kernel
theorem dX11_seasons_138 : decode cX11_seasons 138 = .ok (.goto 7, 3) := by decide +kernel
theorem dX11_seasons_141 : decode cX11_seasons 141 = .ok (.aload_n 0, 1) := by decide +kernel
theorem dX11_seasons_142 : decode cX11_seasons 142 = .ok (.getfield 251, 3) := by decide +kernel
theorem dX11_seasons_145 : decode cX11_seasons 145 = .ok (.ireturn, 1) := by decide +kernel
theorem dX11_image_0 : decode cX11_image 0 = .ok (.aload_n 0, 1) := by decide +kernel
theorem dX11_image_1 : decode cX11_image 1 = .ok (.invokevirtual 213, 3) := by decide +kernel
theorem dX11_image_4 : decode cX11_image 4 = .ok (.ifCond .eq 6, 3) := by decide +kernel
theorem dX11_image_7 : decode cX11_image 7 = .ok (.bipush (-103), 2) := by decide +kernel
theorem dX11_image_9 : decode cX11_image 9 = .ok (.ireturn, 1) := by decide +kernel
theorem dX11_image_10 : decode cX11_image 10 = .ok (.aload_n 0, 1) := by decide +kernel
theorem dX11_image_11 : decode cX11_image 11 = .ok (.getfield 13, 3) := by decide +kernel
theorem dX11_image_14 : decode cX11_image 14 = .ok (.aload_n 0, 1) := by decide +kernel
theorem dX11_image_15 : decode cX11_image 15 = .ok (.getfield 49, 3) := by decide +kernel
theorem dX11_image_18 : decode cX11_image 18 = .ok (.invokestatic 264, 3) := by decide +kernel
theorem dX11_image_21 : decode cX11_image 21 = .ok (.aload_n 0, 1) := by decide +kernel
theorem dX11_image_22 : decode cX11_image 22 = .ok (.getfield 16, 3) := by decide +kernel
theorem dX11_image_25 : decode cX11_image 25 = .ok (.aload_n 0, 1) := by decide +kernel
theorem dX11_image_26 : decode cX11_image 26 = .ok (.getfield 52, 3) := by decide +kernel
theorem dX11_image_29 : decode cX11_image 29 = .ok (.invokestatic 264, 3) := by decide +kernel
theorem dX11_image_32 : decode cX11_image 32 = .ok (.aload_n 0, 1) := by decide +kernel
theorem dX11_image_33 : decode cX11_image 33 = .ok (.getfield 19, 3) := by decide +kernel
theorem dX11_image_36 : decode cX11_image 36 = .ok (.aload_n 0, 1) := by decide +kernel
theorem dX11_image_37 : decode cX11_image 37 = .ok (.getfield 55, 3) := by decide +kernel
theorem dX11_image_40 : decode cX11_image 40 = .ok (.invokestatic 264, 3) := by decide +kernel
theorem dX11_image_43 : decode cX11_image 43 = .ok (.aload_n 0, 1) := by decide +kernel
theorem dX11_image_44 : decode cX11_image 44 = .ok (.getfield 22, 3) := by decide +kernel
theorem dX11_image_47 : decode cX11_image 47 = .ok (.aload_n 0, 1) := by decide +kernel
theorem dX11_image_48 : decode cX11_image 48 = .ok (.getfield 58, 3) := by decide +kernel
theorem dX11_image_51 : decode cX11_image 51 = .ok (.invokestatic 264, 3) := by decide +kernel
theorem dX11_image_54 : decode cX11_image 54 = .ok (.aload_n 0, 1) := by decide +kernel
theorem dX11_image_55 : decode cX11_image 55 = .ok (.getfield 28, 3) := by decide +kernel
theorem dX11_image_58 : decode cX11_image 58 = .ok (.aload_n 0, 1) := by decide +kernel
theorem dX11_image_59 : decode cX11_image 59 = .ok (.getfield 61, 3) := by decide +kernel
theorem dX11_image_62 : decode cX11_image 62 = .ok (.invokestatic 264, 3) := by decide +kernel
theorem dX11_image_65 : decode cX11_image 65 = .ok (.aload_n 0, 1) := by decide +kernel
theorem dX11_image_66 : decode cX11_image 66 = .ok (.getfield 31, 3) := by decide +kernel
theorem dX11_image_69 : decode cX11_image 69 = .ok (.aload_n 0, 1) := by decide +kernel
theorem dX11_image_70 : decode cX11_image 70 = .ok (.getfield 64, 3) := by decide +kernel
theorem dX11_image_73 : decode cX11_image 73 = .ok (.invokestatic 264, 3) := by decide +kernel
theorem dX11_image_76 : decode cX11_image 76 = .ok (.aload_n 0, 1) := by decide +kernel
theorem dX11_image_77 : decode cX11_image 77 = .ok (.getfield 34, 3) := by decide +kernel
theorem dX11_image_80 : decode cX11_image 80 = .ok (.aload_n 0, 1) := by decide +kernel
theorem dX11_image_81 : decode cX11_image 81 = .ok (.getfield 67, 3) := by decide +kernel
theorem dX11_image_84 : decode cX11_image 84 = .ok (.invokestatic 264, 3) := by decide +kernel
theorem dX11_image_87 : decode cX11_image 87 = .ok (.aload_n 0, 1) := by decide +kernel
theorem dX11_image_88 : decode cX11_image 88 = .ok (.getfield 46, 3) := by decide +kernel
theorem dX11_image_91 : decode cX11_image 91 = .ok (.aload_n 0, 1) := by decide +kernel
theorem dX11_image_92 : decode cX11_image 92 = .ok (.getfield 70, 3) := by decide +kernel
theorem dX11_image_95 : decode cX11_image 95 = .ok (.invokestatic 264, 3) := by decide +kernel
theorem dX11_image_98 : decode cX11_image 98 = .ok (.aload_n 0, 1) := by decide +kernel
theorem dX11_image_99 : decode cX11_image 99 = .ok (.aload_n 0, 1) := by decide +kernel
theorem dX11_image_100 : decode cX11_image 100 = .ok (.getfield 122, 3) := by decide +kernel
theorem dX11_image_103 : decode cX11_image 103 = .ok (.putfield 268, 3) := by decide +kernel
theorem dX11_image_106 : decode cX11_image 106 = .ok (.aload_n 0, 1) := by decide +kernel
theorem dX11_image_107 : decode cX11_image 107 = .ok (.aload_n 0, 1) := by decide +kernel
theorem dX11_image_108 : decode cX11_image 108 = .ok (.getfield 125, 3) := by decide +kernel
theorem dX11_image_111 : decode cX11_image 111 = .ok (.putfield 271, 3) := by decide +kernel
theorem dX11_image_114 : decode cX11_image 114 = .ok (.aload_n 0, 1) := by decide +kernel
theorem dX11_image_115 : decode cX11_image 115 = .ok (.aload_n 0, 1) := by decide +kernel
theorem dX11_image_116 : decode cX11_image 116 = .ok (.getfield 128, 3) := by decide +kernel
theorem dX11_image_119 : decode cX11_image 119 = .ok (.putfield 274, 3) := by decide +kernel
theorem dX11_image_122 : decode cX11_image 122 = .ok (.aload_n 0, 1) := by decide +kernel
theorem dX11_image_123 : decode cX11_image 123 = .ok (.aload_n 0, 1) := by decide +kernel
theorem dX11_image_124 : decode cX11_image 124 = .ok (.getfield 131, 3) := by decide +kernel
theorem dX11_image_127 : decode cX11_image 127 = .ok (.putfield 277, 3) := by decide +kernel
theorem dX11_image_130 : decode cX11_image 130 = .ok (.aload_n 0, 1) := by decide +kernel
theorem dX11_image_131 : decode cX11_image 131 = .ok (.aload_n 0, 1) := by decide +kernel
theorem dX11_image_132 : decode cX11_image 132 = .ok (.getfield 134, 3) := by decide +kernel
theorem dX11_image_135 : decode cX11_image 135 = .ok (.putfield 280, 3) := by decide +kernel
theorem dX11_image_138 : decode cX11_image 138 = .ok (.aload_n 0, 1) := by decide +kernel
theorem dX11_image_139 : decode cX11_image 139 = .ok (.aload_n 0, 1) := by decide +kernel
theorem dX11_image_140 : decode cX11_image 140 = .ok (.getfield 137, 3) := by decide +kernel
theorem dX11_image_143 : decode cX11_image 143 = .ok (.putfield 73, 3) := by decide +kernel
theorem dX11_image_146 : decode cX11_image 146 = .ok (.aload_n 0, 1) := by decide +kernel
theorem dX11_image_147 : decode cX11_image 147 = .ok (.getfield 128, 3) := by decide +kernel
theorem dX11_image_150 : decode cX11_image 150 = .ok (.ireturn, 1) := by decide +kernel
theorem dX11_restore_0 : decode cX11_restore 0 = .ok (.aload_n 0, 1) := by decide +kernel
theorem dX11_restore_1 : decode cX11_restore 1 = .ok (.getfield 73, 3) := by decide +kernel
theorem dX11_restore_4 : decode cX11_restore 4 = .ok (.aload_n 0, 1) := by decide +kernel
theorem dX11_restore_5 : decode cX11_restore 5 = .ok (.getfield 137, 3) := by decide +kernel
theorem dX11_restore_8 : decode cX11_restore 8 = .ok (.if_icmp .eq 6, 3) := by decide +kernel
theorem dX11_restore_11 : decode cX11_restore 11 = .ok (.bipush (-103), 2) := by decide +kernel
theorem dX11_restore_13 : decode cX11_restore 13 = .ok (.ireturn, 1) := by decide +kernel
theorem dX11_restore_14 : decode cX11_restore 14 = .ok (.aload_n 0, 1) := by decide +kernel
theorem dX11_restore_15 : decode cX11_restore 15 = .ok (.getfield 49, 3) := by decide +kernel
theorem dX11_restore_18 : decode cX11_restore 18 = .ok (.aload_n 0, 1) := by decide +kernel
theorem dX11_restore_19 : decode cX11_restore 19 = .ok (.getfield 13, 3) := by decide +kernel
theorem dX11_restore_22 : decode cX11_restore 22 = .ok (.invokestatic 264, 3) := by decide +kernel
theorem dX11_restore_25 : decode cX11_restore 25 = .ok (.aload_n 0, 1) := by decide +kernel
theorem dX11_restore_26 : decode cX11_restore 26 = .ok (.getfield 52, 3) := by decide +kernel
theorem dX11_restore_29 : decode cX11_restore 29 = .ok (.aload_n 0, 1) := by decide +kernel
theorem dX11_restore_30 : decode cX11_restore 30 = .ok (.getfield 16, 3) := by decide +kernel
theorem dX11_restore_33 : decode cX11_restore 33 = .ok (.invokestatic 264, 3) := by decide +kernel
theorem dX11_restore_36 : decode cX11_restore 36 = .ok (.aload_n 0, 1) := by decide +kernel
theorem dX11_restore_37 : decode cX11_restore 37 = .ok (.getfield 55, 3) := by decide +kernel
theorem dX11_restore_40 : decode cX11_restore 40 = .ok (.aload_n 0, 1) := by decide +kernel
theorem dX11_restore_41 : decode cX11_restore 41 = .ok (.getfield 19, 3) := by decide +kernel
theorem dX11_restore_44 : decode cX11_restore 44 = .ok (.invokestatic 264, 3) := by decide +kernel
theorem dX11_restore_47 : decode cX11_restore 47 = .ok (.aload_n 0, 1) := by decide +kernel
theorem dX11_restore_48 : decode cX11_restore 48 = .ok (.getfield 58, 3) := by decide +kernel
theorem dX11_restore_51 : decode cX11_restore 51 = .ok (.aload_n 0, 1) := by decide +kernel
theorem dX11_restore_52 : decode cX11_restore 52 = .ok (.getfield 22, 3) := by decide +kernel
theorem dX11_restore_55 : decode cX11_restore 55 = .ok (.invokestatic 264, 3) := by decide +kernel
theorem dX11_restore_58 : decode cX11_restore 58 = .ok (.aload_n 0, 1) := by decide +kernel
theorem dX11_restore_59 : decode cX11_restore 59 = .ok (.getfield 61, 3) := by decide +kernel
theorem dX11_restore_62 : decode cX11_restore 62 = .ok (.aload_n 0, 1) := by decide +kernel
theorem dX11_restore_63 : decode cX11_restore 63 = .ok (.getfield 28, 3) := by decide +kernel
theorem dX11_restore_66 : decode cX11_restore 66 = .ok (.invokestatic 264, 3) := by decide +kernel
theorem dX11_restore_69 : decode cX11_restore 69 = .ok (.aload_n 0, 1) := by decide +kernel
theorem dX11_restore_70 : decode cX11_restore 70 = .ok (.getfield 64, 3) := by decide +kernel
theorem dX11_restore_73 : decode cX11_restore 73 = .ok (.aload_n 0, 1) := by decide +kernel
theorem dX11_restore_74 : decode cX11_restore 74 = .ok (.getfield 31, 3) := by decide +kernel
theorem dX11_restore_77 : decode cX11_restore 77 = .ok (.invokestatic 264, 3) := by decide +kernel
theorem dX11_restore_80 : decode cX11_restore 80 = .ok (.aload_n 0, 1) := by decide +kernel
theorem dX11_restore_81 : decode cX11_restore 81 = .ok (.getfield 67, 3) := by decide +kernel
theorem dX11_restore_84 : decode cX11_restore 84 = .ok (.aload_n 0, 1) := by decide +kernel
theorem dX11_restore_85 : decode cX11_restore 85 = .ok (.getfield 34, 3) := by decide +kernel
theorem dX11_restore_88 : decode cX11_restore 88 = .ok (.invokestatic 264, 3) := by decide +kernel
theorem dX11_restore_91 : decode cX11_restore 91 = .ok (.aload_n 0, 1) := by decide +kernel
theorem dX11_restore_92 : decode cX11_restore 92 = .ok (.getfield 70, 3) := by decide +kernel
theorem dX11_restore_95 : decode cX11_restore 95 = .ok (.aload_n 0, 1) := by decide +kernel
theorem dX11_restore_96 : decode cX11_restore 96 = .ok (.getfield 46, 3) := by decide +kernel
theorem dX11_restore_99 : decode cX11_restore 99 = .ok (.invokestatic 264, 3) := by decide +kernel
theorem dX11_restore_102 : decode cX11_restore 102 = .ok (.aload_n 0, 1) := by decide +kernel
theorem dX11_restore_103 : decode cX11_restore 103 = .ok (.aload_n 0, 1) := by decide +kernel
theorem dX11_restore_104 : decode cX11_restore 104 = .ok (.getfield 268, 3) := by decide +kernel
theorem dX11_restore_107 : decode cX11_restore 107 = .ok (.putfield 122, 3) := by decide +kernel
theorem dX11_restore_110 : decode cX11_restore 110 = .ok (.aload_n 0, 1) := by decide +kernel
theorem dX11_restore_111 : decode cX11_restore 111 = .ok (.aload_n 0, 1) := by decide +kernel
theorem dX11_restore_112 : decode cX11_restore 112 = .ok (.getfield 271, 3) := by decide +kernel
theorem dX11_restore_115 : decode cX11_restore 115 = .ok (.putfield 125, 3) := by decide +kernel
theorem dX11_restore_118 : decode cX11_restore 118 = .ok (.aload_n 0, 1) := by decide +kernel
theorem dX11_restore_119 : decode cX11_restore 119 = .ok (.aload_n 0, 1) := by decide +kernel
theorem dX11_restore_120 : decode cX11_restore 120 = .ok (.getfield 274, 3) := by decide +kernel
theorem dX11_restore_123 : decode cX11_restore 123 = .ok (.putfield 128, 3) := by decide +kernel
theorem dX11_restore_126 : decode cX11_restore 126 = .ok (.aload_n 0, 1) := by decide +kernel
theorem dX11_restore_127 : decode cX11_restore 127 = .ok (.aload_n 0, 1) := by decide +kernel
theorem dX11_restore_128 : decode cX11_restore 128 = .ok (.getfield 277, 3) := by decide +kernel
theorem dX11_restore_131 : decode cX11_restore 131 = .ok (.putfield 131, 3) := by decide +kernel
theorem dX11_restore_134 : decode cX11_restore 134 = .ok (.aload_n 0, 1) := by decide +kernel
theorem dX11_restore_135 : decode cX11_restore 135 = .ok (.aload_n 0, 1) := by decide +kernel
theorem dX11_restore_136 : decode cX11_restore 136 = .ok (.getfield 280, 3) := by decide +kernel
theorem dX11_restore_139 : decode cX11_restore 139 = .ok (.putfield 134, 3) := by decide +kernel
theorem dX11_restore_142 : decode cX11_restore 142 = .ok (.aload_n 0, 1) := by decide +kernel
theorem dX11_restore_143 : decode cX11_restore 143 = .ok (.getfield 128, 3) := by decide +kernel
theorem dX11_restore_146 : decode cX11_restore 146 = .ok (.ireturn, 1) := by decide +kernel
theorem dX11_sumOf_0 : decode cX11_sumOf 0 = .ok (.iconst 0, 1) := by decide +kernel
theorem dX11_sumOf_1 : decode cX11_sumOf 1 = .ok (.istore_n 2, 1) := by decide +kernel
theorem dX11_sumOf_2 : decode cX11_sumOf 2 = .ok (.iconst 0, 1) := by decide +kernel
theorem dX11_sumOf_3 : decode cX11_sumOf 3 = .ok (.istore_n 3, 1) := by decide +kernel
theorem dX11_sumOf_4 : decode cX11_sumOf 4 = .ok (.iload_n 3, 1) := by decide +kernel
theorem dX11_sumOf_5 : decode cX11_sumOf 5 = .ok (.aload_n 0, 1) := by decide +kernel
theorem dX11_sumOf_6 : decode cX11_sumOf 6 = .ok (.getfield 116, 3) := by decide +kernel
theorem dX11_sumOf_9 : decode cX11_sumOf 9 = .ok (.if_icmp .ge 15, 3) := by decide +kernel
theorem dX11_sumOf_12 : decode cX11_sumOf 12 = .ok (.iload_n 2, 1) := by decide +kernel
theorem dX11_sumOf_13 : decode cX11_sumOf 13 = .ok (.aload_n 1, 1) := by decide +kernel
theorem dX11_sumOf_14 : decode cX11_sumOf 14 = .ok (.iload_n 3, 1) := by decide +kernel
theorem dX11_sumOf_15 : decode cX11_sumOf 15 = .ok (.iaload, 1) := by decide +kernel
theorem dX11_sumOf_16 : decode cX11_sumOf 16 = .ok (.iadd, 1) := by decide +kernel
theorem dX11_sumOf_17 : decode cX11_sumOf 17 = .ok (.istore_n 2, 1) := by decide +kernel
theorem dX11_sumOf_18 : decode cX11_sumOf 18 = .ok (.iinc 3 1, 3) := by decide +kernel
theorem dX11_sumOf_21 : decode cX11_sumOf 21 = .ok (.goto (-17), 3) := by decide +kernel
theorem dX11_sumOf_24 : decode cX11_sumOf 24 = .ok (.iload_n 2, 1) := by decide +kernel
theorem dX11_sumOf_25 : decode cX11_sumOf 25 = .ok (.ireturn, 1) := by decide +kernel
theorem dX11_countOf_0 : decode cX11_countOf 0 = .ok (.iload_n 1, 1) := by decide +kernel
theorem dX11_countOf_1 : decode cX11_countOf 1 = .ok (.tableswitch 137 0 11 #[63, 68, 73, 82, 87, 94, 99, 108, 117, 122, 127, 132], 63) := by decide +kernel
theorem dX11_countOf_64 : decode cX11_countOf 64 = .ok (.aload_n 0, 1) := by decide +kernel
theorem dX11_countOf_65 : decode cX11_countOf 65 = .ok (.getfield 116, 3) := by decide +kernel
theorem dX11_countOf_68 : decode cX11_countOf 68 = .ok (.ireturn, 1) := by decide +kernel
theorem dX11_countOf_69 : decode cX11_countOf 69 = .ok (.aload_n 0, 1) := by decide +kernel
theorem dX11_countOf_70 : decode cX11_countOf 70 = .ok (.getfield 119, 3) := by decide +kernel
theorem dX11_countOf_73 : decode cX11_countOf 73 = .ok (.ireturn, 1) := by decide +kernel
theorem dX11_countOf_74 : decode cX11_countOf 74 = .ok (.aload_n 0, 1) := by decide +kernel
theorem dX11_countOf_75 : decode cX11_countOf 75 = .ok (.aload_n 0, 1) := by decide +kernel
theorem dX11_countOf_76 : decode cX11_countOf 76 = .ok (.getfield 16, 3) := by decide +kernel
theorem dX11_countOf_79 : decode cX11_countOf 79 = .ok (.invokevirtual 283, 3) := by decide +kernel
theorem dX11_countOf_82 : decode cX11_countOf 82 = .ok (.ireturn, 1) := by decide +kernel
theorem dX11_countOf_83 : decode cX11_countOf 83 = .ok (.aload_n 0, 1) := by decide +kernel
theorem dX11_countOf_84 : decode cX11_countOf 84 = .ok (.getfield 125, 3) := by decide +kernel
theorem dX11_countOf_87 : decode cX11_countOf 87 = .ok (.ireturn, 1) := by decide +kernel
theorem dX11_countOf_88 : decode cX11_countOf 88 = .ok (.aload_n 0, 1) := by decide +kernel
theorem dX11_countOf_89 : decode cX11_countOf 89 = .ok (.getfield 122, 3) := by decide +kernel
theorem dX11_countOf_92 : decode cX11_countOf 92 = .ok (.iconst 1, 1) := by decide +kernel
theorem dX11_countOf_93 : decode cX11_countOf 93 = .ok (.iadd, 1) := by decide +kernel
theorem dX11_countOf_94 : decode cX11_countOf 94 = .ok (.ireturn, 1) := by decide +kernel
theorem dX11_countOf_95 : decode cX11_countOf 95 = .ok (.aload_n 0, 1) := by decide +kernel
theorem dX11_countOf_96 : decode cX11_countOf 96 = .ok (.getfield 128, 3) := by decide +kernel
theorem dX11_countOf_99 : decode cX11_countOf 99 = .ok (.ireturn, 1) := by decide +kernel
theorem dX11_countOf_100 : decode cX11_countOf 100 = .ok (.aload_n 0, 1) := by decide +kernel
theorem dX11_countOf_101 : decode cX11_countOf 101 = .ok (.aload_n 0, 1) := by decide +kernel
theorem dX11_countOf_102 : decode cX11_countOf 102 = .ok (.getfield 19, 3) := by decide +kernel
theorem dX11_countOf_105 : decode cX11_countOf 105 = .ok (.invokevirtual 283, 3) := by decide +kernel
theorem dX11_countOf_108 : decode cX11_countOf 108 = .ok (.ireturn, 1) := by decide +kernel
theorem dX11_countOf_109 : decode cX11_countOf 109 = .ok (.aload_n 0, 1) := by decide +kernel
theorem dX11_countOf_110 : decode cX11_countOf 110 = .ok (.aload_n 0, 1) := by decide +kernel
theorem dX11_countOf_111 : decode cX11_countOf 111 = .ok (.getfield 22, 3) := by decide +kernel
theorem dX11_countOf_114 : decode cX11_countOf 114 = .ok (.invokevirtual 283, 3) := by decide +kernel
theorem dX11_countOf_117 : decode cX11_countOf 117 = .ok (.ireturn, 1) := by decide +kernel
theorem dX11_countOf_118 : decode cX11_countOf 118 = .ok (.aload_n 0, 1) := by decide +kernel
theorem dX11_countOf_119 : decode cX11_countOf 119 = .ok (.getfield 131, 3) := by decide +kernel
theorem dX11_countOf_122 : decode cX11_countOf 122 = .ok (.ireturn, 1) := by decide +kernel
theorem dX11_countOf_123 : decode cX11_countOf 123 = .ok (.aload_n 0, 1) := by decide +kernel
theorem dX11_countOf_124 : decode cX11_countOf 124 = .ok (.getfield 134, 3) := by decide +kernel
theorem dX11_countOf_127 : decode cX11_countOf 127 = .ok (.ireturn, 1) := by decide +kernel
theorem dX11_countOf_128 : decode cX11_countOf 128 = .ok (.aload_n 0, 1) := by decide +kernel
theorem dX11_countOf_129 : decode cX11_countOf 129 = .ok (.getfield 83, 3) := by decide +kernel
theorem dX11_countOf_132 : decode cX11_countOf 132 = .ok (.ireturn, 1) := by decide +kernel
theorem dX11_countOf_133 : decode cX11_countOf 133 = .ok (.aload_n 0, 1) := by decide +kernel
theorem dX11_countOf_134 : decode cX11_countOf 134 = .ok (.getfield 137, 3) := by decide +kernel
theorem dX11_countOf_137 : decode cX11_countOf 137 = .ok (.ireturn, 1) := by decide +kernel
theorem dX11_countOf_138 : decode cX11_countOf 138 = .ok (.bipush (-102), 2) := by decide +kernel
theorem dX11_countOf_140 : decode cX11_countOf 140 = .ok (.ireturn, 1) := by decide +kernel
theorem dX11_count_0 : decode cX11_count 0 = .ok (.aload_n 0, 1) := by decide +kernel
theorem dX11_count_1 : decode cX11_count 1 = .ok (.iload_n 1, 1) := by decide +kernel
theorem dX11_count_2 : decode cX11_count 2 = .ok (.invokevirtual 287, 3) := by decide +kernel
theorem dX11_count_5 : decode cX11_count 5 = .ok (.ireturn, 1) := by decide +kernel
theorem dX11_say_0 : decode cX11_say 0 = .ok (.aload_n 0, 1) := by decide +kernel
theorem dX11_say_1 : decode cX11_say 1 = .ok (.ldc2_w 290, 3) := by decide +kernel
theorem dX11_say_4 : decode cX11_say 4 = .ok (.aload_n 0, 1) := by decide +kernel
theorem dX11_say_5 : decode cX11_say 5 = .ok (.getfield 292, 3) := by decide +kernel
theorem dX11_say_8 : decode cX11_say 8 = .ok (.lmul, 1) := by decide +kernel
theorem dX11_say_9 : decode cX11_say 9 = .ok (.lload_n 1, 1) := by decide +kernel
theorem dX11_say_10 : decode cX11_say 10 = .ok (.ladd, 1) := by decide +kernel
theorem dX11_say_11 : decode cX11_say 11 = .ok (.putfield 292, 3) := by decide +kernel
theorem dX11_say_14 : decode cX11_say 14 = .ok (.return_, 1) := by decide +kernel
theorem dX11_sayTosser_0 : decode cX11_sayTosser 0 = .ok (.iconst 0, 1) := by decide +kernel
theorem dX11_sayTosser_1 : decode cX11_sayTosser 1 = .ok (.istore_n 2, 1) := by decide +kernel
theorem dX11_sayTosser_2 : decode cX11_sayTosser 2 = .ok (.iload_n 2, 1) := by decide +kernel
theorem dX11_sayTosser_3 : decode cX11_sayTosser 3 = .ok (.bipush 9, 2) := by decide +kernel
theorem dX11_sayTosser_5 : decode cX11_sayTosser 5 = .ok (.if_icmp .ge 20, 3) := by decide +kernel
theorem dX11_sayTosser_8 : decode cX11_sayTosser 8 = .ok (.aload_n 0, 1) := by decide +kernel
theorem dX11_sayTosser_9 : decode cX11_sayTosser 9 = .ok (.aload_n 0, 1) := by decide +kernel
theorem dX11_sayTosser_10 : decode cX11_sayTosser 10 = .ok (.iload_n 1, 1) := by decide +kernel
theorem dX11_sayTosser_11 : decode cX11_sayTosser 11 = .ok (.iload_n 2, 1) := by decide +kernel
theorem dX11_sayTosser_12 : decode cX11_sayTosser 12 = .ok (.invokevirtual 206, 3) := by decide +kernel
theorem dX11_sayTosser_15 : decode cX11_sayTosser 15 = .ok (.i2l, 1) := by decide +kernel
theorem dX11_sayTosser_16 : decode cX11_sayTosser 16 = .ok (.invokevirtual 296, 3) := by decide +kernel
theorem dX11_sayTosser_19 : decode cX11_sayTosser 19 = .ok (.iinc 2 1, 3) := by decide +kernel
theorem dX11_sayTosser_22 : decode cX11_sayTosser 22 = .ok (.goto (-20), 3) := by decide +kernel
theorem dX11_sayTosser_25 : decode cX11_sayTosser 25 = .ok (.aload_n 0, 1) := by decide +kernel
theorem dX11_sayTosser_26 : decode cX11_sayTosser 26 = .ok (.aload_n 0, 1) := by decide +kernel
theorem dX11_sayTosser_27 : decode cX11_sayTosser 27 = .ok (.iload_n 1, 1) := by decide +kernel
theorem dX11_sayTosser_28 : decode cX11_sayTosser 28 = .ok (.bipush 14, 2) := by decide +kernel
theorem dX11_sayTosser_30 : decode cX11_sayTosser 30 = .ok (.aload_n 0, 1) := by decide +kernel
theorem dX11_sayTosser_31 : decode cX11_sayTosser 31 = .ok (.getfield 122, 3) := by decide +kernel
theorem dX11_sayTosser_34 : decode cX11_sayTosser 34 = .ok (.invokevirtual 151, 3) := by decide +kernel
theorem dX11_sayTosser_37 : decode cX11_sayTosser 37 = .ok (.i2l, 1) := by decide +kernel
theorem dX11_sayTosser_38 : decode cX11_sayTosser 38 = .ok (.invokevirtual 296, 3) := by decide +kernel
theorem dX11_sayTosser_41 : decode cX11_sayTosser 41 = .ok (.aload_n 0, 1) := by decide +kernel
theorem dX11_sayTosser_42 : decode cX11_sayTosser 42 = .ok (.aload_n 0, 1) := by decide +kernel
theorem dX11_sayTosser_43 : decode cX11_sayTosser 43 = .ok (.iload_n 1, 1) := by decide +kernel
theorem dX11_sayTosser_44 : decode cX11_sayTosser 44 = .ok (.bipush 14, 2) := by decide +kernel
theorem dX11_sayTosser_46 : decode cX11_sayTosser 46 = .ok (.aload_n 0, 1) := by decide +kernel
theorem dX11_sayTosser_47 : decode cX11_sayTosser 47 = .ok (.getfield 122, 3) := by decide +kernel
theorem dX11_sayTosser_50 : decode cX11_sayTosser 50 = .ok (.invokevirtual 169, 3) := by decide +kernel
theorem dX11_sayTosser_53 : decode cX11_sayTosser 53 = .ok (.i2l, 1) := by decide +kernel
theorem dX11_sayTosser_54 : decode cX11_sayTosser 54 = .ok (.invokevirtual 296, 3) := by decide +kernel
theorem dX11_sayTosser_57 : decode cX11_sayTosser 57 = .ok (.return_, 1) := by decide +kernel
theorem dX11_sayPort_0 : decode cX11_sayPort 0 = .ok (.aload_n 0, 1) := by decide +kernel
theorem dX11_sayPort_1 : decode cX11_sayPort 1 = .ok (.aload_n 0, 1) := by decide +kernel
theorem dX11_sayPort_2 : decode cX11_sayPort 2 = .ok (.iconst 0, 1) := by decide +kernel
theorem dX11_sayPort_3 : decode cX11_sayPort 3 = .ok (.invokevirtual 237, 3) := by decide +kernel
theorem dX11_sayPort_6 : decode cX11_sayPort 6 = .ok (.i2l, 1) := by decide +kernel
theorem dX11_sayPort_7 : decode cX11_sayPort 7 = .ok (.invokevirtual 296, 3) := by decide +kernel
theorem dX11_sayPort_10 : decode cX11_sayPort 10 = .ok (.aload_n 0, 1) := by decide +kernel
theorem dX11_sayPort_11 : decode cX11_sayPort 11 = .ok (.aload_n 0, 1) := by decide +kernel
theorem dX11_sayPort_12 : decode cX11_sayPort 12 = .ok (.iconst 1, 1) := by decide +kernel
theorem dX11_sayPort_13 : decode cX11_sayPort 13 = .ok (.invokevirtual 237, 3) := by decide +kernel
theorem dX11_sayPort_16 : decode cX11_sayPort 16 = .ok (.i2l, 1) := by decide +kernel
theorem dX11_sayPort_17 : decode cX11_sayPort 17 = .ok (.invokevirtual 296, 3) := by decide +kernel
theorem dX11_sayPort_20 : decode cX11_sayPort 20 = .ok (.bipush 10, 2) := by decide +kernel
theorem dX11_sayPort_22 : decode cX11_sayPort 22 = .ok (.istore_n 1, 1) := by decide +kernel
theorem dX11_sayPort_23 : decode cX11_sayPort 23 = .ok (.iload_n 1, 1) := by decide +kernel
theorem dX11_sayPort_24 : decode cX11_sayPort 24 = .ok (.bipush 16, 2) := by decide +kernel
theorem dX11_sayPort_26 : decode cX11_sayPort 26 = .ok (.if_icmp .ge 19, 3) := by decide +kernel
theorem dX11_sayPort_29 : decode cX11_sayPort 29 = .ok (.aload_n 0, 1) := by decide +kernel
theorem dX11_sayPort_30 : decode cX11_sayPort 30 = .ok (.aload_n 0, 1) := by decide +kernel
theorem dX11_sayPort_31 : decode cX11_sayPort 31 = .ok (.iload_n 1, 1) := by decide +kernel
theorem dX11_sayPort_32 : decode cX11_sayPort 32 = .ok (.invokevirtual 237, 3) := by decide +kernel
theorem dX11_sayPort_35 : decode cX11_sayPort 35 = .ok (.i2l, 1) := by decide +kernel
theorem dX11_sayPort_36 : decode cX11_sayPort 36 = .ok (.invokevirtual 296, 3) := by decide +kernel
theorem dX11_sayPort_39 : decode cX11_sayPort 39 = .ok (.iinc 1 1, 3) := by decide +kernel
theorem dX11_sayPort_42 : decode cX11_sayPort 42 = .ok (.goto (-19), 3) := by decide +kernel
theorem dX11_sayPort_45 : decode cX11_sayPort 45 = .ok (.aload_n 0, 1) := by decide +kernel
theorem dX11_sayPort_46 : decode cX11_sayPort 46 = .ok (.aload_n 0, 1) := by decide +kernel
theorem dX11_sayPort_47 : decode cX11_sayPort 47 = .ok (.invokevirtual 240, 3) := by decide +kernel
theorem dX11_sayPort_50 : decode cX11_sayPort 50 = .ok (.i2l, 1) := by decide +kernel
theorem dX11_sayPort_51 : decode cX11_sayPort 51 = .ok (.invokevirtual 296, 3) := by decide +kernel
theorem dX11_sayPort_54 : decode cX11_sayPort 54 = .ok (.aload_n 0, 1) := by decide +kernel
theorem dX11_sayPort_55 : decode cX11_sayPort 55 = .ok (.aload_n 0, 1) := by decide +kernel
theorem dX11_sayPort_56 : decode cX11_sayPort 56 = .ok (.iconst 0, 1) := by decide +kernel
theorem dX11_sayPort_57 : decode cX11_sayPort 57 = .ok (.invokevirtual 243, 3) := by decide +kernel
theorem dX11_sayPort_60 : decode cX11_sayPort 60 = .ok (.i2l, 1) := by decide +kernel
theorem dX11_sayPort_61 : decode cX11_sayPort 61 = .ok (.invokevirtual 296, 3) := by decide +kernel
theorem dX11_sayPort_64 : decode cX11_sayPort 64 = .ok (.aload_n 0, 1) := by decide +kernel
theorem dX11_sayPort_65 : decode cX11_sayPort 65 = .ok (.aload_n 0, 1) := by decide +kernel
theorem dX11_sayPort_66 : decode cX11_sayPort 66 = .ok (.bipush 21, 2) := by decide +kernel
theorem dX11_sayPort_68 : decode cX11_sayPort 68 = .ok (.invokevirtual 243, 3) := by decide +kernel
theorem dX11_sayPort_71 : decode cX11_sayPort 71 = .ok (.i2l, 1) := by decide +kernel
theorem dX11_sayPort_72 : decode cX11_sayPort 72 = .ok (.invokevirtual 296, 3) := by decide +kernel
theorem dX11_sayPort_75 : decode cX11_sayPort 75 = .ok (.return_, 1) := by decide +kernel
theorem dX11_digest_0 : decode cX11_digest 0 = .ok (.aload_n 0, 1) := by decide +kernel
theorem dX11_digest_1 : decode cX11_digest 1 = .ok (.ldc2_w 300, 3) := by decide +kernel
theorem dX11_digest_4 : decode cX11_digest 4 = .ok (.putfield 292, 3) := by decide +kernel
theorem dX11_digest_7 : decode cX11_digest 7 = .ok (.iconst 0, 1) := by decide +kernel
theorem dX11_digest_8 : decode cX11_digest 8 = .ok (.istore_n 1, 1) := by decide +kernel
theorem dX11_digest_9 : decode cX11_digest 9 = .ok (.iload_n 1, 1) := by decide +kernel
theorem dX11_digest_10 : decode cX11_digest 10 = .ok (.aload_n 0, 1) := by decide +kernel
theorem dX11_digest_11 : decode cX11_digest 11 = .ok (.getfield 116, 3) := by decide +kernel
theorem dX11_digest_14 : decode cX11_digest 14 = .ok (.if_icmp .ge 33, 3) := by decide +kernel
theorem dX11_digest_17 : decode cX11_digest 17 = .ok (.iconst 0, 1) := by decide +kernel
theorem dX11_digest_18 : decode cX11_digest 18 = .ok (.istore_n 2, 1) := by decide +kernel
theorem dX11_digest_19 : decode cX11_digest 19 = .ok (.iload_n 2, 1) := by decide +kernel
theorem dX11_digest_20 : decode cX11_digest 20 = .ok (.iconst 5, 1) := by decide +kernel
theorem dX11_digest_21 : decode cX11_digest 21 = .ok (.if_icmp .ge 20, 3) := by decide +kernel
theorem dX11_digest_24 : decode cX11_digest 24 = .ok (.aload_n 0, 1) := by decide +kernel
theorem dX11_digest_25 : decode cX11_digest 25 = .ok (.aload_n 0, 1) := by decide +kernel
theorem dX11_digest_26 : decode cX11_digest 26 = .ok (.iload_n 1, 1) := by decide +kernel
theorem dX11_digest_27 : decode cX11_digest 27 = .ok (.iload_n 2, 1) := by decide +kernel
theorem dX11_digest_28 : decode cX11_digest 28 = .ok (.invokevirtual 185, 3) := by decide +kernel
theorem dX11_digest_31 : decode cX11_digest 31 = .ok (.i2l, 1) := by decide +kernel
theorem dX11_digest_32 : decode cX11_digest 32 = .ok (.invokevirtual 296, 3) := by decide +kernel
theorem dX11_digest_35 : decode cX11_digest 35 = .ok (.iinc 2 1, 3) := by decide +kernel
theorem dX11_digest_38 : decode cX11_digest 38 = .ok (.goto (-19), 3) := by decide +kernel
theorem dX11_digest_41 : decode cX11_digest 41 = .ok (.iinc 1 1, 3) := by decide +kernel
theorem dX11_digest_44 : decode cX11_digest 44 = .ok (.goto (-35), 3) := by decide +kernel
theorem dX11_digest_47 : decode cX11_digest 47 = .ok (.iconst 0, 1) := by decide +kernel
theorem dX11_digest_48 : decode cX11_digest 48 = .ok (.istore_n 1, 1) := by decide +kernel
theorem dX11_digest_49 : decode cX11_digest 49 = .ok (.iload_n 1, 1) := by decide +kernel
theorem dX11_digest_50 : decode cX11_digest 50 = .ok (.aload_n 0, 1) := by decide +kernel
theorem dX11_digest_51 : decode cX11_digest 51 = .ok (.getfield 119, 3) := by decide +kernel
theorem dX11_digest_54 : decode cX11_digest 54 = .ok (.if_icmp .ge 14, 3) := by decide +kernel
theorem dX11_digest_57 : decode cX11_digest 57 = .ok (.aload_n 0, 1) := by decide +kernel
theorem dX11_digest_58 : decode cX11_digest 58 = .ok (.iload_n 1, 1) := by decide +kernel
theorem dX11_digest_59 : decode cX11_digest 59 = .ok (.invokevirtual 302, 3) := by decide +kernel
theorem dX11_digest_62 : decode cX11_digest 62 = .ok (.iinc 1 1, 3) := by decide +kernel
theorem dX11_digest_65 : decode cX11_digest 65 = .ok (.goto (-16), 3) := by decide +kernel
theorem dX11_digest_68 : decode cX11_digest 68 = .ok (.aload_n 0, 1) := by decide +kernel
theorem dX11_digest_69 : decode cX11_digest 69 = .ok (.invokevirtual 213, 3) := by decide +kernel
theorem dX11_digest_72 : decode cX11_digest 72 = .ok (.ifCond .ne 7, 3) := by decide +kernel
theorem dX11_digest_75 : decode cX11_digest 75 = .ok (.aload_n 0, 1) := by decide +kernel
theorem dX11_digest_76 : decode cX11_digest 76 = .ok (.invokevirtual 305, 3) := by decide +kernel
theorem dX11_digest_79 : decode cX11_digest 79 = .ok (.iconst 0, 1) := by decide +kernel
theorem dX11_digest_80 : decode cX11_digest 80 = .ok (.istore_n 1, 1) := by decide +kernel
theorem dX11_digest_81 : decode cX11_digest 81 = .ok (.iload_n 1, 1) := by decide +kernel
theorem dX11_digest_82 : decode cX11_digest 82 = .ok (.aload_n 0, 1) := by decide +kernel
theorem dX11_digest_83 : decode cX11_digest 83 = .ok (.getfield 83, 3) := by decide +kernel
theorem dX11_digest_86 : decode cX11_digest 86 = .ok (.if_icmp .ge 20, 3) := by decide +kernel
theorem dX11_digest_89 : decode cX11_digest 89 = .ok (.aload_n 0, 1) := by decide +kernel
theorem dX11_digest_90 : decode cX11_digest 90 = .ok (.aload_n 0, 1) := by decide +kernel
theorem dX11_digest_91 : decode cX11_digest 91 = .ok (.getfield 7, 3) := by decide +kernel
theorem dX11_digest_94 : decode cX11_digest 94 = .ok (.iload_n 1, 1) := by decide +kernel
theorem dX11_digest_95 : decode cX11_digest 95 = .ok (.iaload, 1) := by decide +kernel
theorem dX11_digest_96 : decode cX11_digest 96 = .ok (.i2l, 1) := by decide +kernel
theorem dX11_digest_97 : decode cX11_digest 97 = .ok (.invokevirtual 296, 3) := by decide +kernel
theorem dX11_digest_100 : decode cX11_digest 100 = .ok (.iinc 1 1, 3) := by decide +kernel
theorem dX11_digest_103 : decode cX11_digest 103 = .ok (.goto (-22), 3) := by decide +kernel
theorem dX11_digest_106 : decode cX11_digest 106 = .ok (.iconst 0, 1) := by decide +kernel
theorem dX11_digest_107 : decode cX11_digest 107 = .ok (.istore_n 1, 1) := by decide +kernel
theorem dX11_digest_108 : decode cX11_digest 108 = .ok (.iload_n 1, 1) := by decide +kernel
theorem dX11_digest_109 : decode cX11_digest 109 = .ok (.bipush 12, 2) := by decide +kernel
theorem dX11_digest_111 : decode cX11_digest 111 = .ok (.if_icmp .ge 19, 3) := by decide +kernel
theorem dX11_digest_114 : decode cX11_digest 114 = .ok (.aload_n 0, 1) := by decide +kernel
theorem dX11_digest_115 : decode cX11_digest 115 = .ok (.aload_n 0, 1) := by decide +kernel
theorem dX11_digest_116 : decode cX11_digest 116 = .ok (.iload_n 1, 1) := by decide +kernel
theorem dX11_digest_117 : decode cX11_digest 117 = .ok (.invokevirtual 287, 3) := by decide +kernel
theorem dX11_digest_120 : decode cX11_digest 120 = .ok (.i2l, 1) := by decide +kernel
theorem dX11_digest_121 : decode cX11_digest 121 = .ok (.invokevirtual 296, 3) := by decide +kernel
theorem dX11_digest_124 : decode cX11_digest 124 = .ok (.iinc 1 1, 3) := by decide +kernel
theorem dX11_digest_127 : decode cX11_digest 127 = .ok (.goto (-19), 3) := by decide +kernel
theorem dX11_digest_130 : decode cX11_digest 130 = .ok (.aload_n 0, 1) := by decide +kernel
theorem dX11_digest_131 : decode cX11_digest 131 = .ok (.getfield 292, 3) := by decide +kernel
theorem dX11_digest_134 : decode cX11_digest 134 = .ok (.lreturn, 1) := by decide +kernel
theorem dJ11_isValidCodePoint_9a6ad_0 : decode cJ11_isValidCodePoint_9a6ad 0 = .ok (.iload_n 0, 1) := by decide +kernel
theorem dJ11_isValidCodePoint_9a6ad_1 : decode cJ11_isValidCodePoint_9a6ad 1 = .ok (.bipush 16, 2) := by decide +kernel
theorem dJ11_isValidCodePoint_9a6ad_3 : decode cJ11_isValidCodePoint_9a6ad 3 = .ok (.iushr, 1) := by decide +kernel
theorem dJ11_isValidCodePoint_9a6ad_4 : decode cJ11_isValidCodePoint_9a6ad 4 = .ok (.istore_n 1, 1) := by decide +kernel
theorem dJ11_isValidCodePoint_9a6ad_5 : decode cJ11_isValidCodePoint_9a6ad 5 = .ok (.iload_n 1, 1) := by decide +kernel
theorem dJ11_isValidCodePoint_9a6ad_6 : decode cJ11_isValidCodePoint_9a6ad 6 = .ok (.bipush 17, 2) := by decide +kernel
theorem dJ11_isValidCodePoint_9a6ad_8 : decode cJ11_isValidCodePoint_9a6ad 8 = .ok (.if_icmp .ge 7, 3) := by decide +kernel
theorem dJ11_isValidCodePoint_9a6ad_11 : decode cJ11_isValidCodePoint_9a6ad 11 = .ok (.iconst 1, 1) := by decide +kernel
theorem dJ11_isValidCodePoint_9a6ad_12 : decode cJ11_isValidCodePoint_9a6ad 12 = .ok (.goto 4, 3) := by decide +kernel
theorem dJ11_isValidCodePoint_9a6ad_15 : decode cJ11_isValidCodePoint_9a6ad 15 = .ok (.iconst 0, 1) := by decide +kernel
theorem dJ11_isValidCodePoint_9a6ad_16 : decode cJ11_isValidCodePoint_9a6ad 16 = .ok (.ireturn, 1) := by decide +kernel
theorem dJ11_highSurrogate_5068e_0 : decode cJ11_highSurrogate_5068e 0 = .ok (.iload_n 0, 1) := by decide +kernel
theorem dJ11_highSurrogate_5068e_1 : decode cJ11_highSurrogate_5068e 1 = .ok (.bipush 10, 2) := by decide +kernel
theorem dJ11_highSurrogate_5068e_3 : decode cJ11_highSurrogate_5068e 3 = .ok (.iushr, 1) := by decide +kernel
theorem dJ11_highSurrogate_5068e_4 : decode cJ11_highSurrogate_5068e 4 = .ok (.ldc 110, 2) := by decide +kernel
theorem dJ11_highSurrogate_5068e_6 : decode cJ11_highSurrogate_5068e 6 = .ok (.iadd, 1) := by decide +kernel
theorem dJ11_highSurrogate_5068e_7 : decode cJ11_highSurrogate_5068e 7 = .ok (.i2c, 1) := by decide +kernel
theorem dJ11_highSurrogate_5068e_8 : decode cJ11_highSurrogate_5068e 8 = .ok (.ireturn, 1) := by decide +kernel
theorem dJ11_lowSurrogate_5068e_0 : decode cJ11_lowSurrogate_5068e 0 = .ok (.iload_n 0, 1) := by decide +kernel
theorem dJ11_lowSurrogate_5068e_1 : decode cJ11_lowSurrogate_5068e 1 = .ok (.sipush 1023, 3) := by decide +kernel
theorem dJ11_lowSurrogate_5068e_4 : decode cJ11_lowSurrogate_5068e 4 = .ok (.iand, 1) := by decide +kernel
theorem dJ11_lowSurrogate_5068e_5 : decode cJ11_lowSurrogate_5068e 5 = .ok (.ldc 76, 2) := by decide +kernel
theorem dJ11_lowSurrogate_5068e_7 : decode cJ11_lowSurrogate_5068e 7 = .ok (.iadd, 1) := by decide +kernel
theorem dJ11_lowSurrogate_5068e_8 : decode cJ11_lowSurrogate_5068e 8 = .ok (.i2c, 1) := by decide +kernel
theorem dJ11_lowSurrogate_5068e_9 : decode cJ11_lowSurrogate_5068e 9 = .ok (.ireturn, 1) := by decide +kernel
theorem dJ6_bitCount_0f7a4_0 : decode cJ6_bitCount_0f7a4 0 = .ok (.iload_n 0, 1) := by decide +kernel
theorem dJ6_bitCount_0f7a4_1 : decode cJ6_bitCount_0f7a4 1 = .ok (.iload_n 0, 1) := by decide +kernel
theorem dJ6_bitCount_0f7a4_2 : decode cJ6_bitCount_0f7a4 2 = .ok (.iconst 1, 1) := by decide +kernel
theorem dJ6_bitCount_0f7a4_3 : decode cJ6_bitCount_0f7a4 3 = .ok (.iushr, 1) := by decide +kernel
theorem dJ6_bitCount_0f7a4_4 : decode cJ6_bitCount_0f7a4 4 = .ok (.ldc_w 265, 3) := by decide +kernel
theorem dJ6_bitCount_0f7a4_7 : decode cJ6_bitCount_0f7a4 7 = .ok (.iand, 1) := by decide +kernel
theorem dJ6_bitCount_0f7a4_8 : decode cJ6_bitCount_0f7a4 8 = .ok (.isub, 1) := by decide +kernel
theorem dJ6_bitCount_0f7a4_9 : decode cJ6_bitCount_0f7a4 9 = .ok (.istore_n 0, 1) := by decide +kernel
theorem dJ6_bitCount_0f7a4_10 : decode cJ6_bitCount_0f7a4 10 = .ok (.iload_n 0, 1) := by decide +kernel
theorem dJ6_bitCount_0f7a4_11 : decode cJ6_bitCount_0f7a4 11 = .ok (.ldc_w 266, 3) := by decide +kernel
theorem dJ6_bitCount_0f7a4_14 : decode cJ6_bitCount_0f7a4 14 = .ok (.iand, 1) := by decide +kernel
theorem dJ6_bitCount_0f7a4_15 : decode cJ6_bitCount_0f7a4 15 = .ok (.iload_n 0, 1) := by decide +kernel
theorem dJ6_bitCount_0f7a4_16 : decode cJ6_bitCount_0f7a4 16 = .ok (.iconst 2, 1) := by decide +kernel
theorem dJ6_bitCount_0f7a4_17 : decode cJ6_bitCount_0f7a4 17 = .ok (.iushr, 1) := by decide +kernel
theorem dJ6_bitCount_0f7a4_18 : decode cJ6_bitCount_0f7a4 18 = .ok (.ldc_w 266, 3) := by decide +kernel
theorem dJ6_bitCount_0f7a4_21 : decode cJ6_bitCount_0f7a4 21 = .ok (.iand, 1) := by decide +kernel
theorem dJ6_bitCount_0f7a4_22 : decode cJ6_bitCount_0f7a4 22 = .ok (.iadd, 1) := by decide +kernel
theorem dJ6_bitCount_0f7a4_23 : decode cJ6_bitCount_0f7a4 23 = .ok (.istore_n 0, 1) := by decide +kernel
theorem dJ6_bitCount_0f7a4_24 : decode cJ6_bitCount_0f7a4 24 = .ok (.iload_n 0, 1) := by decide +kernel
theorem dJ6_bitCount_0f7a4_25 : decode cJ6_bitCount_0f7a4 25 = .ok (.iload_n 0, 1) := by decide +kernel
theorem dJ6_bitCount_0f7a4_26 : decode cJ6_bitCount_0f7a4 26 = .ok (.iconst 4, 1) := by decide +kernel
theorem dJ6_bitCount_0f7a4_27 : decode cJ6_bitCount_0f7a4 27 = .ok (.iushr, 1) := by decide +kernel
theorem dJ6_bitCount_0f7a4_28 : decode cJ6_bitCount_0f7a4 28 = .ok (.iadd, 1) := by decide +kernel
theorem dJ6_bitCount_0f7a4_29 : decode cJ6_bitCount_0f7a4 29 = .ok (.ldc_w 267, 3) := by decide +kernel
theorem dJ6_bitCount_0f7a4_32 : decode cJ6_bitCount_0f7a4 32 = .ok (.iand, 1) := by decide +kernel
theorem dJ6_bitCount_0f7a4_33 : decode cJ6_bitCount_0f7a4 33 = .ok (.istore_n 0, 1) := by decide +kernel
theorem dJ6_bitCount_0f7a4_34 : decode cJ6_bitCount_0f7a4 34 = .ok (.iload_n 0, 1) := by decide +kernel
theorem dJ6_bitCount_0f7a4_35 : decode cJ6_bitCount_0f7a4 35 = .ok (.iload_n 0, 1) := by decide +kernel
theorem dJ6_bitCount_0f7a4_36 : decode cJ6_bitCount_0f7a4 36 = .ok (.bipush 8, 2) := by decide +kernel
theorem dJ6_bitCount_0f7a4_38 : decode cJ6_bitCount_0f7a4 38 = .ok (.iushr, 1) := by decide +kernel
theorem dJ6_bitCount_0f7a4_39 : decode cJ6_bitCount_0f7a4 39 = .ok (.iadd, 1) := by decide +kernel
theorem dJ6_bitCount_0f7a4_40 : decode cJ6_bitCount_0f7a4 40 = .ok (.istore_n 0, 1) := by decide +kernel
theorem dJ6_bitCount_0f7a4_41 : decode cJ6_bitCount_0f7a4 41 = .ok (.iload_n 0, 1) := by decide +kernel
theorem dJ6_bitCount_0f7a4_42 : decode cJ6_bitCount_0f7a4 42 = .ok (.iload_n 0, 1) := by decide +kernel
theorem dJ6_bitCount_0f7a4_43 : decode cJ6_bitCount_0f7a4 43 = .ok (.bipush 16, 2) := by decide +kernel
theorem dJ6_bitCount_0f7a4_45 : decode cJ6_bitCount_0f7a4 45 = .ok (.iushr, 1) := by decide +kernel
theorem dJ6_bitCount_0f7a4_46 : decode cJ6_bitCount_0f7a4 46 = .ok (.iadd, 1) := by decide +kernel
theorem dJ6_bitCount_0f7a4_47 : decode cJ6_bitCount_0f7a4 47 = .ok (.istore_n 0, 1) := by decide +kernel
theorem dJ6_bitCount_0f7a4_48 : decode cJ6_bitCount_0f7a4 48 = .ok (.iload_n 0, 1) := by decide +kernel
theorem dJ6_bitCount_0f7a4_49 : decode cJ6_bitCount_0f7a4 49 = .ok (.bipush 63, 2) := by decide +kernel
theorem dJ6_bitCount_0f7a4_51 : decode cJ6_bitCount_0f7a4 51 = .ok (.iand, 1) := by decide +kernel
theorem dJ6_bitCount_0f7a4_52 : decode cJ6_bitCount_0f7a4 52 = .ok (.ireturn, 1) := by decide +kernel
theorem dJ9_abs_0f7a4_0 : decode cJ9_abs_0f7a4 0 = .ok (.iload_n 0, 1) := by decide +kernel
theorem dJ9_abs_0f7a4_1 : decode cJ9_abs_0f7a4 1 = .ok (.ifCond .ge 8, 3) := by decide +kernel
theorem dJ9_abs_0f7a4_4 : decode cJ9_abs_0f7a4 4 = .ok (.iload_n 0, 1) := by decide +kernel
theorem dJ9_abs_0f7a4_5 : decode cJ9_abs_0f7a4 5 = .ok (.ineg, 1) := by decide +kernel
theorem dJ9_abs_0f7a4_6 : decode cJ9_abs_0f7a4 6 = .ok (.goto 4, 3) := by decide +kernel
theorem dJ9_abs_0f7a4_9 : decode cJ9_abs_0f7a4 9 = .ok (.iload_n 0, 1) := by decide +kernel
theorem dJ9_abs_0f7a4_10 : decode cJ9_abs_0f7a4 10 = .ok (.ireturn, 1) := by decide +kernel
theorem dJ9_max_7cf53_0 : decode cJ9_max_7cf53 0 = .ok (.iload_n 0, 1) := by decide +kernel
theorem dJ9_max_7cf53_1 : decode cJ9_max_7cf53 1 = .ok (.iload_n 1, 1) := by decide +kernel
theorem dJ9_max_7cf53_2 : decode cJ9_max_7cf53 2 = .ok (.if_icmp .lt 7, 3) := by decide +kernel
theorem dJ9_max_7cf53_5 : decode cJ9_max_7cf53 5 = .ok (.iload_n 0, 1) := by decide +kernel
theorem dJ9_max_7cf53_6 : decode cJ9_max_7cf53 6 = .ok (.goto 4, 3) := by decide +kernel
theorem dJ9_max_7cf53_9 : decode cJ9_max_7cf53 9 = .ok (.iload_n 1, 1) := by decide +kernel
theorem dJ9_max_7cf53_10 : decode cJ9_max_7cf53 10 = .ok (.ireturn, 1) := by decide +kernel
theorem dJ9_min_7cf53_0 : decode cJ9_min_7cf53 0 = .ok (.iload_n 0, 1) := by decide +kernel
theorem dJ9_min_7cf53_1 : decode cJ9_min_7cf53 1 = .ok (.iload_n 1, 1) := by decide +kernel
theorem dJ9_min_7cf53_2 : decode cJ9_min_7cf53 2 = .ok (.if_icmp .gt 7, 3) := by decide +kernel
theorem dJ9_min_7cf53_5 : decode cJ9_min_7cf53 5 = .ok (.iload_n 0, 1) := by decide +kernel
theorem dJ9_min_7cf53_6 : decode cJ9_min_7cf53 6 = .ok (.goto 4, 3) := by decide +kernel
theorem dJ9_min_7cf53_9 : decode cJ9_min_7cf53 9 = .ok (.iload_n 1, 1) := by decide +kernel
theorem dJ9_min_7cf53_10 : decode cJ9_min_7cf53 10 = .ok (.ireturn, 1) := by decide +kernel
theorem dJ0_length_8abf5_0 : decode cJ0_length_8abf5 0 = .ok (.aload_n 0, 1) := by decide +kernel
theorem dJ0_length_8abf5_1 : decode cJ0_length_8abf5 1 = .ok (.getfield 9, 3) := by decide +kernel
theorem dJ0_length_8abf5_4 : decode cJ0_length_8abf5 4 = .ok (.arraylength, 1) := by decide +kernel
theorem dJ0_length_8abf5_5 : decode cJ0_length_8abf5 5 = .ok (.aload_n 0, 1) := by decide +kernel
theorem dJ0_length_8abf5_6 : decode cJ0_length_8abf5 6 = .ok (.invokevirtual 335, 3) := by decide +kernel
theorem dJ0_length_8abf5_9 : decode cJ0_length_8abf5 9 = .ok (.ishr, 1) := by decide +kernel
theorem dJ0_length_8abf5_10 : decode cJ0_length_8abf5 10 = .ok (.ireturn, 1) := by decide +kernel
theorem dJ0_indexOf_0f7a4_0 : decode cJ0_indexOf_0f7a4 0 = .ok (.aload_n 0, 1) := by decide +kernel
theorem dJ0_indexOf_0f7a4_1 : decode cJ0_indexOf_0f7a4 1 = .ok (.iload_n 1, 1) := by decide +kernel
theorem dJ0_indexOf_0f7a4_2 : decode cJ0_indexOf_0f7a4 2 = .ok (.iconst 0, 1) := by decide +kernel
theorem dJ0_indexOf_0f7a4_3 : decode cJ0_indexOf_0f7a4 3 = .ok (.invokevirtual 633, 3) := by decide +kernel
theorem dJ0_indexOf_0f7a4_6 : decode cJ0_indexOf_0f7a4 6 = .ok (.ireturn, 1) := by decide +kernel
theorem dJ0_indexOf_7cf53_0 : decode cJ0_indexOf_7cf53 0 = .ok (.aload_n 0, 1) := by decide +kernel
theorem dJ0_indexOf_7cf53_1 : decode cJ0_indexOf_7cf53 1 = .ok (.invokevirtual 492, 3) := by decide +kernel
theorem dJ0_indexOf_7cf53_4 : decode cJ0_indexOf_7cf53 4 = .ok (.ifCond .eq 19, 3) := by decide +kernel
theorem dJ0_indexOf_7cf53_7 : decode cJ0_indexOf_7cf53 7 = .ok (.aload_n 0, 1) := by decide +kernel
theorem dJ0_indexOf_7cf53_8 : decode cJ0_indexOf_7cf53 8 = .ok (.getfield 9, 3) := by decide +kernel
theorem dJ0_indexOf_7cf53_11 : decode cJ0_indexOf_7cf53 11 = .ok (.iload_n 1, 1) := by decide +kernel
theorem dJ0_indexOf_7cf53_12 : decode cJ0_indexOf_7cf53 12 = .ok (.iload_n 2, 1) := by decide +kernel
theorem dJ0_indexOf_7cf53_13 : decode cJ0_indexOf_7cf53 13 = .ok (.aload_n 0, 1) := by decide +kernel
theorem dJ0_indexOf_7cf53_14 : decode cJ0_indexOf_7cf53 14 = .ok (.invokevirtual 505, 3) := by decide +kernel
theorem dJ0_indexOf_7cf53_17 : decode cJ0_indexOf_7cf53 17 = .ok (.invokestatic 637, 3) := by decide +kernel
theorem dJ0_indexOf_7cf53_20 : decode cJ0_indexOf_7cf53 20 = .ok (.goto 16, 3) := by decide +kernel
theorem dJ0_indexOf_7cf53_23 : decode cJ0_indexOf_7cf53 23 = .ok (.aload_n 0, 1) := by decide +kernel
theorem dJ0_indexOf_7cf53_24 : decode cJ0_indexOf_7cf53 24 = .ok (.getfield 9, 3) := by decide +kernel
theorem dJ0_indexOf_7cf53_27 : decode cJ0_indexOf_7cf53 27 = .ok (.iload_n 1, 1) := by decide +kernel
theorem dJ0_indexOf_7cf53_28 : decode cJ0_indexOf_7cf53 28 = .ok (.iload_n 2, 1) := by decide +kernel
theorem dJ0_indexOf_7cf53_29 : decode cJ0_indexOf_7cf53 29 = .ok (.aload_n 0, 1) := by decide +kernel
theorem dJ0_indexOf_7cf53_30 : decode cJ0_indexOf_7cf53 30 = .ok (.invokevirtual 505, 3) := by decide +kernel
theorem dJ0_indexOf_7cf53_33 : decode cJ0_indexOf_7cf53 33 = .ok (.invokestatic 640, 3) := by decide +kernel
theorem dJ0_indexOf_7cf53_36 : decode cJ0_indexOf_7cf53 36 = .ok (.ireturn, 1) := by decide +kernel
theorem dJ0_coder_7d493_0 : decode cJ0_coder_7d493 0 = .ok (.getstatic 38, 3) := by decide +kernel
theorem dJ0_coder_7d493_3 : decode cJ0_coder_7d493 3 = .ok (.ifCond .eq 10, 3) := by decide +kernel
theorem dJ0_coder_7d493_6 : decode cJ0_coder_7d493 6 = .ok (.aload_n 0, 1) := by decide +kernel
theorem dJ0_coder_7d493_7 : decode cJ0_coder_7d493 7 = .ok (.getfield 15, 3) := by decide +kernel
theorem dJ0_coder_7d493_10 : decode cJ0_coder_7d493 10 = .ok (.goto 4, 3) := by decide +kernel
theorem dJ0_coder_7d493_13 : decode cJ0_coder_7d493 13 = .ok (.iconst 1, 1) := by decide +kernel
theorem dJ0_coder_7d493_14 : decode cJ0_coder_7d493 14 = .ok (.ireturn, 1) := by decide +kernel
theorem dJ0_isLatin1_aae02_0 : decode cJ0_isLatin1_aae02 0 = .ok (.getstatic 38, 3) := by decide +kernel
theorem dJ0_isLatin1_aae02_3 : decode cJ0_isLatin1_aae02 3 = .ok (.ifCond .eq 14, 3) := by decide +kernel
theorem dJ0_isLatin1_aae02_6 : decode cJ0_isLatin1_aae02 6 = .ok (.aload_n 0, 1) := by decide +kernel
theorem dJ0_isLatin1_aae02_7 : decode cJ0_isLatin1_aae02 7 = .ok (.getfield 15, 3) := by decide +kernel
theorem dJ0_isLatin1_aae02_10 : decode cJ0_isLatin1_aae02 10 = .ok (.ifCond .ne 7, 3) := by decide +kernel
theorem dJ0_isLatin1_aae02_13 : decode cJ0_isLatin1_aae02 13 = .ok (.iconst 1, 1) := by decide +kernel
theorem dJ0_isLatin1_aae02_14 : decode cJ0_isLatin1_aae02 14 = .ok (.goto 4, 3) := by decide +kernel
theorem dJ0_isLatin1_aae02_17 : decode cJ0_isLatin1_aae02 17 = .ok (.iconst 0, 1) := by decide +kernel
theorem dJ0_isLatin1_aae02_18 : decode cJ0_isLatin1_aae02 18 = .ok (.ireturn, 1) := by decide +kernel
theorem dJ0_checkBoundsBeginEnd_23922_0 : decode cJ0_checkBoundsBeginEnd_23922 0 = .ok (.iload_n 0, 1) := by decide +kernel
theorem dJ0_checkBoundsBeginEnd_23922_1 : decode cJ0_checkBoundsBeginEnd_23922 1 = .ok (.iload_n 1, 1) := by decide +kernel
theorem dJ0_checkBoundsBeginEnd_23922_2 : decode cJ0_checkBoundsBeginEnd_23922 2 = .ok (.iload_n 2, 1) := by decide +kernel
theorem dJ0_checkBoundsBeginEnd_23922_3 : decode cJ0_checkBoundsBeginEnd_23922 3 = .ok (.getstatic 1053, 3) := by decide +kernel
theorem dJ0_checkBoundsBeginEnd_23922_6 : decode cJ0_checkBoundsBeginEnd_23922 6 = .ok (.invokestatic 1062, 3) := by decide +kernel
theorem dJ0_checkBoundsBeginEnd_23922_9 : decode cJ0_checkBoundsBeginEnd_23922 9 = .ok (.pop, 1) := by decide +kernel
theorem dJ0_checkBoundsBeginEnd_23922_10 : decode cJ0_checkBoundsBeginEnd_23922 10 = .ok (.return_, 1) := by decide +kernel
theorem dJ1_canEncode_9a6ad_0 : decode cJ1_canEncode_9a6ad 0 = .ok (.iload_n 0, 1) := by decide +kernel
theorem dJ1_canEncode_9a6ad_1 : decode cJ1_canEncode_9a6ad 1 = .ok (.ifCond .lt 14, 3) := by decide +kernel
theorem dJ1_canEncode_9a6ad_4 : decode cJ1_canEncode_9a6ad 4 = .ok (.iload_n 0, 1) := by decide +kernel
theorem dJ1_canEncode_9a6ad_5 : decode cJ1_canEncode_9a6ad 5 = .ok (.sipush 255, 3) := by decide +kernel
theorem dJ1_canEncode_9a6ad_8 : decode cJ1_canEncode_9a6ad 8 = .ok (.if_icmp .gt 7, 3) := by decide +kernel
theorem dJ1_canEncode_9a6ad_11 : decode cJ1_canEncode_9a6ad 11 = .ok (.iconst 1, 1) := by decide +kernel
theorem dJ1_canEncode_9a6ad_12 : decode cJ1_canEncode_9a6ad 12 = .ok (.goto 4, 3) := by decide +kernel
theorem dJ1_canEncode_9a6ad_15 : decode cJ1_canEncode_9a6ad 15 = .ok (.iconst 0, 1) := by decide +kernel
theorem dJ1_canEncode_9a6ad_16 : decode cJ1_canEncode_9a6ad 16 = .ok (.ireturn, 1) := by decide +kernel
theorem dJ1_indexOf_4cfef_0 : decode cJ1_indexOf_4cfef 0 = .ok (.iload_n 1, 1) := by decide +kernel
theorem dJ1_indexOf_4cfef_1 : decode cJ1_indexOf_4cfef 1 = .ok (.invokestatic 88, 3) := by decide +kernel
theorem dJ1_indexOf_4cfef_4 : decode cJ1_indexOf_4cfef 4 = .ok (.ifCond .ne 5, 3) := by decide +kernel
theorem dJ1_indexOf_4cfef_7 : decode cJ1_indexOf_4cfef 7 = .ok (.iconst (-1), 1) := by decide +kernel
theorem dJ1_indexOf_4cfef_8 : decode cJ1_indexOf_4cfef 8 = .ok (.ireturn, 1) := by decide +kernel
theorem dJ1_indexOf_4cfef_9 : decode cJ1_indexOf_4cfef 9 = .ok (.iload_n 2, 1) := by decide +kernel
theorem dJ1_indexOf_4cfef_10 : decode cJ1_indexOf_4cfef 10 = .ok (.iconst 0, 1) := by decide +kernel
theorem dJ1_indexOf_4cfef_11 : decode cJ1_indexOf_4cfef 11 = .ok (.invokestatic 92, 3) := by decide +kernel
theorem dJ1_indexOf_4cfef_14 : decode cJ1_indexOf_4cfef 14 = .ok (.istore_n 2, 1) := by decide +kernel
theorem dJ1_indexOf_4cfef_15 : decode cJ1_indexOf_4cfef 15 = .ok (.iload_n 3, 1) := by decide +kernel
theorem dJ1_indexOf_4cfef_16 : decode cJ1_indexOf_4cfef 16 = .ok (.aload_n 0, 1) := by decide +kernel
theorem dJ1_indexOf_4cfef_17 : decode cJ1_indexOf_4cfef 17 = .ok (.arraylength, 1) := by decide +kernel
theorem dJ1_indexOf_4cfef_18 : decode cJ1_indexOf_4cfef 18 = .ok (.invokestatic 38, 3) := by decide +kernel
theorem dJ1_indexOf_4cfef_21 : decode cJ1_indexOf_4cfef 21 = .ok (.istore_n 3, 1) := by decide +kernel
theorem dJ1_indexOf_4cfef_22 : decode cJ1_indexOf_4cfef 22 = .ok (.iload_n 2, 1) := by decide +kernel
theorem dJ1_indexOf_4cfef_23 : decode cJ1_indexOf_4cfef 23 = .ok (.iload_n 3, 1) := by decide +kernel
theorem dJ1_indexOf_4cfef_24 : decode cJ1_indexOf_4cfef 24 = .ok (.if_icmp .lt 5, 3) := by decide +kernel
theorem dJ1_indexOf_4cfef_27 : decode cJ1_indexOf_4cfef 27 = .ok (.iconst (-1), 1) := by decide +kernel
theorem dJ1_indexOf_4cfef_28 : decode cJ1_indexOf_4cfef 28 = .ok (.ireturn, 1) := by decide +kernel
theorem dJ1_indexOf_4cfef_29 : decode cJ1_indexOf_4cfef 29 = .ok (.aload_n 0, 1) := by decide +kernel
theorem dJ1_indexOf_4cfef_30 : decode cJ1_indexOf_4cfef 30 = .ok (.iload_n 1, 1) := by decide +kernel
theorem dJ1_indexOf_4cfef_31 : decode cJ1_indexOf_4cfef 31 = .ok (.iload_n 2, 1) := by decide +kernel
theorem dJ1_indexOf_4cfef_32 : decode cJ1_indexOf_4cfef 32 = .ok (.iload_n 3, 1) := by decide +kernel
theorem dJ1_indexOf_4cfef_33 : decode cJ1_indexOf_4cfef 33 = .ok (.invokestatic 95, 3) := by decide +kernel
theorem dJ1_indexOf_4cfef_36 : decode cJ1_indexOf_4cfef 36 = .ok (.ireturn, 1) := by decide +kernel
theorem dJ1_indexOfChar_4cfef_0 : decode cJ1_indexOfChar_4cfef 0 = .ok (.iload_n 1, 1) := by decide +kernel
theorem dJ1_indexOfChar_4cfef_1 : decode cJ1_indexOfChar_4cfef 1 = .ok (.i2b, 1) := by decide +kernel
theorem dJ1_indexOfChar_4cfef_2 : decode cJ1_indexOfChar_4cfef 2 = .ok (.istore 4, 2) := by decide +kernel
theorem dJ1_indexOfChar_4cfef_4 : decode cJ1_indexOfChar_4cfef 4 = .ok (.iload_n 2, 1) := by decide +kernel
theorem dJ1_indexOfChar_4cfef_5 : decode cJ1_indexOfChar_4cfef 5 = .ok (.istore 5, 2) := by decide +kernel
theorem dJ1_indexOfChar_4cfef_7 : decode cJ1_indexOfChar_4cfef 7 = .ok (.iload 5, 2) := by decide +kernel
theorem dJ1_indexOfChar_4cfef_9 : decode cJ1_indexOfChar_4cfef 9 = .ok (.iload_n 3, 1) := by decide +kernel
theorem dJ1_indexOfChar_4cfef_10 : decode cJ1_indexOfChar_4cfef 10 = .ok (.if_icmp .ge 21, 3) := by decide +kernel
theorem dJ1_indexOfChar_4cfef_13 : decode cJ1_indexOfChar_4cfef 13 = .ok (.aload_n 0, 1) := by decide +kernel
theorem dJ1_indexOfChar_4cfef_14 : decode cJ1_indexOfChar_4cfef 14 = .ok (.iload 5, 2) := by decide +kernel
theorem dJ1_indexOfChar_4cfef_16 : decode cJ1_indexOfChar_4cfef 16 = .ok (.baload, 1) := by decide +kernel
theorem dJ1_indexOfChar_4cfef_17 : decode cJ1_indexOfChar_4cfef 17 = .ok (.iload 4, 2) := by decide +kernel
theorem dJ1_indexOfChar_4cfef_19 : decode cJ1_indexOfChar_4cfef 19 = .ok (.if_icmp .ne 6, 3) := by decide +kernel
theorem dJ1_indexOfChar_4cfef_22 : decode cJ1_indexOfChar_4cfef 22 = .ok (.iload 5, 2) := by decide +kernel
theorem dJ1_indexOfChar_4cfef_24 : decode cJ1_indexOfChar_4cfef 24 = .ok (.ireturn, 1) := by decide +kernel
theorem dJ1_indexOfChar_4cfef_25 : decode cJ1_indexOfChar_4cfef 25 = .ok (.iinc 5 1, 3) := by decide +kernel
theorem dJ1_indexOfChar_4cfef_28 : decode cJ1_indexOfChar_4cfef 28 = .ok (.goto (-21), 3) := by decide +kernel
theorem dJ1_indexOfChar_4cfef_31 : decode cJ1_indexOfChar_4cfef 31 = .ok (.iconst (-1), 1) := by decide +kernel
theorem dJ1_indexOfChar_4cfef_32 : decode cJ1_indexOfChar_4cfef 32 = .ok (.ireturn, 1) := by decide +kernel
theorem dJ2_getChar_3b067_0 : decode cJ2_getChar_3b067 0 = .ok (.getstatic 44, 3) := by decide +kernel
theorem dJ2_getChar_3b067_3 : decode cJ2_getChar_3b067 3 = .ok (.ifCond .ne 25, 3) := by decide +kernel
theorem dJ2_getChar_3b067_6 : decode cJ2_getChar_3b067 6 = .ok (.iload_n 1, 1) := by decide +kernel
theorem dJ2_getChar_3b067_7 : decode cJ2_getChar_3b067 7 = .ok (.ifCond .lt 11, 3) := by decide +kernel
theorem dJ2_getChar_3b067_10 : decode cJ2_getChar_3b067 10 = .ok (.iload_n 1, 1) := by decide +kernel
theorem dJ2_getChar_3b067_11 : decode cJ2_getChar_3b067 11 = .ok (.aload_n 0, 1) := by decide +kernel
theorem dJ2_getChar_3b067_12 : decode cJ2_getChar_3b067 12 = .ok (.invokestatic 48, 3) := by decide +kernel
theorem dJ2_getChar_3b067_15 : decode cJ2_getChar_3b067 15 = .ok (.if_icmp .lt 13, 3) := by decide +kernel
theorem dJ2_getChar_3b067_18 : decode cJ2_getChar_3b067 18 = .ok (.new 52, 3) := by decide +kernel
theorem dJ2_getChar_3b067_21 : decode cJ2_getChar_3b067 21 = .ok (.dup, 1) := by decide +kernel
theorem dJ2_getChar_3b067_22 : decode cJ2_getChar_3b067 22 = .ok (.ldc 54, 2) := by decide +kernel
theorem dJ2_getChar_3b067_24 : decode cJ2_getChar_3b067 24 = .ok (.invokespecial 56, 3) := by decide +kernel
theorem dJ2_getChar_3b067_27 : decode cJ2_getChar_3b067 27 = .ok (.athrow, 1) := by decide +kernel
theorem dJ2_getChar_3b067_28 : decode cJ2_getChar_3b067 28 = .ok (.iload_n 1, 1) := by decide +kernel
theorem dJ2_getChar_3b067_29 : decode cJ2_getChar_3b067 29 = .ok (.iconst 1, 1) := by decide +kernel
theorem dJ2_getChar_3b067_30 : decode cJ2_getChar_3b067 30 = .ok (.ishl, 1) := by decide +kernel
theorem dJ2_getChar_3b067_31 : decode cJ2_getChar_3b067 31 = .ok (.istore_n 1, 1) := by decide +kernel
theorem dJ2_getChar_3b067_32 : decode cJ2_getChar_3b067 32 = .ok (.aload_n 0, 1) := by decide +kernel
theorem dJ2_getChar_3b067_33 : decode cJ2_getChar_3b067 33 = .ok (.iload_n 1, 1) := by decide +kernel
theorem dJ2_getChar_3b067_34 : decode cJ2_getChar_3b067 34 = .ok (.iinc 1 1, 3) := by decide +kernel
theorem dJ2_getChar_3b067_37 : decode cJ2_getChar_3b067 37 = .ok (.baload, 1) := by decide +kernel
theorem dJ2_getChar_3b067_38 : decode cJ2_getChar_3b067 38 = .ok (.sipush 255, 3) := by decide +kernel
theorem dJ2_getChar_3b067_41 : decode cJ2_getChar_3b067 41 = .ok (.iand, 1) := by decide +kernel
theorem dJ2_getChar_3b067_42 : decode cJ2_getChar_3b067 42 = .ok (.getstatic 59, 3) := by decide +kernel
theorem dJ2_getChar_3b067_45 : decode cJ2_getChar_3b067 45 = .ok (.ishl, 1) := by decide +kernel
theorem dJ2_getChar_3b067_46 : decode cJ2_getChar_3b067 46 = .ok (.aload_n 0, 1) := by decide +kernel
theorem dJ2_getChar_3b067_47 : decode cJ2_getChar_3b067 47 = .ok (.iload_n 1, 1) := by decide +kernel
theorem dJ2_getChar_3b067_48 : decode cJ2_getChar_3b067 48 = .ok (.baload, 1) := by decide +kernel
theorem dJ2_getChar_3b067_49 : decode cJ2_getChar_3b067 49 = .ok (.sipush 255, 3) := by decide +kernel
theorem dJ2_getChar_3b067_52 : decode cJ2_getChar_3b067 52 = .ok (.iand, 1) := by decide +kernel
theorem dJ2_getChar_3b067_53 : decode cJ2_getChar_3b067 53 = .ok (.getstatic 63, 3) := by decide +kernel
theorem dJ2_getChar_3b067_56 : decode cJ2_getChar_3b067 56 = .ok (.ishl, 1) := by decide +kernel
theorem dJ2_getChar_3b067_57 : decode cJ2_getChar_3b067 57 = .ok (.ior, 1) := by decide +kernel
theorem dJ2_getChar_3b067_58 : decode cJ2_getChar_3b067 58 = .ok (.i2c, 1) := by decide +kernel
theorem dJ2_getChar_3b067_59 : decode cJ2_getChar_3b067 59 = .ok (.ireturn, 1) := by decide +kernel
theorem dJ2_length_9d52b_0 : decode cJ2_length_9d52b 0 = .ok (.aload_n 0, 1) := by decide +kernel
theorem dJ2_length_9d52b_1 : decode cJ2_length_9d52b 1 = .ok (.arraylength, 1) := by decide +kernel
theorem dJ2_length_9d52b_2 : decode cJ2_length_9d52b 2 = .ok (.iconst 1, 1) := by decide +kernel
theorem dJ2_length_9d52b_3 : decode cJ2_length_9d52b 3 = .ok (.ishr, 1) := by decide +kernel
theorem dJ2_length_9d52b_4 : decode cJ2_length_9d52b 4 = .ok (.ireturn, 1) := by decide +kernel
theorem dJ2_indexOf_4cfef_0 : decode cJ2_indexOf_4cfef 0 = .ok (.iload_n 2, 1) := by decide +kernel
theorem dJ2_indexOf_4cfef_1 : decode cJ2_indexOf_4cfef 1 = .ok (.iconst 0, 1) := by decide +kernel
theorem dJ2_indexOf_4cfef_2 : decode cJ2_indexOf_4cfef 2 = .ok (.invokestatic 224, 3) := by decide +kernel
theorem dJ2_indexOf_4cfef_5 : decode cJ2_indexOf_4cfef 5 = .ok (.istore_n 2, 1) := by decide +kernel
theorem dJ2_indexOf_4cfef_6 : decode cJ2_indexOf_4cfef 6 = .ok (.iload_n 3, 1) := by decide +kernel
theorem dJ2_indexOf_4cfef_7 : decode cJ2_indexOf_4cfef 7 = .ok (.aload_n 0, 1) := by decide +kernel
theorem dJ2_indexOf_4cfef_8 : decode cJ2_indexOf_4cfef 8 = .ok (.arraylength, 1) := by decide +kernel
theorem dJ2_indexOf_4cfef_9 : decode cJ2_indexOf_4cfef 9 = .ok (.iconst 1, 1) := by decide +kernel
theorem dJ2_indexOf_4cfef_10 : decode cJ2_indexOf_4cfef 10 = .ok (.ishr, 1) := by decide +kernel
theorem dJ2_indexOf_4cfef_11 : decode cJ2_indexOf_4cfef 11 = .ok (.invokestatic 183, 3) := by decide +kernel
theorem dJ2_indexOf_4cfef_14 : decode cJ2_indexOf_4cfef 14 = .ok (.istore_n 3, 1) := by decide +kernel
theorem dJ2_indexOf_4cfef_15 : decode cJ2_indexOf_4cfef 15 = .ok (.iload_n 2, 1) := by decide +kernel
theorem dJ2_indexOf_4cfef_16 : decode cJ2_indexOf_4cfef 16 = .ok (.iload_n 3, 1) := by decide +kernel
theorem dJ2_indexOf_4cfef_17 : decode cJ2_indexOf_4cfef 17 = .ok (.if_icmp .lt 5, 3) := by decide +kernel
theorem dJ2_indexOf_4cfef_20 : decode cJ2_indexOf_4cfef 20 = .ok (.iconst (-1), 1) := by decide +kernel
theorem dJ2_indexOf_4cfef_21 : decode cJ2_indexOf_4cfef 21 = .ok (.ireturn, 1) := by decide +kernel
theorem dJ2_indexOf_4cfef_22 : decode cJ2_indexOf_4cfef 22 = .ok (.iload_n 1, 1) := by decide +kernel
theorem dJ2_indexOf_4cfef_23 : decode cJ2_indexOf_4cfef 23 = .ok (.ldc 227, 2) := by decide +kernel
theorem dJ2_indexOf_4cfef_25 : decode cJ2_indexOf_4cfef 25 = .ok (.if_icmp .ge 11, 3) := by decide +kernel
theorem dJ2_indexOf_4cfef_28 : decode cJ2_indexOf_4cfef 28 = .ok (.aload_n 0, 1) := by decide +kernel
theorem dJ2_indexOf_4cfef_29 : decode cJ2_indexOf_4cfef 29 = .ok (.iload_n 1, 1) := by decide +kernel
theorem dJ2_indexOf_4cfef_30 : decode cJ2_indexOf_4cfef 30 = .ok (.iload_n 2, 1) := by decide +kernel
theorem dJ2_indexOf_4cfef_31 : decode cJ2_indexOf_4cfef 31 = .ok (.iload_n 3, 1) := by decide +kernel
theorem dJ2_indexOf_4cfef_32 : decode cJ2_indexOf_4cfef 32 = .ok (.invokestatic 228, 3) := by decide +kernel
theorem dJ2_indexOf_4cfef_35 : decode cJ2_indexOf_4cfef 35 = .ok (.ireturn, 1) := by decide +kernel
theorem dJ2_indexOf_4cfef_36 : decode cJ2_indexOf_4cfef 36 = .ok (.aload_n 0, 1) := by decide +kernel
theorem dJ2_indexOf_4cfef_37 : decode cJ2_indexOf_4cfef 37 = .ok (.iload_n 1, 1) := by decide +kernel
theorem dJ2_indexOf_4cfef_38 : decode cJ2_indexOf_4cfef 38 = .ok (.iload_n 2, 1) := by decide +kernel
theorem dJ2_indexOf_4cfef_39 : decode cJ2_indexOf_4cfef 39 = .ok (.iload_n 3, 1) := by decide +kernel
theorem dJ2_indexOf_4cfef_40 : decode cJ2_indexOf_4cfef 40 = .ok (.invokestatic 232, 3) := by decide +kernel
theorem dJ2_indexOf_4cfef_43 : decode cJ2_indexOf_4cfef 43 = .ok (.ireturn, 1) := by decide +kernel
theorem dJ2_indexOfChar_4cfef_0 : decode cJ2_indexOfChar_4cfef 0 = .ok (.iload_n 2, 1) := by decide +kernel
theorem dJ2_indexOfChar_4cfef_1 : decode cJ2_indexOfChar_4cfef 1 = .ok (.iload_n 3, 1) := by decide +kernel
theorem dJ2_indexOfChar_4cfef_2 : decode cJ2_indexOfChar_4cfef 2 = .ok (.aload_n 0, 1) := by decide +kernel
theorem dJ2_indexOfChar_4cfef_3 : decode cJ2_indexOfChar_4cfef 3 = .ok (.invokestatic 96, 3) := by decide +kernel
theorem dJ2_indexOfChar_4cfef_6 : decode cJ2_indexOfChar_4cfef 6 = .ok (.aload_n 0, 1) := by decide +kernel
theorem dJ2_indexOfChar_4cfef_7 : decode cJ2_indexOfChar_4cfef 7 = .ok (.iload_n 1, 1) := by decide +kernel
theorem dJ2_indexOfChar_4cfef_8 : decode cJ2_indexOfChar_4cfef 8 = .ok (.iload_n 2, 1) := by decide +kernel
theorem dJ2_indexOfChar_4cfef_9 : decode cJ2_indexOfChar_4cfef 9 = .ok (.iload_n 3, 1) := by decide +kernel
theorem dJ2_indexOfChar_4cfef_10 : decode cJ2_indexOfChar_4cfef 10 = .ok (.invokestatic 244, 3) := by decide +kernel
theorem dJ2_indexOfChar_4cfef_13 : decode cJ2_indexOfChar_4cfef 13 = .ok (.ireturn, 1) := by decide +kernel
theorem dJ2_indexOfCharUnsafe_4cfef_0 : decode cJ2_indexOfCharUnsafe_4cfef 0 = .ok (.iload_n 2, 1) := by decide +kernel
theorem dJ2_indexOfCharUnsafe_4cfef_1 : decode cJ2_indexOfCharUnsafe_4cfef 1 = .ok (.istore 4, 2) := by decide +kernel
theorem dJ2_indexOfCharUnsafe_4cfef_3 : decode cJ2_indexOfCharUnsafe_4cfef 3 = .ok (.iload 4, 2) := by decide +kernel
theorem dJ2_indexOfCharUnsafe_4cfef_5 : decode cJ2_indexOfCharUnsafe_4cfef 5 = .ok (.iload_n 3, 1) := by decide +kernel
theorem dJ2_indexOfCharUnsafe_4cfef_6 : decode cJ2_indexOfCharUnsafe_4cfef 6 = .ok (.if_icmp .ge 22, 3) := by decide +kernel
theorem dJ2_indexOfCharUnsafe_4cfef_9 : decode cJ2_indexOfCharUnsafe_4cfef 9 = .ok (.aload_n 0, 1) := by decide +kernel
theorem dJ2_indexOfCharUnsafe_4cfef_10 : decode cJ2_indexOfCharUnsafe_4cfef 10 = .ok (.iload 4, 2) := by decide +kernel
theorem dJ2_indexOfCharUnsafe_4cfef_12 : decode cJ2_indexOfCharUnsafe_4cfef 12 = .ok (.invokestatic 71, 3) := by decide +kernel
theorem dJ2_indexOfCharUnsafe_4cfef_15 : decode cJ2_indexOfCharUnsafe_4cfef 15 = .ok (.iload_n 1, 1) := by decide +kernel
theorem dJ2_indexOfCharUnsafe_4cfef_16 : decode cJ2_indexOfCharUnsafe_4cfef 16 = .ok (.if_icmp .ne 6, 3) := by decide +kernel
theorem dJ2_indexOfCharUnsafe_4cfef_19 : decode cJ2_indexOfCharUnsafe_4cfef 19 = .ok (.iload 4, 2) := by decide +kernel
theorem dJ2_indexOfCharUnsafe_4cfef_21 : decode cJ2_indexOfCharUnsafe_4cfef 21 = .ok (.ireturn, 1) := by decide +kernel
theorem dJ2_indexOfCharUnsafe_4cfef_22 : decode cJ2_indexOfCharUnsafe_4cfef 22 = .ok (.iinc 4 1, 3) := by decide +kernel
theorem dJ2_indexOfCharUnsafe_4cfef_25 : decode cJ2_indexOfCharUnsafe_4cfef 25 = .ok (.goto (-22), 3) := by decide +kernel
theorem dJ2_indexOfCharUnsafe_4cfef_28 : decode cJ2_indexOfCharUnsafe_4cfef 28 = .ok (.iconst (-1), 1) := by decide +kernel
theorem dJ2_indexOfCharUnsafe_4cfef_29 : decode cJ2_indexOfCharUnsafe_4cfef 29 = .ok (.ireturn, 1) := by decide +kernel
theorem dJ2_indexOfSupplementary_4cfef_0 : decode cJ2_indexOfSupplementary_4cfef 0 = .ok (.iload_n 1, 1) := by decide +kernel
theorem dJ2_indexOfSupplementary_4cfef_1 : decode cJ2_indexOfSupplementary_4cfef 1 = .ok (.invokestatic 164, 3) := by decide +kernel
theorem dJ2_indexOfSupplementary_4cfef_4 : decode cJ2_indexOfSupplementary_4cfef 4 = .ok (.ifCond .eq 65, 3) := by decide +kernel
theorem dJ2_indexOfSupplementary_4cfef_7 : decode cJ2_indexOfSupplementary_4cfef 7 = .ok (.iload_n 1, 1) := by decide +kernel
theorem dJ2_indexOfSupplementary_4cfef_8 : decode cJ2_indexOfSupplementary_4cfef 8 = .ok (.invokestatic 157, 3) := by decide +kernel
theorem dJ2_indexOfSupplementary_4cfef_11 : decode cJ2_indexOfSupplementary_4cfef 11 = .ok (.istore 4, 2) := by decide +kernel
theorem dJ2_indexOfSupplementary_4cfef_13 : decode cJ2_indexOfSupplementary_4cfef 13 = .ok (.iload_n 1, 1) := by decide +kernel
theorem dJ2_indexOfSupplementary_4cfef_14 : decode cJ2_indexOfSupplementary_4cfef 14 = .ok (.invokestatic 161, 3) := by decide +kernel
theorem dJ2_indexOfSupplementary_4cfef_17 : decode cJ2_indexOfSupplementary_4cfef 17 = .ok (.istore 5, 2) := by decide +kernel
theorem dJ2_indexOfSupplementary_4cfef_19 : decode cJ2_indexOfSupplementary_4cfef 19 = .ok (.iload_n 2, 1) := by decide +kernel
theorem dJ2_indexOfSupplementary_4cfef_20 : decode cJ2_indexOfSupplementary_4cfef 20 = .ok (.iload_n 3, 1) := by decide +kernel
theorem dJ2_indexOfSupplementary_4cfef_21 : decode cJ2_indexOfSupplementary_4cfef 21 = .ok (.aload_n 0, 1) := by decide +kernel
theorem dJ2_indexOfSupplementary_4cfef_22 : decode cJ2_indexOfSupplementary_4cfef 22 = .ok (.invokestatic 96, 3) := by decide +kernel
theorem dJ2_indexOfSupplementary_4cfef_25 : decode cJ2_indexOfSupplementary_4cfef 25 = .ok (.iload_n 2, 1) := by decide +kernel
theorem dJ2_indexOfSupplementary_4cfef_26 : decode cJ2_indexOfSupplementary_4cfef 26 = .ok (.istore 6, 2) := by decide +kernel
theorem dJ2_indexOfSupplementary_4cfef_28 : decode cJ2_indexOfSupplementary_4cfef 28 = .ok (.iload 6, 2) := by decide +kernel
theorem dJ2_indexOfSupplementary_4cfef_30 : decode cJ2_indexOfSupplementary_4cfef 30 = .ok (.iload_n 3, 1) := by decide +kernel
theorem dJ2_indexOfSupplementary_4cfef_31 : decode cJ2_indexOfSupplementary_4cfef 31 = .ok (.iconst 1, 1) := by decide +kernel
theorem dJ2_indexOfSupplementary_4cfef_32 : decode cJ2_indexOfSupplementary_4cfef 32 = .ok (.isub, 1) := by decide +kernel
theorem dJ2_indexOfSupplementary_4cfef_33 : decode cJ2_indexOfSupplementary_4cfef 33 = .ok (.if_icmp .ge 36, 3) := by decide +kernel
theorem dJ2_indexOfSupplementary_4cfef_36 : decode cJ2_indexOfSupplementary_4cfef 36 = .ok (.aload_n 0, 1) := by decide +kernel
theorem dJ2_indexOfSupplementary_4cfef_37 : decode cJ2_indexOfSupplementary_4cfef 37 = .ok (.iload 6, 2) := by decide +kernel
theorem dJ2_indexOfSupplementary_4cfef_39 : decode cJ2_indexOfSupplementary_4cfef 39 = .ok (.invokestatic 71, 3) := by decide +kernel
theorem dJ2_indexOfSupplementary_4cfef_42 : decode cJ2_indexOfSupplementary_4cfef 42 = .ok (.iload 4, 2) := by decide +kernel
theorem dJ2_indexOfSupplementary_4cfef_44 : decode cJ2_indexOfSupplementary_4cfef 44 = .ok (.if_icmp .ne 19, 3) := by decide +kernel
theorem dJ2_indexOfSupplementary_4cfef_47 : decode cJ2_indexOfSupplementary_4cfef 47 = .ok (.aload_n 0, 1) := by decide +kernel
theorem dJ2_indexOfSupplementary_4cfef_48 : decode cJ2_indexOfSupplementary_4cfef 48 = .ok (.iload 6, 2) := by decide +kernel
theorem dJ2_indexOfSupplementary_4cfef_50 : decode cJ2_indexOfSupplementary_4cfef 50 = .ok (.iconst 1, 1) := by decide +kernel
theorem dJ2_indexOfSupplementary_4cfef_51 : decode cJ2_indexOfSupplementary_4cfef 51 = .ok (.iadd, 1) := by decide +kernel
theorem dJ2_indexOfSupplementary_4cfef_52 : decode cJ2_indexOfSupplementary_4cfef 52 = .ok (.invokestatic 71, 3) := by decide +kernel
theorem dJ2_indexOfSupplementary_4cfef_55 : decode cJ2_indexOfSupplementary_4cfef 55 = .ok (.iload 5, 2) := by decide +kernel
theorem dJ2_indexOfSupplementary_4cfef_57 : decode cJ2_indexOfSupplementary_4cfef 57 = .ok (.if_icmp .ne 6, 3) := by decide +kernel
theorem dJ2_indexOfSupplementary_4cfef_60 : decode cJ2_indexOfSupplementary_4cfef 60 = .ok (.iload 6, 2) := by decide +kernel
theorem dJ2_indexOfSupplementary_4cfef_62 : decode cJ2_indexOfSupplementary_4cfef 62 = .ok (.ireturn, 1) := by decide +kernel
theorem dJ2_indexOfSupplementary_4cfef_63 : decode cJ2_indexOfSupplementary_4cfef 63 = .ok (.iinc 6 1, 3) := by decide +kernel
theorem dJ2_indexOfSupplementary_4cfef_66 : decode cJ2_indexOfSupplementary_4cfef 66 = .ok (.goto (-38), 3) := by decide +kernel
theorem dJ2_indexOfSupplementary_4cfef_69 : decode cJ2_indexOfSupplementary_4cfef 69 = .ok (.iconst (-1), 1) := by decide +kernel
theorem dJ2_indexOfSupplementary_4cfef_70 : decode cJ2_indexOfSupplementary_4cfef 70 = .ok (.ireturn, 1) := by decide +kernel
theorem dJ2_checkBoundsBeginEnd_d044e_0 : decode cJ2_checkBoundsBeginEnd_d044e 0 = .ok (.iload_n 0, 1) := by decide +kernel
theorem dJ2_checkBoundsBeginEnd_d044e_1 : decode cJ2_checkBoundsBeginEnd_d044e 1 = .ok (.iload_n 1, 1) := by decide +kernel
theorem dJ2_checkBoundsBeginEnd_d044e_2 : decode cJ2_checkBoundsBeginEnd_d044e 2 = .ok (.aload_n 2, 1) := by decide +kernel
theorem dJ2_checkBoundsBeginEnd_d044e_3 : decode cJ2_checkBoundsBeginEnd_d044e 3 = .ok (.invokestatic 48, 3) := by decide +kernel
theorem dJ2_checkBoundsBeginEnd_d044e_6 : decode cJ2_checkBoundsBeginEnd_d044e 6 = .ok (.invokestatic 241, 3) := by decide +kernel
theorem dJ2_checkBoundsBeginEnd_d044e_9 : decode cJ2_checkBoundsBeginEnd_d044e 9 = .ok (.return_, 1) := by decide +kernel
theorem dJ3_checkFromToIndex_8c36e_0 : decode cJ3_checkFromToIndex_8c36e 0 = .ok (.iload_n 0, 1) := by decide +kernel
theorem dJ3_checkFromToIndex_8c36e_1 : decode cJ3_checkFromToIndex_8c36e 1 = .ok (.ifCond .lt 13, 3) := by decide +kernel
theorem dJ3_checkFromToIndex_8c36e_4 : decode cJ3_checkFromToIndex_8c36e 4 = .ok (.iload_n 0, 1) := by decide +kernel
theorem dJ3_checkFromToIndex_8c36e_5 : decode cJ3_checkFromToIndex_8c36e 5 = .ok (.iload_n 1, 1) := by decide +kernel
theorem dJ3_checkFromToIndex_8c36e_6 : decode cJ3_checkFromToIndex_8c36e 6 = .ok (.if_icmp .gt 8, 3) := by decide +kernel
theorem dJ3_checkFromToIndex_8c36e_9 : decode cJ3_checkFromToIndex_8c36e 9 = .ok (.iload_n 1, 1) := by decide +kernel
theorem dJ3_checkFromToIndex_8c36e_10 : decode cJ3_checkFromToIndex_8c36e 10 = .ok (.iload_n 2, 1) := by decide +kernel
theorem dJ3_checkFromToIndex_8c36e_11 : decode cJ3_checkFromToIndex_8c36e 11 = .ok (.if_icmp .le 11, 3) := by decide +kernel
theorem dJ3_checkFromToIndex_8c36e_14 : decode cJ3_checkFromToIndex_8c36e 14 = .ok (.aload_n 3, 1) := by decide +kernel
theorem dJ3_checkFromToIndex_8c36e_15 : decode cJ3_checkFromToIndex_8c36e 15 = .ok (.iload_n 0, 1) := by decide +kernel
theorem dJ3_checkFromToIndex_8c36e_16 : decode cJ3_checkFromToIndex_8c36e 16 = .ok (.iload_n 1, 1) := by decide +kernel
theorem dJ3_checkFromToIndex_8c36e_17 : decode cJ3_checkFromToIndex_8c36e 17 = .ok (.iload_n 2, 1) := by decide +kernel
theorem dJ3_checkFromToIndex_8c36e_18 : decode cJ3_checkFromToIndex_8c36e 18 = .ok (.invokestatic 99, 3) := by decide +kernel
theorem dJ3_checkFromToIndex_8c36e_21 : decode cJ3_checkFromToIndex_8c36e 21 = .ok (.athrow, 1) := by decide +kernel
theorem dJ3_checkFromToIndex_8c36e_22 : decode cJ3_checkFromToIndex_8c36e 22 = .ok (.iload_n 0, 1) := by decide +kernel
theorem dJ3_checkFromToIndex_8c36e_23 : decode cJ3_checkFromToIndex_8c36e 23 = .ok (.ireturn, 1) := by decide +kernel
