theorem dX0_init_0 : decode cX0_init 0 = .ok (.aload_n 0, 1) := by decide +kernel
theorem dX0_init_1 : decode cX0_init 1 = .ok (.invokespecial 3, 3) := by decide +kernel
theorem dX0_init_4 : decode cX0_init 4 = .ok (.return_, 1) := by decide +kernel
theorem dX0_kind_0 : decode cX0_kind 0 = .ok (.iconst 1, 1) := by decide +kernel
theorem dX0_kind_1 : decode cX0_kind 1 = .ok (.ireturn, 1) := by decide +kernel
theorem dX0_batter_0 : decode cX0_batter 0 = .ok (.iconst 2, 1) := by decide +kernel
theorem dX0_batter_1 : decode cX0_batter 1 = .ok (.ireturn, 1) := by decide +kernel
theorem dX0_spreads_0 : decode cX0_spreads 0 = .ok (.iload_n 1, 1) := by decide +kernel
theorem dX0_spreads_1 : decode cX0_spreads 1 = .ok (.invokestatic 9, 3) := by decide +kernel
theorem dX0_spreads_4 : decode cX0_spreads 4 = .ok (.iconst 1, 1) := by decide +kernel
theorem dX0_spreads_5 : decode cX0_spreads 5 = .ok (.if_icmp .gt 18, 3) := by decide +kernel
theorem dX0_spreads_8 : decode cX0_spreads 8 = .ok (.iload_n 1, 1) := by decide +kernel
theorem dX0_spreads_9 : decode cX0_spreads 9 = .ok (.invokestatic 9, 3) := by decide +kernel
theorem dX0_spreads_12 : decode cX0_spreads 12 = .ok (.iload_n 2, 1) := by decide +kernel
theorem dX0_spreads_13 : decode cX0_spreads 13 = .ok (.invokestatic 9, 3) := by decide +kernel
theorem dX0_spreads_16 : decode cX0_spreads 16 = .ok (.if_icmp .ne 7, 3) := by decide +kernel
theorem dX0_spreads_19 : decode cX0_spreads 19 = .ok (.iconst 1, 1) := by decide +kernel
theorem dX0_spreads_20 : decode cX0_spreads 20 = .ok (.goto 4, 3) := by decide +kernel
theorem dX0_spreads_23 : decode cX0_spreads 23 = .ok (.iconst 0, 1) := by decide +kernel
theorem dX0_spreads_24 : decode cX0_spreads 24 = .ok (.ireturn, 1) := by decide +kernel
theorem dX1_init_0 : decode cX1_init 0 = .ok (.aload_n 0, 1) := by decide +kernel
theorem dX1_init_1 : decode cX1_init 1 = .ok (.invokespecial 3, 3) := by decide +kernel
theorem dX1_init_4 : decode cX1_init 4 = .ok (.return_, 1) := by decide +kernel
theorem dX1_kind_0 : decode cX1_kind 0 = .ok (.iconst 4, 1) := by decide +kernel
theorem dX1_kind_1 : decode cX1_kind 1 = .ok (.ireturn, 1) := by decide +kernel
theorem dX1_batter_0 : decode cX1_batter 0 = .ok (.iconst 4, 1) := by decide +kernel
theorem dX1_batter_1 : decode cX1_batter 1 = .ok (.ireturn, 1) := by decide +kernel
theorem dX1_spreads_0 : decode cX1_spreads 0 = .ok (.aload_n 0, 1) := by decide +kernel
theorem dX1_spreads_1 : decode cX1_spreads 1 = .ok (.iload_n 1, 1) := by decide +kernel
theorem dX1_spreads_2 : decode cX1_spreads 2 = .ok (.iload_n 2, 1) := by decide +kernel
theorem dX1_spreads_3 : decode cX1_spreads 3 = .ok (.invokespecial 9, 3) := by decide +kernel
theorem dX1_spreads_6 : decode cX1_spreads 6 = .ok (.ifCond .eq 15, 3) := by decide +kernel
theorem dX1_spreads_9 : decode cX1_spreads 9 = .ok (.iload_n 1, 1) := by decide +kernel
theorem dX1_spreads_10 : decode cX1_spreads 10 = .ok (.ifCond .ne 7, 3) := by decide +kernel
theorem dX1_spreads_13 : decode cX1_spreads 13 = .ok (.iload_n 2, 1) := by decide +kernel
theorem dX1_spreads_14 : decode cX1_spreads 14 = .ok (.ifCond .eq 7, 3) := by decide +kernel
theorem dX1_spreads_17 : decode cX1_spreads 17 = .ok (.iconst 1, 1) := by decide +kernel
theorem dX1_spreads_18 : decode cX1_spreads 18 = .ok (.goto 4, 3) := by decide +kernel
theorem dX1_spreads_21 : decode cX1_spreads 21 = .ok (.iconst 0, 1) := by decide +kernel
theorem dX1_spreads_22 : decode cX1_spreads 22 = .ok (.ireturn, 1) := by decide +kernel
theorem dX2_init_0 : decode cX2_init 0 = .ok (.aload_n 0, 1) := by decide +kernel
theorem dX2_init_1 : decode cX2_init 1 = .ok (.invokespecial 3, 3) := by decide +kernel
theorem dX2_init_4 : decode cX2_init 4 = .ok (.aload_n 0, 1) := by decide +kernel
theorem dX2_init_5 : decode cX2_init 5 = .ok (.bipush 6, 2) := by decide +kernel
theorem dX2_init_7 : decode cX2_init 7 = .ok (.newarray .int, 2) := by decide +kernel
theorem dX2_init_9 : decode cX2_init 9 = .ok (.putfield 9, 3) := by decide +kernel
theorem dX2_init_12 : decode cX2_init 12 = .ok (.aload_n 0, 1) := by decide +kernel
theorem dX2_init_13 : decode cX2_init 13 = .ok (.bipush 6, 2) := by decide +kernel
theorem dX2_init_15 : decode cX2_init 15 = .ok (.newarray .int, 2) := by decide +kernel
theorem dX2_init_17 : decode cX2_init 17 = .ok (.putfield 15, 3) := by decide +kernel
theorem dX2_init_20 : decode cX2_init 20 = .ok (.aload_n 0, 1) := by decide +kernel
theorem dX2_init_21 : decode cX2_init 21 = .ok (.bipush 6, 2) := by decide +kernel
theorem dX2_init_23 : decode cX2_init 23 = .ok (.newarray .int, 2) := by decide +kernel
theorem dX2_init_25 : decode cX2_init 25 = .ok (.putfield 18, 3) := by decide +kernel
theorem dX2_init_28 : decode cX2_init 28 = .ok (.aload_n 0, 1) := by decide +kernel
theorem dX2_init_29 : decode cX2_init 29 = .ok (.iconst 4, 1) := by decide +kernel
theorem dX2_init_30 : decode cX2_init 30 = .ok (.newarray .int, 2) := by decide +kernel
theorem dX2_init_32 : decode cX2_init 32 = .ok (.putfield 21, 3) := by decide +kernel
theorem dX2_init_35 : decode cX2_init 35 = .ok (.aload_n 0, 1) := by decide +kernel
theorem dX2_init_36 : decode cX2_init 36 = .ok (.iconst 4, 1) := by decide +kernel
theorem dX2_init_37 : decode cX2_init 37 = .ok (.newarray .int, 2) := by decide +kernel
theorem dX2_init_39 : decode cX2_init 39 = .ok (.putfield 24, 3) := by decide +kernel
theorem dX2_init_42 : decode cX2_init 42 = .ok (.aload_n 0, 1) := by decide +kernel
theorem dX2_init_43 : decode cX2_init 43 = .ok (.iconst 4, 1) := by decide +kernel
theorem dX2_init_44 : decode cX2_init 44 = .ok (.newarray .int, 2) := by decide +kernel
theorem dX2_init_46 : decode cX2_init 46 = .ok (.putfield 27, 3) := by decide +kernel
theorem dX2_init_49 : decode cX2_init 49 = .ok (.aload_n 0, 1) := by decide +kernel
theorem dX2_init_50 : decode cX2_init 50 = .ok (.new 30, 3) := by decide +kernel
theorem dX2_init_53 : decode cX2_init 53 = .ok (.dup, 1) := by decide +kernel
theorem dX2_init_54 : decode cX2_init 54 = .ok (.invokespecial 32, 3) := by decide +kernel
theorem dX2_init_57 : decode cX2_init 57 = .ok (.putfield 33, 3) := by decide +kernel
theorem dX2_init_60 : decode cX2_init 60 = .ok (.return_, 1) := by decide +kernel
theorem dX2_begin_0 : decode cX2_begin 0 = .ok (.aload_n 1, 1) := by decide +kernel
theorem dX2_begin_1 : decode cX2_begin 1 = .ok (.ifnonnull 4, 3) := by decide +kernel
theorem dX2_begin_4 : decode cX2_begin 4 = .ok (.return_, 1) := by decide +kernel
theorem dX2_begin_5 : decode cX2_begin 5 = .ok (.aload_n 1, 1) := by decide +kernel
theorem dX2_begin_6 : decode cX2_begin 6 = .ok (.getfield 37, 3) := by decide +kernel
theorem dX2_begin_9 : decode cX2_begin 9 = .ok (.aload_n 0, 1) := by decide +kernel
theorem dX2_begin_10 : decode cX2_begin 10 = .ok (.getfield 9, 3) := by decide +kernel
theorem dX2_begin_13 : decode cX2_begin 13 = .ok (.invokestatic 40, 3) := by decide +kernel
theorem dX2_begin_16 : decode cX2_begin 16 = .ok (.aload_n 1, 1) := by decide +kernel
theorem dX2_begin_17 : decode cX2_begin 17 = .ok (.getfield 44, 3) := by decide +kernel
theorem dX2_begin_20 : decode cX2_begin 20 = .ok (.aload_n 0, 1) := by decide +kernel
theorem dX2_begin_21 : decode cX2_begin 21 = .ok (.getfield 21, 3) := by decide +kernel
theorem dX2_begin_24 : decode cX2_begin 24 = .ok (.invokestatic 40, 3) := by decide +kernel
theorem dX2_begin_27 : decode cX2_begin 27 = .ok (.aload_n 1, 1) := by decide +kernel
theorem dX2_begin_28 : decode cX2_begin 28 = .ok (.getfield 45, 3) := by decide +kernel
theorem dX2_begin_31 : decode cX2_begin 31 = .ok (.aload_n 0, 1) := by decide +kernel
theorem dX2_begin_32 : decode cX2_begin 32 = .ok (.getfield 24, 3) := by decide +kernel
theorem dX2_begin_35 : decode cX2_begin 35 = .ok (.invokestatic 40, 3) := by decide +kernel
theorem dX2_begin_38 : decode cX2_begin 38 = .ok (.aload_n 0, 1) := by decide +kernel
theorem dX2_begin_39 : decode cX2_begin 39 = .ok (.getfield 15, 3) := by decide +kernel
theorem dX2_begin_42 : decode cX2_begin 42 = .ok (.invokestatic 46, 3) := by decide +kernel
theorem dX2_begin_45 : decode cX2_begin 45 = .ok (.aload_n 0, 1) := by decide +kernel
theorem dX2_begin_46 : decode cX2_begin 46 = .ok (.getfield 18, 3) := by decide +kernel
theorem dX2_begin_49 : decode cX2_begin 49 = .ok (.invokestatic 46, 3) := by decide +kernel
theorem dX2_begin_52 : decode cX2_begin 52 = .ok (.aload_n 0, 1) := by decide +kernel
theorem dX2_begin_53 : decode cX2_begin 53 = .ok (.getfield 27, 3) := by decide +kernel
theorem dX2_begin_56 : decode cX2_begin 56 = .ok (.invokestatic 46, 3) := by decide +kernel
theorem dX2_begin_59 : decode cX2_begin 59 = .ok (.aload_n 0, 1) := by decide +kernel
theorem dX2_begin_60 : decode cX2_begin 60 = .ok (.getfield 33, 3) := by decide +kernel
theorem dX2_begin_63 : decode cX2_begin 63 = .ok (.iconst 0, 1) := by decide +kernel
theorem dX2_begin_64 : decode cX2_begin 64 = .ok (.putfield 50, 3) := by decide +kernel
theorem dX2_begin_67 : decode cX2_begin 67 = .ok (.aload_n 0, 1) := by decide +kernel
theorem dX2_begin_68 : decode cX2_begin 68 = .ok (.iconst 0, 1) := by decide +kernel
theorem dX2_begin_69 : decode cX2_begin 69 = .ok (.putfield 54, 3) := by decide +kernel
theorem dX2_begin_72 : decode cX2_begin 72 = .ok (.aload_n 0, 1) := by decide +kernel
theorem dX2_begin_73 : decode cX2_begin 73 = .ok (.iconst 0, 1) := by decide +kernel
theorem dX2_begin_74 : decode cX2_begin 74 = .ok (.putfield 57, 3) := by decide +kernel
theorem dX2_begin_77 : decode cX2_begin 77 = .ok (.aload_n 0, 1) := by decide +kernel
theorem dX2_begin_78 : decode cX2_begin 78 = .ok (.bipush 60, 2) := by decide +kernel
theorem dX2_begin_80 : decode cX2_begin 80 = .ok (.putfield 60, 3) := by decide +kernel
theorem dX2_begin_83 : decode cX2_begin 83 = .ok (.aload_n 0, 1) := by decide +kernel
theorem dX2_begin_84 : decode cX2_begin 84 = .ok (.iconst 0, 1) := by decide +kernel
theorem dX2_begin_85 : decode cX2_begin 85 = .ok (.putfield 63, 3) := by decide +kernel
theorem dX2_begin_88 : decode cX2_begin 88 = .ok (.aload_n 0, 1) := by decide +kernel
theorem dX2_begin_89 : decode cX2_begin 89 = .ok (.iconst 0, 1) := by decide +kernel
theorem dX2_begin_90 : decode cX2_begin 90 = .ok (.putfield 66, 3) := by decide +kernel
theorem dX2_begin_93 : decode cX2_begin 93 = .ok (.return_, 1) := by decide +kernel
theorem dX2_wake_0 : decode cX2_wake 0 = .ok (.iconst 0, 1) := by decide +kernel
theorem dX2_wake_1 : decode cX2_wake 1 = .ok (.istore_n 2, 1) := by decide +kernel
theorem dX2_wake_2 : decode cX2_wake 2 = .ok (.iload_n 2, 1) := by decide +kernel
theorem dX2_wake_3 : decode cX2_wake 3 = .ok (.iload_n 1, 1) := by decide +kernel
theorem dX2_wake_4 : decode cX2_wake 4 = .ok (.if_icmp .ge 45, 3) := by decide +kernel
theorem dX2_wake_7 : decode cX2_wake 7 = .ok (.aload_n 0, 1) := by decide +kernel
theorem dX2_wake_8 : decode cX2_wake 8 = .ok (.getfield 54, 3) := by decide +kernel
theorem dX2_wake_11 : decode cX2_wake 11 = .ok (.iload_n 2, 1) := by decide +kernel
theorem dX2_wake_12 : decode cX2_wake 12 = .ok (.ishr, 1) := by decide +kernel
theorem dX2_wake_13 : decode cX2_wake 13 = .ok (.iconst 1, 1) := by decide +kernel
theorem dX2_wake_14 : decode cX2_wake 14 = .ok (.iand, 1) := by decide +kernel
theorem dX2_wake_15 : decode cX2_wake 15 = .ok (.iconst 1, 1) := by decide +kernel
theorem dX2_wake_16 : decode cX2_wake 16 = .ok (.if_icmp .ne 10, 3) := by decide +kernel
theorem dX2_wake_19 : decode cX2_wake 19 = .ok (.aload_n 0, 1) := by decide +kernel
theorem dX2_wake_20 : decode cX2_wake 20 = .ok (.getfield 15, 3) := by decide +kernel
theorem dX2_wake_23 : decode cX2_wake 23 = .ok (.goto 7, 3) := by decide +kernel
theorem dX2_wake_26 : decode cX2_wake 26 = .ok (.aload_n 0, 1) := by decide +kernel
theorem dX2_wake_27 : decode cX2_wake 27 = .ok (.getfield 18, 3) := by decide +kernel
theorem dX2_wake_30 : decode cX2_wake 30 = .ok (.astore_n 3, 1) := by decide +kernel
theorem dX2_wake_31 : decode cX2_wake 31 = .ok (.aload_n 3, 1) := by decide +kernel
theorem dX2_wake_32 : decode cX2_wake 32 = .ok (.iload_n 2, 1) := by decide +kernel
theorem dX2_wake_33 : decode cX2_wake 33 = .ok (.aload_n 3, 1) := by decide +kernel
theorem dX2_wake_34 : decode cX2_wake 34 = .ok (.iload_n 2, 1) := by decide +kernel
theorem dX2_wake_35 : decode cX2_wake 35 = .ok (.invokestatic 69, 3) := by decide +kernel
theorem dX2_wake_38 : decode cX2_wake 38 = .ok (.iconst 1, 1) := by decide +kernel
theorem dX2_wake_39 : decode cX2_wake 39 = .ok (.iadd, 1) := by decide +kernel
theorem dX2_wake_40 : decode cX2_wake 40 = .ok (.invokestatic 73, 3) := by decide +kernel
theorem dX2_wake_43 : decode cX2_wake 43 = .ok (.iinc 2 1, 3) := by decide +kernel
theorem dX2_wake_46 : decode cX2_wake 46 = .ok (.goto (-44), 3) := by decide +kernel
theorem dX2_wake_49 : decode cX2_wake 49 = .ok (.aload_n 0, 1) := by decide +kernel
theorem dX2_wake_50 : decode cX2_wake 50 = .ok (.iconst 0, 1) := by decide +kernel
theorem dX2_wake_51 : decode cX2_wake 51 = .ok (.putfield 54, 3) := by decide +kernel
theorem dX2_wake_54 : decode cX2_wake 54 = .ok (.aload_n 0, 1) := by decide +kernel
theorem dX2_wake_55 : decode cX2_wake 55 = .ok (.dup, 1) := by decide +kernel
theorem dX2_wake_56 : decode cX2_wake 56 = .ok (.getfield 63, 3) := by decide +kernel
theorem dX2_wake_59 : decode cX2_wake 59 = .ok (.iconst 1, 1) := by decide +kernel
theorem dX2_wake_60 : decode cX2_wake 60 = .ok (.iadd, 1) := by decide +kernel
theorem dX2_wake_61 : decode cX2_wake 61 = .ok (.putfield 63, 3) := by decide +kernel
theorem dX2_wake_64 : decode cX2_wake 64 = .ok (.return_, 1) := by decide +kernel
theorem dX2_takeFrom_0 : decode cX2_takeFrom 0 = .ok (.aload_n 1, 1) := by decide +kernel
theorem dX2_takeFrom_1 : decode cX2_takeFrom 1 = .ok (.ifnonnull 4, 3) := by decide +kernel
theorem dX2_takeFrom_4 : decode cX2_takeFrom 4 = .ok (.return_, 1) := by decide +kernel
theorem dX2_takeFrom_5 : decode cX2_takeFrom 5 = .ok (.aload_n 1, 1) := by decide +kernel
theorem dX2_takeFrom_6 : decode cX2_takeFrom 6 = .ok (.getfield 9, 3) := by decide +kernel
theorem dX2_takeFrom_9 : decode cX2_takeFrom 9 = .ok (.aload_n 0, 1) := by decide +kernel
theorem dX2_takeFrom_10 : decode cX2_takeFrom 10 = .ok (.getfield 9, 3) := by decide +kernel
theorem dX2_takeFrom_13 : decode cX2_takeFrom 13 = .ok (.invokestatic 40, 3) := by decide +kernel
theorem dX2_takeFrom_16 : decode cX2_takeFrom 16 = .ok (.aload_n 1, 1) := by decide +kernel
theorem dX2_takeFrom_17 : decode cX2_takeFrom 17 = .ok (.getfield 15, 3) := by decide +kernel
theorem dX2_takeFrom_20 : decode cX2_takeFrom 20 = .ok (.aload_n 0, 1) := by decide +kernel
theorem dX2_takeFrom_21 : decode cX2_takeFrom 21 = .ok (.getfield 15, 3) := by decide +kernel
theorem dX2_takeFrom_24 : decode cX2_takeFrom 24 = .ok (.invokestatic 40, 3) := by decide +kernel
theorem dX2_takeFrom_27 : decode cX2_takeFrom 27 = .ok (.aload_n 1, 1) := by decide +kernel
theorem dX2_takeFrom_28 : decode cX2_takeFrom 28 = .ok (.getfield 18, 3) := by decide +kernel
theorem dX2_takeFrom_31 : decode cX2_takeFrom 31 = .ok (.aload_n 0, 1) := by decide +kernel
theorem dX2_takeFrom_32 : decode cX2_takeFrom 32 = .ok (.getfield 18, 3) := by decide +kernel
theorem dX2_takeFrom_35 : decode cX2_takeFrom 35 = .ok (.invokestatic 40, 3) := by decide +kernel
theorem dX2_takeFrom_38 : decode cX2_takeFrom 38 = .ok (.aload_n 1, 1) := by decide +kernel
theorem dX2_takeFrom_39 : decode cX2_takeFrom 39 = .ok (.getfield 21, 3) := by decide +kernel
theorem dX2_takeFrom_42 : decode cX2_takeFrom 42 = .ok (.aload_n 0, 1) := by decide +kernel
theorem dX2_takeFrom_43 : decode cX2_takeFrom 43 = .ok (.getfield 21, 3) := by decide +kernel
theorem dX2_takeFrom_46 : decode cX2_takeFrom 46 = .ok (.invokestatic 40, 3) := by decide +kernel
theorem dX2_takeFrom_49 : decode cX2_takeFrom 49 = .ok (.aload_n 1, 1) := by decide +kernel
theorem dX2_takeFrom_50 : decode cX2_takeFrom 50 = .ok (.getfield 24, 3) := by decide +kernel
theorem dX2_takeFrom_53 : decode cX2_takeFrom 53 = .ok (.aload_n 0, 1) := by decide +kernel
theorem dX2_takeFrom_54 : decode cX2_takeFrom 54 = .ok (.getfield 24, 3) := by decide +kernel
theorem dX2_takeFrom_57 : decode cX2_takeFrom 57 = .ok (.invokestatic 40, 3) := by decide +kernel
theorem dX2_takeFrom_60 : decode cX2_takeFrom 60 = .ok (.aload_n 1, 1) := by decide +kernel
theorem dX2_takeFrom_61 : decode cX2_takeFrom 61 = .ok (.getfield 27, 3) := by decide +kernel
theorem dX2_takeFrom_64 : decode cX2_takeFrom 64 = .ok (.aload_n 0, 1) := by decide +kernel
theorem dX2_takeFrom_65 : decode cX2_takeFrom 65 = .ok (.getfield 27, 3) := by decide +kernel
theorem dX2_takeFrom_68 : decode cX2_takeFrom 68 = .ok (.invokestatic 40, 3) := by decide +kernel
theorem dX2_takeFrom_71 : decode cX2_takeFrom 71 = .ok (.aload_n 0, 1) := by decide +kernel
theorem dX2_takeFrom_72 : decode cX2_takeFrom 72 = .ok (.getfield 33, 3) := by decide +kernel
theorem dX2_takeFrom_75 : decode cX2_takeFrom 75 = .ok (.aload_n 1, 1) := by decide +kernel
theorem dX2_takeFrom_76 : decode cX2_takeFrom 76 = .ok (.getfield 33, 3) := by decide +kernel
theorem dX2_takeFrom_79 : decode cX2_takeFrom 79 = .ok (.invokevirtual 77, 3) := by decide +kernel
theorem dX2_takeFrom_82 : decode cX2_takeFrom 82 = .ok (.aload_n 0, 1) := by decide +kernel
theorem dX2_takeFrom_83 : decode cX2_takeFrom 83 = .ok (.aload_n 1, 1) := by decide +kernel
theorem dX2_takeFrom_84 : decode cX2_takeFrom 84 = .ok (.getfield 54, 3) := by decide +kernel
theorem dX2_takeFrom_87 : decode cX2_takeFrom 87 = .ok (.putfield 54, 3) := by decide +kernel
theorem dX2_takeFrom_90 : decode cX2_takeFrom 90 = .ok (.aload_n 0, 1) := by decide +kernel
theorem dX2_takeFrom_91 : decode cX2_takeFrom 91 = .ok (.aload_n 1, 1) := by decide +kernel
theorem dX2_takeFrom_92 : decode cX2_takeFrom 92 = .ok (.getfield 57, 3) := by decide +kernel
theorem dX2_takeFrom_95 : decode cX2_takeFrom 95 = .ok (.putfield 57, 3) := by decide +kernel
theorem dX2_takeFrom_98 : decode cX2_takeFrom 98 = .ok (.aload_n 0, 1) := by decide +kernel
theorem dX2_takeFrom_99 : decode cX2_takeFrom 99 = .ok (.aload_n 1, 1) := by decide +kernel
theorem dX2_takeFrom_100 : decode cX2_takeFrom 100 = .ok (.getfield 60, 3) := by decide +kernel
theorem dX2_takeFrom_103 : decode cX2_takeFrom 103 = .ok (.putfield 60, 3) := by decide +kernel
theorem dX2_takeFrom_106 : decode cX2_takeFrom 106 = .ok (.aload_n 0, 1) := by decide +kernel
theorem dX2_takeFrom_107 : decode cX2_takeFrom 107 = .ok (.aload_n 1, 1) := by decide +kernel
theorem dX2_takeFrom_108 : decode cX2_takeFrom 108 = .ok (.getfield 63, 3) := by decide +kernel
theorem dX2_takeFrom_111 : decode cX2_takeFrom 111 = .ok (.putfield 63, 3) := by decide +kernel
theorem dX2_takeFrom_114 : decode cX2_takeFrom 114 = .ok (.aload_n 0, 1) := by decide +kernel
theorem dX2_takeFrom_115 : decode cX2_takeFrom 115 = .ok (.aload_n 1, 1) := by decide +kernel
theorem dX2_takeFrom_116 : decode cX2_takeFrom 116 = .ok (.getfield 66, 3) := by decide +kernel
theorem dX2_takeFrom_119 : decode cX2_takeFrom 119 = .ok (.putfield 66, 3) := by decide +kernel
theorem dX2_takeFrom_122 : decode cX2_takeFrom 122 = .ok (.return_, 1) := by decide +kernel
theorem dX3_init_0 : decode cX3_init 0 = .ok (.aload_n 0, 1) := by decide +kernel
theorem dX3_init_1 : decode cX3_init 1 = .ok (.invokespecial 3, 3) := by decide +kernel
theorem dX3_init_4 : decode cX3_init 4 = .ok (.aload_n 0, 1) := by decide +kernel
theorem dX3_init_5 : decode cX3_init 5 = .ok (.bipush 36, 2) := by decide +kernel
theorem dX3_init_7 : decode cX3_init 7 = .ok (.newarray .int, 2) := by decide +kernel
theorem dX3_init_9 : decode cX3_init 9 = .ok (.putfield 9, 3) := by decide +kernel
theorem dX3_init_12 : decode cX3_init 12 = .ok (.return_, 1) := by decide +kernel
theorem dX3_append_0 : decode cX3_append 0 = .ok (.aload_n 0, 1) := by decide +kernel
theorem dX3_append_1 : decode cX3_append 1 = .ok (.getfield 9, 3) := by decide +kernel
theorem dX3_append_4 : decode cX3_append 4 = .ok (.aload_n 0, 1) := by decide +kernel
theorem dX3_append_5 : decode cX3_append 5 = .ok (.getfield 15, 3) := by decide +kernel
theorem dX3_append_8 : decode cX3_append 8 = .ok (.iload_n 1, 1) := by decide +kernel
theorem dX3_append_9 : decode cX3_append 9 = .ok (.invokestatic 19, 3) := by decide +kernel
theorem dX3_append_12 : decode cX3_append 12 = .ok (.aload_n 0, 1) := by decide +kernel
theorem dX3_append_13 : decode cX3_append 13 = .ok (.dup, 1) := by decide +kernel
theorem dX3_append_14 : decode cX3_append 14 = .ok (.getfield 15, 3) := by decide +kernel
theorem dX3_append_17 : decode cX3_append 17 = .ok (.iconst 1, 1) := by decide +kernel
theorem dX3_append_18 : decode cX3_append 18 = .ok (.iadd, 1) := by decide +kernel
theorem dX3_append_19 : decode cX3_append 19 = .ok (.putfield 15, 3) := by decide +kernel
theorem dX3_append_22 : decode cX3_append 22 = .ok (.return_, 1) := by decide +kernel
theorem dX4_init_0 : decode cX4_init 0 = .ok (.aload_n 0, 1) := by decide +kernel
theorem dX4_init_1 : decode cX4_init 1 = .ok (.invokespecial 3, 3) := by decide +kernel
theorem dX4_init_4 : decode cX4_init 4 = .ok (.aload_n 0, 1) := by decide +kernel
theorem dX4_init_5 : decode cX4_init 5 = .ok (.sipush 144, 3) := by decide +kernel
theorem dX4_init_8 : decode cX4_init 8 = .ok (.newarray .int, 2) := by decide +kernel
theorem dX4_init_10 : decode cX4_init 10 = .ok (.putfield 9, 3) := by decide +kernel
theorem dX4_init_13 : decode cX4_init 13 = .ok (.aload_n 0, 1) := by decide +kernel
theorem dX4_init_14 : decode cX4_init 14 = .ok (.sipush 144, 3) := by decide +kernel
theorem dX4_init_17 : decode cX4_init 17 = .ok (.newarray .int, 2) := by decide +kernel
theorem dX4_init_19 : decode cX4_init 19 = .ok (.putfield 15, 3) := by decide +kernel
theorem dX4_init_22 : decode cX4_init 22 = .ok (.aload_n 0, 1) := by decide +kernel
theorem dX4_init_23 : decode cX4_init 23 = .ok (.bipush 64, 2) := by decide +kernel
theorem dX4_init_25 : decode cX4_init 25 = .ok (.newarray .int, 2) := by decide +kernel
theorem dX4_init_27 : decode cX4_init 27 = .ok (.putfield 18, 3) := by decide +kernel
theorem dX4_init_30 : decode cX4_init 30 = .ok (.aload_n 0, 1) := by decide +kernel
theorem dX4_init_31 : decode cX4_init 31 = .ok (.bipush 64, 2) := by decide +kernel
theorem dX4_init_33 : decode cX4_init 33 = .ok (.newarray .int, 2) := by decide +kernel
theorem dX4_init_35 : decode cX4_init 35 = .ok (.putfield 21, 3) := by decide +kernel
theorem dX4_init_38 : decode cX4_init 38 = .ok (.aload_n 0, 1) := by decide +kernel
theorem dX4_init_39 : decode cX4_init 39 = .ok (.bipush 6, 2) := by decide +kernel
theorem dX4_init_41 : decode cX4_init 41 = .ok (.newarray .int, 2) := by decide +kernel
theorem dX4_init_43 : decode cX4_init 43 = .ok (.putfield 24, 3) := by decide +kernel
theorem dX4_init_46 : decode cX4_init 46 = .ok (.return_, 1) := by decide +kernel
theorem dX4_begin_0 : decode cX4_begin 0 = .ok (.aload_n 0, 1) := by decide +kernel
theorem dX4_begin_1 : decode cX4_begin 1 = .ok (.getfield 9, 3) := by decide +kernel
theorem dX4_begin_4 : decode cX4_begin 4 = .ok (.invokestatic 27, 3) := by decide +kernel
theorem dX4_begin_7 : decode cX4_begin 7 = .ok (.aload_n 0, 1) := by decide +kernel
theorem dX4_begin_8 : decode cX4_begin 8 = .ok (.getfield 15, 3) := by decide +kernel
theorem dX4_begin_11 : decode cX4_begin 11 = .ok (.invokestatic 27, 3) := by decide +kernel
theorem dX4_begin_14 : decode cX4_begin 14 = .ok (.iconst 0, 1) := by decide +kernel
theorem dX4_begin_15 : decode cX4_begin 15 = .ok (.istore_n 1, 1) := by decide +kernel
theorem dX4_begin_16 : decode cX4_begin 16 = .ok (.iload_n 1, 1) := by decide +kernel
theorem dX4_begin_17 : decode cX4_begin 17 = .ok (.bipush 64, 2) := by decide +kernel
theorem dX4_begin_19 : decode cX4_begin 19 = .ok (.if_icmp .ge 19, 3) := by decide +kernel
theorem dX4_begin_22 : decode cX4_begin 22 = .ok (.aload_n 0, 1) := by decide +kernel
theorem dX4_begin_23 : decode cX4_begin 23 = .ok (.getfield 18, 3) := by decide +kernel
theorem dX4_begin_26 : decode cX4_begin 26 = .ok (.iload_n 1, 1) := by decide +kernel
theorem dX4_begin_27 : decode cX4_begin 27 = .ok (.ldc 31, 2) := by decide +kernel
theorem dX4_begin_29 : decode cX4_begin 29 = .ok (.invokestatic 32, 3) := by decide +kernel
theorem dX4_begin_32 : decode cX4_begin 32 = .ok (.iinc 1 1, 3) := by decide +kernel
theorem dX4_begin_35 : decode cX4_begin 35 = .ok (.goto (-19), 3) := by decide +kernel
theorem dX4_begin_38 : decode cX4_begin 38 = .ok (.return_, 1) := by decide +kernel
theorem dX4_offer_0 : decode cX4_offer 0 = .ok (.bipush 16, 2) := by decide +kernel
theorem dX4_offer_2 : decode cX4_offer 2 = .ok (.iload_n 3, 1) := by decide +kernel
theorem dX4_offer_3 : decode cX4_offer 3 = .ok (.imul, 1) := by decide +kernel
theorem dX4_offer_4 : decode cX4_offer 4 = .ok (.iconst 1, 1) := by decide +kernel
theorem dX4_offer_5 : decode cX4_offer 5 = .ok (.iadd, 1) := by decide +kernel
theorem dX4_offer_6 : decode cX4_offer 6 = .ok (.istore 4, 2) := by decide +kernel
theorem dX4_offer_8 : decode cX4_offer 8 = .ok (.aload_n 0, 1) := by decide +kernel
theorem dX4_offer_9 : decode cX4_offer 9 = .ok (.getfield 9, 3) := by decide +kernel
theorem dX4_offer_12 : decode cX4_offer 12 = .ok (.iload_n 1, 1) := by decide +kernel
theorem dX4_offer_13 : decode cX4_offer 13 = .ok (.iload_n 2, 1) := by decide +kernel
theorem dX4_offer_14 : decode cX4_offer 14 = .ok (.invokestatic 32, 3) := by decide +kernel
theorem dX4_offer_17 : decode cX4_offer 17 = .ok (.aload_n 0, 1) := by decide +kernel
theorem dX4_offer_18 : decode cX4_offer 18 = .ok (.getfield 15, 3) := by decide +kernel
theorem dX4_offer_21 : decode cX4_offer 21 = .ok (.iload_n 1, 1) := by decide +kernel
theorem dX4_offer_22 : decode cX4_offer 22 = .ok (.iload 4, 2) := by decide +kernel
theorem dX4_offer_24 : decode cX4_offer 24 = .ok (.invokestatic 32, 3) := by decide +kernel
theorem dX4_offer_27 : decode cX4_offer 27 = .ok (.aload_n 0, 1) := by decide +kernel
theorem dX4_offer_28 : decode cX4_offer 28 = .ok (.getfield 18, 3) := by decide +kernel
theorem dX4_offer_31 : decode cX4_offer 31 = .ok (.iload_n 2, 1) := by decide +kernel
theorem dX4_offer_32 : decode cX4_offer 32 = .ok (.iload 4, 2) := by decide +kernel
theorem dX4_offer_34 : decode cX4_offer 34 = .ok (.aload_n 0, 1) := by decide +kernel
theorem dX4_offer_35 : decode cX4_offer 35 = .ok (.getfield 18, 3) := by decide +kernel
theorem dX4_offer_38 : decode cX4_offer 38 = .ok (.iload_n 2, 1) := by decide +kernel
theorem dX4_offer_39 : decode cX4_offer 39 = .ok (.invokestatic 36, 3) := by decide +kernel
theorem dX4_offer_42 : decode cX4_offer 42 = .ok (.invokestatic 40, 3) := by decide +kernel
theorem dX4_offer_45 : decode cX4_offer 45 = .ok (.invokestatic 32, 3) := by decide +kernel
theorem dX4_offer_48 : decode cX4_offer 48 = .ok (.return_, 1) := by decide +kernel
theorem dX4_solve_0 : decode cX4_solve 0 = .ok (.aload_n 0, 1) := by decide +kernel
theorem dX4_solve_1 : decode cX4_solve 1 = .ok (.getfield 21, 3) := by decide +kernel
theorem dX4_solve_4 : decode cX4_solve 4 = .ok (.iconst 0, 1) := by decide +kernel
theorem dX4_solve_5 : decode cX4_solve 5 = .ok (.iconst 0, 1) := by decide +kernel
theorem dX4_solve_6 : decode cX4_solve 6 = .ok (.invokestatic 32, 3) := by decide +kernel
theorem dX4_solve_9 : decode cX4_solve 9 = .ok (.iconst 1, 1) := by decide +kernel
theorem dX4_solve_10 : decode cX4_solve 10 = .ok (.istore_n 2, 1) := by decide +kernel
theorem dX4_solve_11 : decode cX4_solve 11 = .ok (.iload_n 2, 1) := by decide +kernel
theorem dX4_solve_12 : decode cX4_solve 12 = .ok (.bipush 64, 2) := by decide +kernel
theorem dX4_solve_14 : decode cX4_solve 14 = .ok (.if_icmp .ge 35, 3) := by decide +kernel
theorem dX4_solve_17 : decode cX4_solve 17 = .ok (.aload_n 0, 1) := by decide +kernel
theorem dX4_solve_18 : decode cX4_solve 18 = .ok (.getfield 21, 3) := by decide +kernel
theorem dX4_solve_21 : decode cX4_solve 21 = .ok (.iload_n 2, 1) := by decide +kernel
theorem dX4_solve_22 : decode cX4_solve 22 = .ok (.iload_n 2, 1) := by decide +kernel
theorem dX4_solve_23 : decode cX4_solve 23 = .ok (.iload_n 1, 1) := by decide +kernel
theorem dX4_solve_24 : decode cX4_solve 24 = .ok (.iconst (-1), 1) := by decide +kernel
theorem dX4_solve_25 : decode cX4_solve 25 = .ok (.ixor, 1) := by decide +kernel
theorem dX4_solve_26 : decode cX4_solve 26 = .ok (.iand, 1) := by decide +kernel
theorem dX4_solve_27 : decode cX4_solve 27 = .ok (.ifCond .ne 11, 3) := by decide +kernel
theorem dX4_solve_30 : decode cX4_solve 30 = .ok (.aload_n 0, 1) := by decide +kernel
theorem dX4_solve_31 : decode cX4_solve 31 = .ok (.iload_n 2, 1) := by decide +kernel
theorem dX4_solve_32 : decode cX4_solve 32 = .ok (.invokevirtual 46, 3) := by decide +kernel
theorem dX4_solve_35 : decode cX4_solve 35 = .ok (.goto 5, 3) := by decide +kernel
theorem dX4_solve_38 : decode cX4_solve 38 = .ok (.ldc 31, 2) := by decide +kernel
theorem dX4_solve_40 : decode cX4_solve 40 = .ok (.invokestatic 32, 3) := by decide +kernel
theorem dX4_solve_43 : decode cX4_solve 43 = .ok (.iinc 2 1, 3) := by decide +kernel
theorem dX4_solve_46 : decode cX4_solve 46 = .ok (.goto (-35), 3) := by decide +kernel
theorem dX4_solve_49 : decode cX4_solve 49 = .ok (.aload_n 0, 1) := by decide +kernel
theorem dX4_solve_50 : decode cX4_solve 50 = .ok (.aload_n 0, 1) := by decide +kernel
theorem dX4_solve_51 : decode cX4_solve 51 = .ok (.getfield 21, 3) := by decide +kernel
theorem dX4_solve_54 : decode cX4_solve 54 = .ok (.iload_n 1, 1) := by decide +kernel
theorem dX4_solve_55 : decode cX4_solve 55 = .ok (.invokestatic 36, 3) := by decide +kernel
theorem dX4_solve_58 : decode cX4_solve 58 = .ok (.putfield 50, 3) := by decide +kernel
theorem dX4_solve_61 : decode cX4_solve 61 = .ok (.return_, 1) := by decide +kernel
theorem dX4_leastPrice_0 : decode cX4_leastPrice 0 = .ok (.ldc 31, 2) := by decide +kernel
theorem dX4_leastPrice_2 : decode cX4_leastPrice 2 = .ok (.istore_n 2, 1) := by decide +kernel
theorem dX4_leastPrice_3 : decode cX4_leastPrice 3 = .ok (.iconst 1, 1) := by decide +kernel
theorem dX4_leastPrice_4 : decode cX4_leastPrice 4 = .ok (.istore_n 3, 1) := by decide +kernel
theorem dX4_leastPrice_5 : decode cX4_leastPrice 5 = .ok (.iload_n 3, 1) := by decide +kernel
theorem dX4_leastPrice_6 : decode cX4_leastPrice 6 = .ok (.bipush 64, 2) := by decide +kernel
theorem dX4_leastPrice_8 : decode cX4_leastPrice 8 = .ok (.if_icmp .ge 54, 3) := by decide +kernel
theorem dX4_leastPrice_11 : decode cX4_leastPrice 11 = .ok (.iload_n 3, 1) := by decide +kernel
theorem dX4_leastPrice_12 : decode cX4_leastPrice 12 = .ok (.iload_n 1, 1) := by decide +kernel
theorem dX4_leastPrice_13 : decode cX4_leastPrice 13 = .ok (.iand, 1) := by decide +kernel
theorem dX4_leastPrice_14 : decode cX4_leastPrice 14 = .ok (.ifCond .eq 42, 3) := by decide +kernel
theorem dX4_leastPrice_17 : decode cX4_leastPrice 17 = .ok (.aload_n 0, 1) := by decide +kernel
theorem dX4_leastPrice_18 : decode cX4_leastPrice 18 = .ok (.getfield 18, 3) := by decide +kernel
theorem dX4_leastPrice_21 : decode cX4_leastPrice 21 = .ok (.iload_n 3, 1) := by decide +kernel
theorem dX4_leastPrice_22 : decode cX4_leastPrice 22 = .ok (.invokestatic 36, 3) := by decide +kernel
theorem dX4_leastPrice_25 : decode cX4_leastPrice 25 = .ok (.ldc 31, 2) := by decide +kernel
theorem dX4_leastPrice_27 : decode cX4_leastPrice 27 = .ok (.if_icmp .ge 29, 3) := by decide +kernel
theorem dX4_leastPrice_30 : decode cX4_leastPrice 30 = .ok (.iload_n 2, 1) := by decide +kernel
theorem dX4_leastPrice_31 : decode cX4_leastPrice 31 = .ok (.aload_n 0, 1) := by decide +kernel
theorem dX4_leastPrice_32 : decode cX4_leastPrice 32 = .ok (.getfield 18, 3) := by decide +kernel
theorem dX4_leastPrice_35 : decode cX4_leastPrice 35 = .ok (.iload_n 3, 1) := by decide +kernel
theorem dX4_leastPrice_36 : decode cX4_leastPrice 36 = .ok (.invokestatic 36, 3) := by decide +kernel
theorem dX4_leastPrice_39 : decode cX4_leastPrice 39 = .ok (.aload_n 0, 1) := by decide +kernel
theorem dX4_leastPrice_40 : decode cX4_leastPrice 40 = .ok (.getfield 21, 3) := by decide +kernel
theorem dX4_leastPrice_43 : decode cX4_leastPrice 43 = .ok (.iload_n 1, 1) := by decide +kernel
theorem dX4_leastPrice_44 : decode cX4_leastPrice 44 = .ok (.iload_n 3, 1) := by decide +kernel
theorem dX4_leastPrice_45 : decode cX4_leastPrice 45 = .ok (.iconst (-1), 1) := by decide +kernel
theorem dX4_leastPrice_46 : decode cX4_leastPrice 46 = .ok (.ixor, 1) := by decide +kernel
theorem dX4_leastPrice_47 : decode cX4_leastPrice 47 = .ok (.iand, 1) := by decide +kernel
theorem dX4_leastPrice_48 : decode cX4_leastPrice 48 = .ok (.invokestatic 36, 3) := by decide +kernel
theorem dX4_leastPrice_51 : decode cX4_leastPrice 51 = .ok (.iadd, 1) := by decide +kernel
theorem dX4_leastPrice_52 : decode cX4_leastPrice 52 = .ok (.invokestatic 40, 3) := by decide +kernel
theorem dX4_leastPrice_55 : decode cX4_leastPrice 55 = .ok (.istore_n 2, 1) := by decide +kernel
theorem dX4_leastPrice_56 : decode cX4_leastPrice 56 = .ok (.iinc 3 1, 3) := by decide +kernel
theorem dX4_leastPrice_59 : decode cX4_leastPrice 59 = .ok (.goto (-54), 3) := by decide +kernel
theorem dX4_leastPrice_62 : decode cX4_leastPrice 62 = .ok (.iload_n 2, 1) := by decide +kernel
theorem dX4_leastPrice_63 : decode cX4_leastPrice 63 = .ok (.ireturn, 1) := by decide +kernel
theorem dX4_choose_0 : decode cX4_choose 0 = .ok (.aload_n 0, 1) := by decide +kernel
theorem dX4_choose_1 : decode cX4_choose 1 = .ok (.iconst 0, 1) := by decide +kernel
theorem dX4_choose_2 : decode cX4_choose 2 = .ok (.putfield 54, 3) := by decide +kernel
theorem dX4_choose_5 : decode cX4_choose 5 = .ok (.iload_n 1, 1) := by decide +kernel
theorem dX4_choose_6 : decode cX4_choose 6 = .ok (.istore_n 2, 1) := by decide +kernel
theorem dX4_choose_7 : decode cX4_choose 7 = .ok (.iconst 0, 1) := by decide +kernel
theorem dX4_choose_8 : decode cX4_choose 8 = .ok (.istore_n 3, 1) := by decide +kernel
theorem dX4_choose_9 : decode cX4_choose 9 = .ok (.iload_n 3, 1) := by decide +kernel
theorem dX4_choose_10 : decode cX4_choose 10 = .ok (.bipush 6, 2) := by decide +kernel
theorem dX4_choose_12 : decode cX4_choose 12 = .ok (.if_icmp .ge 63, 3) := by decide +kernel
theorem dX4_choose_15 : decode cX4_choose 15 = .ok (.iload_n 2, 1) := by decide +kernel
theorem dX4_choose_16 : decode cX4_choose 16 = .ok (.ifCond .eq 59, 3) := by decide +kernel
theorem dX4_choose_19 : decode cX4_choose 19 = .ok (.aload_n 0, 1) := by decide +kernel
theorem dX4_choose_20 : decode cX4_choose 20 = .ok (.getfield 50, 3) := by decide +kernel
theorem dX4_choose_23 : decode cX4_choose 23 = .ok (.ldc 31, 2) := by decide +kernel
theorem dX4_choose_25 : decode cX4_choose 25 = .ok (.if_icmp .ge 50, 3) := by decide +kernel
theorem dX4_choose_28 : decode cX4_choose 28 = .ok (.aload_n 0, 1) := by decide +kernel
theorem dX4_choose_29 : decode cX4_choose 29 = .ok (.iload_n 2, 1) := by decide +kernel
theorem dX4_choose_30 : decode cX4_choose 30 = .ok (.invokevirtual 57, 3) := by decide +kernel
theorem dX4_choose_33 : decode cX4_choose 33 = .ok (.istore 4, 2) := by decide +kernel
theorem dX4_choose_35 : decode cX4_choose 35 = .ok (.aload_n 0, 1) := by decide +kernel
theorem dX4_choose_36 : decode cX4_choose 36 = .ok (.getfield 24, 3) := by decide +kernel
theorem dX4_choose_39 : decode cX4_choose 39 = .ok (.iload_n 3, 1) := by decide +kernel
theorem dX4_choose_40 : decode cX4_choose 40 = .ok (.iload 4, 2) := by decide +kernel
theorem dX4_choose_42 : decode cX4_choose 42 = .ok (.invokestatic 32, 3) := by decide +kernel
theorem dX4_choose_45 : decode cX4_choose 45 = .ok (.aload_n 0, 1) := by decide +kernel
theorem dX4_choose_46 : decode cX4_choose 46 = .ok (.dup, 1) := by decide +kernel
theorem dX4_choose_47 : decode cX4_choose 47 = .ok (.getfield 54, 3) := by decide +kernel
theorem dX4_choose_50 : decode cX4_choose 50 = .ok (.iconst 1, 1) := by decide +kernel
theorem dX4_choose_51 : decode cX4_choose 51 = .ok (.iadd, 1) := by decide +kernel
theorem dX4_choose_52 : decode cX4_choose 52 = .ok (.putfield 54, 3) := by decide +kernel
theorem dX4_choose_55 : decode cX4_choose 55 = .ok (.iload_n 2, 1) := by decide +kernel
theorem dX4_choose_56 : decode cX4_choose 56 = .ok (.aload_n 0, 1) := by decide +kernel
theorem dX4_choose_57 : decode cX4_choose 57 = .ok (.getfield 9, 3) := by decide +kernel
theorem dX4_choose_60 : decode cX4_choose 60 = .ok (.iload 4, 2) := by decide +kernel
theorem dX4_choose_62 : decode cX4_choose 62 = .ok (.invokestatic 36, 3) := by decide +kernel
theorem dX4_choose_65 : decode cX4_choose 65 = .ok (.iconst (-1), 1) := by decide +kernel
theorem dX4_choose_66 : decode cX4_choose 66 = .ok (.ixor, 1) := by decide +kernel
theorem dX4_choose_67 : decode cX4_choose 67 = .ok (.iand, 1) := by decide +kernel
theorem dX4_choose_68 : decode cX4_choose 68 = .ok (.istore_n 2, 1) := by decide +kernel
theorem dX4_choose_69 : decode cX4_choose 69 = .ok (.iinc 3 1, 3) := by decide +kernel
theorem dX4_choose_72 : decode cX4_choose 72 = .ok (.goto (-63), 3) := by decide +kernel
theorem dX4_choose_75 : decode cX4_choose 75 = .ok (.return_, 1) := by decide +kernel
theorem dX4_firstFor_0 : decode cX4_firstFor 0 = .ok (.iconst 0, 1) := by decide +kernel
theorem dX4_firstFor_1 : decode cX4_firstFor 1 = .ok (.istore_n 2, 1) := by decide +kernel
theorem dX4_firstFor_2 : decode cX4_firstFor 2 = .ok (.iload_n 2, 1) := by decide +kernel
theorem dX4_firstFor_3 : decode cX4_firstFor 3 = .ok (.sipush 144, 3) := by decide +kernel
theorem dX4_firstFor_6 : decode cX4_firstFor 6 = .ok (.if_icmp .ge 58, 3) := by decide +kernel
theorem dX4_firstFor_9 : decode cX4_firstFor 9 = .ok (.aload_n 0, 1) := by decide +kernel
theorem dX4_firstFor_10 : decode cX4_firstFor 10 = .ok (.getfield 9, 3) := by decide +kernel
theorem dX4_firstFor_13 : decode cX4_firstFor 13 = .ok (.iload_n 2, 1) := by decide +kernel
theorem dX4_firstFor_14 : decode cX4_firstFor 14 = .ok (.invokestatic 36, 3) := by decide +kernel
theorem dX4_firstFor_17 : decode cX4_firstFor 17 = .ok (.istore_n 3, 1) := by decide +kernel
theorem dX4_firstFor_18 : decode cX4_firstFor 18 = .ok (.iload_n 3, 1) := by decide +kernel
theorem dX4_firstFor_19 : decode cX4_firstFor 19 = .ok (.iload_n 1, 1) := by decide +kernel
theorem dX4_firstFor_20 : decode cX4_firstFor 20 = .ok (.iand, 1) := by decide +kernel
theorem dX4_firstFor_21 : decode cX4_firstFor 21 = .ok (.ifCond .eq 37, 3) := by decide +kernel
theorem dX4_firstFor_24 : decode cX4_firstFor 24 = .ok (.aload_n 0, 1) := by decide +kernel
theorem dX4_firstFor_25 : decode cX4_firstFor 25 = .ok (.getfield 15, 3) := by decide +kernel
theorem dX4_firstFor_28 : decode cX4_firstFor 28 = .ok (.iload_n 2, 1) := by decide +kernel
theorem dX4_firstFor_29 : decode cX4_firstFor 29 = .ok (.invokestatic 36, 3) := by decide +kernel
theorem dX4_firstFor_32 : decode cX4_firstFor 32 = .ok (.aload_n 0, 1) := by decide +kernel
theorem dX4_firstFor_33 : decode cX4_firstFor 33 = .ok (.getfield 21, 3) := by decide +kernel
theorem dX4_firstFor_36 : decode cX4_firstFor 36 = .ok (.iload_n 1, 1) := by decide +kernel
theorem dX4_firstFor_37 : decode cX4_firstFor 37 = .ok (.iload_n 3, 1) := by decide +kernel
theorem dX4_firstFor_38 : decode cX4_firstFor 38 = .ok (.iconst (-1), 1) := by decide +kernel
theorem dX4_firstFor_39 : decode cX4_firstFor 39 = .ok (.ixor, 1) := by decide +kernel
theorem dX4_firstFor_40 : decode cX4_firstFor 40 = .ok (.iand, 1) := by decide +kernel
theorem dX4_firstFor_41 : decode cX4_firstFor 41 = .ok (.invokestatic 36, 3) := by decide +kernel
theorem dX4_firstFor_44 : decode cX4_firstFor 44 = .ok (.iadd, 1) := by decide +kernel
theorem dX4_firstFor_45 : decode cX4_firstFor 45 = .ok (.aload_n 0, 1) := by decide +kernel
theorem dX4_firstFor_46 : decode cX4_firstFor 46 = .ok (.getfield 21, 3) := by decide +kernel
theorem dX4_firstFor_49 : decode cX4_firstFor 49 = .ok (.iload_n 1, 1) := by decide +kernel
theorem dX4_firstFor_50 : decode cX4_firstFor 50 = .ok (.invokestatic 36, 3) := by decide +kernel
theorem dX4_firstFor_53 : decode cX4_firstFor 53 = .ok (.if_icmp .ne 5, 3) := by decide +kernel
theorem dX4_firstFor_56 : decode cX4_firstFor 56 = .ok (.iload_n 2, 1) := by decide +kernel
theorem dX4_firstFor_57 : decode cX4_firstFor 57 = .ok (.ireturn, 1) := by decide +kernel
theorem dX4_firstFor_58 : decode cX4_firstFor 58 = .ok (.iinc 2 1, 3) := by decide +kernel
theorem dX4_firstFor_61 : decode cX4_firstFor 61 = .ok (.goto (-59), 3) := by decide +kernel
theorem dX4_firstFor_64 : decode cX4_firstFor 64 = .ok (.iconst (-1), 1) := by decide +kernel
theorem dX4_firstFor_65 : decode cX4_firstFor 65 = .ok (.ireturn, 1) := by decide +kernel
theorem dX4_tell_0 : decode cX4_tell 0 = .ok (.aload_n 0, 1) := by decide +kernel
theorem dX4_tell_1 : decode cX4_tell 1 = .ok (.getfield 50, 3) := by decide +kernel
theorem dX4_tell_4 : decode cX4_tell 4 = .ok (.ldc 31, 2) := by decide +kernel
theorem dX4_tell_6 : decode cX4_tell 6 = .ok (.if_icmp .lt 5, 3) := by decide +kernel
theorem dX4_tell_9 : decode cX4_tell 9 = .ok (.iconst (-1), 1) := by decide +kernel
theorem dX4_tell_10 : decode cX4_tell 10 = .ok (.ireturn, 1) := by decide +kernel
theorem dX4_tell_11 : decode cX4_tell 11 = .ok (.iload_n 1, 1) := by decide +kernel
theorem dX4_tell_12 : decode cX4_tell 12 = .ok (.ifCond .ne 11, 3) := by decide +kernel
theorem dX4_tell_15 : decode cX4_tell 15 = .ok (.aload_n 0, 1) := by decide +kernel
theorem dX4_tell_16 : decode cX4_tell 16 = .ok (.getfield 50, 3) := by decide +kernel
theorem dX4_tell_19 : decode cX4_tell 19 = .ok (.bipush 16, 2) := by decide +kernel
theorem dX4_tell_21 : decode cX4_tell 21 = .ok (.idiv, 1) := by decide +kernel
theorem dX4_tell_22 : decode cX4_tell 22 = .ok (.ireturn, 1) := by decide +kernel
theorem dX4_tell_23 : decode cX4_tell 23 = .ok (.iload_n 1, 1) := by decide +kernel
theorem dX4_tell_24 : decode cX4_tell 24 = .ok (.iconst 1, 1) := by decide +kernel
theorem dX4_tell_25 : decode cX4_tell 25 = .ok (.if_icmp .ne 8, 3) := by decide +kernel
theorem dX4_tell_28 : decode cX4_tell 28 = .ok (.aload_n 0, 1) := by decide +kernel
theorem dX4_tell_29 : decode cX4_tell 29 = .ok (.getfield 54, 3) := by decide +kernel
theorem dX4_tell_32 : decode cX4_tell 32 = .ok (.ireturn, 1) := by decide +kernel
theorem dX4_tell_33 : decode cX4_tell 33 = .ok (.iload_n 1, 1) := by decide +kernel
theorem dX4_tell_34 : decode cX4_tell 34 = .ok (.bipush 10, 2) := by decide +kernel
theorem dX4_tell_36 : decode cX4_tell 36 = .ok (.isub, 1) := by decide +kernel
theorem dX4_tell_37 : decode cX4_tell 37 = .ok (.istore_n 2, 1) := by decide +kernel
theorem dX4_tell_38 : decode cX4_tell 38 = .ok (.iload_n 2, 1) := by decide +kernel
theorem dX4_tell_39 : decode cX4_tell 39 = .ok (.ifCond .lt 22, 3) := by decide +kernel
theorem dX4_tell_42 : decode cX4_tell 42 = .ok (.iload_n 2, 1) := by decide +kernel
theorem dX4_tell_43 : decode cX4_tell 43 = .ok (.aload_n 0, 1) := by decide +kernel
theorem dX4_tell_44 : decode cX4_tell 44 = .ok (.getfield 54, 3) := by decide +kernel
theorem dX4_tell_47 : decode cX4_tell 47 = .ok (.if_icmp .ge 14, 3) := by decide +kernel
theorem dX4_tell_50 : decode cX4_tell 50 = .ok (.aload_n 0, 1) := by decide +kernel
theorem dX4_tell_51 : decode cX4_tell 51 = .ok (.getfield 24, 3) := by decide +kernel
theorem dX4_tell_54 : decode cX4_tell 54 = .ok (.iload_n 2, 1) := by decide +kernel
theorem dX4_tell_55 : decode cX4_tell 55 = .ok (.invokestatic 36, 3) := by decide +kernel
theorem dX4_tell_58 : decode cX4_tell 58 = .ok (.goto 4, 3) := by decide +kernel
theorem dX4_tell_61 : decode cX4_tell 61 = .ok (.iconst (-1), 1) := by decide +kernel
theorem dX4_tell_62 : decode cX4_tell 62 = .ok (.ireturn, 1) := by decide +kernel
theorem dX5_init_0 : decode cX5_init 0 = .ok (.aload_n 0, 1) := by decide +kernel
theorem dX5_init_1 : decode cX5_init 1 = .ok (.invokespecial 3, 3) := by decide +kernel
theorem dX5_init_4 : decode cX5_init 4 = .ok (.aload_n 0, 1) := by decide +kernel
theorem dX5_init_5 : decode cX5_init 5 = .ok (.bipush 6, 2) := by decide +kernel
theorem dX5_init_7 : decode cX5_init 7 = .ok (.newarray .int, 2) := by decide +kernel
theorem dX5_init_9 : decode cX5_init 9 = .ok (.putfield 9, 3) := by decide +kernel
theorem dX5_init_12 : decode cX5_init 12 = .ok (.aload_n 0, 1) := by decide +kernel
theorem dX5_init_13 : decode cX5_init 13 = .ok (.iconst 4, 1) := by decide +kernel
theorem dX5_init_14 : decode cX5_init 14 = .ok (.newarray .int, 2) := by decide +kernel
theorem dX5_init_16 : decode cX5_init 16 = .ok (.putfield 15, 3) := by decide +kernel
theorem dX5_init_19 : decode cX5_init 19 = .ok (.aload_n 0, 1) := by decide +kernel
theorem dX5_init_20 : decode cX5_init 20 = .ok (.iconst 4, 1) := by decide +kernel
theorem dX5_init_21 : decode cX5_init 21 = .ok (.newarray .int, 2) := by decide +kernel
theorem dX5_init_23 : decode cX5_init 23 = .ok (.putfield 18, 3) := by decide +kernel
theorem dX5_init_26 : decode cX5_init 26 = .ok (.aload_n 0, 1) := by decide +kernel
theorem dX5_init_27 : decode cX5_init 27 = .ok (.iconst 4, 1) := by decide +kernel
theorem dX5_init_28 : decode cX5_init 28 = .ok (.newarray .int, 2) := by decide +kernel
theorem dX5_init_30 : decode cX5_init 30 = .ok (.putfield 21, 3) := by decide +kernel
theorem dX5_init_33 : decode cX5_init 33 = .ok (.return_, 1) := by decide +kernel
theorem dX5_read_0 : decode cX5_read 0 = .ok (.aload_n 0, 1) := by decide +kernel
theorem dX5_read_1 : decode cX5_read 1 = .ok (.iconst 0, 1) := by decide +kernel
theorem dX5_read_2 : decode cX5_read 2 = .ok (.putfield 24, 3) := by decide +kernel
theorem dX5_read_5 : decode cX5_read 5 = .ok (.aload_n 0, 1) := by decide +kernel
theorem dX5_read_6 : decode cX5_read 6 = .ok (.iconst 0, 1) := by decide +kernel
theorem dX5_read_7 : decode cX5_read 7 = .ok (.putfield 28, 3) := by decide +kernel
theorem dX5_read_10 : decode cX5_read 10 = .ok (.aload_n 0, 1) := by decide +kernel
theorem dX5_read_11 : decode cX5_read 11 = .ok (.iconst 0, 1) := by decide +kernel
theorem dX5_read_12 : decode cX5_read 12 = .ok (.putfield 31, 3) := by decide +kernel
theorem dX5_read_15 : decode cX5_read 15 = .ok (.aload_n 1, 1) := by decide +kernel
theorem dX5_read_16 : decode cX5_read 16 = .ok (.ifnonnull 7, 3) := by decide +kernel
theorem dX5_read_19 : decode cX5_read 19 = .ok (.iconst 0, 1) := by decide +kernel
theorem dX5_read_20 : decode cX5_read 20 = .ok (.goto 7, 3) := by decide +kernel
theorem dX5_read_23 : decode cX5_read 23 = .ok (.aload_n 1, 1) := by decide +kernel
theorem dX5_read_24 : decode cX5_read 24 = .ok (.getfield 34, 3) := by decide +kernel
theorem dX5_read_27 : decode cX5_read 27 = .ok (.istore_n 2, 1) := by decide +kernel
theorem dX5_read_28 : decode cX5_read 28 = .ok (.iconst 0, 1) := by decide +kernel
theorem dX5_read_29 : decode cX5_read 29 = .ok (.istore_n 3, 1) := by decide +kernel
theorem dX5_read_30 : decode cX5_read 30 = .ok (.iload_n 3, 1) := by decide +kernel
theorem dX5_read_31 : decode cX5_read 31 = .ok (.iload_n 2, 1) := by decide +kernel
theorem dX5_read_32 : decode cX5_read 32 = .ok (.if_icmp .ge 26, 3) := by decide +kernel
theorem dX5_read_35 : decode cX5_read 35 = .ok (.aload_n 0, 1) := by decide +kernel
theorem dX5_read_36 : decode cX5_read 36 = .ok (.aload_n 1, 1) := by decide +kernel
theorem dX5_read_37 : decode cX5_read 37 = .ok (.getfield 39, 3) := by decide +kernel
theorem dX5_read_40 : decode cX5_read 40 = .ok (.iload_n 3, 1) := by decide +kernel
theorem dX5_read_41 : decode cX5_read 41 = .ok (.invokestatic 42, 3) := by decide +kernel
theorem dX5_read_44 : decode cX5_read 44 = .ok (.invokevirtual 46, 3) := by decide +kernel
theorem dX5_read_47 : decode cX5_read 47 = .ok (.ifCond .ne 5, 3) := by decide +kernel
theorem dX5_read_50 : decode cX5_read 50 = .ok (.iload_n 3, 1) := by decide +kernel
theorem dX5_read_51 : decode cX5_read 51 = .ok (.ireturn, 1) := by decide +kernel
theorem dX5_read_52 : decode cX5_read 52 = .ok (.iinc 3 1, 3) := by decide +kernel
theorem dX5_read_55 : decode cX5_read 55 = .ok (.goto (-25), 3) := by decide +kernel
theorem dX5_read_58 : decode cX5_read 58 = .ok (.iload_n 2, 1) := by decide +kernel
theorem dX5_read_59 : decode cX5_read 59 = .ok (.ireturn, 1) := by decide +kernel
theorem dX5_isWhole_0 : decode cX5_isWhole 0 = .ok (.aload_n 0, 1) := by decide +kernel
theorem dX5_isWhole_1 : decode cX5_isWhole 1 = .ok (.getfield 31, 3) := by decide +kernel
theorem dX5_isWhole_4 : decode cX5_isWhole 4 = .ok (.bipush 6, 2) := by decide +kernel
theorem dX5_isWhole_6 : decode cX5_isWhole 6 = .ok (.if_icmp .ne 7, 3) := by decide +kernel
theorem dX5_isWhole_9 : decode cX5_isWhole 9 = .ok (.iconst 1, 1) := by decide +kernel
theorem dX5_isWhole_10 : decode cX5_isWhole 10 = .ok (.goto 4, 3) := by decide +kernel
theorem dX5_isWhole_13 : decode cX5_isWhole 13 = .ok (.iconst 0, 1) := by decide +kernel
theorem dX5_isWhole_14 : decode cX5_isWhole 14 = .ok (.ireturn, 1) := by decide +kernel
theorem dX5_takes_0 : decode cX5_takes 0 = .ok (.aload_n 0, 1) := by decide +kernel
theorem dX5_takes_1 : decode cX5_takes 1 = .ok (.getfield 31, 3) := by decide +kernel
theorem dX5_takes_4 : decode cX5_takes 4 = .ok (.tableswitch 88 0 5 #[40, 49, 58, 64, 70, 79], 40) := by decide +kernel
theorem dX5_takes_44 : decode cX5_takes 44 = .ok (.aload_n 0, 1) := by decide +kernel
theorem dX5_takes_45 : decode cX5_takes 45 = .ok (.iload_n 1, 1) := by decide +kernel
theorem dX5_takes_46 : decode cX5_takes 46 = .ok (.bipush 48, 2) := by decide +kernel
theorem dX5_takes_48 : decode cX5_takes 48 = .ok (.isub, 1) := by decide +kernel
theorem dX5_takes_49 : decode cX5_takes 49 = .ok (.invokevirtual 50, 3) := by decide +kernel
theorem dX5_takes_52 : decode cX5_takes 52 = .ok (.ireturn, 1) := by decide +kernel
theorem dX5_takes_53 : decode cX5_takes 53 = .ok (.aload_n 0, 1) := by decide +kernel
theorem dX5_takes_54 : decode cX5_takes 54 = .ok (.iload_n 1, 1) := by decide +kernel
theorem dX5_takes_55 : decode cX5_takes 55 = .ok (.bipush 48, 2) := by decide +kernel
theorem dX5_takes_57 : decode cX5_takes 57 = .ok (.isub, 1) := by decide +kernel
theorem dX5_takes_58 : decode cX5_takes 58 = .ok (.invokevirtual 53, 3) := by decide +kernel
theorem dX5_takes_61 : decode cX5_takes 61 = .ok (.ireturn, 1) := by decide +kernel
theorem dX5_takes_62 : decode cX5_takes 62 = .ok (.aload_n 0, 1) := by decide +kernel
theorem dX5_takes_63 : decode cX5_takes 63 = .ok (.iload_n 1, 1) := by decide +kernel
theorem dX5_takes_64 : decode cX5_takes 64 = .ok (.invokevirtual 56, 3) := by decide +kernel
theorem dX5_takes_67 : decode cX5_takes 67 = .ok (.ireturn, 1) := by decide +kernel
theorem dX5_takes_68 : decode cX5_takes 68 = .ok (.aload_n 0, 1) := by decide +kernel
theorem dX5_takes_69 : decode cX5_takes 69 = .ok (.iload_n 1, 1) := by decide +kernel
theorem dX5_takes_70 : decode cX5_takes 70 = .ok (.invokevirtual 59, 3) := by decide +kernel
theorem dX5_takes_73 : decode cX5_takes 73 = .ok (.ireturn, 1) := by decide +kernel
theorem dX5_takes_74 : decode cX5_takes 74 = .ok (.aload_n 0, 1) := by decide +kernel
theorem dX5_takes_75 : decode cX5_takes 75 = .ok (.iload_n 1, 1) := by decide +kernel
theorem dX5_takes_76 : decode cX5_takes 76 = .ok (.bipush 48, 2) := by decide +kernel
theorem dX5_takes_78 : decode cX5_takes 78 = .ok (.isub, 1) := by decide +kernel
theorem dX5_takes_79 : decode cX5_takes 79 = .ok (.invokevirtual 62, 3) := by decide +kernel
theorem dX5_takes_82 : decode cX5_takes 82 = .ok (.ireturn, 1) := by decide +kernel
theorem dX5_takes_83 : decode cX5_takes 83 = .ok (.aload_n 0, 1) := by decide +kernel
theorem dX5_takes_84 : decode cX5_takes 84 = .ok (.iload_n 1, 1) := by decide +kernel
theorem dX5_takes_85 : decode cX5_takes 85 = .ok (.bipush 48, 2) := by decide +kernel
theorem dX5_takes_87 : decode cX5_takes 87 = .ok (.isub, 1) := by decide +kernel
theorem dX5_takes_88 : decode cX5_takes 88 = .ok (.invokevirtual 65, 3) := by decide +kernel
theorem dX5_takes_91 : decode cX5_takes 91 = .ok (.ireturn, 1) := by decide +kernel
theorem dX5_takes_92 : decode cX5_takes 92 = .ok (.aload_n 0, 1) := by decide +kernel
theorem dX5_takes_93 : decode cX5_takes 93 = .ok (.iload_n 1, 1) := by decide +kernel
theorem dX5_takes_94 : decode cX5_takes 94 = .ok (.invokevirtual 68, 3) := by decide +kernel
theorem dX5_takes_97 : decode cX5_takes 97 = .ok (.ireturn, 1) := by decide +kernel
theorem dX5_takesRow_0 : decode cX5_takesRow 0 = .ok (.aload_n 0, 1) := by decide +kernel
theorem dX5_takesRow_1 : decode cX5_takesRow 1 = .ok (.iload_n 1, 1) := by decide +kernel
theorem dX5_takesRow_2 : decode cX5_takesRow 2 = .ok (.putfield 71, 3) := by decide +kernel
theorem dX5_takesRow_5 : decode cX5_takesRow 5 = .ok (.aload_n 0, 1) := by decide +kernel
theorem dX5_takesRow_6 : decode cX5_takesRow 6 = .ok (.iconst 1, 1) := by decide +kernel
theorem dX5_takesRow_7 : decode cX5_takesRow 7 = .ok (.putfield 31, 3) := by decide +kernel
theorem dX5_takesRow_10 : decode cX5_takesRow 10 = .ok (.iload_n 1, 1) := by decide +kernel
theorem dX5_takesRow_11 : decode cX5_takesRow 11 = .ok (.ifCond .lt 13, 3) := by decide +kernel
theorem dX5_takesRow_14 : decode cX5_takesRow 14 = .ok (.iload_n 1, 1) := by decide +kernel
theorem dX5_takesRow_15 : decode cX5_takesRow 15 = .ok (.bipush 6, 2) := by decide +kernel
theorem dX5_takesRow_17 : decode cX5_takesRow 17 = .ok (.if_icmp .ge 7, 3) := by decide +kernel
theorem dX5_takesRow_20 : decode cX5_takesRow 20 = .ok (.iconst 1, 1) := by decide +kernel
theorem dX5_takesRow_21 : decode cX5_takesRow 21 = .ok (.goto 4, 3) := by decide +kernel
theorem dX5_takesRow_24 : decode cX5_takesRow 24 = .ok (.iconst 0, 1) := by decide +kernel
theorem dX5_takesRow_25 : decode cX5_takesRow 25 = .ok (.ireturn, 1) := by decide +kernel
theorem dX5_takesColumn_0 : decode cX5_takesColumn 0 = .ok (.aload_n 0, 1) := by decide +kernel
theorem dX5_takesColumn_1 : decode cX5_takesColumn 1 = .ok (.getfield 71, 3) := by decide +kernel
theorem dX5_takesColumn_4 : decode cX5_takesColumn 4 = .ok (.iload_n 1, 1) := by decide +kernel
theorem dX5_takesColumn_5 : decode cX5_takesColumn 5 = .ok (.invokestatic 74, 3) := by decide +kernel
theorem dX5_takesColumn_8 : decode cX5_takesColumn 8 = .ok (.istore_n 2, 1) := by decide +kernel
theorem dX5_takesColumn_9 : decode cX5_takesColumn 9 = .ok (.iconst 0, 1) := by decide +kernel
theorem dX5_takesColumn_10 : decode cX5_takesColumn 10 = .ok (.istore_n 3, 1) := by decide +kernel
theorem dX5_takesColumn_11 : decode cX5_takesColumn 11 = .ok (.iload_n 3, 1) := by decide +kernel
theorem dX5_takesColumn_12 : decode cX5_takesColumn 12 = .ok (.aload_n 0, 1) := by decide +kernel
theorem dX5_takesColumn_13 : decode cX5_takesColumn 13 = .ok (.getfield 24, 3) := by decide +kernel
theorem dX5_takesColumn_16 : decode cX5_takesColumn 16 = .ok (.if_icmp .ge 23, 3) := by decide +kernel
theorem dX5_takesColumn_19 : decode cX5_takesColumn 19 = .ok (.aload_n 0, 1) := by decide +kernel
theorem dX5_takesColumn_20 : decode cX5_takesColumn 20 = .ok (.getfield 9, 3) := by decide +kernel
theorem dX5_takesColumn_23 : decode cX5_takesColumn 23 = .ok (.iload_n 3, 1) := by decide +kernel
theorem dX5_takesColumn_24 : decode cX5_takesColumn 24 = .ok (.invokestatic 42, 3) := by decide +kernel
theorem dX5_takesColumn_27 : decode cX5_takesColumn 27 = .ok (.iload_n 2, 1) := by decide +kernel
theorem dX5_takesColumn_28 : decode cX5_takesColumn 28 = .ok (.if_icmp .ne 5, 3) := by decide +kernel
theorem dX5_takesColumn_31 : decode cX5_takesColumn 31 = .ok (.iconst 0, 1) := by decide +kernel
theorem dX5_takesColumn_32 : decode cX5_takesColumn 32 = .ok (.ireturn, 1) := by decide +kernel
theorem dX5_takesColumn_33 : decode cX5_takesColumn 33 = .ok (.iinc 3 1, 3) := by decide +kernel
theorem dX5_takesColumn_36 : decode cX5_takesColumn 36 = .ok (.goto (-25), 3) := by decide +kernel
theorem dX5_takesColumn_39 : decode cX5_takesColumn 39 = .ok (.aload_n 0, 1) := by decide +kernel
theorem dX5_takesColumn_40 : decode cX5_takesColumn 40 = .ok (.getfield 9, 3) := by decide +kernel
theorem dX5_takesColumn_43 : decode cX5_takesColumn 43 = .ok (.aload_n 0, 1) := by decide +kernel
theorem dX5_takesColumn_44 : decode cX5_takesColumn 44 = .ok (.getfield 24, 3) := by decide +kernel
theorem dX5_takesColumn_47 : decode cX5_takesColumn 47 = .ok (.iload_n 2, 1) := by decide +kernel
theorem dX5_takesColumn_48 : decode cX5_takesColumn 48 = .ok (.invokestatic 78, 3) := by decide +kernel
theorem dX5_takesColumn_51 : decode cX5_takesColumn 51 = .ok (.aload_n 0, 1) := by decide +kernel
theorem dX5_takesColumn_52 : decode cX5_takesColumn 52 = .ok (.dup, 1) := by decide +kernel
theorem dX5_takesColumn_53 : decode cX5_takesColumn 53 = .ok (.getfield 24, 3) := by decide +kernel
theorem dX5_takesColumn_56 : decode cX5_takesColumn 56 = .ok (.iconst 1, 1) := by decide +kernel
theorem dX5_takesColumn_57 : decode cX5_takesColumn 57 = .ok (.iadd, 1) := by decide +kernel
theorem dX5_takesColumn_58 : decode cX5_takesColumn 58 = .ok (.putfield 24, 3) := by decide +kernel
theorem dX5_takesColumn_61 : decode cX5_takesColumn 61 = .ok (.aload_n 0, 1) := by decide +kernel
theorem dX5_takesColumn_62 : decode cX5_takesColumn 62 = .ok (.iconst 2, 1) := by decide +kernel
theorem dX5_takesColumn_63 : decode cX5_takesColumn 63 = .ok (.putfield 31, 3) := by decide +kernel
theorem dX5_takesColumn_66 : decode cX5_takesColumn 66 = .ok (.iload_n 2, 1) := by decide +kernel
theorem dX5_takesColumn_67 : decode cX5_takesColumn 67 = .ok (.iconst (-1), 1) := by decide +kernel
theorem dX5_takesColumn_68 : decode cX5_takesColumn 68 = .ok (.if_icmp .eq 7, 3) := by decide +kernel
theorem dX5_takesColumn_71 : decode cX5_takesColumn 71 = .ok (.iconst 1, 1) := by decide +kernel
theorem dX5_takesColumn_72 : decode cX5_takesColumn 72 = .ok (.goto 4, 3) := by decide +kernel
theorem dX5_takesColumn_75 : decode cX5_takesColumn 75 = .ok (.iconst 0, 1) := by decide +kernel
theorem dX5_takesColumn_76 : decode cX5_takesColumn 76 = .ok (.ireturn, 1) := by decide +kernel
theorem dX5_takesAfterSleeper_0 : decode cX5_takesAfterSleeper 0 = .ok (.aload_n 0, 1) := by decide +kernel
theorem dX5_takesAfterSleeper_1 : decode cX5_takesAfterSleeper 1 = .ok (.iload_n 1, 1) := by decide +kernel
theorem dX5_takesAfterSleeper_2 : decode cX5_takesAfterSleeper 2 = .ok (.bipush 59, 2) := by decide +kernel
theorem dX5_takesAfterSleeper_4 : decode cX5_takesAfterSleeper 4 = .ok (.if_icmp .ne 7, 3) := by decide +kernel
theorem dX5_takesAfterSleeper_7 : decode cX5_takesAfterSleeper 7 = .ok (.iconst 3, 1) := by decide +kernel
theorem dX5_takesAfterSleeper_8 : decode cX5_takesAfterSleeper 8 = .ok (.goto 4, 3) := by decide +kernel
theorem dX5_takesAfterSleeper_11 : decode cX5_takesAfterSleeper 11 = .ok (.iconst 0, 1) := by decide +kernel
theorem dX5_takesAfterSleeper_12 : decode cX5_takesAfterSleeper 12 = .ok (.putfield 31, 3) := by decide +kernel
theorem dX5_takesAfterSleeper_15 : decode cX5_takesAfterSleeper 15 = .ok (.iload_n 1, 1) := by decide +kernel
theorem dX5_takesAfterSleeper_16 : decode cX5_takesAfterSleeper 16 = .ok (.bipush 59, 2) := by decide +kernel
theorem dX5_takesAfterSleeper_18 : decode cX5_takesAfterSleeper 18 = .ok (.if_icmp .eq 18, 3) := by decide +kernel
theorem dX5_takesAfterSleeper_21 : decode cX5_takesAfterSleeper 21 = .ok (.iload_n 1, 1) := by decide +kernel
theorem dX5_takesAfterSleeper_22 : decode cX5_takesAfterSleeper 22 = .ok (.bipush 44, 2) := by decide +kernel
theorem dX5_takesAfterSleeper_24 : decode cX5_takesAfterSleeper 24 = .ok (.if_icmp .ne 16, 3) := by decide +kernel
theorem dX5_takesAfterSleeper_27 : decode cX5_takesAfterSleeper 27 = .ok (.aload_n 0, 1) := by decide +kernel
theorem dX5_takesAfterSleeper_28 : decode cX5_takesAfterSleeper 28 = .ok (.getfield 24, 3) := by decide +kernel
theorem dX5_takesAfterSleeper_31 : decode cX5_takesAfterSleeper 31 = .ok (.bipush 6, 2) := by decide +kernel
theorem dX5_takesAfterSleeper_33 : decode cX5_takesAfterSleeper 33 = .ok (.if_icmp .ge 7, 3) := by decide +kernel
theorem dX5_takesAfterSleeper_36 : decode cX5_takesAfterSleeper 36 = .ok (.iconst 1, 1) := by decide +kernel
theorem dX5_takesAfterSleeper_37 : decode cX5_takesAfterSleeper 37 = .ok (.goto 4, 3) := by decide +kernel
theorem dX5_takesAfterSleeper_40 : decode cX5_takesAfterSleeper 40 = .ok (.iconst 0, 1) := by decide +kernel
theorem dX5_takesAfterSleeper_41 : decode cX5_takesAfterSleeper 41 = .ok (.ireturn, 1) := by decide +kernel
theorem dX5_takesKind_0 : decode cX5_takesKind 0 = .ok (.ldc 82, 2) := by decide +kernel
theorem dX5_takesKind_2 : decode cX5_takesKind 2 = .ok (.iload_n 1, 1) := by decide +kernel
theorem dX5_takesKind_3 : decode cX5_takesKind 3 = .ok (.i2c, 1) := by decide +kernel
theorem dX5_takesKind_4 : decode cX5_takesKind 4 = .ok (.invokevirtual 84, 3) := by decide +kernel
theorem dX5_takesKind_7 : decode cX5_takesKind 7 = .ok (.istore_n 2, 1) := by decide +kernel
theorem dX5_takesKind_8 : decode cX5_takesKind 8 = .ok (.aload_n 0, 1) := by decide +kernel
theorem dX5_takesKind_9 : decode cX5_takesKind 9 = .ok (.getfield 15, 3) := by decide +kernel
theorem dX5_takesKind_12 : decode cX5_takesKind 12 = .ok (.aload_n 0, 1) := by decide +kernel
theorem dX5_takesKind_13 : decode cX5_takesKind 13 = .ok (.getfield 28, 3) := by decide +kernel
theorem dX5_takesKind_16 : decode cX5_takesKind 16 = .ok (.iload_n 2, 1) := by decide +kernel
theorem dX5_takesKind_17 : decode cX5_takesKind 17 = .ok (.invokestatic 78, 3) := by decide +kernel
theorem dX5_takesKind_20 : decode cX5_takesKind 20 = .ok (.aload_n 0, 1) := by decide +kernel
theorem dX5_takesKind_21 : decode cX5_takesKind 21 = .ok (.iconst 4, 1) := by decide +kernel
theorem dX5_takesKind_22 : decode cX5_takesKind 22 = .ok (.putfield 31, 3) := by decide +kernel
theorem dX5_takesKind_25 : decode cX5_takesKind 25 = .ok (.iload_n 2, 1) := by decide +kernel
theorem dX5_takesKind_26 : decode cX5_takesKind 26 = .ok (.ifCond .lt 7, 3) := by decide +kernel
theorem dX5_takesKind_29 : decode cX5_takesKind 29 = .ok (.iconst 1, 1) := by decide +kernel
theorem dX5_takesKind_30 : decode cX5_takesKind 30 = .ok (.goto 4, 3) := by decide +kernel
theorem dX5_takesKind_33 : decode cX5_takesKind 33 = .ok (.iconst 0, 1) := by decide +kernel
theorem dX5_takesKind_34 : decode cX5_takesKind 34 = .ok (.ireturn, 1) := by decide +kernel
theorem dX5_takesSouth_0 : decode cX5_takesSouth 0 = .ok (.aload_n 0, 1) := by decide +kernel
theorem dX5_takesSouth_1 : decode cX5_takesSouth 1 = .ok (.getfield 18, 3) := by decide +kernel
theorem dX5_takesSouth_4 : decode cX5_takesSouth 4 = .ok (.aload_n 0, 1) := by decide +kernel
theorem dX5_takesSouth_5 : decode cX5_takesSouth 5 = .ok (.getfield 28, 3) := by decide +kernel
theorem dX5_takesSouth_8 : decode cX5_takesSouth 8 = .ok (.iload_n 1, 1) := by decide +kernel
theorem dX5_takesSouth_9 : decode cX5_takesSouth 9 = .ok (.invokestatic 78, 3) := by decide +kernel
theorem dX5_takesSouth_12 : decode cX5_takesSouth 12 = .ok (.aload_n 0, 1) := by decide +kernel
theorem dX5_takesSouth_13 : decode cX5_takesSouth 13 = .ok (.iconst 5, 1) := by decide +kernel
theorem dX5_takesSouth_14 : decode cX5_takesSouth 14 = .ok (.putfield 31, 3) := by decide +kernel
theorem dX5_takesSouth_17 : decode cX5_takesSouth 17 = .ok (.iload_n 1, 1) := by decide +kernel
theorem dX5_takesSouth_18 : decode cX5_takesSouth 18 = .ok (.invokestatic 90, 3) := by decide +kernel
theorem dX5_takesSouth_21 : decode cX5_takesSouth 21 = .ok (.ireturn, 1) := by decide +kernel
theorem dX5_takesEast_0 : decode cX5_takesEast 0 = .ok (.aload_n 0, 1) := by decide +kernel
theorem dX5_takesEast_1 : decode cX5_takesEast 1 = .ok (.getfield 21, 3) := by decide +kernel
theorem dX5_takesEast_4 : decode cX5_takesEast 4 = .ok (.aload_n 0, 1) := by decide +kernel
theorem dX5_takesEast_5 : decode cX5_takesEast 5 = .ok (.getfield 28, 3) := by decide +kernel
theorem dX5_takesEast_8 : decode cX5_takesEast 8 = .ok (.iload_n 1, 1) := by decide +kernel
theorem dX5_takesEast_9 : decode cX5_takesEast 9 = .ok (.invokestatic 78, 3) := by decide +kernel
theorem dX5_takesEast_12 : decode cX5_takesEast 12 = .ok (.aload_n 0, 1) := by decide +kernel
theorem dX5_takesEast_13 : decode cX5_takesEast 13 = .ok (.dup, 1) := by decide +kernel
theorem dX5_takesEast_14 : decode cX5_takesEast 14 = .ok (.getfield 28, 3) := by decide +kernel
theorem dX5_takesEast_17 : decode cX5_takesEast 17 = .ok (.iconst 1, 1) := by decide +kernel
theorem dX5_takesEast_18 : decode cX5_takesEast 18 = .ok (.iadd, 1) := by decide +kernel
theorem dX5_takesEast_19 : decode cX5_takesEast 19 = .ok (.putfield 28, 3) := by decide +kernel
theorem dX5_takesEast_22 : decode cX5_takesEast 22 = .ok (.aload_n 0, 1) := by decide +kernel
theorem dX5_takesEast_23 : decode cX5_takesEast 23 = .ok (.bipush 6, 2) := by decide +kernel
theorem dX5_takesEast_25 : decode cX5_takesEast 25 = .ok (.putfield 31, 3) := by decide +kernel
theorem dX5_takesEast_28 : decode cX5_takesEast 28 = .ok (.iload_n 1, 1) := by decide +kernel
theorem dX5_takesEast_29 : decode cX5_takesEast 29 = .ok (.invokestatic 90, 3) := by decide +kernel
theorem dX5_takesEast_32 : decode cX5_takesEast 32 = .ok (.ireturn, 1) := by decide +kernel
theorem dX5_takesAfterTosser_0 : decode cX5_takesAfterTosser 0 = .ok (.aload_n 0, 1) := by decide +kernel
theorem dX5_takesAfterTosser_1 : decode cX5_takesAfterTosser 1 = .ok (.iconst 3, 1) := by decide +kernel
theorem dX5_takesAfterTosser_2 : decode cX5_takesAfterTosser 2 = .ok (.putfield 31, 3) := by decide +kernel
theorem dX5_takesAfterTosser_5 : decode cX5_takesAfterTosser 5 = .ok (.iload_n 1, 1) := by decide +kernel
theorem dX5_takesAfterTosser_6 : decode cX5_takesAfterTosser 6 = .ok (.bipush 44, 2) := by decide +kernel
theorem dX5_takesAfterTosser_8 : decode cX5_takesAfterTosser 8 = .ok (.if_icmp .ne 15, 3) := by decide +kernel
theorem dX5_takesAfterTosser_11 : decode cX5_takesAfterTosser 11 = .ok (.aload_n 0, 1) := by decide +kernel
theorem dX5_takesAfterTosser_12 : decode cX5_takesAfterTosser 12 = .ok (.getfield 28, 3) := by decide +kernel
theorem dX5_takesAfterTosser_15 : decode cX5_takesAfterTosser 15 = .ok (.iconst 4, 1) := by decide +kernel
theorem dX5_takesAfterTosser_16 : decode cX5_takesAfterTosser 16 = .ok (.if_icmp .ge 7, 3) := by decide +kernel
theorem dX5_takesAfterTosser_19 : decode cX5_takesAfterTosser 19 = .ok (.iconst 1, 1) := by decide +kernel
theorem dX5_takesAfterTosser_20 : decode cX5_takesAfterTosser 20 = .ok (.goto 4, 3) := by decide +kernel
theorem dX5_takesAfterTosser_23 : decode cX5_takesAfterTosser 23 = .ok (.iconst 0, 1) := by decide +kernel
theorem dX5_takesAfterTosser_24 : decode cX5_takesAfterTosser 24 = .ok (.ireturn, 1) := by decide +kernel
theorem dX6_init_0 : decode cX6_init 0 = .ok (.aload_n 0, 1) := by decide +kernel
theorem dX6_init_1 : decode cX6_init 1 = .ok (.invokespecial 3, 3) := by decide +kernel
theorem dX6_init_4 : decode cX6_init 4 = .ok (.aload_n 0, 1) := by decide +kernel
theorem dX6_init_5 : decode cX6_init 5 = .ok (.bipush 6, 2) := by decide +kernel
theorem dX6_init_7 : decode cX6_init 7 = .ok (.newarray .int, 2) := by decide +kernel
theorem dX6_init_9 : decode cX6_init 9 = .ok (.putfield 9, 3) := by decide +kernel
theorem dX6_init_12 : decode cX6_init 12 = .ok (.aload_n 0, 1) := by decide +kernel
theorem dX6_init_13 : decode cX6_init 13 = .ok (.bipush 6, 2) := by decide +kernel
theorem dX6_init_15 : decode cX6_init 15 = .ok (.newarray .int, 2) := by decide +kernel
theorem dX6_init_17 : decode cX6_init 17 = .ok (.putfield 15, 3) := by decide +kernel
theorem dX6_init_20 : decode cX6_init 20 = .ok (.aload_n 0, 1) := by decide +kernel
theorem dX6_init_21 : decode cX6_init 21 = .ok (.bipush 6, 2) := by decide +kernel
theorem dX6_init_23 : decode cX6_init 23 = .ok (.newarray .int, 2) := by decide +kernel
theorem dX6_init_25 : decode cX6_init 25 = .ok (.putfield 18, 3) := by decide +kernel
theorem dX6_init_28 : decode cX6_init 28 = .ok (.return_, 1) := by decide +kernel
theorem dX6_add_0 : decode cX6_add 0 = .ok (.aload_n 0, 1) := by decide +kernel
theorem dX6_add_1 : decode cX6_add 1 = .ok (.getfield 9, 3) := by decide +kernel
theorem dX6_add_4 : decode cX6_add 4 = .ok (.aload_n 0, 1) := by decide +kernel
theorem dX6_add_5 : decode cX6_add 5 = .ok (.getfield 21, 3) := by decide +kernel
theorem dX6_add_8 : decode cX6_add 8 = .ok (.iload_n 1, 1) := by decide +kernel
theorem dX6_add_9 : decode cX6_add 9 = .ok (.invokestatic 25, 3) := by decide +kernel
theorem dX6_add_12 : decode cX6_add 12 = .ok (.aload_n 0, 1) := by decide +kernel
theorem dX6_add_13 : decode cX6_add 13 = .ok (.getfield 15, 3) := by decide +kernel
theorem dX6_add_16 : decode cX6_add 16 = .ok (.aload_n 0, 1) := by decide +kernel
theorem dX6_add_17 : decode cX6_add 17 = .ok (.getfield 21, 3) := by decide +kernel
theorem dX6_add_20 : decode cX6_add 20 = .ok (.iload_n 2, 1) := by decide +kernel
theorem dX6_add_21 : decode cX6_add 21 = .ok (.invokestatic 25, 3) := by decide +kernel
theorem dX6_add_24 : decode cX6_add 24 = .ok (.aload_n 0, 1) := by decide +kernel
theorem dX6_add_25 : decode cX6_add 25 = .ok (.getfield 18, 3) := by decide +kernel
theorem dX6_add_28 : decode cX6_add 28 = .ok (.aload_n 0, 1) := by decide +kernel
theorem dX6_add_29 : decode cX6_add 29 = .ok (.getfield 21, 3) := by decide +kernel
theorem dX6_add_32 : decode cX6_add 32 = .ok (.iload_n 3, 1) := by decide +kernel
theorem dX6_add_33 : decode cX6_add 33 = .ok (.invokestatic 25, 3) := by decide +kernel
theorem dX6_add_36 : decode cX6_add 36 = .ok (.aload_n 0, 1) := by decide +kernel
theorem dX6_add_37 : decode cX6_add 37 = .ok (.dup, 1) := by decide +kernel
theorem dX6_add_38 : decode cX6_add 38 = .ok (.getfield 21, 3) := by decide +kernel
theorem dX6_add_41 : decode cX6_add 41 = .ok (.iconst 1, 1) := by decide +kernel
theorem dX6_add_42 : decode cX6_add 42 = .ok (.iadd, 1) := by decide +kernel
theorem dX6_add_43 : decode cX6_add 43 = .ok (.putfield 21, 3) := by decide +kernel
theorem dX6_add_46 : decode cX6_add 46 = .ok (.return_, 1) := by decide +kernel
theorem dX6_turnsOf_0 : decode cX6_turnsOf 0 = .ok (.iconst 0, 1) := by decide +kernel
theorem dX6_turnsOf_1 : decode cX6_turnsOf 1 = .ok (.istore_n 2, 1) := by decide +kernel
theorem dX6_turnsOf_2 : decode cX6_turnsOf 2 = .ok (.iconst 0, 1) := by decide +kernel
theorem dX6_turnsOf_3 : decode cX6_turnsOf 3 = .ok (.istore_n 3, 1) := by decide +kernel
theorem dX6_turnsOf_4 : decode cX6_turnsOf 4 = .ok (.iload_n 3, 1) := by decide +kernel
theorem dX6_turnsOf_5 : decode cX6_turnsOf 5 = .ok (.iconst 5, 1) := by decide +kernel
theorem dX6_turnsOf_6 : decode cX6_turnsOf 6 = .ok (.if_icmp .ge 24, 3) := by decide +kernel
theorem dX6_turnsOf_9 : decode cX6_turnsOf 9 = .ok (.aload_n 0, 1) := by decide +kernel
theorem dX6_turnsOf_10 : decode cX6_turnsOf 10 = .ok (.iload_n 1, 1) := by decide +kernel
theorem dX6_turnsOf_11 : decode cX6_turnsOf 11 = .ok (.iload_n 3, 1) := by decide +kernel
theorem dX6_turnsOf_12 : decode cX6_turnsOf 12 = .ok (.invokevirtual 29, 3) := by decide +kernel
theorem dX6_turnsOf_15 : decode cX6_turnsOf 15 = .ok (.ifCond .eq 9, 3) := by decide +kernel
theorem dX6_turnsOf_18 : decode cX6_turnsOf 18 = .ok (.iload_n 2, 1) := by decide +kernel
theorem dX6_turnsOf_19 : decode cX6_turnsOf 19 = .ok (.iconst 1, 1) := by decide +kernel
theorem dX6_turnsOf_20 : decode cX6_turnsOf 20 = .ok (.iload_n 3, 1) := by decide +kernel
theorem dX6_turnsOf_21 : decode cX6_turnsOf 21 = .ok (.ishl, 1) := by decide +kernel
theorem dX6_turnsOf_22 : decode cX6_turnsOf 22 = .ok (.ior, 1) := by decide +kernel
theorem dX6_turnsOf_23 : decode cX6_turnsOf 23 = .ok (.istore_n 2, 1) := by decide +kernel
theorem dX6_turnsOf_24 : decode cX6_turnsOf 24 = .ok (.iinc 3 1, 3) := by decide +kernel
theorem dX6_turnsOf_27 : decode cX6_turnsOf 27 = .ok (.goto (-23), 3) := by decide +kernel
theorem dX6_turnsOf_30 : decode cX6_turnsOf 30 = .ok (.iload_n 2, 1) := by decide +kernel
theorem dX6_turnsOf_31 : decode cX6_turnsOf 31 = .ok (.ireturn, 1) := by decide +kernel
theorem dX6_allows_0 : decode cX6_allows 0 = .ok (.iconst 0, 1) := by decide +kernel
theorem dX6_allows_1 : decode cX6_allows 1 = .ok (.istore_n 3, 1) := by decide +kernel
theorem dX6_allows_2 : decode cX6_allows 2 = .ok (.iload_n 3, 1) := by decide +kernel
theorem dX6_allows_3 : decode cX6_allows 3 = .ok (.aload_n 0, 1) := by decide +kernel
theorem dX6_allows_4 : decode cX6_allows 4 = .ok (.getfield 21, 3) := by decide +kernel
theorem dX6_allows_7 : decode cX6_allows 7 = .ok (.if_icmp .ge 58, 3) := by decide +kernel
theorem dX6_allows_10 : decode cX6_allows 10 = .ok (.aload_n 0, 1) := by decide +kernel
theorem dX6_allows_11 : decode cX6_allows 11 = .ok (.getfield 9, 3) := by decide +kernel
theorem dX6_allows_14 : decode cX6_allows 14 = .ok (.iload_n 3, 1) := by decide +kernel
theorem dX6_allows_15 : decode cX6_allows 15 = .ok (.invokestatic 33, 3) := by decide +kernel
theorem dX6_allows_18 : decode cX6_allows 18 = .ok (.iload_n 1, 1) := by decide +kernel
theorem dX6_allows_19 : decode cX6_allows 19 = .ok (.if_icmp .ne 7, 3) := by decide +kernel
theorem dX6_allows_22 : decode cX6_allows 22 = .ok (.iconst 1, 1) := by decide +kernel
theorem dX6_allows_23 : decode cX6_allows 23 = .ok (.goto 4, 3) := by decide +kernel
theorem dX6_allows_26 : decode cX6_allows 26 = .ok (.iconst 0, 1) := by decide +kernel
theorem dX6_allows_27 : decode cX6_allows 27 = .ok (.istore 4, 2) := by decide +kernel
theorem dX6_allows_29 : decode cX6_allows 29 = .ok (.iload 4, 2) := by decide +kernel
theorem dX6_allows_31 : decode cX6_allows 31 = .ok (.ifCond .eq 28, 3) := by decide +kernel
theorem dX6_allows_34 : decode cX6_allows 34 = .ok (.aload_n 0, 1) := by decide +kernel
theorem dX6_allows_35 : decode cX6_allows 35 = .ok (.getfield 15, 3) := by decide +kernel
theorem dX6_allows_38 : decode cX6_allows 38 = .ok (.iload_n 3, 1) := by decide +kernel
theorem dX6_allows_39 : decode cX6_allows 39 = .ok (.invokestatic 33, 3) := by decide +kernel
theorem dX6_allows_42 : decode cX6_allows 42 = .ok (.iload_n 2, 1) := by decide +kernel
theorem dX6_allows_43 : decode cX6_allows 43 = .ok (.invokestatic 37, 3) := by decide +kernel
theorem dX6_allows_46 : decode cX6_allows 46 = .ok (.aload_n 0, 1) := by decide +kernel
theorem dX6_allows_47 : decode cX6_allows 47 = .ok (.getfield 18, 3) := by decide +kernel
theorem dX6_allows_50 : decode cX6_allows 50 = .ok (.iload_n 3, 1) := by decide +kernel
theorem dX6_allows_51 : decode cX6_allows 51 = .ok (.invokestatic 33, 3) := by decide +kernel
theorem dX6_allows_54 : decode cX6_allows 54 = .ok (.if_icmp .eq 5, 3) := by decide +kernel
theorem dX6_allows_57 : decode cX6_allows 57 = .ok (.iconst 0, 1) := by decide +kernel
theorem dX6_allows_58 : decode cX6_allows 58 = .ok (.ireturn, 1) := by decide +kernel
theorem dX6_allows_59 : decode cX6_allows 59 = .ok (.iinc 3 1, 3) := by decide +kernel
theorem dX6_allows_62 : decode cX6_allows 62 = .ok (.goto (-60), 3) := by decide +kernel
theorem dX6_allows_65 : decode cX6_allows 65 = .ok (.iconst 1, 1) := by decide +kernel
theorem dX6_allows_66 : decode cX6_allows 66 = .ok (.ireturn, 1) := by decide +kernel
theorem dX6_takeFrom_0 : decode cX6_takeFrom 0 = .ok (.aload_n 1, 1) := by decide +kernel
theorem dX6_takeFrom_1 : decode cX6_takeFrom 1 = .ok (.ifnonnull 4, 3) := by decide +kernel
theorem dX6_takeFrom_4 : decode cX6_takeFrom 4 = .ok (.return_, 1) := by decide +kernel
theorem dX6_takeFrom_5 : decode cX6_takeFrom 5 = .ok (.aload_n 1, 1) := by decide +kernel
theorem dX6_takeFrom_6 : decode cX6_takeFrom 6 = .ok (.getfield 9, 3) := by decide +kernel
theorem dX6_takeFrom_9 : decode cX6_takeFrom 9 = .ok (.aload_n 0, 1) := by decide +kernel
theorem dX6_takeFrom_10 : decode cX6_takeFrom 10 = .ok (.getfield 9, 3) := by decide +kernel
theorem dX6_takeFrom_13 : decode cX6_takeFrom 13 = .ok (.invokestatic 41, 3) := by decide +kernel
theorem dX6_takeFrom_16 : decode cX6_takeFrom 16 = .ok (.aload_n 1, 1) := by decide +kernel
theorem dX6_takeFrom_17 : decode cX6_takeFrom 17 = .ok (.getfield 15, 3) := by decide +kernel
theorem dX6_takeFrom_20 : decode cX6_takeFrom 20 = .ok (.aload_n 0, 1) := by decide +kernel
theorem dX6_takeFrom_21 : decode cX6_takeFrom 21 = .ok (.getfield 15, 3) := by decide +kernel
theorem dX6_takeFrom_24 : decode cX6_takeFrom 24 = .ok (.invokestatic 41, 3) := by decide +kernel
theorem dX6_takeFrom_27 : decode cX6_takeFrom 27 = .ok (.aload_n 1, 1) := by decide +kernel
theorem dX6_takeFrom_28 : decode cX6_takeFrom 28 = .ok (.getfield 18, 3) := by decide +kernel
theorem dX6_takeFrom_31 : decode cX6_takeFrom 31 = .ok (.aload_n 0, 1) := by decide +kernel
theorem dX6_takeFrom_32 : decode cX6_takeFrom 32 = .ok (.getfield 18, 3) := by decide +kernel
theorem dX6_takeFrom_35 : decode cX6_takeFrom 35 = .ok (.invokestatic 41, 3) := by decide +kernel
theorem dX6_takeFrom_38 : decode cX6_takeFrom 38 = .ok (.aload_n 0, 1) := by decide +kernel
theorem dX6_takeFrom_39 : decode cX6_takeFrom 39 = .ok (.aload_n 1, 1) := by decide +kernel
theorem dX6_takeFrom_40 : decode cX6_takeFrom 40 = .ok (.getfield 21, 3) := by decide +kernel
theorem dX6_takeFrom_43 : decode cX6_takeFrom 43 = .ok (.putfield 21, 3) := by decide +kernel
theorem dX6_takeFrom_46 : decode cX6_takeFrom 46 = .ok (.return_, 1) := by decide +kernel
theorem dX7_init_0 : decode cX7_init 0 = .ok (.aload_n 0, 1) := by decide +kernel
theorem dX7_init_1 : decode cX7_init 1 = .ok (.invokespecial 3, 3) := by decide +kernel
theorem dX7_init_4 : decode cX7_init 4 = .ok (.return_, 1) := by decide +kernel
theorem dX7_kind_0 : decode cX7_kind 0 = .ok (.iconst 3, 1) := by decide +kernel
theorem dX7_kind_1 : decode cX7_kind 1 = .ok (.ireturn, 1) := by decide +kernel
theorem dX7_batter_0 : decode cX7_batter 0 = .ok (.iconst 1, 1) := by decide +kernel
theorem dX7_batter_1 : decode cX7_batter 1 = .ok (.ireturn, 1) := by decide +kernel
theorem dX7_spreads_0 : decode cX7_spreads 0 = .ok (.iload_n 1, 1) := by decide +kernel
theorem dX7_spreads_1 : decode cX7_spreads 1 = .ok (.ifCond .ne 15, 3) := by decide +kernel
theorem dX7_spreads_4 : decode cX7_spreads 4 = .ok (.iload_n 2, 1) := by decide +kernel
theorem dX7_spreads_5 : decode cX7_spreads 5 = .ok (.invokestatic 9, 3) := by decide +kernel
theorem dX7_spreads_8 : decode cX7_spreads 8 = .ok (.iconst 1, 1) := by decide +kernel
theorem dX7_spreads_9 : decode cX7_spreads 9 = .ok (.if_icmp .gt 7, 3) := by decide +kernel
theorem dX7_spreads_12 : decode cX7_spreads 12 = .ok (.iconst 1, 1) := by decide +kernel
theorem dX7_spreads_13 : decode cX7_spreads 13 = .ok (.goto 4, 3) := by decide +kernel
theorem dX7_spreads_16 : decode cX7_spreads 16 = .ok (.iconst 0, 1) := by decide +kernel
theorem dX7_spreads_17 : decode cX7_spreads 17 = .ok (.ireturn, 1) := by decide +kernel
theorem dX8_init_0 : decode cX8_init 0 = .ok (.aload_n 0, 1) := by decide +kernel
theorem dX8_init_1 : decode cX8_init 1 = .ok (.invokespecial 3, 3) := by decide +kernel
theorem dX8_init_4 : decode cX8_init 4 = .ok (.return_, 1) := by decide +kernel
theorem dX8_kind_0 : decode cX8_kind 0 = .ok (.iconst 0, 1) := by decide +kernel
theorem dX8_kind_1 : decode cX8_kind 1 = .ok (.ireturn, 1) := by decide +kernel
theorem dX8_batter_0 : decode cX8_batter 0 = .ok (.iconst 3, 1) := by decide +kernel
theorem dX8_batter_1 : decode cX8_batter 1 = .ok (.ireturn, 1) := by decide +kernel
theorem dX8_spreads_0 : decode cX8_spreads 0 = .ok (.iload_n 1, 1) := by decide +kernel
theorem dX8_spreads_1 : decode cX8_spreads 1 = .ok (.invokestatic 9, 3) := by decide +kernel
theorem dX8_spreads_4 : decode cX8_spreads 4 = .ok (.iload_n 2, 1) := by decide +kernel
theorem dX8_spreads_5 : decode cX8_spreads 5 = .ok (.invokestatic 9, 3) := by decide +kernel
theorem dX8_spreads_8 : decode cX8_spreads 8 = .ok (.iadd, 1) := by decide +kernel
theorem dX8_spreads_9 : decode cX8_spreads 9 = .ok (.iconst 1, 1) := by decide +kernel
theorem dX8_spreads_10 : decode cX8_spreads 10 = .ok (.if_icmp .gt 7, 3) := by decide +kernel
theorem dX8_spreads_13 : decode cX8_spreads 13 = .ok (.iconst 1, 1) := by decide +kernel
theorem dX8_spreads_14 : decode cX8_spreads 14 = .ok (.goto 4, 3) := by decide +kernel
theorem dX8_spreads_17 : decode cX8_spreads 17 = .ok (.iconst 0, 1) := by decide +kernel
theorem dX8_spreads_18 : decode cX8_spreads 18 = .ok (.ireturn, 1) := by decide +kernel
theorem dX9_init_0 : decode cX9_init 0 = .ok (.aload_n 0, 1) := by decide +kernel
theorem dX9_init_1 : decode cX9_init 1 = .ok (.invokespecial 3, 3) := by decide +kernel
theorem dX9_init_4 : decode cX9_init 4 = .ok (.return_, 1) := by decide +kernel
theorem dX9_kind_0 : decode cX9_kind 0 = .ok (.iconst 2, 1) := by decide +kernel
theorem dX9_kind_1 : decode cX9_kind 1 = .ok (.ireturn, 1) := by decide +kernel
theorem dX9_batter_0 : decode cX9_batter 0 = .ok (.iconst 5, 1) := by decide +kernel
theorem dX9_batter_1 : decode cX9_batter 1 = .ok (.ireturn, 1) := by decide +kernel
theorem dX9_spreads_0 : decode cX9_spreads 0 = .ok (.iload_n 1, 1) := by decide +kernel
theorem dX9_spreads_1 : decode cX9_spreads 1 = .ok (.invokestatic 9, 3) := by decide +kernel
theorem dX9_spreads_4 : decode cX9_spreads 4 = .ok (.iconst 1, 1) := by decide +kernel
theorem dX9_spreads_5 : decode cX9_spreads 5 = .ok (.if_icmp .gt 15, 3) := by decide +kernel
theorem dX9_spreads_8 : decode cX9_spreads 8 = .ok (.iload_n 2, 1) := by decide +kernel
theorem dX9_spreads_9 : decode cX9_spreads 9 = .ok (.invokestatic 9, 3) := by decide +kernel
theorem dX9_spreads_12 : decode cX9_spreads 12 = .ok (.iconst 1, 1) := by decide +kernel
theorem dX9_spreads_13 : decode cX9_spreads 13 = .ok (.if_icmp .gt 7, 3) := by decide +kernel
theorem dX9_spreads_16 : decode cX9_spreads 16 = .ok (.iconst 1, 1) := by decide +kernel
theorem dX9_spreads_17 : decode cX9_spreads 17 = .ok (.goto 4, 3) := by decide +kernel
theorem dX9_spreads_20 : decode cX9_spreads 20 = .ok (.iconst 0, 1) := by decide +kernel
theorem dX9_spreads_21 : decode cX9_spreads 21 = .ok (.ireturn, 1) := by decide +kernel
theorem dX10_init_0 : decode cX10_init 0 = .ok (.aload_n 0, 1) := by decide +kernel
theorem dX10_init_1 : decode cX10_init 1 = .ok (.invokespecial 1, 3) := by decide +kernel
theorem dX10_init_4 : decode cX10_init 4 = .ok (.aload_n 0, 1) := by decide +kernel
theorem dX10_init_5 : decode cX10_init 5 = .ok (.new 7, 3) := by decide +kernel
theorem dX10_init_8 : decode cX10_init 8 = .ok (.dup, 1) := by decide +kernel
theorem dX10_init_9 : decode cX10_init 9 = .ok (.invokespecial 9, 3) := by decide +kernel
theorem dX10_init_12 : decode cX10_init 12 = .ok (.putfield 10, 3) := by decide +kernel
theorem dX10_init_15 : decode cX10_init 15 = .ok (.aload_n 0, 1) := by decide +kernel
theorem dX10_init_16 : decode cX10_init 16 = .ok (.new 16, 3) := by decide +kernel
theorem dX10_init_19 : decode cX10_init 19 = .ok (.dup, 1) := by decide +kernel
theorem dX10_init_20 : decode cX10_init 20 = .ok (.invokespecial 18, 3) := by decide +kernel
theorem dX10_init_23 : decode cX10_init 23 = .ok (.putfield 19, 3) := by decide +kernel
theorem dX10_init_26 : decode cX10_init 26 = .ok (.aload_n 0, 1) := by decide +kernel
theorem dX10_init_27 : decode cX10_init 27 = .ok (.iconst 4, 1) := by decide +kernel
theorem dX10_init_28 : decode cX10_init 28 = .ok (.anewarray 23, 3) := by decide +kernel
theorem dX10_init_31 : decode cX10_init 31 = .ok (.putfield 25, 3) := by decide +kernel
theorem dX10_init_34 : decode cX10_init 34 = .ok (.aload_n 0, 1) := by decide +kernel
theorem dX10_init_35 : decode cX10_init 35 = .ok (.new 29, 3) := by decide +kernel
theorem dX10_init_38 : decode cX10_init 38 = .ok (.dup, 1) := by decide +kernel
theorem dX10_init_39 : decode cX10_init 39 = .ok (.invokespecial 31, 3) := by decide +kernel
theorem dX10_init_42 : decode cX10_init 42 = .ok (.putfield 32, 3) := by decide +kernel
theorem dX10_init_45 : decode cX10_init 45 = .ok (.aload_n 0, 1) := by decide +kernel
theorem dX10_init_46 : decode cX10_init 46 = .ok (.new 29, 3) := by decide +kernel
theorem dX10_init_49 : decode cX10_init 49 = .ok (.dup, 1) := by decide +kernel
theorem dX10_init_50 : decode cX10_init 50 = .ok (.invokespecial 31, 3) := by decide +kernel
theorem dX10_init_53 : decode cX10_init 53 = .ok (.putfield 36, 3) := by decide +kernel
theorem dX10_init_56 : decode cX10_init 56 = .ok (.aload_n 0, 1) := by decide +kernel
theorem dX10_init_57 : decode cX10_init 57 = .ok (.new 39, 3) := by decide +kernel
theorem dX10_init_60 : decode cX10_init 60 = .ok (.dup, 1) := by decide +kernel
theorem dX10_init_61 : decode cX10_init 61 = .ok (.invokespecial 41, 3) := by decide +kernel
theorem dX10_init_64 : decode cX10_init 64 = .ok (.putfield 42, 3) := by decide +kernel
theorem dX10_init_67 : decode cX10_init 67 = .ok (.aload_n 0, 1) := by decide +kernel
theorem dX10_init_68 : decode cX10_init 68 = .ok (.bipush 36, 2) := by decide +kernel
theorem dX10_init_70 : decode cX10_init 70 = .ok (.newarray .int, 2) := by decide +kernel
theorem dX10_init_72 : decode cX10_init 72 = .ok (.putfield 46, 3) := by decide +kernel
theorem dX10_init_75 : decode cX10_init 75 = .ok (.return_, 1) := by decide +kernel
theorem dX10_letter_0 : decode cX10_letter 0 = .ok (.iload_n 1, 1) := by decide +kernel
theorem dX10_letter_1 : decode cX10_letter 1 = .ok (.iconst 1, 1) := by decide +kernel
theorem dX10_letter_2 : decode cX10_letter 2 = .ok (.if_icmp .lt 9, 3) := by decide +kernel
theorem dX10_letter_5 : decode cX10_letter 5 = .ok (.iload_n 1, 1) := by decide +kernel
theorem dX10_letter_6 : decode cX10_letter 6 = .ok (.bipush 126, 2) := by decide +kernel
theorem dX10_letter_8 : decode cX10_letter 8 = .ok (.if_icmp .le 6, 3) := by decide +kernel
theorem dX10_letter_11 : decode cX10_letter 11 = .ok (.bipush (-102), 2) := by decide +kernel
theorem dX10_letter_13 : decode cX10_letter 13 = .ok (.ireturn, 1) := by decide +kernel
theorem dX10_letter_14 : decode cX10_letter 14 = .ok (.aload_n 0, 1) := by decide +kernel
theorem dX10_letter_15 : decode cX10_letter 15 = .ok (.getfield 10, 3) := by decide +kernel
theorem dX10_letter_18 : decode cX10_letter 18 = .ok (.getfield 50, 3) := by decide +kernel
theorem dX10_letter_21 : decode cX10_letter 21 = .ok (.bipush 36, 2) := by decide +kernel
theorem dX10_letter_23 : decode cX10_letter 23 = .ok (.if_icmp .lt 6, 3) := by decide +kernel
theorem dX10_letter_26 : decode cX10_letter 26 = .ok (.bipush (-104), 2) := by decide +kernel
theorem dX10_letter_28 : decode cX10_letter 28 = .ok (.ireturn, 1) := by decide +kernel
theorem dX10_letter_29 : decode cX10_letter 29 = .ok (.aload_n 0, 1) := by decide +kernel
theorem dX10_letter_30 : decode cX10_letter 30 = .ok (.getfield 10, 3) := by decide +kernel
theorem dX10_letter_33 : decode cX10_letter 33 = .ok (.iload_n 1, 1) := by decide +kernel
theorem dX10_letter_34 : decode cX10_letter 34 = .ok (.invokevirtual 54, 3) := by decide +kernel
theorem dX10_letter_37 : decode cX10_letter 37 = .ok (.aload_n 0, 1) := by decide +kernel
theorem dX10_letter_38 : decode cX10_letter 38 = .ok (.getfield 10, 3) := by decide +kernel
theorem dX10_letter_41 : decode cX10_letter 41 = .ok (.getfield 50, 3) := by decide +kernel
theorem dX10_letter_44 : decode cX10_letter 44 = .ok (.ireturn, 1) := by decide +kernel
theorem dX10_blank_0 : decode cX10_blank 0 = .ok (.aload_n 0, 1) := by decide +kernel
theorem dX10_blank_1 : decode cX10_blank 1 = .ok (.getfield 10, 3) := by decide +kernel
theorem dX10_blank_4 : decode cX10_blank 4 = .ok (.getfield 50, 3) := by decide +kernel
theorem dX10_blank_7 : decode cX10_blank 7 = .ok (.istore_n 1, 1) := by decide +kernel
theorem dX10_blank_8 : decode cX10_blank 8 = .ok (.aload_n 0, 1) := by decide +kernel
theorem dX10_blank_9 : decode cX10_blank 9 = .ok (.getfield 10, 3) := by decide +kernel
theorem dX10_blank_12 : decode cX10_blank 12 = .ok (.iconst 0, 1) := by decide +kernel
theorem dX10_blank_13 : decode cX10_blank 13 = .ok (.putfield 50, 3) := by decide +kernel
theorem dX10_blank_16 : decode cX10_blank 16 = .ok (.iload_n 1, 1) := by decide +kernel
theorem dX10_blank_17 : decode cX10_blank 17 = .ok (.ireturn, 1) := by decide +kernel
theorem dX10_fault_0 : decode cX10_fault 0 = .ok (.aload_n 0, 1) := by decide +kernel
theorem dX10_fault_1 : decode cX10_fault 1 = .ok (.getfield 19, 3) := by decide +kernel
theorem dX10_fault_4 : decode cX10_fault 4 = .ok (.aload_n 0, 1) := by decide +kernel
theorem dX10_fault_5 : decode cX10_fault 5 = .ok (.getfield 10, 3) := by decide +kernel
theorem dX10_fault_8 : decode cX10_fault 8 = .ok (.invokevirtual 58, 3) := by decide +kernel
theorem dX10_fault_11 : decode cX10_fault 11 = .ok (.ireturn, 1) := by decide +kernel
theorem dX10_port_0 : decode cX10_port 0 = .ok (.aload_n 0, 1) := by decide +kernel
theorem dX10_port_1 : decode cX10_port 1 = .ok (.getfield 19, 3) := by decide +kernel
theorem dX10_port_4 : decode cX10_port 4 = .ok (.aload_n 0, 1) := by decide +kernel
theorem dX10_port_5 : decode cX10_port 5 = .ok (.getfield 10, 3) := by decide +kernel
theorem dX10_port_8 : decode cX10_port 8 = .ok (.invokevirtual 58, 3) := by decide +kernel
theorem dX10_port_11 : decode cX10_port 11 = .ok (.aload_n 0, 1) := by decide +kernel
theorem dX10_port_12 : decode cX10_port 12 = .ok (.getfield 10, 3) := by decide +kernel
theorem dX10_port_15 : decode cX10_port 15 = .ok (.getfield 50, 3) := by decide +kernel
theorem dX10_port_18 : decode cX10_port 18 = .ok (.if_icmp .lt 13, 3) := by decide +kernel
theorem dX10_port_21 : decode cX10_port 21 = .ok (.aload_n 0, 1) := by decide +kernel
theorem dX10_port_22 : decode cX10_port 22 = .ok (.getfield 19, 3) := by decide +kernel
theorem dX10_port_25 : decode cX10_port 25 = .ok (.invokevirtual 62, 3) := by decide +kernel
theorem dX10_port_28 : decode cX10_port 28 = .ok (.ifCond .ne 6, 3) := by decide +kernel
theorem dX10_port_31 : decode cX10_port 31 = .ok (.bipush (-103), 2) := by decide +kernel
theorem dX10_port_33 : decode cX10_port 33 = .ok (.ireturn, 1) := by decide +kernel
theorem dX10_port_34 : decode cX10_port 34 = .ok (.aload_n 0, 1) := by decide +kernel
theorem dX10_port_35 : decode cX10_port 35 = .ok (.invokevirtual 66, 3) := by decide +kernel
theorem dX10_port_38 : decode cX10_port 38 = .ok (.aload_n 0, 1) := by decide +kernel
theorem dX10_port_39 : decode cX10_port 39 = .ok (.getfield 10, 3) := by decide +kernel
theorem dX10_port_42 : decode cX10_port 42 = .ok (.iconst 0, 1) := by decide +kernel
theorem dX10_port_43 : decode cX10_port 43 = .ok (.putfield 50, 3) := by decide +kernel
theorem dX10_port_46 : decode cX10_port 46 = .ok (.aload_n 0, 1) := by decide +kernel
theorem dX10_port_47 : decode cX10_port 47 = .ok (.dup, 1) := by decide +kernel
theorem dX10_port_48 : decode cX10_port 48 = .ok (.getfield 69, 3) := by decide +kernel
theorem dX10_port_51 : decode cX10_port 51 = .ok (.iconst 1, 1) := by decide +kernel
theorem dX10_port_52 : decode cX10_port 52 = .ok (.iadd, 1) := by decide +kernel
theorem dX10_port_53 : decode cX10_port 53 = .ok (.putfield 69, 3) := by decide +kernel
theorem dX10_port_56 : decode cX10_port 56 = .ok (.aload_n 0, 1) := by decide +kernel
theorem dX10_port_57 : decode cX10_port 57 = .ok (.getfield 72, 3) := by decide +kernel
theorem dX10_port_60 : decode cX10_port 60 = .ok (.ireturn, 1) := by decide +kernel
theorem dX10_sleeper_0 : decode cX10_sleeper 0 = .ok (.aload_n 0, 1) := by decide +kernel
theorem dX10_sleeper_1 : decode cX10_sleeper 1 = .ok (.iload_n 1, 1) := by decide +kernel
theorem dX10_sleeper_2 : decode cX10_sleeper 2 = .ok (.invokevirtual 75, 3) := by decide +kernel
theorem dX10_sleeper_5 : decode cX10_sleeper 5 = .ok (.ifCond .ne 6, 3) := by decide +kernel
theorem dX10_sleeper_8 : decode cX10_sleeper 8 = .ok (.bipush (-101), 2) := by decide +kernel
theorem dX10_sleeper_10 : decode cX10_sleeper 10 = .ok (.ireturn, 1) := by decide +kernel
theorem dX10_sleeper_11 : decode cX10_sleeper 11 = .ok (.iload_n 2, 1) := by decide +kernel
theorem dX10_sleeper_12 : decode cX10_sleeper 12 = .ok (.tableswitch 90 0 4 #[36, 48, 60, 72, 84], 36) := by decide +kernel
theorem dX10_sleeper_48 : decode cX10_sleeper 48 = .ok (.aload_n 0, 1) := by decide +kernel
theorem dX10_sleeper_49 : decode cX10_sleeper 49 = .ok (.getfield 32, 3) := by decide +kernel
theorem dX10_sleeper_52 : decode cX10_sleeper 52 = .ok (.getfield 79, 3) := by decide +kernel
theorem dX10_sleeper_55 : decode cX10_sleeper 55 = .ok (.iload_n 1, 1) := by decide +kernel
theorem dX10_sleeper_56 : decode cX10_sleeper 56 = .ok (.invokestatic 82, 3) := by decide +kernel
theorem dX10_sleeper_59 : decode cX10_sleeper 59 = .ok (.ireturn, 1) := by decide +kernel
theorem dX10_sleeper_60 : decode cX10_sleeper 60 = .ok (.aload_n 0, 1) := by decide +kernel
theorem dX10_sleeper_61 : decode cX10_sleeper 61 = .ok (.getfield 32, 3) := by decide +kernel
theorem dX10_sleeper_64 : decode cX10_sleeper 64 = .ok (.getfield 86, 3) := by decide +kernel
theorem dX10_sleeper_67 : decode cX10_sleeper 67 = .ok (.iload_n 1, 1) := by decide +kernel
theorem dX10_sleeper_68 : decode cX10_sleeper 68 = .ok (.ishr, 1) := by decide +kernel
theorem dX10_sleeper_69 : decode cX10_sleeper 69 = .ok (.iconst 1, 1) := by decide +kernel
theorem dX10_sleeper_70 : decode cX10_sleeper 70 = .ok (.iand, 1) := by decide +kernel
theorem dX10_sleeper_71 : decode cX10_sleeper 71 = .ok (.ireturn, 1) := by decide +kernel
theorem dX10_sleeper_72 : decode cX10_sleeper 72 = .ok (.aload_n 0, 1) := by decide +kernel
theorem dX10_sleeper_73 : decode cX10_sleeper 73 = .ok (.getfield 32, 3) := by decide +kernel
theorem dX10_sleeper_76 : decode cX10_sleeper 76 = .ok (.getfield 89, 3) := by decide +kernel
theorem dX10_sleeper_79 : decode cX10_sleeper 79 = .ok (.iload_n 1, 1) := by decide +kernel
theorem dX10_sleeper_80 : decode cX10_sleeper 80 = .ok (.invokestatic 82, 3) := by decide +kernel
theorem dX10_sleeper_83 : decode cX10_sleeper 83 = .ok (.ireturn, 1) := by decide +kernel
theorem dX10_sleeper_84 : decode cX10_sleeper 84 = .ok (.aload_n 0, 1) := by decide +kernel
theorem dX10_sleeper_85 : decode cX10_sleeper 85 = .ok (.getfield 32, 3) := by decide +kernel
theorem dX10_sleeper_88 : decode cX10_sleeper 88 = .ok (.getfield 92, 3) := by decide +kernel
theorem dX10_sleeper_91 : decode cX10_sleeper 91 = .ok (.iload_n 1, 1) := by decide +kernel
theorem dX10_sleeper_92 : decode cX10_sleeper 92 = .ok (.invokestatic 82, 3) := by decide +kernel
theorem dX10_sleeper_95 : decode cX10_sleeper 95 = .ok (.ireturn, 1) := by decide +kernel
theorem dX10_sleeper_96 : decode cX10_sleeper 96 = .ok (.aload_n 0, 1) := by decide +kernel
theorem dX10_sleeper_97 : decode cX10_sleeper 97 = .ok (.iload_n 1, 1) := by decide +kernel
theorem dX10_sleeper_98 : decode cX10_sleeper 98 = .ok (.invokevirtual 95, 3) := by decide +kernel
theorem dX10_sleeper_101 : decode cX10_sleeper 101 = .ok (.ireturn, 1) := by decide +kernel
theorem dX10_sleeper_102 : decode cX10_sleeper 102 = .ok (.bipush (-102), 2) := by decide +kernel
theorem dX10_sleeper_104 : decode cX10_sleeper 104 = .ok (.ireturn, 1) := by decide +kernel
theorem dX10_tosser_0 : decode cX10_tosser 0 = .ok (.aload_n 0, 1) := by decide +kernel
theorem dX10_tosser_1 : decode cX10_tosser 1 = .ok (.iload_n 1, 1) := by decide +kernel
theorem dX10_tosser_2 : decode cX10_tosser 2 = .ok (.invokevirtual 99, 3) := by decide +kernel
theorem dX10_tosser_5 : decode cX10_tosser 5 = .ok (.astore_n 3, 1) := by decide +kernel
theorem dX10_tosser_6 : decode cX10_tosser 6 = .ok (.aload_n 3, 1) := by decide +kernel
theorem dX10_tosser_7 : decode cX10_tosser 7 = .ok (.ifnonnull 6, 3) := by decide +kernel
theorem dX10_tosser_10 : decode cX10_tosser 10 = .ok (.bipush (-101), 2) := by decide +kernel
theorem dX10_tosser_12 : decode cX10_tosser 12 = .ok (.ireturn, 1) := by decide +kernel
theorem dX10_tosser_13 : decode cX10_tosser 13 = .ok (.iload_n 2, 1) := by decide +kernel
theorem dX10_tosser_14 : decode cX10_tosser 14 = .ok (.tableswitch 140 0 8 #[50, 55, 67, 79, 84, 90, 101, 113, 128], 50) := by decide +kernel
theorem dX10_tosser_64 : decode cX10_tosser 64 = .ok (.aload_n 3, 1) := by decide +kernel
theorem dX10_tosser_65 : decode cX10_tosser 65 = .ok (.invokevirtual 103, 3) := by decide +kernel
theorem dX10_tosser_68 : decode cX10_tosser 68 = .ok (.ireturn, 1) := by decide +kernel
theorem dX10_tosser_69 : decode cX10_tosser 69 = .ok (.aload_n 0, 1) := by decide +kernel
theorem dX10_tosser_70 : decode cX10_tosser 70 = .ok (.getfield 32, 3) := by decide +kernel
theorem dX10_tosser_73 : decode cX10_tosser 73 = .ok (.getfield 107, 3) := by decide +kernel
theorem dX10_tosser_76 : decode cX10_tosser 76 = .ok (.iload_n 1, 1) := by decide +kernel
theorem dX10_tosser_77 : decode cX10_tosser 77 = .ok (.invokestatic 82, 3) := by decide +kernel
theorem dX10_tosser_80 : decode cX10_tosser 80 = .ok (.ireturn, 1) := by decide +kernel
theorem dX10_tosser_81 : decode cX10_tosser 81 = .ok (.aload_n 0, 1) := by decide +kernel
theorem dX10_tosser_82 : decode cX10_tosser 82 = .ok (.getfield 32, 3) := by decide +kernel
theorem dX10_tosser_85 : decode cX10_tosser 85 = .ok (.getfield 110, 3) := by decide +kernel
theorem dX10_tosser_88 : decode cX10_tosser 88 = .ok (.iload_n 1, 1) := by decide +kernel
theorem dX10_tosser_89 : decode cX10_tosser 89 = .ok (.invokestatic 82, 3) := by decide +kernel
theorem dX10_tosser_92 : decode cX10_tosser 92 = .ok (.ireturn, 1) := by decide +kernel
theorem dX10_tosser_93 : decode cX10_tosser 93 = .ok (.aload_n 3, 1) := by decide +kernel
theorem dX10_tosser_94 : decode cX10_tosser 94 = .ok (.invokevirtual 113, 3) := by decide +kernel
theorem dX10_tosser_97 : decode cX10_tosser 97 = .ok (.ireturn, 1) := by decide +kernel
theorem dX10_tosser_98 : decode cX10_tosser 98 = .ok (.aload_n 0, 1) := by decide +kernel
theorem dX10_tosser_99 : decode cX10_tosser 99 = .ok (.iload_n 1, 1) := by decide +kernel
theorem dX10_tosser_100 : decode cX10_tosser 100 = .ok (.invokevirtual 116, 3) := by decide +kernel
theorem dX10_tosser_103 : decode cX10_tosser 103 = .ok (.ireturn, 1) := by decide +kernel
theorem dX10_tosser_104 : decode cX10_tosser 104 = .ok (.aload_n 0, 1) := by decide +kernel
theorem dX10_tosser_105 : decode cX10_tosser 105 = .ok (.iload_n 1, 1) := by decide +kernel
theorem dX10_tosser_106 : decode cX10_tosser 106 = .ok (.aload_n 0, 1) := by decide +kernel
theorem dX10_tosser_107 : decode cX10_tosser 107 = .ok (.iload_n 1, 1) := by decide +kernel
theorem dX10_tosser_108 : decode cX10_tosser 108 = .ok (.invokevirtual 116, 3) := by decide +kernel
theorem dX10_tosser_111 : decode cX10_tosser 111 = .ok (.invokevirtual 119, 3) := by decide +kernel
theorem dX10_tosser_114 : decode cX10_tosser 114 = .ok (.ireturn, 1) := by decide +kernel
theorem dX10_tosser_115 : decode cX10_tosser 115 = .ok (.aload_n 0, 1) := by decide +kernel
theorem dX10_tosser_116 : decode cX10_tosser 116 = .ok (.getfield 32, 3) := by decide +kernel
theorem dX10_tosser_119 : decode cX10_tosser 119 = .ok (.getfield 123, 3) := by decide +kernel
theorem dX10_tosser_122 : decode cX10_tosser 122 = .ok (.iload_n 1, 1) := by decide +kernel
theorem dX10_tosser_123 : decode cX10_tosser 123 = .ok (.invokevirtual 127, 3) := by decide +kernel
theorem dX10_tosser_126 : decode cX10_tosser 126 = .ok (.ireturn, 1) := by decide +kernel
theorem dX10_tosser_127 : decode cX10_tosser 127 = .ok (.aload_n 0, 1) := by decide +kernel
theorem dX10_tosser_128 : decode cX10_tosser 128 = .ok (.getfield 32, 3) := by decide +kernel
theorem dX10_tosser_131 : decode cX10_tosser 131 = .ok (.getfield 123, 3) := by decide +kernel
theorem dX10_tosser_134 : decode cX10_tosser 134 = .ok (.iload_n 1, 1) := by decide +kernel
theorem dX10_tosser_135 : decode cX10_tosser 135 = .ok (.invokevirtual 127, 3) := by decide +kernel
theorem dX10_tosser_138 : decode cX10_tosser 138 = .ok (.invokestatic 132, 3) := by decide +kernel
theorem dX10_tosser_141 : decode cX10_tosser 141 = .ok (.ireturn, 1) := by decide +kernel
theorem dX10_tosser_142 : decode cX10_tosser 142 = .ok (.aload_n 0, 1) := by decide +kernel
theorem dX10_tosser_143 : decode cX10_tosser 143 = .ok (.getfield 32, 3) := by decide +kernel
theorem dX10_tosser_146 : decode cX10_tosser 146 = .ok (.getfield 135, 3) := by decide +kernel
theorem dX10_tosser_149 : decode cX10_tosser 149 = .ok (.iload_n 1, 1) := by decide +kernel
theorem dX10_tosser_150 : decode cX10_tosser 150 = .ok (.invokestatic 82, 3) := by decide +kernel
theorem dX10_tosser_153 : decode cX10_tosser 153 = .ok (.ireturn, 1) := by decide +kernel
theorem dX10_tosser_154 : decode cX10_tosser 154 = .ok (.bipush (-102), 2) := by decide +kernel
theorem dX10_tosser_156 : decode cX10_tosser 156 = .ok (.ireturn, 1) := by decide +kernel
theorem dX10_as_0 : decode cX10_as 0 = .ok (.aload_n 0, 1) := by decide +kernel
theorem dX10_as_1 : decode cX10_as 1 = .ok (.iload_n 1, 1) := by decide +kernel
theorem dX10_as_2 : decode cX10_as 2 = .ok (.invokevirtual 99, 3) := by decide +kernel
theorem dX10_as_5 : decode cX10_as 5 = .ok (.astore_n 3, 1) := by decide +kernel
theorem dX10_as_6 : decode cX10_as 6 = .ok (.aload_n 3, 1) := by decide +kernel
theorem dX10_as_7 : decode cX10_as 7 = .ok (.ifnonnull 6, 3) := by decide +kernel
theorem dX10_as_10 : decode cX10_as 10 = .ok (.bipush (-101), 2) := by decide +kernel
theorem dX10_as_12 : decode cX10_as 12 = .ok (.ireturn, 1) := by decide +kernel
theorem dX10_as_13 : decode cX10_as 13 = .ok (.iload_n 2, 1) := by decide +kernel
theorem dX10_as_14 : decode cX10_as 14 = .ok (.ifCond .lt 8, 3) := by decide +kernel
theorem dX10_as_17 : decode cX10_as 17 = .ok (.iload_n 2, 1) := by decide +kernel
theorem dX10_as_18 : decode cX10_as 18 = .ok (.iconst 4, 1) := by decide +kernel
theorem dX10_as_19 : decode cX10_as 19 = .ok (.if_icmp .le 6, 3) := by decide +kernel
theorem dX10_as_22 : decode cX10_as 22 = .ok (.bipush (-102), 2) := by decide +kernel
theorem dX10_as_24 : decode cX10_as 24 = .ok (.ireturn, 1) := by decide +kernel
theorem dX10_as_25 : decode cX10_as 25 = .ok (.aload_n 3, 1) := by decide +kernel
theorem dX10_as_26 : decode cX10_as 26 = .ok (.iload_n 2, 1) := by decide +kernel
theorem dX10_as_27 : decode cX10_as 27 = .ok (.invokestatic 138, 3) := by decide +kernel
theorem dX10_as_30 : decode cX10_as 30 = .ok (.ifCond .eq 7, 3) := by decide +kernel
theorem dX10_as_33 : decode cX10_as 33 = .ok (.iload_n 1, 1) := by decide +kernel
theorem dX10_as_34 : decode cX10_as 34 = .ok (.goto 4, 3) := by decide +kernel
theorem dX10_as_37 : decode cX10_as 37 = .ok (.iconst (-1), 1) := by decide +kernel
theorem dX10_as_38 : decode cX10_as 38 = .ok (.ireturn, 1) := by decide +kernel
theorem dX10_lands_0 : decode cX10_lands 0 = .ok (.aload_n 0, 1) := by decide +kernel
theorem dX10_lands_1 : decode cX10_lands 1 = .ok (.iload_n 1, 1) := by decide +kernel
theorem dX10_lands_2 : decode cX10_lands 2 = .ok (.iload_n 2, 1) := by decide +kernel
theorem dX10_lands_3 : decode cX10_lands 3 = .ok (.invokevirtual 142, 3) := by decide +kernel
theorem dX10_lands_6 : decode cX10_lands 6 = .ok (.ifCond .ne 6, 3) := by decide +kernel
theorem dX10_lands_9 : decode cX10_lands 9 = .ok (.bipush (-101), 2) := by decide +kernel
theorem dX10_lands_11 : decode cX10_lands 11 = .ok (.ireturn, 1) := by decide +kernel
theorem dX10_lands_12 : decode cX10_lands 12 = .ok (.aload_n 0, 1) := by decide +kernel
theorem dX10_lands_13 : decode cX10_lands 13 = .ok (.iload_n 1, 1) := by decide +kernel
theorem dX10_lands_14 : decode cX10_lands 14 = .ok (.iload_n 2, 1) := by decide +kernel
theorem dX10_lands_15 : decode cX10_lands 15 = .ok (.aload_n 0, 1) := by decide +kernel
theorem dX10_lands_16 : decode cX10_lands 16 = .ok (.getfield 32, 3) := by decide +kernel
theorem dX10_lands_19 : decode cX10_lands 19 = .ok (.getfield 146, 3) := by decide +kernel
theorem dX10_lands_22 : decode cX10_lands 22 = .ok (.invokevirtual 149, 3) := by decide +kernel
theorem dX10_lands_25 : decode cX10_lands 25 = .ok (.ireturn, 1) := by decide +kernel
theorem dX10_covers_0 : decode cX10_covers 0 = .ok (.aload_n 0, 1) := by decide +kernel
theorem dX10_covers_1 : decode cX10_covers 1 = .ok (.iload_n 1, 1) := by decide +kernel
theorem dX10_covers_2 : decode cX10_covers 2 = .ok (.iload_n 2, 1) := by decide +kernel
theorem dX10_covers_3 : decode cX10_covers 3 = .ok (.invokevirtual 142, 3) := by decide +kernel
theorem dX10_covers_6 : decode cX10_covers 6 = .ok (.ifCond .ne 6, 3) := by decide +kernel
theorem dX10_covers_9 : decode cX10_covers 9 = .ok (.bipush (-101), 2) := by decide +kernel
theorem dX10_covers_11 : decode cX10_covers 11 = .ok (.ireturn, 1) := by decide +kernel
theorem dX10_covers_12 : decode cX10_covers 12 = .ok (.aload_n 0, 1) := by decide +kernel
theorem dX10_covers_13 : decode cX10_covers 13 = .ok (.iload_n 1, 1) := by decide +kernel
theorem dX10_covers_14 : decode cX10_covers 14 = .ok (.iload_n 2, 1) := by decide +kernel
theorem dX10_covers_15 : decode cX10_covers 15 = .ok (.aload_n 0, 1) := by decide +kernel
theorem dX10_covers_16 : decode cX10_covers 16 = .ok (.getfield 32, 3) := by decide +kernel
theorem dX10_covers_19 : decode cX10_covers 19 = .ok (.getfield 146, 3) := by decide +kernel
theorem dX10_covers_22 : decode cX10_covers 22 = .ok (.invokevirtual 153, 3) := by decide +kernel
theorem dX10_covers_25 : decode cX10_covers 25 = .ok (.ireturn, 1) := by decide +kernel
theorem dX10_toss_0 : decode cX10_toss 0 = .ok (.aload_n 0, 1) := by decide +kernel
theorem dX10_toss_1 : decode cX10_toss 1 = .ok (.iload_n 1, 1) := by decide +kernel
theorem dX10_toss_2 : decode cX10_toss 2 = .ok (.invokevirtual 99, 3) := by decide +kernel
theorem dX10_toss_5 : decode cX10_toss 5 = .ok (.astore_n 3, 1) := by decide +kernel
theorem dX10_toss_6 : decode cX10_toss 6 = .ok (.aload_n 3, 1) := by decide +kernel
theorem dX10_toss_7 : decode cX10_toss 7 = .ok (.ifnull 11, 3) := by decide +kernel
theorem dX10_toss_10 : decode cX10_toss 10 = .ok (.aload_n 0, 1) := by decide +kernel
theorem dX10_toss_11 : decode cX10_toss 11 = .ok (.iload_n 2, 1) := by decide +kernel
theorem dX10_toss_12 : decode cX10_toss 12 = .ok (.invokevirtual 156, 3) := by decide +kernel
theorem dX10_toss_15 : decode cX10_toss 15 = .ok (.ifCond .ne 6, 3) := by decide +kernel
theorem dX10_toss_18 : decode cX10_toss 18 = .ok (.bipush (-101), 2) := by decide +kernel
theorem dX10_toss_20 : decode cX10_toss 20 = .ok (.ireturn, 1) := by decide +kernel
theorem dX10_toss_21 : decode cX10_toss 21 = .ok (.aload_n 0, 1) := by decide +kernel
theorem dX10_toss_22 : decode cX10_toss 22 = .ok (.getfield 32, 3) := by decide +kernel
theorem dX10_toss_25 : decode cX10_toss 25 = .ok (.getfield 159, 3) := by decide +kernel
theorem dX10_toss_28 : decode cX10_toss 28 = .ok (.aload_n 3, 1) := by decide +kernel
theorem dX10_toss_29 : decode cX10_toss 29 = .ok (.invokevirtual 113, 3) := by decide +kernel
theorem dX10_toss_32 : decode cX10_toss 32 = .ok (.if_icmp .ge 6, 3) := by decide +kernel
theorem dX10_toss_35 : decode cX10_toss 35 = .ok (.bipush (-103), 2) := by decide +kernel
theorem dX10_toss_37 : decode cX10_toss 37 = .ok (.ireturn, 1) := by decide +kernel
theorem dX10_toss_38 : decode cX10_toss 38 = .ok (.aload_n 0, 1) := by decide +kernel
theorem dX10_toss_39 : decode cX10_toss 39 = .ok (.getfield 32, 3) := by decide +kernel
theorem dX10_toss_42 : decode cX10_toss 42 = .ok (.getfield 161, 3) := by decide +kernel
theorem dX10_toss_45 : decode cX10_toss 45 = .ok (.sipush 999, 3) := by decide +kernel
theorem dX10_toss_48 : decode cX10_toss 48 = .ok (.if_icmp .lt 6, 3) := by decide +kernel
theorem dX10_toss_51 : decode cX10_toss 51 = .ok (.bipush (-104), 2) := by decide +kernel
theorem dX10_toss_53 : decode cX10_toss 53 = .ok (.ireturn, 1) := by decide +kernel
theorem dX10_toss_54 : decode cX10_toss 54 = .ok (.aload_n 0, 1) := by decide +kernel
theorem dX10_toss_55 : decode cX10_toss 55 = .ok (.iload_n 1, 1) := by decide +kernel
theorem dX10_toss_56 : decode cX10_toss 56 = .ok (.iload_n 2, 1) := by decide +kernel
theorem dX10_toss_57 : decode cX10_toss 57 = .ok (.aload_n 0, 1) := by decide +kernel
theorem dX10_toss_58 : decode cX10_toss 58 = .ok (.getfield 32, 3) := by decide +kernel
theorem dX10_toss_61 : decode cX10_toss 61 = .ok (.getfield 146, 3) := by decide +kernel
theorem dX10_toss_64 : decode cX10_toss 64 = .ok (.invokevirtual 153, 3) := by decide +kernel
theorem dX10_toss_67 : decode cX10_toss 67 = .ok (.aload_n 0, 1) := by decide +kernel
theorem dX10_toss_68 : decode cX10_toss 68 = .ok (.getfield 32, 3) := by decide +kernel
theorem dX10_toss_71 : decode cX10_toss 71 = .ok (.getfield 86, 3) := by decide +kernel
theorem dX10_toss_74 : decode cX10_toss 74 = .ok (.iconst (-1), 1) := by decide +kernel
theorem dX10_toss_75 : decode cX10_toss 75 = .ok (.ixor, 1) := by decide +kernel
theorem dX10_toss_76 : decode cX10_toss 76 = .ok (.iand, 1) := by decide +kernel
theorem dX10_toss_77 : decode cX10_toss 77 = .ok (.istore 4, 2) := by decide +kernel
theorem dX10_toss_79 : decode cX10_toss 79 = .ok (.aload_n 0, 1) := by decide +kernel
theorem dX10_toss_80 : decode cX10_toss 80 = .ok (.getfield 32, 3) := by decide +kernel
theorem dX10_toss_83 : decode cX10_toss 83 = .ok (.dup, 1) := by decide +kernel
theorem dX10_toss_84 : decode cX10_toss 84 = .ok (.getfield 86, 3) := by decide +kernel
theorem dX10_toss_87 : decode cX10_toss 87 = .ok (.iload 4, 2) := by decide +kernel
theorem dX10_toss_89 : decode cX10_toss 89 = .ok (.ior, 1) := by decide +kernel
theorem dX10_toss_90 : decode cX10_toss 90 = .ok (.putfield 86, 3) := by decide +kernel
theorem dX10_toss_93 : decode cX10_toss 93 = .ok (.aload_n 0, 1) := by decide +kernel
theorem dX10_toss_94 : decode cX10_toss 94 = .ok (.getfield 32, 3) := by decide +kernel
theorem dX10_toss_97 : decode cX10_toss 97 = .ok (.dup, 1) := by decide +kernel
theorem dX10_toss_98 : decode cX10_toss 98 = .ok (.getfield 159, 3) := by decide +kernel
theorem dX10_toss_101 : decode cX10_toss 101 = .ok (.aload_n 3, 1) := by decide +kernel
theorem dX10_toss_102 : decode cX10_toss 102 = .ok (.invokevirtual 113, 3) := by decide +kernel
theorem dX10_toss_105 : decode cX10_toss 105 = .ok (.isub, 1) := by decide +kernel
theorem dX10_toss_106 : decode cX10_toss 106 = .ok (.putfield 159, 3) := by decide +kernel
theorem dX10_toss_109 : decode cX10_toss 109 = .ok (.aload_n 0, 1) := by decide +kernel
theorem dX10_toss_110 : decode cX10_toss 110 = .ok (.getfield 32, 3) := by decide +kernel
theorem dX10_toss_113 : decode cX10_toss 113 = .ok (.dup, 1) := by decide +kernel
theorem dX10_toss_114 : decode cX10_toss 114 = .ok (.getfield 161, 3) := by decide +kernel
theorem dX10_toss_117 : decode cX10_toss 117 = .ok (.iconst 1, 1) := by decide +kernel
theorem dX10_toss_118 : decode cX10_toss 118 = .ok (.iadd, 1) := by decide +kernel
theorem dX10_toss_119 : decode cX10_toss 119 = .ok (.putfield 161, 3) := by decide +kernel
theorem dX10_toss_122 : decode cX10_toss 122 = .ok (.aload_n 0, 1) := by decide +kernel
theorem dX10_toss_123 : decode cX10_toss 123 = .ok (.getfield 32, 3) := by decide +kernel
theorem dX10_toss_126 : decode cX10_toss 126 = .ok (.getfield 135, 3) := by decide +kernel
theorem dX10_toss_129 : decode cX10_toss 129 = .ok (.iload_n 1, 1) := by decide +kernel
theorem dX10_toss_130 : decode cX10_toss 130 = .ok (.aload_n 0, 1) := by decide +kernel
theorem dX10_toss_131 : decode cX10_toss 131 = .ok (.getfield 32, 3) := by decide +kernel
theorem dX10_toss_134 : decode cX10_toss 134 = .ok (.getfield 135, 3) := by decide +kernel
theorem dX10_toss_137 : decode cX10_toss 137 = .ok (.iload_n 1, 1) := by decide +kernel
theorem dX10_toss_138 : decode cX10_toss 138 = .ok (.invokestatic 82, 3) := by decide +kernel
theorem dX10_toss_141 : decode cX10_toss 141 = .ok (.iconst 1, 1) := by decide +kernel
theorem dX10_toss_142 : decode cX10_toss 142 = .ok (.iadd, 1) := by decide +kernel
theorem dX10_toss_143 : decode cX10_toss 143 = .ok (.invokestatic 164, 3) := by decide +kernel
theorem dX10_toss_146 : decode cX10_toss 146 = .ok (.iload 4, 2) := by decide +kernel
theorem dX10_toss_148 : decode cX10_toss 148 = .ok (.invokestatic 168, 3) := by decide +kernel
theorem dX10_toss_151 : decode cX10_toss 151 = .ok (.ireturn, 1) := by decide +kernel
theorem dX10_wind_0 : decode cX10_wind 0 = .ok (.iload_n 1, 1) := by decide +kernel
theorem dX10_wind_1 : decode cX10_wind 1 = .ok (.iconst (-1), 1) := by decide +kernel
theorem dX10_wind_2 : decode cX10_wind 2 = .ok (.if_icmp .lt 8, 3) := by decide +kernel
theorem dX10_wind_5 : decode cX10_wind 5 = .ok (.iload_n 1, 1) := by decide +kernel
theorem dX10_wind_6 : decode cX10_wind 6 = .ok (.iconst 1, 1) := by decide +kernel
theorem dX10_wind_7 : decode cX10_wind 7 = .ok (.if_icmp .le 6, 3) := by decide +kernel
theorem dX10_wind_10 : decode cX10_wind 10 = .ok (.bipush (-102), 2) := by decide +kernel
theorem dX10_wind_12 : decode cX10_wind 12 = .ok (.ireturn, 1) := by decide +kernel
theorem dX10_wind_13 : decode cX10_wind 13 = .ok (.aload_n 0, 1) := by decide +kernel
theorem dX10_wind_14 : decode cX10_wind 14 = .ok (.invokevirtual 173, 3) := by decide +kernel
theorem dX10_wind_17 : decode cX10_wind 17 = .ok (.ifCond .ne 6, 3) := by decide +kernel
theorem dX10_wind_20 : decode cX10_wind 20 = .ok (.bipush (-103), 2) := by decide +kernel
theorem dX10_wind_22 : decode cX10_wind 22 = .ok (.ireturn, 1) := by decide +kernel
theorem dX10_wind_23 : decode cX10_wind 23 = .ok (.aload_n 0, 1) := by decide +kernel
theorem dX10_wind_24 : decode cX10_wind 24 = .ok (.getfield 32, 3) := by decide +kernel
theorem dX10_wind_27 : decode cX10_wind 27 = .ok (.getfield 146, 3) := by decide +kernel
theorem dX10_wind_30 : decode cX10_wind 30 = .ok (.iconst 1, 1) := by decide +kernel
theorem dX10_wind_31 : decode cX10_wind 31 = .ok (.iadd, 1) := by decide +kernel
theorem dX10_wind_32 : decode cX10_wind 32 = .ok (.istore_n 2, 1) := by decide +kernel
theorem dX10_wind_33 : decode cX10_wind 33 = .ok (.aload_n 0, 1) := by decide +kernel
theorem dX10_wind_34 : decode cX10_wind 34 = .ok (.getfield 32, 3) := by decide +kernel
theorem dX10_wind_37 : decode cX10_wind 37 = .ok (.iload_n 1, 1) := by decide +kernel
theorem dX10_wind_38 : decode cX10_wind 38 = .ok (.putfield 146, 3) := by decide +kernel
theorem dX10_wind_41 : decode cX10_wind 41 = .ok (.iload_n 2, 1) := by decide +kernel
theorem dX10_wind_42 : decode cX10_wind 42 = .ok (.ireturn, 1) := by decide +kernel
theorem dX10_morning_0 : decode cX10_morning 0 = .ok (.aload_n 0, 1) := by decide +kernel
theorem dX10_morning_1 : decode cX10_morning 1 = .ok (.invokevirtual 173, 3) := by decide +kernel
theorem dX10_morning_4 : decode cX10_morning 4 = .ok (.ifCond .ne 6, 3) := by decide +kernel
theorem dX10_morning_7 : decode cX10_morning 7 = .ok (.bipush (-103), 2) := by decide +kernel
theorem dX10_morning_9 : decode cX10_morning 9 = .ok (.ireturn, 1) := by decide +kernel
theorem dX10_morning_10 : decode cX10_morning 10 = .ok (.aload_n 0, 1) := by decide +kernel
theorem dX10_morning_11 : decode cX10_morning 11 = .ok (.getfield 32, 3) := by decide +kernel
theorem dX10_morning_14 : decode cX10_morning 14 = .ok (.getfield 176, 3) := by decide +kernel
theorem dX10_morning_17 : decode cX10_morning 17 = .ok (.sipush 999, 3) := by decide +kernel
theorem dX10_morning_20 : decode cX10_morning 20 = .ok (.if_icmp .lt 6, 3) := by decide +kernel
theorem dX10_morning_23 : decode cX10_morning 23 = .ok (.bipush (-104), 2) := by decide +kernel
theorem dX10_morning_25 : decode cX10_morning 25 = .ok (.ireturn, 1) := by decide +kernel
theorem dX10_morning_26 : decode cX10_morning 26 = .ok (.aload_n 0, 1) := by decide +kernel
theorem dX10_morning_27 : decode cX10_morning 27 = .ok (.getfield 32, 3) := by decide +kernel
theorem dX10_morning_30 : decode cX10_morning 30 = .ok (.getfield 86, 3) := by decide +kernel
theorem dX10_morning_33 : decode cX10_morning 33 = .ok (.invokestatic 168, 3) := by decide +kernel
theorem dX10_morning_36 : decode cX10_morning 36 = .ok (.istore_n 1, 1) := by decide +kernel
theorem dX10_morning_37 : decode cX10_morning 37 = .ok (.aload_n 0, 1) := by decide +kernel
theorem dX10_morning_38 : decode cX10_morning 38 = .ok (.getfield 32, 3) := by decide +kernel
theorem dX10_morning_41 : decode cX10_morning 41 = .ok (.aload_n 0, 1) := by decide +kernel
theorem dX10_morning_42 : decode cX10_morning 42 = .ok (.getfield 72, 3) := by decide +kernel
theorem dX10_morning_45 : decode cX10_morning 45 = .ok (.invokevirtual 179, 3) := by decide +kernel
theorem dX10_morning_48 : decode cX10_morning 48 = .ok (.iload_n 1, 1) := by decide +kernel
theorem dX10_morning_49 : decode cX10_morning 49 = .ok (.ireturn, 1) := by decide +kernel
theorem dX10_move_0 : decode cX10_move 0 = .ok (.aload_n 0, 1) := by decide +kernel
theorem dX10_move_1 : decode cX10_move 1 = .ok (.iload_n 1, 1) := by decide +kernel
theorem dX10_move_2 : decode cX10_move 2 = .ok (.invokevirtual 75, 3) := by decide +kernel
theorem dX10_move_5 : decode cX10_move 5 = .ok (.ifCond .eq 11, 3) := by decide +kernel
theorem dX10_move_8 : decode cX10_move 8 = .ok (.aload_n 0, 1) := by decide +kernel
theorem dX10_move_9 : decode cX10_move 9 = .ok (.iload_n 2, 1) := by decide +kernel
theorem dX10_move_10 : decode cX10_move 10 = .ok (.invokevirtual 156, 3) := by decide +kernel
theorem dX10_move_13 : decode cX10_move 13 = .ok (.ifCond .ne 6, 3) := by decide +kernel
theorem dX10_move_16 : decode cX10_move 16 = .ok (.bipush (-101), 2) := by decide +kernel
theorem dX10_move_18 : decode cX10_move 18 = .ok (.ireturn, 1) := by decide +kernel
theorem dX10_move_19 : decode cX10_move 19 = .ok (.aload_n 0, 1) := by decide +kernel
theorem dX10_move_20 : decode cX10_move 20 = .ok (.iload_n 2, 1) := by decide +kernel
theorem dX10_move_21 : decode cX10_move 21 = .ok (.iload_n 1, 1) := by decide +kernel
theorem dX10_move_22 : decode cX10_move 22 = .ok (.invokevirtual 182, 3) := by decide +kernel
theorem dX10_move_25 : decode cX10_move 25 = .ok (.ifCond .eq 6, 3) := by decide +kernel
theorem dX10_move_28 : decode cX10_move 28 = .ok (.bipush (-103), 2) := by decide +kernel
theorem dX10_move_30 : decode cX10_move 30 = .ok (.ireturn, 1) := by decide +kernel
theorem dX10_move_31 : decode cX10_move 31 = .ok (.aload_n 0, 1) := by decide +kernel
theorem dX10_move_32 : decode cX10_move 32 = .ok (.getfield 32, 3) := by decide +kernel
theorem dX10_move_35 : decode cX10_move 35 = .ok (.getfield 79, 3) := by decide +kernel
theorem dX10_move_38 : decode cX10_move 38 = .ok (.iload_n 1, 1) := by decide +kernel
theorem dX10_move_39 : decode cX10_move 39 = .ok (.invokestatic 82, 3) := by decide +kernel
theorem dX10_move_42 : decode cX10_move 42 = .ok (.istore_n 3, 1) := by decide +kernel
theorem dX10_move_43 : decode cX10_move 43 = .ok (.aload_n 0, 1) := by decide +kernel
theorem dX10_move_44 : decode cX10_move 44 = .ok (.getfield 32, 3) := by decide +kernel
theorem dX10_move_47 : decode cX10_move 47 = .ok (.getfield 79, 3) := by decide +kernel
theorem dX10_move_50 : decode cX10_move 50 = .ok (.iload_n 1, 1) := by decide +kernel
theorem dX10_move_51 : decode cX10_move 51 = .ok (.iload_n 2, 1) := by decide +kernel
theorem dX10_move_52 : decode cX10_move 52 = .ok (.invokestatic 164, 3) := by decide +kernel
theorem dX10_move_55 : decode cX10_move 55 = .ok (.aload_n 0, 1) := by decide +kernel
theorem dX10_move_56 : decode cX10_move 56 = .ok (.getfield 32, 3) := by decide +kernel
theorem dX10_move_59 : decode cX10_move 59 = .ok (.dup, 1) := by decide +kernel
theorem dX10_move_60 : decode cX10_move 60 = .ok (.getfield 86, 3) := by decide +kernel
theorem dX10_move_63 : decode cX10_move 63 = .ok (.iconst 1, 1) := by decide +kernel
theorem dX10_move_64 : decode cX10_move 64 = .ok (.iload_n 1, 1) := by decide +kernel
theorem dX10_move_65 : decode cX10_move 65 = .ok (.ishl, 1) := by decide +kernel
theorem dX10_move_66 : decode cX10_move 66 = .ok (.iconst (-1), 1) := by decide +kernel
theorem dX10_move_67 : decode cX10_move 67 = .ok (.ixor, 1) := by decide +kernel
theorem dX10_move_68 : decode cX10_move 68 = .ok (.iand, 1) := by decide +kernel
theorem dX10_move_69 : decode cX10_move 69 = .ok (.putfield 86, 3) := by decide +kernel
theorem dX10_move_72 : decode cX10_move 72 = .ok (.iload_n 3, 1) := by decide +kernel
theorem dX10_move_73 : decode cX10_move 73 = .ok (.ireturn, 1) := by decide +kernel
theorem dX10_train_0 : decode cX10_train 0 = .ok (.aload_n 0, 1) := by decide +kernel
theorem dX10_train_1 : decode cX10_train 1 = .ok (.iload_n 1, 1) := by decide +kernel
theorem dX10_train_2 : decode cX10_train 2 = .ok (.invokevirtual 99, 3) := by decide +kernel
theorem dX10_train_5 : decode cX10_train 5 = .ok (.ifnonnull 6, 3) := by decide +kernel
theorem dX10_train_8 : decode cX10_train 8 = .ok (.bipush (-101), 2) := by decide +kernel
theorem dX10_train_10 : decode cX10_train 10 = .ok (.ireturn, 1) := by decide +kernel
theorem dX10_train_11 : decode cX10_train 11 = .ok (.iload_n 2, 1) := by decide +kernel
theorem dX10_train_12 : decode cX10_train 12 = .ok (.invokestatic 185, 3) := by decide +kernel
theorem dX10_train_15 : decode cX10_train 15 = .ok (.ifCond .eq 10, 3) := by decide +kernel
theorem dX10_train_18 : decode cX10_train 18 = .ok (.iload_n 3, 1) := by decide +kernel
theorem dX10_train_19 : decode cX10_train 19 = .ok (.invokestatic 185, 3) := by decide +kernel
theorem dX10_train_22 : decode cX10_train 22 = .ok (.ifCond .ne 6, 3) := by decide +kernel
theorem dX10_train_25 : decode cX10_train 25 = .ok (.bipush (-102), 2) := by decide +kernel
theorem dX10_train_27 : decode cX10_train 27 = .ok (.ireturn, 1) := by decide +kernel
theorem dX10_train_28 : decode cX10_train 28 = .ok (.aload_n 0, 1) := by decide +kernel
theorem dX10_train_29 : decode cX10_train 29 = .ok (.getfield 32, 3) := by decide +kernel
theorem dX10_train_32 : decode cX10_train 32 = .ok (.getfield 110, 3) := by decide +kernel
theorem dX10_train_35 : decode cX10_train 35 = .ok (.iload_n 1, 1) := by decide +kernel
theorem dX10_train_36 : decode cX10_train 36 = .ok (.invokestatic 82, 3) := by decide +kernel
theorem dX10_train_39 : decode cX10_train 39 = .ok (.istore 4, 2) := by decide +kernel
theorem dX10_train_41 : decode cX10_train 41 = .ok (.aload_n 0, 1) := by decide +kernel
theorem dX10_train_42 : decode cX10_train 42 = .ok (.getfield 32, 3) := by decide +kernel
theorem dX10_train_45 : decode cX10_train 45 = .ok (.getfield 107, 3) := by decide +kernel
theorem dX10_train_48 : decode cX10_train 48 = .ok (.iload_n 1, 1) := by decide +kernel
theorem dX10_train_49 : decode cX10_train 49 = .ok (.iload_n 2, 1) := by decide +kernel
theorem dX10_train_50 : decode cX10_train 50 = .ok (.invokestatic 164, 3) := by decide +kernel
theorem dX10_train_53 : decode cX10_train 53 = .ok (.aload_n 0, 1) := by decide +kernel
theorem dX10_train_54 : decode cX10_train 54 = .ok (.getfield 32, 3) := by decide +kernel
theorem dX10_train_57 : decode cX10_train 57 = .ok (.getfield 110, 3) := by decide +kernel
theorem dX10_train_60 : decode cX10_train 60 = .ok (.iload_n 1, 1) := by decide +kernel
theorem dX10_train_61 : decode cX10_train 61 = .ok (.iload_n 3, 1) := by decide +kernel
theorem dX10_train_62 : decode cX10_train 62 = .ok (.invokestatic 164, 3) := by decide +kernel
theorem dX10_train_65 : decode cX10_train 65 = .ok (.iload 4, 2) := by decide +kernel
theorem dX10_train_67 : decode cX10_train 67 = .ok (.ireturn, 1) := by decide +kernel
theorem dX10_stir_0 : decode cX10_stir 0 = .ok (.iload_n 1, 1) := by decide +kernel
theorem dX10_stir_1 : decode cX10_stir 1 = .ok (.iconst 1, 1) := by decide +kernel
theorem dX10_stir_2 : decode cX10_stir 2 = .ok (.if_icmp .lt 9, 3) := by decide +kernel
theorem dX10_stir_5 : decode cX10_stir 5 = .ok (.iload_n 1, 1) := by decide +kernel
theorem dX10_stir_6 : decode cX10_stir 6 = .ok (.bipush 60, 2) := by decide +kernel
theorem dX10_stir_8 : decode cX10_stir 8 = .ok (.if_icmp .le 6, 3) := by decide +kernel
theorem dX10_stir_11 : decode cX10_stir 11 = .ok (.bipush (-102), 2) := by decide +kernel
theorem dX10_stir_13 : decode cX10_stir 13 = .ok (.ireturn, 1) := by decide +kernel
theorem dX10_stir_14 : decode cX10_stir 14 = .ok (.aload_n 0, 1) := by decide +kernel
theorem dX10_stir_15 : decode cX10_stir 15 = .ok (.invokevirtual 173, 3) := by decide +kernel
theorem dX10_stir_18 : decode cX10_stir 18 = .ok (.ifCond .ne 6, 3) := by decide +kernel
theorem dX10_stir_21 : decode cX10_stir 21 = .ok (.bipush (-103), 2) := by decide +kernel
theorem dX10_stir_23 : decode cX10_stir 23 = .ok (.ireturn, 1) := by decide +kernel
theorem dX10_stir_24 : decode cX10_stir 24 = .ok (.aload_n 0, 1) := by decide +kernel
theorem dX10_stir_25 : decode cX10_stir 25 = .ok (.getfield 32, 3) := by decide +kernel
theorem dX10_stir_28 : decode cX10_stir 28 = .ok (.getfield 159, 3) := by decide +kernel
theorem dX10_stir_31 : decode cX10_stir 31 = .ok (.iload_n 1, 1) := by decide +kernel
theorem dX10_stir_32 : decode cX10_stir 32 = .ok (.iadd, 1) := by decide +kernel
theorem dX10_stir_33 : decode cX10_stir 33 = .ok (.bipush 99, 2) := by decide +kernel
theorem dX10_stir_35 : decode cX10_stir 35 = .ok (.if_icmp .le 6, 3) := by decide +kernel
theorem dX10_stir_38 : decode cX10_stir 38 = .ok (.bipush (-104), 2) := by decide +kernel
theorem dX10_stir_40 : decode cX10_stir 40 = .ok (.ireturn, 1) := by decide +kernel
theorem dX10_stir_41 : decode cX10_stir 41 = .ok (.aload_n 0, 1) := by decide +kernel
theorem dX10_stir_42 : decode cX10_stir 42 = .ok (.getfield 32, 3) := by decide +kernel
theorem dX10_stir_45 : decode cX10_stir 45 = .ok (.dup, 1) := by decide +kernel
theorem dX10_stir_46 : decode cX10_stir 46 = .ok (.getfield 159, 3) := by decide +kernel
theorem dX10_stir_49 : decode cX10_stir 49 = .ok (.iload_n 1, 1) := by decide +kernel
theorem dX10_stir_50 : decode cX10_stir 50 = .ok (.iadd, 1) := by decide +kernel
theorem dX10_stir_51 : decode cX10_stir 51 = .ok (.putfield 159, 3) := by decide +kernel
theorem dX10_stir_54 : decode cX10_stir 54 = .ok (.aload_n 0, 1) := by decide +kernel
theorem dX10_stir_55 : decode cX10_stir 55 = .ok (.getfield 32, 3) := by decide +kernel
theorem dX10_stir_58 : decode cX10_stir 58 = .ok (.getfield 159, 3) := by decide +kernel
theorem dX10_stir_61 : decode cX10_stir 61 = .ok (.ireturn, 1) := by decide +kernel
theorem dX10_all_0 : decode cX10_all 0 = .ok (.iload_n 1, 1) := by decide +kernel
theorem dX10_all_1 : decode cX10_all 1 = .ok (.bipush 10, 2) := by decide +kernel
theorem dX10_all_3 : decode cX10_all 3 = .ok (.if_icmp .lt 13, 3) := by decide +kernel
theorem dX10_all_6 : decode cX10_all 6 = .ok (.iload_n 1, 1) := by decide +kernel
theorem dX10_all_7 : decode cX10_all 7 = .ok (.bipush 15, 2) := by decide +kernel
theorem dX10_all_9 : decode cX10_all 9 = .ok (.if_icmp .gt 7, 3) := by decide +kernel
theorem dX10_all_12 : decode cX10_all 12 = .ok (.iconst 1, 1) := by decide +kernel
theorem dX10_all_13 : decode cX10_all 13 = .ok (.goto 4, 3) := by decide +kernel
theorem dX10_all_16 : decode cX10_all 16 = .ok (.iconst 0, 1) := by decide +kernel
theorem dX10_all_17 : decode cX10_all 17 = .ok (.istore_n 2, 1) := by decide +kernel
theorem dX10_all_18 : decode cX10_all 18 = .ok (.iload_n 1, 1) := by decide +kernel
theorem dX10_all_19 : decode cX10_all 19 = .ok (.ifCond .eq 15, 3) := by decide +kernel
theorem dX10_all_22 : decode cX10_all 22 = .ok (.iload_n 1, 1) := by decide +kernel
theorem dX10_all_23 : decode cX10_all 23 = .ok (.iconst 1, 1) := by decide +kernel
theorem dX10_all_24 : decode cX10_all 24 = .ok (.if_icmp .eq 10, 3) := by decide +kernel
theorem dX10_all_27 : decode cX10_all 27 = .ok (.iload_n 2, 1) := by decide +kernel
theorem dX10_all_28 : decode cX10_all 28 = .ok (.ifCond .ne 6, 3) := by decide +kernel
theorem dX10_all_31 : decode cX10_all 31 = .ok (.bipush (-102), 2) := by decide +kernel
theorem dX10_all_33 : decode cX10_all 33 = .ok (.ireturn, 1) := by decide +kernel
theorem dX10_all_34 : decode cX10_all 34 = .ok (.aload_n 0, 1) := by decide +kernel
theorem dX10_all_35 : decode cX10_all 35 = .ok (.invokevirtual 173, 3) := by decide +kernel
theorem dX10_all_38 : decode cX10_all 38 = .ok (.ifCond .ne 6, 3) := by decide +kernel
theorem dX10_all_41 : decode cX10_all 41 = .ok (.bipush (-103), 2) := by decide +kernel
theorem dX10_all_43 : decode cX10_all 43 = .ok (.ireturn, 1) := by decide +kernel
theorem dX10_all_44 : decode cX10_all 44 = .ok (.aload_n 0, 1) := by decide +kernel
theorem dX10_all_45 : decode cX10_all 45 = .ok (.aload_n 0, 1) := by decide +kernel
theorem dX10_all_46 : decode cX10_all 46 = .ok (.invokevirtual 188, 3) := by decide +kernel
theorem dX10_all_49 : decode cX10_all 49 = .ok (.aload_n 0, 1) := by decide +kernel
theorem dX10_all_50 : decode cX10_all 50 = .ok (.getfield 32, 3) := by decide +kernel
theorem dX10_all_53 : decode cX10_all 53 = .ok (.getfield 86, 3) := by decide +kernel
theorem dX10_all_56 : decode cX10_all 56 = .ok (.iconst (-1), 1) := by decide +kernel
theorem dX10_all_57 : decode cX10_all 57 = .ok (.ixor, 1) := by decide +kernel
theorem dX10_all_58 : decode cX10_all 58 = .ok (.iand, 1) := by decide +kernel
theorem dX10_all_59 : decode cX10_all 59 = .ok (.invokevirtual 191, 3) := by decide +kernel
theorem dX10_all_62 : decode cX10_all 62 = .ok (.aload_n 0, 1) := by decide +kernel
theorem dX10_all_63 : decode cX10_all 63 = .ok (.getfield 42, 3) := by decide +kernel
theorem dX10_all_66 : decode cX10_all 66 = .ok (.iload_n 1, 1) := by decide +kernel
theorem dX10_all_67 : decode cX10_all 67 = .ok (.invokevirtual 194, 3) := by decide +kernel
theorem dX10_all_70 : decode cX10_all 70 = .ok (.ireturn, 1) := by decide +kernel
theorem dX10_nights_0 : decode cX10_nights 0 = .ok (.aload_n 0, 1) := by decide +kernel
theorem dX10_nights_1 : decode cX10_nights 1 = .ok (.invokevirtual 173, 3) := by decide +kernel
theorem dX10_nights_4 : decode cX10_nights 4 = .ok (.ifCond .ne 6, 3) := by decide +kernel
theorem dX10_nights_7 : decode cX10_nights 7 = .ok (.bipush (-103), 2) := by decide +kernel
theorem dX10_nights_9 : decode cX10_nights 9 = .ok (.ireturn, 1) := by decide +kernel
theorem dX10_nights_10 : decode cX10_nights 10 = .ok (.aload_n 0, 1) := by decide +kernel
theorem dX10_nights_11 : decode cX10_nights 11 = .ok (.aload_n 0, 1) := by decide +kernel
theorem dX10_nights_12 : decode cX10_nights 12 = .ok (.invokevirtual 188, 3) := by decide +kernel
theorem dX10_nights_15 : decode cX10_nights 15 = .ok (.invokevirtual 191, 3) := by decide +kernel
theorem dX10_nights_18 : decode cX10_nights 18 = .ok (.aload_n 0, 1) := by decide +kernel
theorem dX10_nights_19 : decode cX10_nights 19 = .ok (.getfield 42, 3) := by decide +kernel
theorem dX10_nights_22 : decode cX10_nights 22 = .ok (.iconst 0, 1) := by decide +kernel
theorem dX10_nights_23 : decode cX10_nights 23 = .ok (.invokevirtual 194, 3) := by decide +kernel
theorem dX10_nights_26 : decode cX10_nights 26 = .ok (.istore_n 1, 1) := by decide +kernel
theorem dX10_nights_27 : decode cX10_nights 27 = .ok (.iload_n 1, 1) := by decide +kernel
theorem dX10_nights_28 : decode cX10_nights 28 = .ok (.ifCond .le 15, 3) := by decide +kernel
theorem dX10_nights_31 : decode cX10_nights 31 = .ok (.aload_n 0, 1) := by decide +kernel
theorem dX10_nights_32 : decode cX10_nights 32 = .ok (.getfield 32, 3) := by decide +kernel
theorem dX10_nights_35 : decode cX10_nights 35 = .ok (.getfield 159, 3) := by decide +kernel
theorem dX10_nights_38 : decode cX10_nights 38 = .ok (.iload_n 1, 1) := by decide +kernel
theorem dX10_nights_39 : decode cX10_nights 39 = .ok (.idiv, 1) := by decide +kernel
theorem dX10_nights_40 : decode cX10_nights 40 = .ok (.goto 4, 3) := by decide +kernel
theorem dX10_nights_43 : decode cX10_nights 43 = .ok (.iconst (-1), 1) := by decide +kernel
theorem dX10_nights_44 : decode cX10_nights 44 = .ok (.ireturn, 1) := by decide +kernel
theorem dX10_odds_0 : decode cX10_odds 0 = .ok (.aload_n 0, 1) := by decide +kernel
theorem dX10_odds_1 : decode cX10_odds 1 = .ok (.iload_n 1, 1) := by decide +kernel
theorem dX10_odds_2 : decode cX10_odds 2 = .ok (.invokevirtual 75, 3) := by decide +kernel
theorem dX10_odds_5 : decode cX10_odds 5 = .ok (.ifCond .eq 12, 3) := by decide +kernel
theorem dX10_odds_8 : decode cX10_odds 8 = .ok (.aload_n 0, 1) := by decide +kernel
theorem dX10_odds_9 : decode cX10_odds 9 = .ok (.iload_n 2, 1) := by decide +kernel
theorem dX10_odds_10 : decode cX10_odds 10 = .ok (.iload_n 3, 1) := by decide +kernel
theorem dX10_odds_11 : decode cX10_odds 11 = .ok (.invokevirtual 142, 3) := by decide +kernel
theorem dX10_odds_14 : decode cX10_odds 14 = .ok (.ifCond .ne 6, 3) := by decide +kernel
theorem dX10_odds_17 : decode cX10_odds 17 = .ok (.bipush (-101), 2) := by decide +kernel
theorem dX10_odds_19 : decode cX10_odds 19 = .ok (.ireturn, 1) := by decide +kernel
theorem dX10_odds_20 : decode cX10_odds 20 = .ok (.iconst 0, 1) := by decide +kernel
theorem dX10_odds_21 : decode cX10_odds 21 = .ok (.istore 4, 2) := by decide +kernel
theorem dX10_odds_23 : decode cX10_odds 23 = .ok (.iconst (-1), 1) := by decide +kernel
theorem dX10_odds_24 : decode cX10_odds 24 = .ok (.istore 5, 2) := by decide +kernel
theorem dX10_odds_26 : decode cX10_odds 26 = .ok (.iload 5, 2) := by decide +kernel
theorem dX10_odds_28 : decode cX10_odds 28 = .ok (.iconst 1, 1) := by decide +kernel
theorem dX10_odds_29 : decode cX10_odds 29 = .ok (.if_icmp .gt 26, 3) := by decide +kernel
theorem dX10_odds_32 : decode cX10_odds 32 = .ok (.iload 4, 2) := by decide +kernel
theorem dX10_odds_34 : decode cX10_odds 34 = .ok (.aload_n 0, 1) := by decide +kernel
theorem dX10_odds_35 : decode cX10_odds 35 = .ok (.iload_n 2, 1) := by decide +kernel
theorem dX10_odds_36 : decode cX10_odds 36 = .ok (.iload_n 3, 1) := by decide +kernel
theorem dX10_odds_37 : decode cX10_odds 37 = .ok (.iload 5, 2) := by decide +kernel
theorem dX10_odds_39 : decode cX10_odds 39 = .ok (.invokevirtual 153, 3) := by decide +kernel
theorem dX10_odds_42 : decode cX10_odds 42 = .ok (.iload_n 1, 1) := by decide +kernel
theorem dX10_odds_43 : decode cX10_odds 43 = .ok (.ishr, 1) := by decide +kernel
theorem dX10_odds_44 : decode cX10_odds 44 = .ok (.iconst 1, 1) := by decide +kernel
theorem dX10_odds_45 : decode cX10_odds 45 = .ok (.iand, 1) := by decide +kernel
theorem dX10_odds_46 : decode cX10_odds 46 = .ok (.iadd, 1) := by decide +kernel
theorem dX10_odds_47 : decode cX10_odds 47 = .ok (.istore 4, 2) := by decide +kernel
theorem dX10_odds_49 : decode cX10_odds 49 = .ok (.iinc 5 1, 3) := by decide +kernel
theorem dX10_odds_52 : decode cX10_odds 52 = .ok (.goto (-26), 3) := by decide +kernel
theorem dX10_odds_55 : decode cX10_odds 55 = .ok (.iload 4, 2) := by decide +kernel
theorem dX10_odds_57 : decode cX10_odds 57 = .ok (.ireturn, 1) := by decide +kernel
theorem dX10_who_0 : decode cX10_who 0 = .ok (.aload_n 0, 1) := by decide +kernel
theorem dX10_who_1 : decode cX10_who 1 = .ok (.iload_n 1, 1) := by decide +kernel
theorem dX10_who_2 : decode cX10_who 2 = .ok (.invokevirtual 156, 3) := by decide +kernel
theorem dX10_who_5 : decode cX10_who 5 = .ok (.ifCond .ne 6, 3) := by decide +kernel
theorem dX10_who_8 : decode cX10_who 8 = .ok (.bipush (-101), 2) := by decide +kernel
theorem dX10_who_10 : decode cX10_who 10 = .ok (.ireturn, 1) := by decide +kernel
theorem dX10_who_11 : decode cX10_who 11 = .ok (.iconst 0, 1) := by decide +kernel
theorem dX10_who_12 : decode cX10_who 12 = .ok (.istore_n 2, 1) := by decide +kernel
theorem dX10_who_13 : decode cX10_who 13 = .ok (.iconst 0, 1) := by decide +kernel
theorem dX10_who_14 : decode cX10_who 14 = .ok (.istore_n 3, 1) := by decide +kernel
theorem dX10_who_15 : decode cX10_who 15 = .ok (.iload_n 3, 1) := by decide +kernel
theorem dX10_who_16 : decode cX10_who 16 = .ok (.aload_n 0, 1) := by decide +kernel
theorem dX10_who_17 : decode cX10_who 17 = .ok (.getfield 197, 3) := by decide +kernel
theorem dX10_who_20 : decode cX10_who 20 = .ok (.if_icmp .ge 24, 3) := by decide +kernel
theorem dX10_who_23 : decode cX10_who 23 = .ok (.aload_n 0, 1) := by decide +kernel
theorem dX10_who_24 : decode cX10_who 24 = .ok (.iload_n 3, 1) := by decide +kernel
theorem dX10_who_25 : decode cX10_who 25 = .ok (.iload_n 1, 1) := by decide +kernel
theorem dX10_who_26 : decode cX10_who 26 = .ok (.invokevirtual 200, 3) := by decide +kernel
theorem dX10_who_29 : decode cX10_who 29 = .ok (.ifCond .eq 9, 3) := by decide +kernel
theorem dX10_who_32 : decode cX10_who 32 = .ok (.iload_n 2, 1) := by decide +kernel
theorem dX10_who_33 : decode cX10_who 33 = .ok (.iconst 1, 1) := by decide +kernel
theorem dX10_who_34 : decode cX10_who 34 = .ok (.iload_n 3, 1) := by decide +kernel
theorem dX10_who_35 : decode cX10_who 35 = .ok (.ishl, 1) := by decide +kernel
theorem dX10_who_36 : decode cX10_who 36 = .ok (.ior, 1) := by decide +kernel
theorem dX10_who_37 : decode cX10_who 37 = .ok (.istore_n 2, 1) := by decide +kernel
theorem dX10_who_38 : decode cX10_who 38 = .ok (.iinc 3 1, 3) := by decide +kernel
theorem dX10_who_41 : decode cX10_who 41 = .ok (.goto (-26), 3) := by decide +kernel
theorem dX10_who_44 : decode cX10_who 44 = .ok (.iload_n 2, 1) := by decide +kernel
theorem dX10_who_45 : decode cX10_who 45 = .ok (.ireturn, 1) := by decide +kernel
theorem dX10_see_0 : decode cX10_see 0 = .ok (.aload_n 0, 1) := by decide +kernel
theorem dX10_see_1 : decode cX10_see 1 = .ok (.iload_n 1, 1) := by decide +kernel
theorem dX10_see_2 : decode cX10_see 2 = .ok (.invokevirtual 99, 3) := by decide +kernel
theorem dX10_see_5 : decode cX10_see 5 = .ok (.ifnonnull 6, 3) := by decide +kernel
theorem dX10_see_8 : decode cX10_see 8 = .ok (.bipush (-101), 2) := by decide +kernel
theorem dX10_see_10 : decode cX10_see 10 = .ok (.ireturn, 1) := by decide +kernel
theorem dX10_see_11 : decode cX10_see 11 = .ok (.iload_n 2, 1) := by decide +kernel
theorem dX10_see_12 : decode cX10_see 12 = .ok (.invokestatic 203, 3) := by decide +kernel
theorem dX10_see_15 : decode cX10_see 15 = .ok (.ifCond .eq 15, 3) := by decide +kernel
theorem dX10_see_18 : decode cX10_see 18 = .ok (.iload_n 3, 1) := by decide +kernel
theorem dX10_see_19 : decode cX10_see 19 = .ok (.iconst (-1), 1) := by decide +kernel
theorem dX10_see_20 : decode cX10_see 20 = .ok (.if_icmp .eq 13, 3) := by decide +kernel
theorem dX10_see_23 : decode cX10_see 23 = .ok (.iload_n 3, 1) := by decide +kernel
theorem dX10_see_24 : decode cX10_see 24 = .ok (.invokestatic 203, 3) := by decide +kernel
theorem dX10_see_27 : decode cX10_see 27 = .ok (.ifCond .ne 6, 3) := by decide +kernel
theorem dX10_see_30 : decode cX10_see 30 = .ok (.bipush (-102), 2) := by decide +kernel
theorem dX10_see_32 : decode cX10_see 32 = .ok (.ireturn, 1) := by decide +kernel
theorem dX10_see_33 : decode cX10_see 33 = .ok (.aload_n 0, 1) := by decide +kernel
theorem dX10_see_34 : decode cX10_see 34 = .ok (.getfield 32, 3) := by decide +kernel
theorem dX10_see_37 : decode cX10_see 37 = .ok (.getfield 123, 3) := by decide +kernel
theorem dX10_see_40 : decode cX10_see 40 = .ok (.getfield 206, 3) := by decide +kernel
theorem dX10_see_43 : decode cX10_see 43 = .ok (.bipush 6, 2) := by decide +kernel
theorem dX10_see_45 : decode cX10_see 45 = .ok (.if_icmp .lt 6, 3) := by decide +kernel
theorem dX10_see_48 : decode cX10_see 48 = .ok (.bipush (-104), 2) := by decide +kernel
theorem dX10_see_50 : decode cX10_see 50 = .ok (.ireturn, 1) := by decide +kernel
theorem dX10_see_51 : decode cX10_see 51 = .ok (.aload_n 0, 1) := by decide +kernel
theorem dX10_see_52 : decode cX10_see 52 = .ok (.getfield 32, 3) := by decide +kernel
theorem dX10_see_55 : decode cX10_see 55 = .ok (.getfield 123, 3) := by decide +kernel
theorem dX10_see_58 : decode cX10_see 58 = .ok (.iload_n 1, 1) := by decide +kernel
theorem dX10_see_59 : decode cX10_see 59 = .ok (.iload_n 2, 1) := by decide +kernel
theorem dX10_see_60 : decode cX10_see 60 = .ok (.iload_n 3, 1) := by decide +kernel
theorem dX10_see_61 : decode cX10_see 61 = .ok (.invokevirtual 209, 3) := by decide +kernel
theorem dX10_see_64 : decode cX10_see 64 = .ok (.aload_n 0, 1) := by decide +kernel
theorem dX10_see_65 : decode cX10_see 65 = .ok (.getfield 32, 3) := by decide +kernel
theorem dX10_see_68 : decode cX10_see 68 = .ok (.getfield 123, 3) := by decide +kernel
theorem dX10_see_71 : decode cX10_see 71 = .ok (.getfield 206, 3) := by decide +kernel
theorem dX10_see_74 : decode cX10_see 74 = .ok (.ireturn, 1) := by decide +kernel
theorem dX10_forget_0 : decode cX10_forget 0 = .ok (.aload_n 0, 1) := by decide +kernel
theorem dX10_forget_1 : decode cX10_forget 1 = .ok (.getfield 32, 3) := by decide +kernel
theorem dX10_forget_4 : decode cX10_forget 4 = .ok (.getfield 123, 3) := by decide +kernel
theorem dX10_forget_7 : decode cX10_forget 7 = .ok (.getfield 206, 3) := by decide +kernel
theorem dX10_forget_10 : decode cX10_forget 10 = .ok (.istore_n 1, 1) := by decide +kernel
theorem dX10_forget_11 : decode cX10_forget 11 = .ok (.aload_n 0, 1) := by decide +kernel
theorem dX10_forget_12 : decode cX10_forget 12 = .ok (.getfield 32, 3) := by decide +kernel
theorem dX10_forget_15 : decode cX10_forget 15 = .ok (.getfield 123, 3) := by decide +kernel
theorem dX10_forget_18 : decode cX10_forget 18 = .ok (.iconst 0, 1) := by decide +kernel
theorem dX10_forget_19 : decode cX10_forget 19 = .ok (.putfield 206, 3) := by decide +kernel
theorem dX10_forget_22 : decode cX10_forget 22 = .ok (.iload_n 1, 1) := by decide +kernel
theorem dX10_forget_23 : decode cX10_forget 23 = .ok (.ireturn, 1) := by decide +kernel
theorem dX10_seasons_0 : decode cX10_seasons 0 = .ok (.iload_n 1, 1) := by decide +kernel
theorem dX10_seasons_1 : decode cX10_seasons 1 = .ok (.iconst 1, 1) := by decide +kernel
theorem dX10_seasons_2 : decode cX10_seasons 2 = .ok (.if_icmp .lt 22, 3) := by decide +kernel
theorem dX10_seasons_5 : decode cX10_seasons 5 = .ok (.iload_n 1, 1) := by decide +kernel
theorem dX10_seasons_6 : decode cX10_seasons 6 = .ok (.bipush 60, 2) := by decide +kernel
theorem dX10_seasons_8 : decode cX10_seasons 8 = .ok (.if_icmp .gt 16, 3) := by decide +kernel
theorem dX10_seasons_11 : decode cX10_seasons 11 = .ok (.iload_n 2, 1) := by decide +kernel
theorem dX10_seasons_12 : decode cX10_seasons 12 = .ok (.ifCond .lt 12, 3) := by decide +kernel
theorem dX10_seasons_15 : decode cX10_seasons 15 = .ok (.iload_n 3, 1) := by decide +kernel
theorem dX10_seasons_16 : decode cX10_seasons 16 = .ok (.ifCond .lt 8, 3) := by decide +kernel
theorem dX10_seasons_19 : decode cX10_seasons 19 = .ok (.iload_n 3, 1) := by decide +kernel
theorem dX10_seasons_20 : decode cX10_seasons 20 = .ok (.iconst 2, 1) := by decide +kernel
theorem dX10_seasons_21 : decode cX10_seasons 21 = .ok (.if_icmp .le 6, 3) := by decide +kernel
theorem dX10_seasons_24 : decode cX10_seasons 24 = .ok (.bipush (-102), 2) := by decide +kernel
theorem dX10_seasons_26 : decode cX10_seasons 26 = .ok (.ireturn, 1) := by decide +kernel
theorem dX10_seasons_27 : decode cX10_seasons 27 = .ok (.aload_n 0, 1) := by decide +kernel
theorem dX10_seasons_28 : decode cX10_seasons 28 = .ok (.invokevirtual 173, 3) := by decide +kernel
theorem dX10_seasons_31 : decode cX10_seasons 31 = .ok (.ifCond .ne 6, 3) := by decide +kernel
theorem dX10_seasons_34 : decode cX10_seasons 34 = .ok (.bipush (-103), 2) := by decide +kernel
theorem dX10_seasons_36 : decode cX10_seasons 36 = .ok (.ireturn, 1) := by decide +kernel
theorem dX10_seasons_37 : decode cX10_seasons 37 = .ok (.iload_n 2, 1) := by decide +kernel
theorem dX10_seasons_38 : decode cX10_seasons 38 = .ok (.istore 4, 2) := by decide +kernel
theorem dX10_seasons_40 : decode cX10_seasons 40 = .ok (.iconst 0, 1) := by decide +kernel
theorem dX10_seasons_41 : decode cX10_seasons 41 = .ok (.istore 5, 2) := by decide +kernel
theorem dX10_seasons_43 : decode cX10_seasons 43 = .ok (.iconst 0, 1) := by decide +kernel
theorem dX10_seasons_44 : decode cX10_seasons 44 = .ok (.istore 6, 2) := by decide +kernel
theorem dX10_seasons_46 : decode cX10_seasons 46 = .ok (.iconst 0, 1) := by decide +kernel
theorem dX10_seasons_47 : decode cX10_seasons 47 = .ok (.istore 7, 2) := by decide +kernel
theorem dX10_seasons_49 : decode cX10_seasons 49 = .ok (.iload 7, 2) := by decide +kernel
theorem dX10_seasons_51 : decode cX10_seasons 51 = .ok (.iload_n 1, 1) := by decide +kernel
theorem dX10_seasons_52 : decode cX10_seasons 52 = .ok (.if_icmp .ge 85, 3) := by decide +kernel
theorem dX10_seasons_55 : decode cX10_seasons 55 = .ok (.iload 4, 2) := by decide +kernel
theorem dX10_seasons_57 : decode cX10_seasons 57 = .ok (.invokestatic 213, 3) := by decide +kernel
theorem dX10_seasons_60 : decode cX10_seasons 60 = .ok (.istore 4, 2) := by decide +kernel
theorem dX10_seasons_62 : decode cX10_seasons 62 = .ok (.iload 4, 2) := by decide +kernel
theorem dX10_seasons_64 : decode cX10_seasons 64 = .ok (.iconst 3, 1) := by decide +kernel
theorem dX10_seasons_65 : decode cX10_seasons 65 = .ok (.invokestatic 216, 3) := by decide +kernel
theorem dX10_seasons_68 : decode cX10_seasons 68 = .ok (.iconst 1, 1) := by decide +kernel
theorem dX10_seasons_69 : decode cX10_seasons 69 = .ok (.isub, 1) := by decide +kernel
theorem dX10_seasons_70 : decode cX10_seasons 70 = .ok (.istore 8, 2) := by decide +kernel
theorem dX10_seasons_72 : decode cX10_seasons 72 = .ok (.iload 4, 2) := by decide +kernel
theorem dX10_seasons_74 : decode cX10_seasons 74 = .ok (.invokestatic 213, 3) := by decide +kernel
theorem dX10_seasons_77 : decode cX10_seasons 77 = .ok (.istore 4, 2) := by decide +kernel
theorem dX10_seasons_79 : decode cX10_seasons 79 = .ok (.iload 4, 2) := by decide +kernel
theorem dX10_seasons_81 : decode cX10_seasons 81 = .ok (.aload_n 0, 1) := by decide +kernel
theorem dX10_seasons_82 : decode cX10_seasons 82 = .ok (.getfield 197, 3) := by decide +kernel
theorem dX10_seasons_85 : decode cX10_seasons 85 = .ok (.invokestatic 216, 3) := by decide +kernel
theorem dX10_seasons_88 : decode cX10_seasons 88 = .ok (.istore 9, 2) := by decide +kernel
theorem dX10_seasons_90 : decode cX10_seasons 90 = .ok (.iload 4, 2) := by decide +kernel
theorem dX10_seasons_92 : decode cX10_seasons 92 = .ok (.invokestatic 213, 3) := by decide +kernel
theorem dX10_seasons_95 : decode cX10_seasons 95 = .ok (.istore 4, 2) := by decide +kernel
theorem dX10_seasons_97 : decode cX10_seasons 97 = .ok (.aload_n 0, 1) := by decide +kernel
theorem dX10_seasons_98 : decode cX10_seasons 98 = .ok (.iload 9, 2) := by decide +kernel
theorem dX10_seasons_100 : decode cX10_seasons 100 = .ok (.iload 4, 2) := by decide +kernel
theorem dX10_seasons_102 : decode cX10_seasons 102 = .ok (.bipush 36, 2) := by decide +kernel
theorem dX10_seasons_104 : decode cX10_seasons 104 = .ok (.invokestatic 216, 3) := by decide +kernel
theorem dX10_seasons_107 : decode cX10_seasons 107 = .ok (.iload 8, 2) := by decide +kernel
theorem dX10_seasons_109 : decode cX10_seasons 109 = .ok (.invokevirtual 153, 3) := by decide +kernel
theorem dX10_seasons_112 : decode cX10_seasons 112 = .ok (.istore 10, 2) := by decide +kernel
theorem dX10_seasons_114 : decode cX10_seasons 114 = .ok (.iload 5, 2) := by decide +kernel
theorem dX10_seasons_116 : decode cX10_seasons 116 = .ok (.iload 10, 2) := by decide +kernel
theorem dX10_seasons_118 : decode cX10_seasons 118 = .ok (.invokestatic 168, 3) := by decide +kernel
theorem dX10_seasons_121 : decode cX10_seasons 121 = .ok (.iadd, 1) := by decide +kernel
theorem dX10_seasons_122 : decode cX10_seasons 122 = .ok (.istore 5, 2) := by decide +kernel
theorem dX10_seasons_124 : decode cX10_seasons 124 = .ok (.iload 6, 2) := by decide +kernel
theorem dX10_seasons_126 : decode cX10_seasons 126 = .ok (.iload 10, 2) := by decide +kernel
theorem dX10_seasons_128 : decode cX10_seasons 128 = .ok (.ior, 1) := by decide +kernel
theorem dX10_seasons_129 : decode cX10_seasons 129 = .ok (.istore 6, 2) := by decide +kernel
theorem dX10_seasons_131 : decode cX10_seasons 131 = .ok (.iinc 7 1, 3) := by decide +kernel
theorem dX10_seasons_134 : decode cX10_seasons 134 = .ok (.goto (-85), 3) := by decide +kernel
theorem dX10_seasons_137 : decode cX10_seasons 137 = .ok (.iload_n 3, 1) := by decide +kernel
theorem dX10_seasons_138 : decode cX10_seasons 138 = .ok (.iconst 2, 1) := by decide +kernel
theorem dX10_seasons_139 : decode cX10_seasons 139 = .ok (.if_icmp .ne 6, 3) := by decide +kernel
theorem dX10_seasons_142 : decode cX10_seasons 142 = .ok (.iload 4, 2) := by decide +kernel
theorem dX10_seasons_144 : decode cX10_seasons 144 = .ok (.ireturn, 1) := by decide +kernel
theorem dX10_seasons_145 : decode cX10_seasons 145 = .ok (.iload_n 3, 1) := by decide +kernel
theorem dX10_seasons_146 : decode cX10_seasons 146 = .ok (.ifCond .ne 8, 3) := by decide +kernel
theorem dX10_seasons_149 : decode cX10_seasons 149 = .ok (.iload 5, 2) := by decide +kernel
theorem dX10_seasons_151 : decode cX10_seasons 151 = .ok (.goto 8, 3) := by decide +kernel
theorem dX10_seasons_154 : decode cX10_seasons 154 = .ok (.iload 6, 2) := by decide +kernel
theorem dX10_seasons_156 : decode cX10_seasons 156 = .ok (.invokestatic 168, 3) := by decide +kernel
theorem dX10_seasons_159 : decode cX10_seasons 159 = .ok (.ireturn, 1) := by decide +kernel
theorem dX10_image_0 : decode cX10_image 0 = .ok (.aload_n 0, 1) := by decide +kernel
theorem dX10_image_1 : decode cX10_image 1 = .ok (.invokevirtual 173, 3) := by decide +kernel
theorem dX10_image_4 : decode cX10_image 4 = .ok (.ifCond .ne 6, 3) := by decide +kernel
theorem dX10_image_7 : decode cX10_image 7 = .ok (.bipush (-103), 2) := by decide +kernel
theorem dX10_image_9 : decode cX10_image 9 = .ok (.ireturn, 1) := by decide +kernel
theorem dX10_image_10 : decode cX10_image 10 = .ok (.aload_n 0, 1) := by decide +kernel
theorem dX10_image_11 : decode cX10_image 11 = .ok (.getfield 36, 3) := by decide +kernel
theorem dX10_image_14 : decode cX10_image 14 = .ok (.aload_n 0, 1) := by decide +kernel
theorem dX10_image_15 : decode cX10_image 15 = .ok (.getfield 32, 3) := by decide +kernel
theorem dX10_image_18 : decode cX10_image 18 = .ok (.invokevirtual 219, 3) := by decide +kernel
theorem dX10_image_21 : decode cX10_image 21 = .ok (.aload_n 0, 1) := by decide +kernel
theorem dX10_image_22 : decode cX10_image 22 = .ok (.iconst 1, 1) := by decide +kernel
theorem dX10_image_23 : decode cX10_image 23 = .ok (.putfield 223, 3) := by decide +kernel
theorem dX10_image_26 : decode cX10_image 26 = .ok (.aload_n 0, 1) := by decide +kernel
theorem dX10_image_27 : decode cX10_image 27 = .ok (.getfield 32, 3) := by decide +kernel
theorem dX10_image_30 : decode cX10_image 30 = .ok (.getfield 176, 3) := by decide +kernel
theorem dX10_image_33 : decode cX10_image 33 = .ok (.ireturn, 1) := by decide +kernel
theorem dX10_restore_0 : decode cX10_restore 0 = .ok (.aload_n 0, 1) := by decide +kernel
theorem dX10_restore_1 : decode cX10_restore 1 = .ok (.getfield 223, 3) := by decide +kernel
theorem dX10_restore_4 : decode cX10_restore 4 = .ok (.ifCond .ne 6, 3) := by decide +kernel
theorem dX10_restore_7 : decode cX10_restore 7 = .ok (.bipush (-103), 2) := by decide +kernel
theorem dX10_restore_9 : decode cX10_restore 9 = .ok (.ireturn, 1) := by decide +kernel
theorem dX10_restore_10 : decode cX10_restore 10 = .ok (.aload_n 0, 1) := by decide +kernel
theorem dX10_restore_11 : decode cX10_restore 11 = .ok (.getfield 32, 3) := by decide +kernel
theorem dX10_restore_14 : decode cX10_restore 14 = .ok (.aload_n 0, 1) := by decide +kernel
theorem dX10_restore_15 : decode cX10_restore 15 = .ok (.getfield 36, 3) := by decide +kernel
theorem dX10_restore_18 : decode cX10_restore 18 = .ok (.invokevirtual 219, 3) := by decide +kernel
theorem dX10_restore_21 : decode cX10_restore 21 = .ok (.aload_n 0, 1) := by decide +kernel
theorem dX10_restore_22 : decode cX10_restore 22 = .ok (.getfield 32, 3) := by decide +kernel
theorem dX10_restore_25 : decode cX10_restore 25 = .ok (.getfield 176, 3) := by decide +kernel
theorem dX10_restore_28 : decode cX10_restore 28 = .ok (.ireturn, 1) := by decide +kernel
theorem dX10_count_0 : decode cX10_count 0 = .ok (.iload_n 1, 1) := by decide +kernel
theorem dX10_count_1 : decode cX10_count 1 = .ok (.tableswitch 164 0 11 #[63, 68, 73, 84, 92, 102, 110, 121, 132, 140, 151, 159], 63) := by decide +kernel
theorem dX10_count_64 : decode cX10_count 64 = .ok (.aload_n 0, 1) := by decide +kernel
theorem dX10_count_65 : decode cX10_count 65 = .ok (.getfield 72, 3) := by decide +kernel
theorem dX10_count_68 : decode cX10_count 68 = .ok (.ireturn, 1) := by decide +kernel
theorem dX10_count_69 : decode cX10_count 69 = .ok (.aload_n 0, 1) := by decide +kernel
theorem dX10_count_70 : decode cX10_count 70 = .ok (.getfield 197, 3) := by decide +kernel
theorem dX10_count_73 : decode cX10_count 73 = .ok (.ireturn, 1) := by decide +kernel
theorem dX10_count_74 : decode cX10_count 74 = .ok (.aload_n 0, 1) := by decide +kernel
theorem dX10_count_75 : decode cX10_count 75 = .ok (.getfield 32, 3) := by decide +kernel
theorem dX10_count_78 : decode cX10_count 78 = .ok (.getfield 86, 3) := by decide +kernel
theorem dX10_count_81 : decode cX10_count 81 = .ok (.invokestatic 168, 3) := by decide +kernel
theorem dX10_count_84 : decode cX10_count 84 = .ok (.ireturn, 1) := by decide +kernel
theorem dX10_count_85 : decode cX10_count 85 = .ok (.aload_n 0, 1) := by decide +kernel
theorem dX10_count_86 : decode cX10_count 86 = .ok (.getfield 32, 3) := by decide +kernel
theorem dX10_count_89 : decode cX10_count 89 = .ok (.getfield 159, 3) := by decide +kernel
theorem dX10_count_92 : decode cX10_count 92 = .ok (.ireturn, 1) := by decide +kernel
theorem dX10_count_93 : decode cX10_count 93 = .ok (.aload_n 0, 1) := by decide +kernel
theorem dX10_count_94 : decode cX10_count 94 = .ok (.getfield 32, 3) := by decide +kernel
theorem dX10_count_97 : decode cX10_count 97 = .ok (.getfield 146, 3) := by decide +kernel
theorem dX10_count_100 : decode cX10_count 100 = .ok (.iconst 1, 1) := by decide +kernel
theorem dX10_count_101 : decode cX10_count 101 = .ok (.iadd, 1) := by decide +kernel
theorem dX10_count_102 : decode cX10_count 102 = .ok (.ireturn, 1) := by decide +kernel
theorem dX10_count_103 : decode cX10_count 103 = .ok (.aload_n 0, 1) := by decide +kernel
theorem dX10_count_104 : decode cX10_count 104 = .ok (.getfield 32, 3) := by decide +kernel
theorem dX10_count_107 : decode cX10_count 107 = .ok (.getfield 176, 3) := by decide +kernel
theorem dX10_count_110 : decode cX10_count 110 = .ok (.ireturn, 1) := by decide +kernel
theorem dX10_count_111 : decode cX10_count 111 = .ok (.aload_n 0, 1) := by decide +kernel
theorem dX10_count_112 : decode cX10_count 112 = .ok (.getfield 32, 3) := by decide +kernel
theorem dX10_count_115 : decode cX10_count 115 = .ok (.getfield 89, 3) := by decide +kernel
theorem dX10_count_118 : decode cX10_count 118 = .ok (.invokestatic 227, 3) := by decide +kernel
theorem dX10_count_121 : decode cX10_count 121 = .ok (.ireturn, 1) := by decide +kernel
theorem dX10_count_122 : decode cX10_count 122 = .ok (.aload_n 0, 1) := by decide +kernel
theorem dX10_count_123 : decode cX10_count 123 = .ok (.getfield 32, 3) := by decide +kernel
theorem dX10_count_126 : decode cX10_count 126 = .ok (.getfield 92, 3) := by decide +kernel
theorem dX10_count_129 : decode cX10_count 129 = .ok (.invokestatic 227, 3) := by decide +kernel
theorem dX10_count_132 : decode cX10_count 132 = .ok (.ireturn, 1) := by decide +kernel
theorem dX10_count_133 : decode cX10_count 133 = .ok (.aload_n 0, 1) := by decide +kernel
theorem dX10_count_134 : decode cX10_count 134 = .ok (.getfield 32, 3) := by decide +kernel
theorem dX10_count_137 : decode cX10_count 137 = .ok (.getfield 161, 3) := by decide +kernel
theorem dX10_count_140 : decode cX10_count 140 = .ok (.ireturn, 1) := by decide +kernel
theorem dX10_count_141 : decode cX10_count 141 = .ok (.aload_n 0, 1) := by decide +kernel
theorem dX10_count_142 : decode cX10_count 142 = .ok (.getfield 32, 3) := by decide +kernel
theorem dX10_count_145 : decode cX10_count 145 = .ok (.getfield 123, 3) := by decide +kernel
theorem dX10_count_148 : decode cX10_count 148 = .ok (.getfield 206, 3) := by decide +kernel
theorem dX10_count_151 : decode cX10_count 151 = .ok (.ireturn, 1) := by decide +kernel
theorem dX10_count_152 : decode cX10_count 152 = .ok (.aload_n 0, 1) := by decide +kernel
theorem dX10_count_153 : decode cX10_count 153 = .ok (.getfield 10, 3) := by decide +kernel
theorem dX10_count_156 : decode cX10_count 156 = .ok (.getfield 50, 3) := by decide +kernel
theorem dX10_count_159 : decode cX10_count 159 = .ok (.ireturn, 1) := by decide +kernel
theorem dX10_count_160 : decode cX10_count 160 = .ok (.aload_n 0, 1) := by decide +kernel
theorem dX10_count_161 : decode cX10_count 161 = .ok (.getfield 69, 3) := by decide +kernel
theorem dX10_count_164 : decode cX10_count 164 = .ok (.ireturn, 1) := by decide +kernel
theorem dX10_count_165 : decode cX10_count 165 = .ok (.bipush (-102), 2) := by decide +kernel
theorem dX10_count_167 : decode cX10_count 167 = .ok (.ireturn, 1) := by decide +kernel
theorem dX10_digest_0 : decode cX10_digest 0 = .ok (.ldc2_w 231, 3) := by decide +kernel
theorem dX10_digest_3 : decode cX10_digest 3 = .ok (.lstore_n 1, 1) := by decide +kernel
theorem dX10_digest_4 : decode cX10_digest 4 = .ok (.iconst 0, 1) := by decide +kernel
theorem dX10_digest_5 : decode cX10_digest 5 = .ok (.istore_n 3, 1) := by decide +kernel
theorem dX10_digest_6 : decode cX10_digest 6 = .ok (.iload_n 3, 1) := by decide +kernel
theorem dX10_digest_7 : decode cX10_digest 7 = .ok (.aload_n 0, 1) := by decide +kernel
theorem dX10_digest_8 : decode cX10_digest 8 = .ok (.getfield 72, 3) := by decide +kernel
theorem dX10_digest_11 : decode cX10_digest 11 = .ok (.if_icmp .ge 39, 3) := by decide +kernel
theorem dX10_digest_14 : decode cX10_digest 14 = .ok (.iconst 0, 1) := by decide +kernel
theorem dX10_digest_15 : decode cX10_digest 15 = .ok (.istore 4, 2) := by decide +kernel
theorem dX10_digest_17 : decode cX10_digest 17 = .ok (.iload 4, 2) := by decide +kernel
theorem dX10_digest_19 : decode cX10_digest 19 = .ok (.iconst 4, 1) := by decide +kernel
theorem dX10_digest_20 : decode cX10_digest 20 = .ok (.if_icmp .gt 24, 3) := by decide +kernel
theorem dX10_digest_23 : decode cX10_digest 23 = .ok (.ldc2_w 233, 3) := by decide +kernel
theorem dX10_digest_26 : decode cX10_digest 26 = .ok (.lload_n 1, 1) := by decide +kernel
theorem dX10_digest_27 : decode cX10_digest 27 = .ok (.lmul, 1) := by decide +kernel
theorem dX10_digest_28 : decode cX10_digest 28 = .ok (.aload_n 0, 1) := by decide +kernel
theorem dX10_digest_29 : decode cX10_digest 29 = .ok (.iload_n 3, 1) := by decide +kernel
theorem dX10_digest_30 : decode cX10_digest 30 = .ok (.iload 4, 2) := by decide +kernel
theorem dX10_digest_32 : decode cX10_digest 32 = .ok (.invokevirtual 235, 3) := by decide +kernel
theorem dX10_digest_35 : decode cX10_digest 35 = .ok (.i2l, 1) := by decide +kernel
theorem dX10_digest_36 : decode cX10_digest 36 = .ok (.ladd, 1) := by decide +kernel
theorem dX10_digest_37 : decode cX10_digest 37 = .ok (.lstore_n 1, 1) := by decide +kernel
theorem dX10_digest_38 : decode cX10_digest 38 = .ok (.iinc 4 1, 3) := by decide +kernel
theorem dX10_digest_41 : decode cX10_digest 41 = .ok (.goto (-24), 3) := by decide +kernel
theorem dX10_digest_44 : decode cX10_digest 44 = .ok (.iinc 3 1, 3) := by decide +kernel
theorem dX10_digest_47 : decode cX10_digest 47 = .ok (.goto (-41), 3) := by decide +kernel
theorem dX10_digest_50 : decode cX10_digest 50 = .ok (.iconst 0, 1) := by decide +kernel
theorem dX10_digest_51 : decode cX10_digest 51 = .ok (.istore_n 3, 1) := by decide +kernel
theorem dX10_digest_52 : decode cX10_digest 52 = .ok (.iload_n 3, 1) := by decide +kernel
theorem dX10_digest_53 : decode cX10_digest 53 = .ok (.aload_n 0, 1) := by decide +kernel
theorem dX10_digest_54 : decode cX10_digest 54 = .ok (.getfield 197, 3) := by decide +kernel
theorem dX10_digest_57 : decode cX10_digest 57 = .ok (.if_icmp .ge 70, 3) := by decide +kernel
theorem dX10_digest_60 : decode cX10_digest 60 = .ok (.iconst 0, 1) := by decide +kernel
theorem dX10_digest_61 : decode cX10_digest 61 = .ok (.istore 4, 2) := by decide +kernel
theorem dX10_digest_63 : decode cX10_digest 63 = .ok (.iload 4, 2) := by decide +kernel
theorem dX10_digest_65 : decode cX10_digest 65 = .ok (.bipush 8, 2) := by decide +kernel
theorem dX10_digest_67 : decode cX10_digest 67 = .ok (.if_icmp .gt 24, 3) := by decide +kernel
theorem dX10_digest_70 : decode cX10_digest 70 = .ok (.ldc2_w 233, 3) := by decide +kernel
theorem dX10_digest_73 : decode cX10_digest 73 = .ok (.lload_n 1, 1) := by decide +kernel
theorem dX10_digest_74 : decode cX10_digest 74 = .ok (.lmul, 1) := by decide +kernel
theorem dX10_digest_75 : decode cX10_digest 75 = .ok (.aload_n 0, 1) := by decide +kernel
theorem dX10_digest_76 : decode cX10_digest 76 = .ok (.iload_n 3, 1) := by decide +kernel
theorem dX10_digest_77 : decode cX10_digest 77 = .ok (.iload 4, 2) := by decide +kernel
theorem dX10_digest_79 : decode cX10_digest 79 = .ok (.invokevirtual 238, 3) := by decide +kernel
theorem dX10_digest_82 : decode cX10_digest 82 = .ok (.i2l, 1) := by decide +kernel
theorem dX10_digest_83 : decode cX10_digest 83 = .ok (.ladd, 1) := by decide +kernel
theorem dX10_digest_84 : decode cX10_digest 84 = .ok (.lstore_n 1, 1) := by decide +kernel
theorem dX10_digest_85 : decode cX10_digest 85 = .ok (.iinc 4 1, 3) := by decide +kernel
theorem dX10_digest_88 : decode cX10_digest 88 = .ok (.goto (-25), 3) := by decide +kernel
theorem dX10_digest_91 : decode cX10_digest 91 = .ok (.ldc2_w 233, 3) := by decide +kernel
