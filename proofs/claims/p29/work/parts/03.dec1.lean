theorem dX0_init_0 : decode cX0_init 0 = .ok (.aload_n 0, 1) := by decide +kernel
theorem dX0_init_1 : decode cX0_init 1 = .ok (.invokespecial 3, 3) := by decide +kernel
theorem dX0_init_4 : decode cX0_init 4 = .ok (.return_, 1) := by decide +kernel
theorem dX0_kind_0 : decode cX0_kind 0 = .ok (.iconst 1, 1) := by decide +kernel
theorem dX0_kind_1 : decode cX0_kind 1 = .ok (.ireturn, 1) := by decide +kernel
theorem dX0_batter_0 : decode cX0_batter 0 = .ok (.iconst 2, 1) := by decide +kernel
theorem dX0_batter_1 : decode cX0_batter 1 = .ok (.ireturn, 1) := by decide +kernel
theorem dX0_spreads_0 : decode cX0_spreads 0 = .ok (.iload_n 1, 1) := by decide +kernel
theorem dX0_spreads_1 : decode cX0_spreads 1 = .ok (.invokestatic 9, 3) := by decide +kernel
theorem dX0_spreads_4 : decode cX0_spreads 4 = .ok (.iconst 1, 1) := by decide +kernel
theorem dX0_spreads_5 : decode cX0_spreads 5 = .ok (.if_icmp .gt 18, 3) := by decide +kernel
theorem dX0_spreads_8 : decode cX0_spreads 8 = .ok (.iload_n 1, 1) := by decide +kernel
theorem dX0_spreads_9 : decode cX0_spreads 9 = .ok (.invokestatic 9, 3) := by decide +kernel
theorem dX0_spreads_12 : decode cX0_spreads 12 = .ok (.iload_n 2, 1) := by decide +kernel
theorem dX0_spreads_13 : decode cX0_spreads 13 = .ok (.invokestatic 9, 3) := by decide +kernel
theorem dX0_spreads_16 : decode cX0_spreads 16 = .ok (.if_icmp .ne 7, 3) := by decide +kernel
theorem dX0_spreads_19 : decode cX0_spreads 19 = .ok (.iconst 1, 1) := by decide +kernel
theorem dX0_spreads_20 : decode cX0_spreads 20 = .ok (.goto 4, 3) := by decide +kernel
theorem dX0_spreads_23 : decode cX0_spreads 23 = .ok (.iconst 0, 1) := by decide +kernel
theorem dX0_spreads_24 : decode cX0_spreads 24 = .ok (.ireturn, 1) := by decide +kernel
theorem dX1_init_0 : decode cX1_init 0 = .ok (.aload_n 0, 1) := by decide +kernel
theorem dX1_init_1 : decode cX1_init 1 = .ok (.invokespecial 3, 3) := by decide +kernel
theorem dX1_init_4 : decode cX1_init 4 = .ok (.return_, 1) := by decide +kernel
theorem dX1_kind_0 : decode cX1_kind 0 = .ok (.iconst 4, 1) := by decide +kernel
theorem dX1_kind_1 : decode cX1_kind 1 = .ok (.ireturn, 1) := by decide +kernel
theorem dX1_batter_0 : decode cX1_batter 0 = .ok (.iconst 4, 1) := by decide +kernel
theorem dX1_batter_1 : decode cX1_batter 1 = .ok (.ireturn, 1) := by decide +kernel
theorem dX1_spreads_0 : decode cX1_spreads 0 = .ok (.aload_n 0, 1) := by decide +kernel
theorem dX1_spreads_1 : decode cX1_spreads 1 = .ok (.iload_n 1, 1) := by decide +kernel
theorem dX1_spreads_2 : decode cX1_spreads 2 = .ok (.iload_n 2, 1) := by decide +kernel
theorem dX1_spreads_3 : decode cX1_spreads 3 = .ok (.invokespecial 9, 3) := by decide +kernel
theorem dX1_spreads_6 : decode cX1_spreads 6 = .ok (.ifCond .eq 15, 3) := by decide +kernel
theorem dX1_spreads_9 : decode cX1_spreads 9 = .ok (.iload_n 1, 1) := by decide +kernel
theorem dX1_spreads_10 : decode cX1_spreads 10 = .ok (.ifCond .ne 7, 3) := by decide +kernel
theorem dX1_spreads_13 : decode cX1_spreads 13 = .ok (.iload_n 2, 1) := by decide +kernel
theorem dX1_spreads_14 : decode cX1_spreads 14 = .ok (.ifCond .eq 7, 3) := by decide +kernel
theorem dX1_spreads_17 : decode cX1_spreads 17 = .ok (.iconst 1, 1) := by decide +kernel
theorem dX1_spreads_18 : decode cX1_spreads 18 = .ok (.goto 4, 3) := by decide +kernel
theorem dX1_spreads_21 : decode cX1_spreads 21 = .ok (.iconst 0, 1) := by decide +kernel
theorem dX1_spreads_22 : decode cX1_spreads 22 = .ok (.ireturn, 1) := by decide +kernel
theorem dX2_init_0 : decode cX2_init 0 = .ok (.aload_n 0, 1) := by decide +kernel
theorem dX2_init_1 : decode cX2_init 1 = .ok (.invokespecial 3, 3) := by decide +kernel
theorem dX2_init_4 : decode cX2_init 4 = .ok (.aload_n 0, 1) := by decide +kernel
theorem dX2_init_5 : decode cX2_init 5 = .ok (.bipush 6, 2) := by decide +kernel
theorem dX2_init_7 : decode cX2_init 7 = .ok (.newarray .int, 2) := by decide +kernel
theorem dX2_init_9 : decode cX2_init 9 = .ok (.putfield 9, 3) := by decide +kernel
theorem dX2_init_12 : decode cX2_init 12 = .ok (.aload_n 0, 1) := by decide +kernel
theorem dX2_init_13 : decode cX2_init 13 = .ok (.bipush 6, 2) := by decide +kernel
theorem dX2_init_15 : decode cX2_init 15 = .ok (.newarray .int, 2) := by decide +kernel
theorem dX2_init_17 : decode cX2_init 17 = .ok (.putfield 15, 3) := by decide +kernel
theorem dX2_init_20 : decode cX2_init 20 = .ok (.aload_n 0, 1) := by decide +kernel
theorem dX2_init_21 : decode cX2_init 21 = .ok (.bipush 6, 2) := by decide +kernel
theorem dX2_init_23 : decode cX2_init 23 = .ok (.newarray .int, 2) := by decide +kernel
theorem dX2_init_25 : decode cX2_init 25 = .ok (.putfield 18, 3) := by decide +kernel
theorem dX2_init_28 : decode cX2_init 28 = .ok (.aload_n 0, 1) := by decide +kernel
theorem dX2_init_29 : decode cX2_init 29 = .ok (.iconst 4, 1) := by decide +kernel
theorem dX2_init_30 : decode cX2_init 30 = .ok (.newarray .int, 2) := by decide +kernel
theorem dX2_init_32 : decode cX2_init 32 = .ok (.putfield 21, 3) := by decide +kernel
theorem dX2_init_35 : decode cX2_init 35 = .ok (.aload_n 0, 1) := by decide +kernel
theorem dX2_init_36 : decode cX2_init 36 = .ok (.iconst 4, 1) := by decide +kernel
theorem dX2_init_37 : decode cX2_init 37 = .ok (.newarray .int, 2) := by decide +kernel
theorem dX2_init_39 : decode cX2_init 39 = .ok (.putfield 24, 3) := by decide +kernel
theorem dX2_init_42 : decode cX2_init 42 = .ok (.aload_n 0, 1) := by decide +kernel
theorem dX2_init_43 : decode cX2_init 43 = .ok (.iconst 4, 1) := by decide +kernel
theorem dX2_init_44 : decode cX2_init 44 = .ok (.newarray .int, 2) := by decide +kernel
theorem dX2_init_46 : decode cX2_init 46 = .ok (.putfield 27, 3) := by decide +kernel
theorem dX2_init_49 : decode cX2_init 49 = .ok (.aload_n 0, 1) := by decide +kernel
theorem dX2_init_50 : decode cX2_init 50 = .ok (.new 30, 3) := by decide +kernel
theorem dX2_init_53 : decode cX2_init 53 = .ok (.dup, 1) := by decide +kernel
theorem dX2_init_54 : decode cX2_init 54 = .ok (.invokespecial 32, 3) := by decide +kernel
theorem dX2_init_57 : decode cX2_init 57 = .ok (.putfield 33, 3) := by decide +kernel
theorem dX2_init_60 : decode cX2_init 60 = .ok (.return_, 1) := by decide +kernel
theorem dX2_begin_0 : decode cX2_begin 0 = .ok (.aload_n 1, 1) := by decide +kernel
theorem dX2_begin_1 : decode cX2_begin 1 = .ok (.ifnonnull 4, 3) := by decide +kernel
theorem dX2_begin_4 : decode cX2_begin 4 = .ok (.return_, 1) := by decide +kernel
theorem dX2_begin_5 : decode cX2_begin 5 = .ok (.aload_n 1, 1) := by decide +kernel
theorem dX2_begin_6 : decode cX2_begin 6 = .ok (.getfield 37, 3) := by decide +kernel
theorem dX2_begin_9 : decode cX2_begin 9 = .ok (.aload_n 0, 1) := by decide +kernel
theorem dX2_begin_10 : decode cX2_begin 10 = .ok (.getfield 9, 3) := by decide +kernel
theorem dX2_begin_13 : decode cX2_begin 13 = .ok (.invokestatic 40, 3) := by decide +kernel
theorem dX2_begin_16 : decode cX2_begin 16 = .ok (.aload_n 1, 1) := by decide +kernel
theorem dX2_begin_17 : decode cX2_begin 17 = .ok (.getfield 44, 3) := by decide +kernel
theorem dX2_begin_20 : decode cX2_begin 20 = .ok (.aload_n 0, 1) := by decide +kernel
theorem dX2_begin_21 : decode cX2_begin 21 = .ok (.getfield 21, 3) := by decide +kernel
theorem dX2_begin_24 : decode cX2_begin 24 = .ok (.invokestatic 40, 3) := by decide +kernel
theorem dX2_begin_27 : decode cX2_begin 27 = .ok (.aload_n 1, 1) := by decide +kernel
theorem dX2_begin_28 : decode cX2_begin 28 = .ok (.getfield 45, 3) := by decide +kernel
theorem dX2_begin_31 : decode cX2_begin 31 = .ok (.aload_n 0, 1) := by decide +kernel
theorem dX2_begin_32 : decode cX2_begin 32 = .ok (.getfield 24, 3) := by decide +kernel
theorem dX2_begin_35 : decode cX2_begin 35 = .ok (.invokestatic 40, 3) := by decide +kernel
theorem dX2_begin_38 : decode cX2_begin 38 = .ok (.aload_n 0, 1) := by decide +kernel
theorem dX2_begin_39 : decode cX2_begin 39 = .ok (.getfield 15, 3) := by decide +kernel
theorem dX2_begin_42 : decode cX2_begin 42 = .ok (.invokestatic 46, 3) := by decide +kernel
theorem dX2_begin_45 : decode cX2_begin 45 = .ok (.aload_n 0, 1) := by decide +kernel
theorem dX2_begin_46 : decode cX2_begin 46 = .ok (.getfield 18, 3) := by decide +kernel
theorem dX2_begin_49 : decode cX2_begin 49 = .ok (.invokestatic 46, 3) := by decide +kernel
theorem dX2_begin_52 : decode cX2_begin 52 = .ok (.aload_n 0, 1) := by decide +kernel
theorem dX2_begin_53 : decode cX2_begin 53 = .ok (.getfield 27, 3) := by decide +kernel
theorem dX2_begin_56 : decode cX2_begin 56 = .ok (.invokestatic 46, 3) := by decide +kernel
theorem dX2_begin_59 : decode cX2_begin 59 = .ok (.aload_n 0, 1) := by decide +kernel
theorem dX2_begin_60 : decode cX2_begin 60 = .ok (.getfield 33, 3) := by decide +kernel
theorem dX2_begin_63 : decode cX2_begin 63 = .ok (.iconst 0, 1) := by decide +kernel
theorem dX2_begin_64 : decode cX2_begin 64 = .ok (.putfield 50, 3) := by decide +kernel
theorem dX2_begin_67 : decode cX2_begin 67 = .ok (.aload_n 0, 1) := by decide +kernel
theorem dX2_begin_68 : decode cX2_begin 68 = .ok (.iconst 0, 1) := by decide +kernel
theorem dX2_begin_69 : decode cX2_begin 69 = .ok (.putfield 54, 3) := by decide +kernel
theorem dX2_begin_72 : decode cX2_begin 72 = .ok (.aload_n 0, 1) := by decide +kernel
theorem dX2_begin_73 : decode cX2_begin 73 = .ok (.iconst 0, 1) := by decide +kernel
theorem dX2_begin_74 : decode cX2_begin 74 = .ok (.putfield 57, 3) := by decide +kernel
theorem dX2_begin_77 : decode cX2_begin 77 = .ok (.aload_n 0, 1) := by decide +kernel
theorem dX2_begin_78 : decode cX2_begin 78 = .ok (.bipush 60, 2) := by decide +kernel
theorem dX2_begin_80 : decode cX2_begin 80 = .ok (.putfield 60, 3) := by decide +kernel
theorem dX2_begin_83 : decode cX2_begin 83 = .ok (.aload_n 0, 1) := by decide +kernel
theorem dX2_begin_84 : decode cX2_begin 84 = .ok (.iconst 0, 1) := by decide +kernel
theorem dX2_begin_85 : decode cX2_begin 85 = .ok (.putfield 63, 3) := by decide +kernel
theorem dX2_begin_88 : decode cX2_begin 88 = .ok (.aload_n 0, 1) := by decide +kernel
theorem dX2_begin_89 : decode cX2_begin 89 = .ok (.iconst 0, 1) := by decide +kernel
theorem dX2_begin_90 : decode cX2_begin 90 = .ok (.putfield 66, 3) := by decide +kernel
theorem dX2_begin_93 : decode cX2_begin 93 = .ok (.return_, 1) := by decide +kernel
theorem dX2_wake_0 : decode cX2_wake 0 = .ok (.iconst 0, 1) := by decide +kernel
theorem dX2_wake_1 : decode cX2_wake 1 = .ok (.istore_n 2, 1) := by decide +kernel
theorem dX2_wake_2 : decode cX2_wake 2 = .ok (.iload_n 2, 1) := by decide +kernel
theorem dX2_wake_3 : decode cX2_wake 3 = .ok (.iload_n 1, 1) := by decide +kernel
theorem dX2_wake_4 : decode cX2_wake 4 = .ok (.if_icmp .ge 45, 3) := by decide +kernel
theorem dX2_wake_7 : decode cX2_wake 7 = .ok (.aload_n 0, 1) := by decide +kernel
theorem dX2_wake_8 : decode cX2_wake 8 = .ok (.getfield 54, 3) := by decide +kernel
theorem dX2_wake_11 : decode cX2_wake 11 = .ok (.iload_n 2, 1) := by decide +kernel
theorem dX2_wake_12 : decode cX2_wake 12 = .ok (.ishr, 1) := by decide +kernel
theorem dX2_wake_13 : decode cX2_wake 13 = .ok (.iconst 1, 1) := by decide +kernel
theorem dX2_wake_14 : decode cX2_wake 14 = .ok (.iand, 1) := by decide +kernel
theorem dX2_wake_15 : decode cX2_wake 15 = .ok (.iconst 1, 1) := by decide +kernel
theorem dX2_wake_16 : decode cX2_wake 16 = .ok (.if_icmp .ne 10, 3) := by decide +kernel
theorem dX2_wake_19 : decode cX2_wake 19 = .ok (.aload_n 0, 1) := by decide +kernel
theorem dX2_wake_20 : decode cX2_wake 20 = .ok (.getfield 15, 3) := by decide +kernel
theorem dX2_wake_23 : decode cX2_wake 23 = .ok (.goto 7, 3) := by decide +kernel
theorem dX2_wake_26 : decode cX2_wake 26 = .ok (.aload_n 0, 1) := by decide +kernel
theorem dX2_wake_27 : decode cX2_wake 27 = .ok (.getfield 18, 3) := by decide +kernel
theorem dX2_wake_30 : decode cX2_wake 30 = .ok (.astore_n 3, 1) := by decide +kernel
theorem dX2_wake_31 : decode cX2_wake 31 = .ok (.aload_n 3, 1) := by decide +kernel
theorem dX2_wake_32 : decode cX2_wake 32 = .ok (.iload_n 2, 1) := by decide +kernel
theorem dX2_wake_33 : decode cX2_wake 33 = .ok (.aload_n 3, 1) := by decide +kernel
theorem dX2_wake_34 : decode cX2_wake 34 = .ok (.iload_n 2, 1) := by decide +kernel
theorem dX2_wake_35 : decode cX2_wake 35 = .ok (.invokestatic 69, 3) := by decide +kernel
theorem dX2_wake_38 : decode cX2_wake 38 = .ok (.iconst 1, 1) := by decide +kernel
theorem dX2_wake_39 : decode cX2_wake 39 = .ok (.iadd, 1) := by decide +kernel
theorem dX2_wake_40 : decode cX2_wake 40 = .ok (.invokestatic 73, 3) := by decide +kernel
theorem dX2_wake_43 : decode cX2_wake 43 = .ok (.iinc 2 1, 3) := by decide +kernel
theorem dX2_wake_46 : decode cX2_wake 46 = .ok (.goto (-44), 3) := by decide +kernel
theorem dX2_wake_49 : decode cX2_wake 49 = .ok (.aload_n 0, 1) := by decide +kernel
theorem dX2_wake_50 : decode cX2_wake 50 = .ok (.iconst 0, 1) := by decide +kernel
theorem dX2_wake_51 : decode cX2_wake 51 = .ok (.putfield 54, 3) := by decide +kernel
theorem dX2_wake_54 : decode cX2_wake 54 = .ok (.aload_n 0, 1) := by decide +kernel
theorem dX2_wake_55 : decode cX2_wake 55 = .ok (.dup, 1) := by decide +kernel
theorem dX2_wake_56 : decode cX2_wake 56 = .ok (.getfield 63, 3) := by decide +kernel
theorem dX2_wake_59 : decode cX2_wake 59 = .ok (.iconst 1, 1) := by decide +kernel
theorem dX2_wake_60 : decode cX2_wake 60 = .ok (.iadd, 1) := by decide +kernel
theorem dX2_wake_61 : decode cX2_wake 61 = .ok (.putfield 63, 3) := by decide +kernel
theorem dX2_wake_64 : decode cX2_wake 64 = .ok (.return_, 1) := by decide +kernel
theorem dX3_init_0 : decode cX3_init 0 = .ok (.aload_n 0, 1) := by decide +kernel
theorem dX3_init_1 : decode cX3_init 1 = .ok (.invokespecial 3, 3) := by decide +kernel
theorem dX3_init_4 : decode cX3_init 4 = .ok (.aload_n 0, 1) := by decide +kernel
theorem dX3_init_5 : decode cX3_init 5 = .ok (.bipush 36, 2) := by decide +kernel
theorem dX3_init_7 : decode cX3_init 7 = .ok (.newarray .int, 2) := by decide +kernel
theorem dX3_init_9 : decode cX3_init 9 = .ok (.putfield 9, 3) := by decide +kernel
theorem dX3_init_12 : decode cX3_init 12 = .ok (.return_, 1) := by decide +kernel
theorem dX3_append_0 : decode cX3_append 0 = .ok (.aload_n 0, 1) := by decide +kernel
theorem dX3_append_1 : decode cX3_append 1 = .ok (.getfield 9, 3) := by decide +kernel
theorem dX3_append_4 : decode cX3_append 4 = .ok (.aload_n 0, 1) := by decide +kernel
theorem dX3_append_5 : decode cX3_append 5 = .ok (.getfield 15, 3) := by decide +kernel
theorem dX3_append_8 : decode cX3_append 8 = .ok (.iload_n 1, 1) := by decide +kernel
theorem dX3_append_9 : decode cX3_append 9 = .ok (.invokestatic 19, 3) := by decide +kernel
theorem dX3_append_12 : decode cX3_append 12 = .ok (.aload_n 0, 1) := by decide +kernel
theorem dX3_append_13 : decode cX3_append 13 = .ok (.dup, 1) := by decide +kernel
theorem dX3_append_14 : decode cX3_append 14 = .ok (.getfield 15, 3) := by decide +kernel
theorem dX3_append_17 : decode cX3_append 17 = .ok (.iconst 1, 1) := by decide +kernel
theorem dX3_append_18 : decode cX3_append 18 = .ok (.iadd, 1) := by decide +kernel
theorem dX3_append_19 : decode cX3_append 19 = .ok (.putfield 15, 3) := by decide +kernel
theorem dX3_append_22 : decode cX3_append 22 = .ok (.return_, 1) := by decide +kernel
theorem dX4_init_0 : decode cX4_init 0 = .ok (.aload_n 0, 1) := by decide +kernel
theorem dX4_init_1 : decode cX4_init 1 = .ok (.invokespecial 3, 3) := by decide +kernel
theorem dX4_init_4 : decode cX4_init 4 = .ok (.aload_n 0, 1) := by decide +kernel
theorem dX4_init_5 : decode cX4_init 5 = .ok (.sipush 144, 3) := by decide +kernel
theorem dX4_init_8 : decode cX4_init 8 = .ok (.newarray .int, 2) := by decide +kernel
theorem dX4_init_10 : decode cX4_init 10 = .ok (.putfield 9, 3) := by decide +kernel
theorem dX4_init_13 : decode cX4_init 13 = .ok (.aload_n 0, 1) := by decide +kernel
theorem dX4_init_14 : decode cX4_init 14 = .ok (.sipush 144, 3) := by decide +kernel
theorem dX4_init_17 : decode cX4_init 17 = .ok (.newarray .int, 2) := by decide +kernel
theorem dX4_init_19 : decode cX4_init 19 = .ok (.putfield 15, 3) := by decide +kernel
theorem dX4_init_22 : decode cX4_init 22 = .ok (.aload_n 0, 1) := by decide +kernel
theorem dX4_init_23 : decode cX4_init 23 = .ok (.bipush 64, 2) := by decide +kernel
theorem dX4_init_25 : decode cX4_init 25 = .ok (.newarray .int, 2) := by decide +kernel
theorem dX4_init_27 : decode cX4_init 27 = .ok (.putfield 18, 3) := by decide +kernel
theorem dX4_init_30 : decode cX4_init 30 = .ok (.aload_n 0, 1) := by decide +kernel
theorem dX4_init_31 : decode cX4_init 31 = .ok (.bipush 64, 2) := by decide +kernel
theorem dX4_init_33 : decode cX4_init 33 = .ok (.newarray .int, 2) := by decide +kernel
theorem dX4_init_35 : decode cX4_init 35 = .ok (.putfield 21, 3) := by decide +kernel
theorem dX4_init_38 : decode cX4_init 38 = .ok (.aload_n 0, 1) := by decide +kernel
theorem dX4_init_39 : decode cX4_init 39 = .ok (.bipush 6, 2) := by decide +kernel
theorem dX4_init_41 : decode cX4_init 41 = .ok (.newarray .int, 2) := by decide +kernel
theorem dX4_init_43 : decode cX4_init 43 = .ok (.putfield 24, 3) := by decide +kernel
theorem dX4_init_46 : decode cX4_init 46 = .ok (.return_, 1) := by decide +kernel
theorem dX5_init_0 : decode cX5_init 0 = .ok (.aload_n 0, 1) := by decide +kernel
theorem dX5_init_1 : decode cX5_init 1 = .ok (.invokespecial 3, 3) := by decide +kernel
theorem dX5_init_4 : decode cX5_init 4 = .ok (.aload_n 0, 1) := by decide +kernel
theorem dX5_init_5 : decode cX5_init 5 = .ok (.bipush 6, 2) := by decide +kernel
theorem dX5_init_7 : decode cX5_init 7 = .ok (.newarray .int, 2) := by decide +kernel
theorem dX5_init_9 : decode cX5_init 9 = .ok (.putfield 9, 3) := by decide +kernel
theorem dX5_init_12 : decode cX5_init 12 = .ok (.aload_n 0, 1) := by decide +kernel
theorem dX5_init_13 : decode cX5_init 13 = .ok (.iconst 4, 1) := by decide +kernel
theorem dX5_init_14 : decode cX5_init 14 = .ok (.newarray .int, 2) := by decide +kernel
theorem dX5_init_16 : decode cX5_init 16 = .ok (.putfield 15, 3) := by decide +kernel
theorem dX5_init_19 : decode cX5_init 19 = .ok (.aload_n 0, 1) := by decide +kernel
theorem dX5_init_20 : decode cX5_init 20 = .ok (.iconst 4, 1) := by decide +kernel
theorem dX5_init_21 : decode cX5_init 21 = .ok (.newarray .int, 2) := by decide +kernel
theorem dX5_init_23 : decode cX5_init 23 = .ok (.putfield 18, 3) := by decide +kernel
theorem dX5_init_26 : decode cX5_init 26 = .ok (.aload_n 0, 1) := by decide +kernel
theorem dX5_init_27 : decode cX5_init 27 = .ok (.iconst 4, 1) := by decide +kernel
theorem dX5_init_28 : decode cX5_init 28 = .ok (.newarray .int, 2) := by decide +kernel
theorem dX5_init_30 : decode cX5_init 30 = .ok (.putfield 21, 3) := by decide +kernel
theorem dX5_init_33 : decode cX5_init 33 = .ok (.return_, 1) := by decide +kernel
theorem dX5_read_0 : decode cX5_read 0 = .ok (.aload_n 0, 1) := by decide +kernel
theorem dX5_read_1 : decode cX5_read 1 = .ok (.iconst 0, 1) := by decide +kernel
theorem dX5_read_2 : decode cX5_read 2 = .ok (.putfield 24, 3) := by decide +kernel
theorem dX5_read_5 : decode cX5_read 5 = .ok (.aload_n 0, 1) := by decide +kernel
theorem dX5_read_6 : decode cX5_read 6 = .ok (.iconst 0, 1) := by decide +kernel
theorem dX5_read_7 : decode cX5_read 7 = .ok (.putfield 28, 3) := by decide +kernel
theorem dX5_read_10 : decode cX5_read 10 = .ok (.aload_n 0, 1) := by decide +kernel
theorem dX5_read_11 : decode cX5_read 11 = .ok (.iconst 0, 1) := by decide +kernel
theorem dX5_read_12 : decode cX5_read 12 = .ok (.putfield 31, 3) := by decide +kernel
theorem dX5_read_15 : decode cX5_read 15 = .ok (.aload_n 1, 1) := by decide +kernel
theorem dX5_read_16 : decode cX5_read 16 = .ok (.ifnonnull 7, 3) := by decide +kernel
theorem dX5_read_19 : decode cX5_read 19 = .ok (.iconst 0, 1) := by decide +kernel
theorem dX5_read_20 : decode cX5_read 20 = .ok (.goto 7, 3) := by decide +kernel
theorem dX5_read_23 : decode cX5_read 23 = .ok (.aload_n 1, 1) := by decide +kernel
theorem dX5_read_24 : decode cX5_read 24 = .ok (.getfield 34, 3) := by decide +kernel
theorem dX5_read_27 : decode cX5_read 27 = .ok (.istore_n 2, 1) := by decide +kernel
theorem dX5_read_28 : decode cX5_read 28 = .ok (.iconst 0, 1) := by decide +kernel
theorem dX5_read_29 : decode cX5_read 29 = .ok (.istore_n 3, 1) := by decide +kernel
theorem dX5_read_30 : decode cX5_read 30 = .ok (.iload_n 3, 1) := by decide +kernel
theorem dX5_read_31 : decode cX5_read 31 = .ok (.iload_n 2, 1) := by decide +kernel
theorem dX5_read_32 : decode cX5_read 32 = .ok (.if_icmp .ge 26, 3) := by decide +kernel
theorem dX5_read_35 : decode cX5_read 35 = .ok (.aload_n 0, 1) := by decide +kernel
theorem dX5_read_36 : decode cX5_read 36 = .ok (.aload_n 1, 1) := by decide +kernel
theorem dX5_read_37 : decode cX5_read 37 = .ok (.getfield 39, 3) := by decide +kernel
theorem dX5_read_40 : decode cX5_read 40 = .ok (.iload_n 3, 1) := by decide +kernel
theorem dX5_read_41 : decode cX5_read 41 = .ok (.invokestatic 42, 3) := by decide +kernel
theorem dX5_read_44 : decode cX5_read 44 = .ok (.invokevirtual 46, 3) := by decide +kernel
theorem dX5_read_47 : decode cX5_read 47 = .ok (.ifCond .ne 5, 3) := by decide +kernel
theorem dX5_read_50 : decode cX5_read 50 = .ok (.iload_n 3, 1) := by decide +kernel
theorem dX5_read_51 : decode cX5_read 51 = .ok (.ireturn, 1) := by decide +kernel
theorem dX5_read_52 : decode cX5_read 52 = .ok (.iinc 3 1, 3) := by decide +kernel
theorem dX5_read_55 : decode cX5_read 55 = .ok (.goto (-25), 3) := by decide +kernel
theorem dX5_read_58 : decode cX5_read 58 = .ok (.iload_n 2, 1) := by decide +kernel
theorem dX5_read_59 : decode cX5_read 59 = .ok (.ireturn, 1) := by decide +kernel
theorem dX5_isWhole_0 : decode cX5_isWhole 0 = .ok (.aload_n 0, 1) := by decide +kernel
theorem dX5_isWhole_1 : decode cX5_isWhole 1 = .ok (.getfield 31, 3) := by decide +kernel
theorem dX5_isWhole_4 : decode cX5_isWhole 4 = .ok (.bipush 6, 2) := by decide +kernel
theorem dX5_isWhole_6 : decode cX5_isWhole 6 = .ok (.if_icmp .ne 7, 3) := by decide +kernel
theorem dX5_isWhole_9 : decode cX5_isWhole 9 = .ok (.iconst 1, 1) := by decide +kernel
theorem dX5_isWhole_10 : decode cX5_isWhole 10 = .ok (.goto 4, 3) := by decide +kernel
theorem dX5_isWhole_13 : decode cX5_isWhole 13 = .ok (.iconst 0, 1) := by decide +kernel
theorem dX5_isWhole_14 : decode cX5_isWhole 14 = .ok (.ireturn, 1) := by decide +kernel
theorem dX5_takes_0 : decode cX5_takes 0 = .ok (.aload_n 0, 1) := by decide +kernel
theorem dX5_takes_1 : decode cX5_takes 1 = .ok (.getfield 31, 3) := by decide +kernel
theorem dX5_takes_4 : decode cX5_takes 4 = .ok (.tableswitch 88 0 5 #[40, 49, 58, 64, 70, 79], 40) := by decide +kernel
theorem dX5_takes_44 : decode cX5_takes 44 = .ok (.aload_n 0, 1) := by decide +kernel
theorem dX5_takes_45 : decode cX5_takes 45 = .ok (.iload_n 1, 1) := by decide +kernel
theorem dX5_takes_46 : decode cX5_takes 46 = .ok (.bipush 48, 2) := by decide +kernel
theorem dX5_takes_48 : decode cX5_takes 48 = .ok (.isub, 1) := by decide +kernel
theorem dX5_takes_49 : decode cX5_takes 49 = .ok (.invokevirtual 50, 3) := by decide +kernel
theorem dX5_takes_52 : decode cX5_takes 52 = .ok (.ireturn, 1) := by decide +kernel
theorem dX5_takes_53 : decode cX5_takes 53 = .ok (.aload_n 0, 1) := by decide +kernel
theorem dX5_takes_54 : decode cX5_takes 54 = .ok (.iload_n 1, 1) := by decide +kernel
theorem dX5_takes_55 : decode cX5_takes 55 = .ok (.bipush 48, 2) := by decide +kernel
theorem dX5_takes_57 : decode cX5_takes 57 = .ok (.isub, 1) := by decide +kernel
theorem dX5_takes_58 : decode cX5_takes 58 = .ok (.invokevirtual 53, 3) := by decide +kernel
theorem dX5_takes_61 : decode cX5_takes 61 = .ok (.ireturn, 1) := by decide +kernel
theorem dX5_takes_62 : decode cX5_takes 62 = .ok (.aload_n 0, 1) := by decide +kernel
theorem dX5_takes_63 : decode cX5_takes 63 = .ok (.iload_n 1, 1) := by decide +kernel
theorem dX5_takes_64 : decode cX5_takes 64 = .ok (.invokevirtual 56, 3) := by decide +kernel
theorem dX5_takes_67 : decode cX5_takes 67 = .ok (.ireturn, 1) := by decide +kernel
theorem dX5_takes_68 : decode cX5_takes 68 = .ok (.aload_n 0, 1) := by decide +kernel
theorem dX5_takes_69 : decode cX5_takes 69 = .ok (.iload_n 1, 1) := by decide +kernel
theorem dX5_takes_70 : decode cX5_takes 70 = .ok (.invokevirtual 59, 3) := by decide +kernel
theorem dX5_takes_73 : decode cX5_takes 73 = .ok (.ireturn, 1) := by decide +kernel
theorem dX5_takes_74 : decode cX5_takes 74 = .ok (.aload_n 0, 1) := by decide +kernel
theorem dX5_takes_75 : decode cX5_takes 75 = .ok (.iload_n 1, 1) := by decide +kernel
theorem dX5_takes_76 : decode cX5_takes 76 = .ok (.bipush 48, 2) := by decide +kernel
theorem dX5_takes_78 : decode cX5_takes 78 = .ok (.isub, 1) := by decide +kernel
theorem dX5_takes_79 : decode cX5_takes 79 = .ok (.invokevirtual 62, 3) := by decide +kernel
theorem dX5_takes_82 : decode cX5_takes 82 = .ok (.ireturn, 1) := by decide +kernel
theorem dX5_takes_83 : decode cX5_takes 83 = .ok (.aload_n 0, 1) := by decide +kernel
theorem dX5_takes_84 : decode cX5_takes 84 = .ok (.iload_n 1, 1) := by decide +kernel
theorem dX5_takes_85 : decode cX5_takes 85 = .ok (.bipush 48, 2) := by decide +kernel
theorem dX5_takes_87 : decode cX5_takes 87 = .ok (.isub, 1) := by decide +kernel
theorem dX5_takes_88 : decode cX5_takes 88 = .ok (.invokevirtual 65, 3) := by decide +kernel
theorem dX5_takes_91 : decode cX5_takes 91 = .ok (.ireturn, 1) := by decide +kernel
theorem dX5_takes_92 : decode cX5_takes 92 = .ok (.aload_n 0, 1) := by decide +kernel
theorem dX5_takes_93 : decode cX5_takes 93 = .ok (.iload_n 1, 1) := by decide +kernel
theorem dX5_takes_94 : decode cX5_takes 94 = .ok (.invokevirtual 68, 3) := by decide +kernel
theorem dX5_takes_97 : decode cX5_takes 97 = .ok (.ireturn, 1) := by decide +kernel
theorem dX5_takesRow_0 : decode cX5_takesRow 0 = .ok (.aload_n 0, 1) := by decide +kernel
theorem dX5_takesRow_1 : decode cX5_takesRow 1 = .ok (.iload_n 1, 1) := by decide +kernel
theorem dX5_takesRow_2 : decode cX5_takesRow 2 = .ok (.putfield 71, 3) := by decide +kernel
theorem dX5_takesRow_5 : decode cX5_takesRow 5 = .ok (.aload_n 0, 1) := by decide +kernel
theorem dX5_takesRow_6 : decode cX5_takesRow 6 = .ok (.iconst 1, 1) := by decide +kernel
theorem dX5_takesRow_7 : decode cX5_takesRow 7 = .ok (.putfield 31, 3) := by decide +kernel
theorem dX5_takesRow_10 : decode cX5_takesRow 10 = .ok (.iload_n 1, 1) := by decide +kernel
theorem dX5_takesRow_11 : decode cX5_takesRow 11 = .ok (.ifCond .lt 13, 3) := by decide +kernel
theorem dX5_takesRow_14 : decode cX5_takesRow 14 = .ok (.iload_n 1, 1) := by decide +kernel
theorem dX5_takesRow_15 : decode cX5_takesRow 15 = .ok (.bipush 6, 2) := by decide +kernel
theorem dX5_takesRow_17 : decode cX5_takesRow 17 = .ok (.if_icmp .ge 7, 3) := by decide +kernel
theorem dX5_takesRow_20 : decode cX5_takesRow 20 = .ok (.iconst 1, 1) := by decide +kernel
theorem dX5_takesRow_21 : decode cX5_takesRow 21 = .ok (.goto 4, 3) := by decide +kernel
theorem dX5_takesRow_24 : decode cX5_takesRow 24 = .ok (.iconst 0, 1) := by decide +kernel
theorem dX5_takesRow_25 : decode cX5_takesRow 25 = .ok (.ireturn, 1) := by decide +kernel
theorem dX5_takesColumn_0 : decode cX5_takesColumn 0 = .ok (.aload_n 0, 1) := by decide +kernel
theorem dX5_takesColumn_1 : decode cX5_takesColumn 1 = .ok (.getfield 71, 3) := by decide +kernel
theorem dX5_takesColumn_4 : decode cX5_takesColumn 4 = .ok (.iload_n 1, 1) := by decide +kernel
theorem dX5_takesColumn_5 : decode cX5_takesColumn 5 = .ok (.invokestatic 74, 3) := by decide +kernel
theorem dX5_takesColumn_8 : decode cX5_takesColumn 8 = .ok (.istore_n 2, 1) := by decide +kernel
theorem dX5_takesColumn_9 : decode cX5_takesColumn 9 = .ok (.iconst 0, 1) := by decide +kernel
theorem dX5_takesColumn_10 : decode cX5_takesColumn 10 = .ok (.istore_n 3, 1) := by decide +kernel
theorem dX5_takesColumn_11 : decode cX5_takesColumn 11 = .ok (.iload_n 3, 1) := by decide +kernel
theorem dX5_takesColumn_12 : decode cX5_takesColumn 12 = .ok (.aload_n 0, 1) := by decide +kernel
theorem dX5_takesColumn_13 : decode cX5_takesColumn 13 = .ok (.getfield 24, 3) := by decide +kernel
theorem dX5_takesColumn_16 : decode cX5_takesColumn 16 = .ok (.if_icmp .ge 23, 3) := by decide +kernel
theorem dX5_takesColumn_19 : decode cX5_takesColumn 19 = .ok (.aload_n 0, 1) := by decide +kernel
theorem dX5_takesColumn_20 : decode cX5_takesColumn 20 = .ok (.getfield 9, 3) := by decide +kernel
theorem dX5_takesColumn_23 : decode cX5_takesColumn 23 = .ok (.iload_n 3, 1) := by decide +kernel
theorem dX5_takesColumn_24 : decode cX5_takesColumn 24 = .ok (.invokestatic 42, 3) := by decide +kernel
theorem dX5_takesColumn_27 : decode cX5_takesColumn 27 = .ok (.iload_n 2, 1) := by decide +kernel
theorem dX5_takesColumn_28 : decode cX5_takesColumn 28 = .ok (.if_icmp .ne 5, 3) := by decide +kernel
theorem dX5_takesColumn_31 : decode cX5_takesColumn 31 = .ok (.iconst 0, 1) := by decide +kernel
theorem dX5_takesColumn_32 : decode cX5_takesColumn 32 = .ok (.ireturn, 1) := by decide +kernel
theorem dX5_takesColumn_33 : decode cX5_takesColumn 33 = .ok (.iinc 3 1, 3) := by decide +kernel
theorem dX5_takesColumn_36 : decode cX5_takesColumn 36 = .ok (.goto (-25), 3) := by decide +kernel
theorem dX5_takesColumn_39 : decode cX5_takesColumn 39 = .ok (.aload_n 0, 1) := by decide +kernel
theorem dX5_takesColumn_40 : decode cX5_takesColumn 40 = .ok (.getfield 9, 3) := by decide +kernel
theorem dX5_takesColumn_43 : decode cX5_takesColumn 43 = .ok (.aload_n 0, 1) := by decide +kernel
theorem dX5_takesColumn_44 : decode cX5_takesColumn 44 = .ok (.getfield 24, 3) := by decide +kernel
theorem dX5_takesColumn_47 : decode cX5_takesColumn 47 = .ok (.iload_n 2, 1) := by decide +kernel
theorem dX5_takesColumn_48 : decode cX5_takesColumn 48 = .ok (.invokestatic 78, 3) := by decide +kernel
theorem dX5_takesColumn_51 : decode cX5_takesColumn 51 = .ok (.aload_n 0, 1) := by decide +kernel
theorem dX5_takesColumn_52 : decode cX5_takesColumn 52 = .ok (.dup, 1) := by decide +kernel
theorem dX5_takesColumn_53 : decode cX5_takesColumn 53 = .ok (.getfield 24, 3) := by decide +kernel
theorem dX5_takesColumn_56 : decode cX5_takesColumn 56 = .ok (.iconst 1, 1) := by decide +kernel
theorem dX5_takesColumn_57 : decode cX5_takesColumn 57 = .ok (.iadd, 1) := by decide +kernel
theorem dX5_takesColumn_58 : decode cX5_takesColumn 58 = .ok (.putfield 24, 3) := by decide +kernel
theorem dX5_takesColumn_61 : decode cX5_takesColumn 61 = .ok (.aload_n 0, 1) := by decide +kernel
theorem dX5_takesColumn_62 : decode cX5_takesColumn 62 = .ok (.iconst 2, 1) := by decide +kernel
theorem dX5_takesColumn_63 : decode cX5_takesColumn 63 = .ok (.putfield 31, 3) := by decide +kernel
theorem dX5_takesColumn_66 : decode cX5_takesColumn 66 = .ok (.iload_n 2, 1) := by decide +kernel
theorem dX5_takesColumn_67 : decode cX5_takesColumn 67 = .ok (.iconst (-1), 1) := by decide +kernel
theorem dX5_takesColumn_68 : decode cX5_takesColumn 68 = .ok (.if_icmp .eq 7, 3) := by decide +kernel
theorem dX5_takesColumn_71 : decode cX5_takesColumn 71 = .ok (.iconst 1, 1) := by decide +kernel
theorem dX5_takesColumn_72 : decode cX5_takesColumn 72 = .ok (.goto 4, 3) := by decide +kernel
theorem dX5_takesColumn_75 : decode cX5_takesColumn 75 = .ok (.iconst 0, 1) := by decide +kernel
theorem dX5_takesColumn_76 : decode cX5_takesColumn 76 = .ok (.ireturn, 1) := by decide +kernel
theorem dX5_takesAfterSleeper_0 : decode cX5_takesAfterSleeper 0 = .ok (.aload_n 0, 1) := by decide +kernel
theorem dX5_takesAfterSleeper_1 : decode cX5_takesAfterSleeper 1 = .ok (.iload_n 1, 1) := by decide +kernel
theorem dX5_takesAfterSleeper_2 : decode cX5_takesAfterSleeper 2 = .ok (.bipush 59, 2) := by decide +kernel
theorem dX5_takesAfterSleeper_4 : decode cX5_takesAfterSleeper 4 = .ok (.if_icmp .ne 7, 3) := by decide +kernel
theorem dX5_takesAfterSleeper_7 : decode cX5_takesAfterSleeper 7 = .ok (.iconst 3, 1) := by decide +kernel
theorem dX5_takesAfterSleeper_8 : decode cX5_takesAfterSleeper 8 = .ok (.goto 4, 3) := by decide +kernel
theorem dX5_takesAfterSleeper_11 : decode cX5_takesAfterSleeper 11 = .ok (.iconst 0, 1) := by decide +kernel
theorem dX5_takesAfterSleeper_12 : decode cX5_takesAfterSleeper 12 = .ok (.putfield 31, 3) := by decide +kernel
theorem dX5_takesAfterSleeper_15 : decode cX5_takesAfterSleeper 15 = .ok (.iload_n 1, 1) := by decide +kernel
theorem dX5_takesAfterSleeper_16 : decode cX5_takesAfterSleeper 16 = .ok (.bipush 59, 2) := by decide +kernel
theorem dX5_takesAfterSleeper_18 : decode cX5_takesAfterSleeper 18 = .ok (.if_icmp .eq 18, 3) := by decide +kernel
theorem dX5_takesAfterSleeper_21 : decode cX5_takesAfterSleeper 21 = .ok (.iload_n 1, 1) := by decide +kernel
theorem dX5_takesAfterSleeper_22 : decode cX5_takesAfterSleeper 22 = .ok (.bipush 44, 2) := by decide +kernel
theorem dX5_takesAfterSleeper_24 : decode cX5_takesAfterSleeper 24 = .ok (.if_icmp .ne 16, 3) := by decide +kernel
theorem dX5_takesAfterSleeper_27 : decode cX5_takesAfterSleeper 27 = .ok (.aload_n 0, 1) := by decide +kernel
theorem dX5_takesAfterSleeper_28 : decode cX5_takesAfterSleeper 28 = .ok (.getfield 24, 3) := by decide +kernel
theorem dX5_takesAfterSleeper_31 : decode cX5_takesAfterSleeper 31 = .ok (.bipush 6, 2) := by decide +kernel
theorem dX5_takesAfterSleeper_33 : decode cX5_takesAfterSleeper 33 = .ok (.if_icmp .ge 7, 3) := by decide +kernel
theorem dX5_takesAfterSleeper_36 : decode cX5_takesAfterSleeper 36 = .ok (.iconst 1, 1) := by decide +kernel
theorem dX5_takesAfterSleeper_37 : decode cX5_takesAfterSleeper 37 = .ok (.goto 4, 3) := by decide +kernel
theorem dX5_takesAfterSleeper_40 : decode cX5_takesAfterSleeper 40 = .ok (.iconst 0, 1) := by decide +kernel
theorem dX5_takesAfterSleeper_41 : decode cX5_takesAfterSleeper 41 = .ok (.ireturn, 1) := by decide +kernel
theorem dX5_takesKind_0 : decode cX5_takesKind 0 = .ok (.ldc 82, 2) := by decide +kernel
theorem dX5_takesKind_2 : decode cX5_takesKind 2 = .ok (.iload_n 1, 1) := by decide +kernel
theorem dX5_takesKind_3 : decode cX5_takesKind 3 = .ok (.i2c, 1) := by decide +kernel
theorem dX5_takesKind_4 : decode cX5_takesKind 4 = .ok (.invokevirtual 84, 3) := by decide +kernel
theorem dX5_takesKind_7 : decode cX5_takesKind 7 = .ok (.istore_n 2, 1) := by decide +kernel
theorem dX5_takesKind_8 : decode cX5_takesKind 8 = .ok (.aload_n 0, 1) := by decide +kernel
theorem dX5_takesKind_9 : decode cX5_takesKind 9 = .ok (.getfield 15, 3) := by decide +kernel
theorem dX5_takesKind_12 : decode cX5_takesKind 12 = .ok (.aload_n 0, 1) := by decide +kernel
theorem dX5_takesKind_13 : decode cX5_takesKind 13 = .ok (.getfield 28, 3) := by decide +kernel
theorem dX5_takesKind_16 : decode cX5_takesKind 16 = .ok (.iload_n 2, 1) := by decide +kernel
theorem dX5_takesKind_17 : decode cX5_takesKind 17 = .ok (.invokestatic 78, 3) := by decide +kernel
theorem dX5_takesKind_20 : decode cX5_takesKind 20 = .ok (.aload_n 0, 1) := by decide +kernel
theorem dX5_takesKind_21 : decode cX5_takesKind 21 = .ok (.iconst 4, 1) := by decide +kernel
theorem dX5_takesKind_22 : decode cX5_takesKind 22 = .ok (.putfield 31, 3) := by decide +kernel
theorem dX5_takesKind_25 : decode cX5_takesKind 25 = .ok (.iload_n 2, 1) := by decide +kernel
theorem dX5_takesKind_26 : decode cX5_takesKind 26 = .ok (.ifCond .lt 7, 3) := by decide +kernel
theorem dX5_takesKind_29 : decode cX5_takesKind 29 = .ok (.iconst 1, 1) := by decide +kernel
theorem dX5_takesKind_30 : decode cX5_takesKind 30 = .ok (.goto 4, 3) := by decide +kernel
theorem dX5_takesKind_33 : decode cX5_takesKind 33 = .ok (.iconst 0, 1) := by decide +kernel
theorem dX5_takesKind_34 : decode cX5_takesKind 34 = .ok (.ireturn, 1) := by decide +kernel
theorem dX5_takesSouth_0 : decode cX5_takesSouth 0 = .ok (.aload_n 0, 1) := by decide +kernel
theorem dX5_takesSouth_1 : decode cX5_takesSouth 1 = .ok (.getfield 18, 3) := by decide +kernel
theorem dX5_takesSouth_4 : decode cX5_takesSouth 4 = .ok (.aload_n 0, 1) := by decide +kernel
theorem dX5_takesSouth_5 : decode cX5_takesSouth 5 = .ok (.getfield 28, 3) := by decide +kernel
theorem dX5_takesSouth_8 : decode cX5_takesSouth 8 = .ok (.iload_n 1, 1) := by decide +kernel
theorem dX5_takesSouth_9 : decode cX5_takesSouth 9 = .ok (.invokestatic 78, 3) := by decide +kernel
theorem dX5_takesSouth_12 : decode cX5_takesSouth 12 = .ok (.aload_n 0, 1) := by decide +kernel
theorem dX5_takesSouth_13 : decode cX5_takesSouth 13 = .ok (.iconst 5, 1) := by decide +kernel
theorem dX5_takesSouth_14 : decode cX5_takesSouth 14 = .ok (.putfield 31, 3) := by decide +kernel
theorem dX5_takesSouth_17 : decode cX5_takesSouth 17 = .ok (.iload_n 1, 1) := by decide +kernel
theorem dX5_takesSouth_18 : decode cX5_takesSouth 18 = .ok (.invokestatic 90, 3) := by decide +kernel
theorem dX5_takesSouth_21 : decode cX5_takesSouth 21 = .ok (.ireturn, 1) := by decide +kernel
theorem dX5_takesEast_0 : decode cX5_takesEast 0 = .ok (.aload_n 0, 1) := by decide +kernel
theorem dX5_takesEast_1 : decode cX5_takesEast 1 = .ok (.getfield 21, 3) := by decide +kernel
theorem dX5_takesEast_4 : decode cX5_takesEast 4 = .ok (.aload_n 0, 1) := by decide +kernel
theorem dX5_takesEast_5 : decode cX5_takesEast 5 = .ok (.getfield 28, 3) := by decide +kernel
theorem dX5_takesEast_8 : decode cX5_takesEast 8 = .ok (.iload_n 1, 1) := by decide +kernel
theorem dX5_takesEast_9 : decode cX5_takesEast 9 = .ok (.invokestatic 78, 3) := by decide +kernel
theorem dX5_takesEast_12 : decode cX5_takesEast 12 = .ok (.aload_n 0, 1) := by decide +kernel
theorem dX5_takesEast_13 : decode cX5_takesEast 13 = .ok (.dup, 1) := by decide +kernel
theorem dX5_takesEast_14 : decode cX5_takesEast 14 = .ok (.getfield 28, 3) := by decide +kernel
theorem dX5_takesEast_17 : decode cX5_takesEast 17 = .ok (.iconst 1, 1) := by decide +kernel
theorem dX5_takesEast_18 : decode cX5_takesEast 18 = .ok (.iadd, 1) := by decide +kernel
theorem dX5_takesEast_19 : decode cX5_takesEast 19 = .ok (.putfield 28, 3) := by decide +kernel
theorem dX5_takesEast_22 : decode cX5_takesEast 22 = .ok (.aload_n 0, 1) := by decide +kernel
theorem dX5_takesEast_23 : decode cX5_takesEast 23 = .ok (.bipush 6, 2) := by decide +kernel
theorem dX5_takesEast_25 : decode cX5_takesEast 25 = .ok (.putfield 31, 3) := by decide +kernel
theorem dX5_takesEast_28 : decode cX5_takesEast 28 = .ok (.iload_n 1, 1) := by decide +kernel
theorem dX5_takesEast_29 : decode cX5_takesEast 29 = .ok (.invokestatic 90, 3) := by decide +kernel
theorem dX5_takesEast_32 : decode cX5_takesEast 32 = .ok (.ireturn, 1) := by decide +kernel
theorem dX5_takesAfterTosser_0 : decode cX5_takesAfterTosser 0 = .ok (.aload_n 0, 1) := by decide +kernel
theorem dX5_takesAfterTosser_1 : decode cX5_takesAfterTosser 1 = .ok (.iconst 3, 1) := by decide +kernel
theorem dX5_takesAfterTosser_2 : decode cX5_takesAfterTosser 2 = .ok (.putfield 31, 3) := by decide +kernel
theorem dX5_takesAfterTosser_5 : decode cX5_takesAfterTosser 5 = .ok (.iload_n 1, 1) := by decide +kernel
theorem dX5_takesAfterTosser_6 : decode cX5_takesAfterTosser 6 = .ok (.bipush 44, 2) := by decide +kernel
theorem dX5_takesAfterTosser_8 : decode cX5_takesAfterTosser 8 = .ok (.if_icmp .ne 15, 3) := by decide +kernel
theorem dX5_takesAfterTosser_11 : decode cX5_takesAfterTosser 11 = .ok (.aload_n 0, 1) := by decide +kernel
theorem dX5_takesAfterTosser_12 : decode cX5_takesAfterTosser 12 = .ok (.getfield 28, 3) := by decide +kernel
theorem dX5_takesAfterTosser_15 : decode cX5_takesAfterTosser 15 = .ok (.iconst 4, 1) := by decide +kernel
theorem dX5_takesAfterTosser_16 : decode cX5_takesAfterTosser 16 = .ok (.if_icmp .ge 7, 3) := by decide +kernel
theorem dX5_takesAfterTosser_19 : decode cX5_takesAfterTosser 19 = .ok (.iconst 1, 1) := by decide +kernel
theorem dX5_takesAfterTosser_20 : decode cX5_takesAfterTosser 20 = .ok (.goto 4, 3) := by decide +kernel
theorem dX5_takesAfterTosser_23 : decode cX5_takesAfterTosser 23 = .ok (.iconst 0, 1) := by decide +kernel
theorem dX5_takesAfterTosser_24 : decode cX5_takesAfterTosser 24 = .ok (.ireturn, 1) := by decide +kernel
theorem dX6_init_0 : decode cX6_init 0 = .ok (.aload_n 0, 1) := by decide +kernel
theorem dX6_init_1 : decode cX6_init 1 = .ok (.invokespecial 3, 3) := by decide +kernel
theorem dX6_init_4 : decode cX6_init 4 = .ok (.aload_n 0, 1) := by decide +kernel
theorem dX6_init_5 : decode cX6_init 5 = .ok (.bipush 6, 2) := by decide +kernel
theorem dX6_init_7 : decode cX6_init 7 = .ok (.newarray .int, 2) := by decide +kernel
theorem dX6_init_9 : decode cX6_init 9 = .ok (.putfield 9, 3) := by decide +kernel
theorem dX6_init_12 : decode cX6_init 12 = .ok (.aload_n 0, 1) := by decide +kernel
theorem dX6_init_13 : decode cX6_init 13 = .ok (.bipush 6, 2) := by decide +kernel
theorem dX6_init_15 : decode cX6_init 15 = .ok (.newarray .int, 2) := by decide +kernel
theorem dX6_init_17 : decode cX6_init 17 = .ok (.putfield 15, 3) := by decide +kernel
theorem dX6_init_20 : decode cX6_init 20 = .ok (.aload_n 0, 1) := by decide +kernel
theorem dX6_init_21 : decode cX6_init 21 = .ok (.bipush 6, 2) := by decide +kernel
theorem dX6_init_23 : decode cX6_init 23 = .ok (.newarray .int, 2) := by decide +kernel
theorem dX6_init_25 : decode cX6_init 25 = .ok (.putfield 18, 3) := by decide +kernel
theorem dX6_init_28 : decode cX6_init 28 = .ok (.return_, 1) := by decide +kernel
theorem dX6_turnsOf_0 : decode cX6_turnsOf 0 = .ok (.iconst 0, 1) := by decide +kernel
theorem dX6_turnsOf_1 : decode cX6_turnsOf 1 = .ok (.istore_n 2, 1) := by decide +kernel
theorem dX6_turnsOf_2 : decode cX6_turnsOf 2 = .ok (.iconst 0, 1) := by decide +kernel
theorem dX6_turnsOf_3 : decode cX6_turnsOf 3 = .ok (.istore_n 3, 1) := by decide +kernel
theorem dX6_turnsOf_4 : decode cX6_turnsOf 4 = .ok (.iload_n 3, 1) := by decide +kernel
theorem dX6_turnsOf_5 : decode cX6_turnsOf 5 = .ok (.iconst 5, 1) := by decide +kernel
theorem dX6_turnsOf_6 : decode cX6_turnsOf 6 = .ok (.if_icmp .ge 24, 3) := by decide +kernel
theorem dX6_turnsOf_9 : decode cX6_turnsOf 9 = .ok (.aload_n 0, 1) := by decide +kernel
theorem dX6_turnsOf_10 : decode cX6_turnsOf 10 = .ok (.iload_n 1, 1) := by decide +kernel
theorem dX6_turnsOf_11 : decode cX6_turnsOf 11 = .ok (.iload_n 3, 1) := by decide +kernel
theorem dX6_turnsOf_12 : decode cX6_turnsOf 12 = .ok (.invokevirtual 29, 3) := by decide +kernel
theorem dX6_turnsOf_15 : decode cX6_turnsOf 15 = .ok (.ifCond .eq 9, 3) := by decide +kernel
theorem dX6_turnsOf_18 : decode cX6_turnsOf 18 = .ok (.iload_n 2, 1) := by decide +kernel
theorem dX6_turnsOf_19 : decode cX6_turnsOf 19 = .ok (.iconst 1, 1) := by decide +kernel
theorem dX6_turnsOf_20 : decode cX6_turnsOf 20 = .ok (.iload_n 3, 1) := by decide +kernel
theorem dX6_turnsOf_21 : decode cX6_turnsOf 21 = .ok (.ishl, 1) := by decide +kernel
theorem dX6_turnsOf_22 : decode cX6_turnsOf 22 = .ok (.ior, 1) := by decide +kernel
theorem dX6_turnsOf_23 : decode cX6_turnsOf 23 = .ok (.istore_n 2, 1) := by decide +kernel
theorem dX6_turnsOf_24 : decode cX6_turnsOf 24 = .ok (.iinc 3 1, 3) := by decide +kernel
theorem dX6_turnsOf_27 : decode cX6_turnsOf 27 = .ok (.goto (-23), 3) := by decide +kernel
theorem dX6_turnsOf_30 : decode cX6_turnsOf 30 = .ok (.iload_n 2, 1) := by decide +kernel
theorem dX6_turnsOf_31 : decode cX6_turnsOf 31 = .ok (.ireturn, 1) := by decide +kernel
theorem dX6_allows_0 : decode cX6_allows 0 = .ok (.iconst 0, 1) := by decide +kernel
theorem dX6_allows_1 : decode cX6_allows 1 = .ok (.istore_n 3, 1) := by decide +kernel
theorem dX6_allows_2 : decode cX6_allows 2 = .ok (.iload_n 3, 1) := by decide +kernel
theorem dX6_allows_3 : decode cX6_allows 3 = .ok (.aload_n 0, 1) := by decide +kernel
theorem dX6_allows_4 : decode cX6_allows 4 = .ok (.getfield 21, 3) := by decide +kernel
theorem dX6_allows_7 : decode cX6_allows 7 = .ok (.if_icmp .ge 58, 3) := by decide +kernel
theorem dX6_allows_10 : decode cX6_allows 10 = .ok (.aload_n 0, 1) := by decide +kernel
theorem dX6_allows_11 : decode cX6_allows 11 = .ok (.getfield 9, 3) := by decide +kernel
theorem dX6_allows_14 : decode cX6_allows 14 = .ok (.iload_n 3, 1) := by decide +kernel
theorem dX6_allows_15 : decode cX6_allows 15 = .ok (.invokestatic 33, 3) := by decide +kernel
theorem dX6_allows_18 : decode cX6_allows 18 = .ok (.iload_n 1, 1) := by decide +kernel
theorem dX6_allows_19 : decode cX6_allows 19 = .ok (.if_icmp .ne 7, 3) := by decide +kernel
theorem dX6_allows_22 : decode cX6_allows 22 = .ok (.iconst 1, 1) := by decide +kernel
theorem dX6_allows_23 : decode cX6_allows 23 = .ok (.goto 4, 3) := by decide +kernel
theorem dX6_allows_26 : decode cX6_allows 26 = .ok (.iconst 0, 1) := by decide +kernel
theorem dX6_allows_27 : decode cX6_allows 27 = .ok (.istore 4, 2) := by decide +kernel
theorem dX6_allows_29 : decode cX6_allows 29 = .ok (.iload 4, 2) := by decide +kernel
theorem dX6_allows_31 : decode cX6_allows 31 = .ok (.ifCond .eq 28, 3) := by decide +kernel
theorem dX6_allows_34 : decode cX6_allows 34 = .ok (.aload_n 0, 1) := by decide +kernel
theorem dX6_allows_35 : decode cX6_allows 35 = .ok (.getfield 15, 3) := by decide +kernel
theorem dX6_allows_38 : decode cX6_allows 38 = .ok (.iload_n 3, 1) := by decide +kernel
theorem dX6_allows_39 : decode cX6_allows 39 = .ok (.invokestatic 33, 3) := by decide +kernel
theorem dX6_allows_42 : decode cX6_allows 42 = .ok (.iload_n 2, 1) := by decide +kernel
theorem dX6_allows_43 : decode cX6_allows 43 = .ok (.invokestatic 37, 3) := by decide +kernel
theorem dX6_allows_46 : decode cX6_allows 46 = .ok (.aload_n 0, 1) := by decide +kernel
theorem dX6_allows_47 : decode cX6_allows 47 = .ok (.getfield 18, 3) := by decide +kernel
theorem dX6_allows_50 : decode cX6_allows 50 = .ok (.iload_n 3, 1) := by decide +kernel
theorem dX6_allows_51 : decode cX6_allows 51 = .ok (.invokestatic 33, 3) := by decide +kernel
theorem dX6_allows_54 : decode cX6_allows 54 = .ok (.if_icmp .eq 5, 3) := by decide +kernel
theorem dX6_allows_57 : decode cX6_allows 57 = .ok (.iconst 0, 1) := by decide +kernel
theorem dX6_allows_58 : decode cX6_allows 58 = .ok (.ireturn, 1) := by decide +kernel
theorem dX6_allows_59 : decode cX6_allows 59 = .ok (.iinc 3 1, 3) := by decide +kernel
theorem dX6_allows_62 : decode cX6_allows 62 = .ok (.goto (-60), 3) := by decide +kernel
theorem dX6_allows_65 : decode cX6_allows 65 = .ok (.iconst 1, 1) := by decide +kernel
theorem dX6_allows_66 : decode cX6_allows 66 = .ok (.ireturn, 1) := by decide +kernel
theorem dX7_init_0 : decode cX7_init 0 = .ok (.aload_n 0, 1) := by decide +kernel
theorem dX7_init_1 : decode cX7_init 1 = .ok (.invokespecial 3, 3) := by decide +kernel
theorem dX7_init_4 : decode cX7_init 4 = .ok (.return_, 1) := by decide +kernel
theorem dX7_kind_0 : decode cX7_kind 0 = .ok (.iconst 3, 1) := by decide +kernel
theorem dX7_kind_1 : decode cX7_kind 1 = .ok (.ireturn, 1) := by decide +kernel
theorem dX7_batter_0 : decode cX7_batter 0 = .ok (.iconst 1, 1) := by decide +kernel
theorem dX7_batter_1 : decode cX7_batter 1 = .ok (.ireturn, 1) := by decide +kernel
theorem dX7_spreads_0 : decode cX7_spreads 0 = .ok (.iload_n 1, 1) := by decide +kernel
theorem dX7_spreads_1 : decode cX7_spreads 1 = .ok (.ifCond .ne 15, 3) := by decide +kernel
theorem dX7_spreads_4 : decode cX7_spreads 4 = .ok (.iload_n 2, 1) := by decide +kernel
theorem dX7_spreads_5 : decode cX7_spreads 5 = .ok (.invokestatic 9, 3) := by decide +kernel
theorem dX7_spreads_8 : decode cX7_spreads 8 = .ok (.iconst 1, 1) := by decide +kernel
theorem dX7_spreads_9 : decode cX7_spreads 9 = .ok (.if_icmp .gt 7, 3) := by decide +kernel
theorem dX7_spreads_12 : decode cX7_spreads 12 = .ok (.iconst 1, 1) := by decide +kernel
theorem dX7_spreads_13 : decode cX7_spreads 13 = .ok (.goto 4, 3) := by decide +kernel
theorem dX7_spreads_16 : decode cX7_spreads 16 = .ok (.iconst 0, 1) := by decide +kernel
theorem dX7_spreads_17 : decode cX7_spreads 17 = .ok (.ireturn, 1) := by decide +kernel
theorem dX8_init_0 : decode cX8_init 0 = .ok (.aload_n 0, 1) := by decide +kernel
theorem dX8_init_1 : decode cX8_init 1 = .ok (.invokespecial 3, 3) := by decide +kernel
theorem dX8_init_4 : decode cX8_init 4 = .ok (.return_, 1) := by decide +kernel
theorem dX8_kind_0 : decode cX8_kind 0 = .ok (.iconst 0, 1) := by decide +kernel
theorem dX8_kind_1 : decode cX8_kind 1 = .ok (.ireturn, 1) := by decide +kernel
theorem dX8_batter_0 : decode cX8_batter 0 = .ok (.iconst 3, 1) := by decide +kernel
theorem dX8_batter_1 : decode cX8_batter 1 = .ok (.ireturn, 1) := by decide +kernel
theorem dX8_spreads_0 : decode cX8_spreads 0 = .ok (.iload_n 1, 1) := by decide +kernel
theorem dX8_spreads_1 : decode cX8_spreads 1 = .ok (.invokestatic 9, 3) := by decide +kernel
theorem dX8_spreads_4 : decode cX8_spreads 4 = .ok (.iload_n 2, 1) := by decide +kernel
theorem dX8_spreads_5 : decode cX8_spreads 5 = .ok (.invokestatic 9, 3) := by decide +kernel
theorem dX8_spreads_8 : decode cX8_spreads 8 = .ok (.iadd, 1) := by decide +kernel
theorem dX8_spreads_9 : decode cX8_spreads 9 = .ok (.iconst 1, 1) := by decide +kernel
theorem dX8_spreads_10 : decode cX8_spreads 10 = .ok (.if_icmp .gt 7, 3) := by decide +kernel
theorem dX8_spreads_13 : decode cX8_spreads 13 = .ok (.iconst 1, 1) := by decide +kernel
theorem dX8_spreads_14 : decode cX8_spreads 14 = .ok (.goto 4, 3) := by decide +kernel
theorem dX8_spreads_17 : decode cX8_spreads 17 = .ok (.iconst 0, 1) := by decide +kernel
theorem dX8_spreads_18 : decode cX8_spreads 18 = .ok (.ireturn, 1) := by decide +kernel
theorem dX9_init_0 : decode cX9_init 0 = .ok (.aload_n 0, 1) := by decide +kernel
theorem dX9_init_1 : decode cX9_init 1 = .ok (.invokespecial 3, 3) := by decide +kernel
theorem dX9_init_4 : decode cX9_init 4 = .ok (.return_, 1) := by decide +kernel
theorem dX9_kind_0 : decode cX9_kind 0 = .ok (.iconst 2, 1) := by decide +kernel
theorem dX9_kind_1 : decode cX9_kind 1 = .ok (.ireturn, 1) := by decide +kernel
theorem dX9_batter_0 : decode cX9_batter 0 = .ok (.iconst 5, 1) := by decide +kernel
theorem dX9_batter_1 : decode cX9_batter 1 = .ok (.ireturn, 1) := by decide +kernel
theorem dX9_spreads_0 : decode cX9_spreads 0 = .ok (.iload_n 1, 1) := by decide +kernel
theorem dX9_spreads_1 : decode cX9_spreads 1 = .ok (.invokestatic 9, 3) := by decide +kernel
theorem dX9_spreads_4 : decode cX9_spreads 4 = .ok (.iconst 1, 1) := by decide +kernel
theorem dX9_spreads_5 : decode cX9_spreads 5 = .ok (.if_icmp .gt 15, 3) := by decide +kernel
theorem dX9_spreads_8 : decode cX9_spreads 8 = .ok (.iload_n 2, 1) := by decide +kernel
theorem dX9_spreads_9 : decode cX9_spreads 9 = .ok (.invokestatic 9, 3) := by decide +kernel
theorem dX9_spreads_12 : decode cX9_spreads 12 = .ok (.iconst 1, 1) := by decide +kernel
theorem dX9_spreads_13 : decode cX9_spreads 13 = .ok (.if_icmp .gt 7, 3) := by decide +kernel
theorem dX9_spreads_16 : decode cX9_spreads 16 = .ok (.iconst 1, 1) := by decide +kernel
theorem dX9_spreads_17 : decode cX9_spreads 17 = .ok (.goto 4, 3) := by decide +kernel
theorem dX9_spreads_20 : decode cX9_spreads 20 = .ok (.iconst 0, 1) := by decide +kernel
theorem dX9_spreads_21 : decode cX9_spreads 21 = .ok (.ireturn, 1) := by decide +kernel
theorem dX10_init_0 : decode cX10_init 0 = .ok (.aload_n 0, 1) := by decide +kernel
theorem dX10_init_1 : decode cX10_init 1 = .ok (.invokespecial 1, 3) := by decide +kernel
theorem dX10_init_4 : decode cX10_init 4 = .ok (.aload_n 0, 1) := by decide +kernel
theorem dX10_init_5 : decode cX10_init 5 = .ok (.new 7, 3) := by decide +kernel
theorem dX10_init_8 : decode cX10_init 8 = .ok (.dup, 1) := by decide +kernel
theorem dX10_init_9 : decode cX10_init 9 = .ok (.invokespecial 9, 3) := by decide +kernel
theorem dX10_init_12 : decode cX10_init 12 = .ok (.putfield 10, 3) := by decide +kernel
theorem dX10_init_15 : decode cX10_init 15 = .ok (.aload_n 0, 1) := by decide +kernel
theorem dX10_init_16 : decode cX10_init 16 = .ok (.new 16, 3) := by decide +kernel
theorem dX10_init_19 : decode cX10_init 19 = .ok (.dup, 1) := by decide +kernel
theorem dX10_init_20 : decode cX10_init 20 = .ok (.invokespecial 18, 3) := by decide +kernel
theorem dX10_init_23 : decode cX10_init 23 = .ok (.putfield 19, 3) := by decide +kernel
theorem dX10_init_26 : decode cX10_init 26 = .ok (.aload_n 0, 1) := by decide +kernel
theorem dX10_init_27 : decode cX10_init 27 = .ok (.iconst 4, 1) := by decide +kernel
theorem dX10_init_28 : decode cX10_init 28 = .ok (.anewarray 23, 3) := by decide +kernel
theorem dX10_init_31 : decode cX10_init 31 = .ok (.putfield 25, 3) := by decide +kernel
theorem dX10_init_34 : decode cX10_init 34 = .ok (.aload_n 0, 1) := by decide +kernel
theorem dX10_init_35 : decode cX10_init 35 = .ok (.new 29, 3) := by decide +kernel
theorem dX10_init_38 : decode cX10_init 38 = .ok (.dup, 1) := by decide +kernel
theorem dX10_init_39 : decode cX10_init 39 = .ok (.invokespecial 31, 3) := by decide +kernel
theorem dX10_init_42 : decode cX10_init 42 = .ok (.putfield 32, 3) := by decide +kernel
theorem dX10_init_45 : decode cX10_init 45 = .ok (.aload_n 0, 1) := by decide +kernel
theorem dX10_init_46 : decode cX10_init 46 = .ok (.new 29, 3) := by decide +kernel
theorem dX10_init_49 : decode cX10_init 49 = .ok (.dup, 1) := by decide +kernel
theorem dX10_init_50 : decode cX10_init 50 = .ok (.invokespecial 31, 3) := by decide +kernel
theorem dX10_init_53 : decode cX10_init 53 = .ok (.putfield 36, 3) := by decide +kernel
theorem dX10_init_56 : decode cX10_init 56 = .ok (.aload_n 0, 1) := by decide +kernel
theorem dX10_init_57 : decode cX10_init 57 = .ok (.new 39, 3) := by decide +kernel
theorem dX10_init_60 : decode cX10_init 60 = .ok (.dup, 1) := by decide +kernel
theorem dX10_init_61 : decode cX10_init 61 = .ok (.invokespecial 41, 3) := by decide +kernel
theorem dX10_init_64 : decode cX10_init 64 = .ok (.putfield 42, 3) := by decide +kernel
theorem dX10_init_67 : decode cX10_init 67 = .ok (.aload_n 0, 1) := by decide +kernel
theorem dX10_init_68 : decode cX10_init 68 = .ok (.bipush 36, 2) := by decide +kernel
theorem dX10_init_70 : decode cX10_init 70 = .ok (.newarray .int, 2) := by decide +kernel
theorem dX10_init_72 : decode cX10_init 72 = .ok (.putfield 46, 3) := by decide +kernel
theorem dX10_init_75 : decode cX10_init 75 = .ok (.return_, 1) := by decide +kernel
theorem dX10_letter_0 : decode cX10_letter 0 = .ok (.iload_n 1, 1) := by decide +kernel
theorem dX10_letter_1 : decode cX10_letter 1 = .ok (.iconst 1, 1) := by decide +kernel
theorem dX10_letter_2 : decode cX10_letter 2 = .ok (.if_icmp .lt 9, 3) := by decide +kernel
theorem dX10_letter_5 : decode cX10_letter 5 = .ok (.iload_n 1, 1) := by decide +kernel
theorem dX10_letter_6 : decode cX10_letter 6 = .ok (.bipush 126, 2) := by decide +kernel
theorem dX10_letter_8 : decode cX10_letter 8 = .ok (.if_icmp .le 6, 3) := by decide +kernel
theorem dX10_letter_11 : decode cX10_letter 11 = .ok (.bipush (-102), 2) := by decide +kernel
theorem dX10_letter_13 : decode cX10_letter 13 = .ok (.ireturn, 1) := by decide +kernel
theorem dX10_letter_14 : decode cX10_letter 14 = .ok (.aload_n 0, 1) := by decide +kernel
theorem dX10_letter_15 : decode cX10_letter 15 = .ok (.getfield 10, 3) := by decide +kernel
theorem dX10_letter_18 : decode cX10_letter 18 = .ok (.getfield 50, 3) := by decide +kernel
theorem dX10_letter_21 : decode cX10_letter 21 = .ok (.bipush 36, 2) := by decide +kernel
theorem dX10_letter_23 : decode cX10_letter 23 = .ok (.if_icmp .lt 6, 3) := by decide +kernel
theorem dX10_letter_26 : decode cX10_letter 26 = .ok (.bipush (-104), 2) := by decide +kernel
theorem dX10_letter_28 : decode cX10_letter 28 = .ok (.ireturn, 1) := by decide +kernel
theorem dX10_letter_29 : decode cX10_letter 29 = .ok (.aload_n 0, 1) := by decide +kernel
theorem dX10_letter_30 : decode cX10_letter 30 = .ok (.getfield 10, 3) := by decide +kernel
theorem dX10_letter_33 : decode cX10_letter 33 = .ok (.iload_n 1, 1) := by decide +kernel
theorem dX10_letter_34 : decode cX10_letter 34 = .ok (.invokevirtual 54, 3) := by decide +kernel
theorem dX10_letter_37 : decode cX10_letter 37 = .ok (.aload_n 0, 1) := by decide +kernel
theorem dX10_letter_38 : decode cX10_letter 38 = .ok (.getfield 10, 3) := by decide +kernel
theorem dX10_letter_41 : decode cX10_letter 41 = .ok (.getfield 50, 3) := by decide +kernel
theorem dX10_letter_44 : decode cX10_letter 44 = .ok (.ireturn, 1) := by decide +kernel
theorem dX10_fault_0 : decode cX10_fault 0 = .ok (.aload_n 0, 1) := by decide +kernel
theorem dX10_fault_1 : decode cX10_fault 1 = .ok (.getfield 19, 3) := by decide +kernel
theorem dX10_fault_4 : decode cX10_fault 4 = .ok (.aload_n 0, 1) := by decide +kernel
theorem dX10_fault_5 : decode cX10_fault 5 = .ok (.getfield 10, 3) := by decide +kernel
theorem dX10_fault_8 : decode cX10_fault 8 = .ok (.invokevirtual 58, 3) := by decide +kernel
theorem dX10_fault_11 : decode cX10_fault 11 = .ok (.ireturn, 1) := by decide +kernel
theorem dX10_port_0 : decode cX10_port 0 = .ok (.aload_n 0, 1) := by decide +kernel
theorem dX10_port_1 : decode cX10_port 1 = .ok (.getfield 19, 3) := by decide +kernel
theorem dX10_port_4 : decode cX10_port 4 = .ok (.aload_n 0, 1) := by decide +kernel
theorem dX10_port_5 : decode cX10_port 5 = .ok (.getfield 10, 3) := by decide +kernel
theorem dX10_port_8 : decode cX10_port 8 = .ok (.invokevirtual 58, 3) := by decide +kernel
theorem dX10_port_11 : decode cX10_port 11 = .ok (.aload_n 0, 1) := by decide +kernel
theorem dX10_port_12 : decode cX10_port 12 = .ok (.getfield 10, 3) := by decide +kernel
theorem dX10_port_15 : decode cX10_port 15 = .ok (.getfield 50, 3) := by decide +kernel
theorem dX10_port_18 : decode cX10_port 18 = .ok (.if_icmp .lt 13, 3) := by decide +kernel
theorem dX10_port_21 : decode cX10_port 21 = .ok (.aload_n 0, 1) := by decide +kernel
theorem dX10_port_22 : decode cX10_port 22 = .ok (.getfield 19, 3) := by decide +kernel
theorem dX10_port_25 : decode cX10_port 25 = .ok (.invokevirtual 62, 3) := by decide +kernel
theorem dX10_port_28 : decode cX10_port 28 = .ok (.ifCond .ne 6, 3) := by decide +kernel
theorem dX10_port_31 : decode cX10_port 31 = .ok (.bipush (-103), 2) := by decide +kernel
theorem dX10_port_33 : decode cX10_port 33 = .ok (.ireturn, 1) := by decide +kernel
theorem dX10_port_34 : decode cX10_port 34 = .ok (.aload_n 0, 1) := by decide +kernel
theorem dX10_port_35 : decode cX10_port 35 = .ok (.invokevirtual 66, 3) := by decide +kernel
theorem dX10_port_38 : decode cX10_port 38 = .ok (.aload_n 0, 1) := by decide +kernel
theorem dX10_port_39 : decode cX10_port 39 = .ok (.getfield 10, 3) := by decide +kernel
theorem dX10_port_42 : decode cX10_port 42 = .ok (.iconst 0, 1) := by decide +kernel
theorem dX10_port_43 : decode cX10_port 43 = .ok (.putfield 50, 3) := by decide +kernel
theorem dX10_port_46 : decode cX10_port 46 = .ok (.aload_n 0, 1) := by decide +kernel
theorem dX10_port_47 : decode cX10_port 47 = .ok (.dup, 1) := by decide +kernel
theorem dX10_port_48 : decode cX10_port 48 = .ok (.getfield 69, 3) := by decide +kernel
theorem dX10_port_51 : decode cX10_port 51 = .ok (.iconst 1, 1) := by decide +kernel
theorem dX10_port_52 : decode cX10_port 52 = .ok (.iadd, 1) := by decide +kernel
theorem dX10_port_53 : decode cX10_port 53 = .ok (.putfield 69, 3) := by decide +kernel
theorem dX10_port_56 : decode cX10_port 56 = .ok (.aload_n 0, 1) := by decide +kernel
theorem dX10_port_57 : decode cX10_port 57 = .ok (.getfield 72, 3) := by decide +kernel
theorem dX10_port_60 : decode cX10_port 60 = .ok (.ireturn, 1) := by decide +kernel
theorem dX10_sleeper_0 : decode cX10_sleeper 0 = .ok (.aload_n 0, 1) := by decide +kernel
theorem dX10_sleeper_1 : decode cX10_sleeper 1 = .ok (.iload_n 1, 1) := by decide +kernel
theorem dX10_sleeper_2 : decode cX10_sleeper 2 = .ok (.invokevirtual 75, 3) := by decide +kernel
theorem dX10_sleeper_5 : decode cX10_sleeper 5 = .ok (.ifCond .ne 6, 3) := by decide +kernel
theorem dX10_sleeper_8 : decode cX10_sleeper 8 = .ok (.bipush (-101), 2) := by decide +kernel
theorem dX10_sleeper_10 : decode cX10_sleeper 10 = .ok (.ireturn, 1) := by decide +kernel
theorem dX10_sleeper_11 : decode cX10_sleeper 11 = .ok (.iload_n 2, 1) := by decide +kernel
theorem dX10_sleeper_12 : decode cX10_sleeper 12 = .ok (.tableswitch 90 0 4 #[36, 48, 60, 72, 84], 36) := by decide +kernel
theorem dX10_sleeper_48 : decode cX10_sleeper 48 = .ok (.aload_n 0, 1) := by decide +kernel
theorem dX10_sleeper_49 : decode cX10_sleeper 49 = .ok (.getfield 32, 3) := by decide +kernel
theorem dX10_sleeper_52 : decode cX10_sleeper 52 = .ok (.getfield 79, 3) := by decide +kernel
theorem dX10_sleeper_55 : decode cX10_sleeper 55 = .ok (.iload_n 1, 1) := by decide +kernel
theorem dX10_sleeper_56 : decode cX10_sleeper 56 = .ok (.invokestatic 82, 3) := by decide +kernel
theorem dX10_sleeper_59 : decode cX10_sleeper 59 = .ok (.ireturn, 1) := by decide +kernel
theorem dX10_sleeper_60 : decode cX10_sleeper 60 = .ok (.aload_n 0, 1) := by decide +kernel
theorem dX10_sleeper_61 : decode cX10_sleeper 61 = .ok (.getfield 32, 3) := by decide +kernel
theorem dX10_sleeper_64 : decode cX10_sleeper 64 = .ok (.getfield 86, 3) := by decide +kernel
theorem dX10_sleeper_67 : decode cX10_sleeper 67 = .ok (.iload_n 1, 1) := by decide +kernel
theorem dX10_sleeper_68 : decode cX10_sleeper 68 = .ok (.ishr, 1) := by decide +kernel
theorem dX10_sleeper_69 : decode cX10_sleeper 69 = .ok (.iconst 1, 1) := by decide +kernel
theorem dX10_sleeper_70 : decode cX10_sleeper 70 = .ok (.iand, 1) := by decide +kernel
theorem dX10_sleeper_71 : decode cX10_sleeper 71 = .ok (.ireturn, 1) := by decide +kernel
theorem dX10_sleeper_72 : decode cX10_sleeper 72 = .ok (.aload_n 0, 1) := by decide +kernel
theorem dX10_sleeper_73 : decode cX10_sleeper 73 = .ok (.getfield 32, 3) := by decide +kernel
theorem dX10_sleeper_76 : decode cX10_sleeper 76 = .ok (.getfield 89, 3) := by decide +kernel
theorem dX10_sleeper_79 : decode cX10_sleeper 79 = .ok (.iload_n 1, 1) := by decide +kernel
theorem dX10_sleeper_80 : decode cX10_sleeper 80 = .ok (.invokestatic 82, 3) := by decide +kernel
theorem dX10_sleeper_83 : decode cX10_sleeper 83 = .ok (.ireturn, 1) := by decide +kernel
theorem dX10_sleeper_84 : decode cX10_sleeper 84 = .ok (.aload_n 0, 1) := by decide +kernel
theorem dX10_sleeper_85 : decode cX10_sleeper 85 = .ok (.getfield 32, 3) := by decide +kernel
theorem dX10_sleeper_88 : decode cX10_sleeper 88 = .ok (.getfield 92, 3) := by decide +kernel
theorem dX10_sleeper_91 : decode cX10_sleeper 91 = .ok (.iload_n 1, 1) := by decide +kernel
theorem dX10_sleeper_92 : decode cX10_sleeper 92 = .ok (.invokestatic 82, 3) := by decide +kernel
theorem dX10_sleeper_95 : decode cX10_sleeper 95 = .ok (.ireturn, 1) := by decide +kernel
theorem dX10_sleeper_96 : decode cX10_sleeper 96 = .ok (.aload_n 0, 1) := by decide +kernel
theorem dX10_sleeper_97 : decode cX10_sleeper 97 = .ok (.iload_n 1, 1) := by decide +kernel
theorem dX10_sleeper_98 : decode cX10_sleeper 98 = .ok (.invokevirtual 95, 3) := by decide +kernel
theorem dX10_sleeper_101 : decode cX10_sleeper 101 = .ok (.ireturn, 1) := by decide +kernel
theorem dX10_sleeper_102 : decode cX10_sleeper 102 = .ok (.bipush (-102), 2) := by decide +kernel
theorem dX10_sleeper_104 : decode cX10_sleeper 104 = .ok (.ireturn, 1) := by decide +kernel
theorem dX10_tosser_0 : decode cX10_tosser 0 = .ok (.aload_n 0, 1) := by decide +kernel
theorem dX10_tosser_1 : decode cX10_tosser 1 = .ok (.iload_n 1, 1) := by decide +kernel
theorem dX10_tosser_2 : decode cX10_tosser 2 = .ok (.invokevirtual 99, 3) := by decide +kernel
theorem dX10_tosser_5 : decode cX10_tosser 5 = .ok (.astore_n 3, 1) := by decide +kernel
theorem dX10_tosser_6 : decode cX10_tosser 6 = .ok (.aload_n 3, 1) := by decide +kernel
theorem dX10_tosser_7 : decode cX10_tosser 7 = .ok (.ifnonnull 6, 3) := by decide +kernel
theorem dX10_tosser_10 : decode cX10_tosser 10 = .ok (.bipush (-101), 2) := by decide +kernel
theorem dX10_tosser_12 : decode cX10_tosser 12 = .ok (.ireturn, 1) := by decide +kernel
theorem dX10_tosser_13 : decode cX10_tosser 13 = .ok (.iload_n 2, 1) := by decide +kernel
theorem dX10_tosser_14 : decode cX10_tosser 14 = .ok (.tableswitch 140 0 8 #[50, 55, 67, 79, 84, 90, 101, 113, 128], 50) := by decide +kernel
theorem dX10_tosser_64 : decode cX10_tosser 64 = .ok (.aload_n 3, 1) := by decide +kernel
theorem dX10_tosser_65 : decode cX10_tosser 65 = .ok (.invokevirtual 103, 3) := by decide +kernel
theorem dX10_tosser_68 : decode cX10_tosser 68 = .ok (.ireturn, 1) := by decide +kernel
theorem dX10_tosser_69 : decode cX10_tosser 69 = .ok (.aload_n 0, 1) := by decide +kernel
theorem dX10_tosser_70 : decode cX10_tosser 70 = .ok (.getfield 32, 3) := by decide +kernel
theorem dX10_tosser_73 : decode cX10_tosser 73 = .ok (.getfield 107, 3) := by decide +kernel
theorem dX10_tosser_76 : decode cX10_tosser 76 = .ok (.iload_n 1, 1) := by decide +kernel
theorem dX10_tosser_77 : decode cX10_tosser 77 = .ok (.invokestatic 82, 3) := by decide +kernel
theorem dX10_tosser_80 : decode cX10_tosser 80 = .ok (.ireturn, 1) := by decide +kernel
theorem dX10_tosser_81 : decode cX10_tosser 81 = .ok (.aload_n 0, 1) := by decide +kernel
theorem dX10_tosser_82 : decode cX10_tosser 82 = .ok (.getfield 32, 3) := by decide +kernel
theorem dX10_tosser_85 : decode cX10_tosser 85 = .ok (.getfield 110, 3) := by decide +kernel
theorem dX10_tosser_88 : decode cX10_tosser 88 = .ok (.iload_n 1, 1) := by decide +kernel
theorem dX10_tosser_89 : decode cX10_tosser 89 = .ok (.invokestatic 82, 3) := by decide +kernel
theorem dX10_tosser_92 : decode cX10_tosser 92 = .ok (.ireturn, 1) := by decide +kernel
theorem dX10_tosser_93 : decode cX10_tosser 93 = .ok (.aload_n 3, 1) := by decide +kernel
theorem dX10_tosser_94 : decode cX10_tosser 94 = .ok (.invokevirtual 113, 3) := by decide +kernel
theorem dX10_tosser_97 : decode cX10_tosser 97 = .ok (.ireturn, 1) := by decide +kernel
theorem dX10_tosser_98 : decode cX10_tosser 98 = .ok (.aload_n 0, 1) := by decide +kernel
theorem dX10_tosser_99 : decode cX10_tosser 99 = .ok (.iload_n 1, 1) := by decide +kernel
theorem dX10_tosser_100 : decode cX10_tosser 100 = .ok (.invokevirtual 116, 3) := by decide +kernel
theorem dX10_tosser_103 : decode cX10_tosser 103 = .ok (.ireturn, 1) := by decide +kernel
theorem dX10_tosser_104 : decode cX10_tosser 104 = .ok (.aload_n 0, 1) := by decide +kernel
theorem dX10_tosser_105 : decode cX10_tosser 105 = .ok (.iload_n 1, 1) := by decide +kernel
theorem dX10_tosser_106 : decode cX10_tosser 106 = .ok (.aload_n 0, 1) := by decide +kernel
theorem dX10_tosser_107 : decode cX10_tosser 107 = .ok (.iload_n 1, 1) := by decide +kernel
theorem dX10_tosser_108 : decode cX10_tosser 108 = .ok (.invokevirtual 116, 3) := by decide +kernel
theorem dX10_tosser_111 : decode cX10_tosser 111 = .ok (.invokevirtual 119, 3) := by decide +kernel
theorem dX10_tosser_114 : decode cX10_tosser 114 = .ok (.ireturn, 1) := by decide +kernel
theorem dX10_tosser_115 : decode cX10_tosser 115 = .ok (.aload_n 0, 1) := by decide +kernel
theorem dX10_tosser_116 : decode cX10_tosser 116 = .ok (.getfield 32, 3) := by decide +kernel
theorem dX10_tosser_119 : decode cX10_tosser 119 = .ok (.getfield 123, 3) := by decide +kernel
theorem dX10_tosser_122 : decode cX10_tosser 122 = .ok (.iload_n 1, 1) := by decide +kernel
theorem dX10_tosser_123 : decode cX10_tosser 123 = .ok (.invokevirtual 127, 3) := by decide +kernel
theorem dX10_tosser_126 : decode cX10_tosser 126 = .ok (.ireturn, 1) := by decide +kernel
theorem dX10_tosser_127 : decode cX10_tosser 127 = .ok (.aload_n 0, 1) := by decide +kernel
theorem dX10_tosser_128 : decode cX10_tosser 128 = .ok (.getfield 32, 3) := by decide +kernel
theorem dX10_tosser_131 : decode cX10_tosser 131 = .ok (.getfield 123, 3) := by decide +kernel
theorem dX10_tosser_134 : decode cX10_tosser 134 = .ok (.iload_n 1, 1) := by decide +kernel
theorem dX10_tosser_135 : decode cX10_tosser 135 = .ok (.invokevirtual 127, 3) := by decide +kernel
