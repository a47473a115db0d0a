theorem dX7_init_0 : decode cX7_init 0 = .ok (.aload_n 0, 1) := by decide +kernel
theorem dX7_init_1 : decode cX7_init 1 = .ok (.invokespecial 1, 3) := by decide +kernel
theorem dX7_init_4 : decode cX7_init 4 = .ok (.aload_n 0, 1) := by decide +kernel
theorem dX7_init_5 : decode cX7_init 5 = .ok (.new 7, 3) := by decide +kernel
theorem dX7_init_8 : decode cX7_init 8 = .ok (.dup, 1) := by decide +kernel
theorem dX7_init_9 : decode cX7_init 9 = .ok (.invokespecial 9, 3) := by decide +kernel
theorem dX7_init_12 : decode cX7_init 12 = .ok (.putfield 10, 3) := by decide +kernel
theorem dX7_init_15 : decode cX7_init 15 = .ok (.aload_n 0, 1) := by decide +kernel
theorem dX7_init_16 : decode cX7_init 16 = .ok (.new 16, 3) := by decide +kernel
theorem dX7_init_19 : decode cX7_init 19 = .ok (.dup, 1) := by decide +kernel
theorem dX7_init_20 : decode cX7_init 20 = .ok (.invokespecial 18, 3) := by decide +kernel
theorem dX7_init_23 : decode cX7_init 23 = .ok (.putfield 19, 3) := by decide +kernel
theorem dX7_init_26 : decode cX7_init 26 = .ok (.aload_n 0, 1) := by decide +kernel
theorem dX7_init_27 : decode cX7_init 27 = .ok (.new 23, 3) := by decide +kernel
theorem dX7_init_30 : decode cX7_init 30 = .ok (.dup, 1) := by decide +kernel
theorem dX7_init_31 : decode cX7_init 31 = .ok (.invokespecial 25, 3) := by decide +kernel
theorem dX7_init_34 : decode cX7_init 34 = .ok (.putfield 26, 3) := by decide +kernel
theorem dX7_init_37 : decode cX7_init 37 = .ok (.aload_n 0, 1) := by decide +kernel
theorem dX7_init_38 : decode cX7_init 38 = .ok (.new 30, 3) := by decide +kernel
theorem dX7_init_41 : decode cX7_init 41 = .ok (.dup, 1) := by decide +kernel
theorem dX7_init_42 : decode cX7_init 42 = .ok (.invokespecial 32, 3) := by decide +kernel
theorem dX7_init_45 : decode cX7_init 45 = .ok (.putfield 33, 3) := by decide +kernel
theorem dX7_init_48 : decode cX7_init 48 = .ok (.aload_n 0, 1) := by decide +kernel
theorem dX7_init_49 : decode cX7_init 49 = .ok (.new 37, 3) := by decide +kernel
theorem dX7_init_52 : decode cX7_init 52 = .ok (.dup, 1) := by decide +kernel
theorem dX7_init_53 : decode cX7_init 53 = .ok (.invokespecial 39, 3) := by decide +kernel
theorem dX7_init_56 : decode cX7_init 56 = .ok (.putfield 40, 3) := by decide +kernel
theorem dX7_init_59 : decode cX7_init 59 = .ok (.aload_n 0, 1) := by decide +kernel
theorem dX7_init_60 : decode cX7_init 60 = .ok (.new 44, 3) := by decide +kernel
theorem dX7_init_63 : decode cX7_init 63 = .ok (.dup, 1) := by decide +kernel
theorem dX7_init_64 : decode cX7_init 64 = .ok (.invokespecial 46, 3) := by decide +kernel
theorem dX7_init_67 : decode cX7_init 67 = .ok (.putfield 47, 3) := by decide +kernel
theorem dX7_init_70 : decode cX7_init 70 = .ok (.aload_n 0, 1) := by decide +kernel
theorem dX7_init_71 : decode cX7_init 71 = .ok (.new 51, 3) := by decide +kernel
theorem dX7_init_74 : decode cX7_init 74 = .ok (.dup, 1) := by decide +kernel
theorem dX7_init_75 : decode cX7_init 75 = .ok (.invokespecial 53, 3) := by decide +kernel
theorem dX7_init_78 : decode cX7_init 78 = .ok (.putfield 54, 3) := by decide +kernel
theorem dX7_init_81 : decode cX7_init 81 = .ok (.aload_n 0, 1) := by decide +kernel
theorem dX7_init_82 : decode cX7_init 82 = .ok (.iconst 4, 1) := by decide +kernel
theorem dX7_init_83 : decode cX7_init 83 = .ok (.newarray .boolean, 2) := by decide +kernel
theorem dX7_init_85 : decode cX7_init 85 = .ok (.putfield 58, 3) := by decide +kernel
theorem dX7_init_88 : decode cX7_init 88 = .ok (.aload_n 0, 1) := by decide +kernel
theorem dX7_init_89 : decode cX7_init 89 = .ok (.iconst 0, 1) := by decide +kernel
theorem dX7_init_90 : decode cX7_init 90 = .ok (.putfield 62, 3) := by decide +kernel
theorem dX7_init_93 : decode cX7_init 93 = .ok (.aload_n 0, 1) := by decide +kernel
theorem dX7_init_94 : decode cX7_init 94 = .ok (.iconst 1, 1) := by decide +kernel
theorem dX7_init_95 : decode cX7_init 95 = .ok (.putfield 66, 3) := by decide +kernel
theorem dX7_init_98 : decode cX7_init 98 = .ok (.aload_n 0, 1) := by decide +kernel
theorem dX7_init_99 : decode cX7_init 99 = .ok (.lconst 0, 1) := by decide +kernel
theorem dX7_init_100 : decode cX7_init 100 = .ok (.putfield 69, 3) := by decide +kernel
theorem dX7_init_103 : decode cX7_init 103 = .ok (.return_, 1) := by decide +kernel
theorem dX7_type_0 : decode cX7_type 0 = .ok (.iload_n 3, 1) := by decide +kernel
theorem dX7_type_1 : decode cX7_type 1 = .ok (.iconst 1, 1) := by decide +kernel
theorem dX7_type_2 : decode cX7_type 2 = .ok (.bipush 8, 2) := by decide +kernel
theorem dX7_type_4 : decode cX7_type 4 = .ok (.invokestatic 73, 3) := by decide +kernel
theorem dX7_type_7 : decode cX7_type 7 = .ok (.ifCond .ne 5, 3) := by decide +kernel
theorem dX7_type_10 : decode cX7_type 10 = .ok (.iconst (-1), 1) := by decide +kernel
theorem dX7_type_11 : decode cX7_type 11 = .ok (.ireturn, 1) := by decide +kernel
theorem dX7_type_12 : decode cX7_type 12 = .ok (.aload_n 0, 1) := by decide +kernel
theorem dX7_type_13 : decode cX7_type 13 = .ok (.getfield 10, 3) := by decide +kernel
theorem dX7_type_16 : decode cX7_type 16 = .ok (.iload_n 3, 1) := by decide +kernel
theorem dX7_type_17 : decode cX7_type 17 = .ok (.invokevirtual 77, 3) := by decide +kernel
theorem dX7_type_20 : decode cX7_type 20 = .ok (.ifCond .ne 6, 3) := by decide +kernel
theorem dX7_type_23 : decode cX7_type 23 = .ok (.bipush (-3), 2) := by decide +kernel
theorem dX7_type_25 : decode cX7_type 25 = .ok (.ireturn, 1) := by decide +kernel
theorem dX7_type_26 : decode cX7_type 26 = .ok (.aload_n 0, 1) := by decide +kernel
theorem dX7_type_27 : decode cX7_type 27 = .ok (.getfield 10, 3) := by decide +kernel
theorem dX7_type_30 : decode cX7_type 30 = .ok (.lload_n 1, 1) := by decide +kernel
theorem dX7_type_31 : decode cX7_type 31 = .ok (.iload_n 3, 1) := by decide +kernel
theorem dX7_type_32 : decode cX7_type 32 = .ok (.invokevirtual 81, 3) := by decide +kernel
theorem dX7_type_35 : decode cX7_type 35 = .ok (.aload_n 0, 1) := by decide +kernel
theorem dX7_type_36 : decode cX7_type 36 = .ok (.getfield 10, 3) := by decide +kernel
theorem dX7_type_39 : decode cX7_type 39 = .ok (.getfield 85, 3) := by decide +kernel
theorem dX7_type_42 : decode cX7_type 42 = .ok (.ireturn, 1) := by decide +kernel
theorem dX7_clear_0 : decode cX7_clear 0 = .ok (.aload_n 0, 1) := by decide +kernel
theorem dX7_clear_1 : decode cX7_clear 1 = .ok (.getfield 10, 3) := by decide +kernel
theorem dX7_clear_4 : decode cX7_clear 4 = .ok (.invokevirtual 88, 3) := by decide +kernel
theorem dX7_clear_7 : decode cX7_clear 7 = .ok (.ireturn, 1) := by decide +kernel
theorem dX7_law_0 : decode cX7_law 0 = .ok (.aload_n 0, 1) := by decide +kernel
theorem dX7_law_1 : decode cX7_law 1 = .ok (.getfield 10, 3) := by decide +kernel
theorem dX7_law_4 : decode cX7_law 4 = .ok (.getfield 85, 3) := by decide +kernel
theorem dX7_law_7 : decode cX7_law 7 = .ok (.ifCond .ne 6, 3) := by decide +kernel
theorem dX7_law_10 : decode cX7_law 10 = .ok (.bipush (-2), 2) := by decide +kernel
theorem dX7_law_12 : decode cX7_law 12 = .ok (.ireturn, 1) := by decide +kernel
theorem dX7_law_13 : decode cX7_law 13 = .ok (.aload_n 0, 1) := by decide +kernel
theorem dX7_law_14 : decode cX7_law 14 = .ok (.getfield 10, 3) := by decide +kernel
theorem dX7_law_17 : decode cX7_law 17 = .ok (.invokevirtual 92, 3) := by decide +kernel
theorem dX7_law_20 : decode cX7_law 20 = .ok (.istore_n 1, 1) := by decide +kernel
theorem dX7_law_21 : decode cX7_law 21 = .ok (.iload_n 1, 1) := by decide +kernel
theorem dX7_law_22 : decode cX7_law 22 = .ok (.bipush (-9), 2) := by decide +kernel
theorem dX7_law_24 : decode cX7_law 24 = .ok (.if_icmp .eq 8, 3) := by decide +kernel
theorem dX7_law_27 : decode cX7_law 27 = .ok (.bipush (-100), 2) := by decide +kernel
theorem dX7_law_29 : decode cX7_law 29 = .ok (.iload_n 1, 1) := by decide +kernel
theorem dX7_law_30 : decode cX7_law 30 = .ok (.isub, 1) := by decide +kernel
theorem dX7_law_31 : decode cX7_law 31 = .ok (.ireturn, 1) := by decide +kernel
theorem dX7_law_32 : decode cX7_law 32 = .ok (.aload_n 0, 1) := by decide +kernel
theorem dX7_law_33 : decode cX7_law 33 = .ok (.getfield 19, 3) := by decide +kernel
theorem dX7_law_36 : decode cX7_law 36 = .ok (.invokevirtual 95, 3) := by decide +kernel
theorem dX7_law_39 : decode cX7_law 39 = .ok (.ifCond .eq 6, 3) := by decide +kernel
theorem dX7_law_42 : decode cX7_law 42 = .ok (.bipush (-3), 2) := by decide +kernel
theorem dX7_law_44 : decode cX7_law 44 = .ok (.ireturn, 1) := by decide +kernel
theorem dX7_law_45 : decode cX7_law 45 = .ok (.aload_n 0, 1) := by decide +kernel
theorem dX7_law_46 : decode cX7_law 46 = .ok (.getfield 19, 3) := by decide +kernel
theorem dX7_law_49 : decode cX7_law 49 = .ok (.aload_n 0, 1) := by decide +kernel
theorem dX7_law_50 : decode cX7_law 50 = .ok (.getfield 10, 3) := by decide +kernel
theorem dX7_law_53 : decode cX7_law 53 = .ok (.aload_n 0, 1) := by decide +kernel
theorem dX7_law_54 : decode cX7_law 54 = .ok (.getfield 62, 3) := by decide +kernel
theorem dX7_law_57 : decode cX7_law 57 = .ok (.invokevirtual 99, 3) := by decide +kernel
theorem dX7_law_60 : decode cX7_law 60 = .ok (.istore_n 2, 1) := by decide +kernel
theorem dX7_law_61 : decode cX7_law 61 = .ok (.aload_n 0, 1) := by decide +kernel
theorem dX7_law_62 : decode cX7_law 62 = .ok (.getfield 10, 3) := by decide +kernel
theorem dX7_law_65 : decode cX7_law 65 = .ok (.invokevirtual 88, 3) := by decide +kernel
theorem dX7_law_68 : decode cX7_law 68 = .ok (.pop, 1) := by decide +kernel
theorem dX7_law_69 : decode cX7_law 69 = .ok (.iload_n 2, 1) := by decide +kernel
theorem dX7_law_70 : decode cX7_law 70 = .ok (.ireturn, 1) := by decide +kernel
theorem dX7_span_0 : decode cX7_span 0 = .ok (.iload_n 1, 1) := by decide +kernel
theorem dX7_span_1 : decode cX7_span 1 = .ok (.iconst 0, 1) := by decide +kernel
theorem dX7_span_2 : decode cX7_span 2 = .ok (.iconst 2, 1) := by decide +kernel
theorem dX7_span_3 : decode cX7_span 3 = .ok (.invokestatic 73, 3) := by decide +kernel
theorem dX7_span_6 : decode cX7_span 6 = .ok (.ifCond .eq 14, 3) := by decide +kernel
theorem dX7_span_9 : decode cX7_span 9 = .ok (.iload_n 2, 1) := by decide +kernel
theorem dX7_span_10 : decode cX7_span 10 = .ok (.iconst 0, 1) := by decide +kernel
theorem dX7_span_11 : decode cX7_span 11 = .ok (.sipush 500, 3) := by decide +kernel
theorem dX7_span_14 : decode cX7_span 14 = .ok (.invokestatic 73, 3) := by decide +kernel
theorem dX7_span_17 : decode cX7_span 17 = .ok (.ifCond .ne 5, 3) := by decide +kernel
theorem dX7_span_20 : decode cX7_span 20 = .ok (.iconst (-1), 1) := by decide +kernel
theorem dX7_span_21 : decode cX7_span 21 = .ok (.ireturn, 1) := by decide +kernel
theorem dX7_span_22 : decode cX7_span 22 = .ok (.aload_n 0, 1) := by decide +kernel
theorem dX7_span_23 : decode cX7_span 23 = .ok (.getfield 19, 3) := by decide +kernel
theorem dX7_span_26 : decode cX7_span 26 = .ok (.iload_n 1, 1) := by decide +kernel
theorem dX7_span_27 : decode cX7_span 27 = .ok (.iload_n 2, 1) := by decide +kernel
theorem dX7_span_28 : decode cX7_span 28 = .ok (.invokevirtual 103, 3) := by decide +kernel
theorem dX7_span_31 : decode cX7_span 31 = .ok (.ireturn, 1) := by decide +kernel
theorem dX7_days_0 : decode cX7_days 0 = .ok (.iload_n 1, 1) := by decide +kernel
theorem dX7_days_1 : decode cX7_days 1 = .ok (.iconst 1, 1) := by decide +kernel
theorem dX7_days_2 : decode cX7_days 2 = .ok (.bipush 50, 2) := by decide +kernel
theorem dX7_days_4 : decode cX7_days 4 = .ok (.invokestatic 73, 3) := by decide +kernel
theorem dX7_days_7 : decode cX7_days 7 = .ok (.ifCond .ne 5, 3) := by decide +kernel
theorem dX7_days_10 : decode cX7_days 10 = .ok (.iconst (-1), 1) := by decide +kernel
theorem dX7_days_11 : decode cX7_days 11 = .ok (.ireturn, 1) := by decide +kernel
theorem dX7_days_12 : decode cX7_days 12 = .ok (.aload_n 0, 1) := by decide +kernel
theorem dX7_days_13 : decode cX7_days 13 = .ok (.getfield 62, 3) := by decide +kernel
theorem dX7_days_16 : decode cX7_days 16 = .ok (.iload_n 1, 1) := by decide +kernel
theorem dX7_days_17 : decode cX7_days 17 = .ok (.iadd, 1) := by decide +kernel
theorem dX7_days_18 : decode cX7_days 18 = .ok (.sipush 500, 3) := by decide +kernel
theorem dX7_days_21 : decode cX7_days 21 = .ok (.if_icmp .le 6, 3) := by decide +kernel
theorem dX7_days_24 : decode cX7_days 24 = .ok (.bipush (-2), 2) := by decide +kernel
theorem dX7_days_26 : decode cX7_days 26 = .ok (.ireturn, 1) := by decide +kernel
theorem dX7_days_27 : decode cX7_days 27 = .ok (.aload_n 0, 1) := by decide +kernel
theorem dX7_days_28 : decode cX7_days 28 = .ok (.dup, 1) := by decide +kernel
theorem dX7_days_29 : decode cX7_days 29 = .ok (.getfield 62, 3) := by decide +kernel
theorem dX7_days_32 : decode cX7_days 32 = .ok (.iload_n 1, 1) := by decide +kernel
theorem dX7_days_33 : decode cX7_days 33 = .ok (.iadd, 1) := by decide +kernel
theorem dX7_days_34 : decode cX7_days 34 = .ok (.putfield 62, 3) := by decide +kernel
theorem dX7_days_37 : decode cX7_days 37 = .ok (.aload_n 0, 1) := by decide +kernel
theorem dX7_days_38 : decode cX7_days 38 = .ok (.getfield 62, 3) := by decide +kernel
theorem dX7_days_41 : decode cX7_days 41 = .ok (.ireturn, 1) := by decide +kernel
theorem dX7_flue_0 : decode cX7_flue 0 = .ok (.iload_n 1, 1) := by decide +kernel
theorem dX7_flue_1 : decode cX7_flue 1 = .ok (.iload_n 2, 1) := by decide +kernel
theorem dX7_flue_2 : decode cX7_flue 2 = .ok (.iload_n 3, 1) := by decide +kernel
theorem dX7_flue_3 : decode cX7_flue 3 = .ok (.iload 4, 2) := by decide +kernel
theorem dX7_flue_5 : decode cX7_flue 5 = .ok (.iload 5, 2) := by decide +kernel
theorem dX7_flue_7 : decode cX7_flue 7 = .ok (.invokestatic 107, 3) := by decide +kernel
theorem dX7_flue_10 : decode cX7_flue 10 = .ok (.ifCond .eq 21, 3) := by decide +kernel
theorem dX7_flue_13 : decode cX7_flue 13 = .ok (.iload 6, 2) := by decide +kernel
theorem dX7_flue_15 : decode cX7_flue 15 = .ok (.iload 7, 2) := by decide +kernel
theorem dX7_flue_17 : decode cX7_flue 17 = .ok (.invokestatic 111, 3) := by decide +kernel
theorem dX7_flue_20 : decode cX7_flue 20 = .ok (.ifCond .eq 11, 3) := by decide +kernel
theorem dX7_flue_23 : decode cX7_flue 23 = .ok (.iload 8, 2) := by decide +kernel
theorem dX7_flue_25 : decode cX7_flue 25 = .ok (.invokestatic 115, 3) := by decide +kernel
theorem dX7_flue_28 : decode cX7_flue 28 = .ok (.ifCond .ne 5, 3) := by decide +kernel
theorem dX7_flue_31 : decode cX7_flue 31 = .ok (.iconst (-1), 1) := by decide +kernel
theorem dX7_flue_32 : decode cX7_flue 32 = .ok (.ireturn, 1) := by decide +kernel
theorem dX7_flue_33 : decode cX7_flue 33 = .ok (.aload_n 0, 1) := by decide +kernel
theorem dX7_flue_34 : decode cX7_flue 34 = .ok (.getfield 26, 3) := by decide +kernel
theorem dX7_flue_37 : decode cX7_flue 37 = .ok (.invokevirtual 118, 3) := by decide +kernel
theorem dX7_flue_40 : decode cX7_flue 40 = .ok (.ifCond .eq 6, 3) := by decide +kernel
theorem dX7_flue_43 : decode cX7_flue 43 = .ok (.bipush (-3), 2) := by decide +kernel
theorem dX7_flue_45 : decode cX7_flue 45 = .ok (.ireturn, 1) := by decide +kernel
theorem dX7_flue_46 : decode cX7_flue 46 = .ok (.aload_n 0, 1) := by decide +kernel
theorem dX7_flue_47 : decode cX7_flue 47 = .ok (.getfield 26, 3) := by decide +kernel
theorem dX7_flue_50 : decode cX7_flue 50 = .ok (.iload_n 1, 1) := by decide +kernel
theorem dX7_flue_51 : decode cX7_flue 51 = .ok (.iload_n 2, 1) := by decide +kernel
theorem dX7_flue_52 : decode cX7_flue 52 = .ok (.iload_n 3, 1) := by decide +kernel
theorem dX7_flue_53 : decode cX7_flue 53 = .ok (.iload 4, 2) := by decide +kernel
theorem dX7_flue_55 : decode cX7_flue 55 = .ok (.iload 5, 2) := by decide +kernel
theorem dX7_flue_57 : decode cX7_flue 57 = .ok (.invokevirtual 119, 3) := by decide +kernel
theorem dX7_flue_60 : decode cX7_flue 60 = .ok (.aload_n 0, 1) := by decide +kernel
theorem dX7_flue_61 : decode cX7_flue 61 = .ok (.getfield 26, 3) := by decide +kernel
theorem dX7_flue_64 : decode cX7_flue 64 = .ok (.iload 6, 2) := by decide +kernel
theorem dX7_flue_66 : decode cX7_flue 66 = .ok (.iload 7, 2) := by decide +kernel
theorem dX7_flue_68 : decode cX7_flue 68 = .ok (.iload 8, 2) := by decide +kernel
theorem dX7_flue_70 : decode cX7_flue 70 = .ok (.aload_n 0, 1) := by decide +kernel
theorem dX7_flue_71 : decode cX7_flue 71 = .ok (.getfield 62, 3) := by decide +kernel
theorem dX7_flue_74 : decode cX7_flue 74 = .ok (.invokevirtual 123, 3) := by decide +kernel
theorem dX7_flue_77 : decode cX7_flue 77 = .ok (.aload_n 0, 1) := by decide +kernel
theorem dX7_flue_78 : decode cX7_flue 78 = .ok (.getfield 26, 3) := by decide +kernel
theorem dX7_flue_81 : decode cX7_flue 81 = .ok (.invokevirtual 127, 3) := by decide +kernel
theorem dX7_flue_84 : decode cX7_flue 84 = .ok (.ireturn, 1) := by decide +kernel
theorem dX7_draught_0 : decode cX7_draught 0 = .ok (.aload_n 0, 1) := by decide +kernel
theorem dX7_draught_1 : decode cX7_draught 1 = .ok (.getfield 26, 3) := by decide +kernel
theorem dX7_draught_4 : decode cX7_draught 4 = .ok (.iload_n 1, 1) := by decide +kernel
theorem dX7_draught_5 : decode cX7_draught 5 = .ok (.invokevirtual 129, 3) := by decide +kernel
theorem dX7_draught_8 : decode cX7_draught 8 = .ok (.ifCond .ne 5, 3) := by decide +kernel
theorem dX7_draught_11 : decode cX7_draught 11 = .ok (.iconst (-1), 1) := by decide +kernel
theorem dX7_draught_12 : decode cX7_draught 12 = .ok (.ireturn, 1) := by decide +kernel
theorem dX7_draught_13 : decode cX7_draught 13 = .ok (.aload_n 0, 1) := by decide +kernel
theorem dX7_draught_14 : decode cX7_draught 14 = .ok (.getfield 26, 3) := by decide +kernel
theorem dX7_draught_17 : decode cX7_draught 17 = .ok (.getfield 132, 3) := by decide +kernel
theorem dX7_draught_20 : decode cX7_draught 20 = .ok (.iload_n 1, 1) := by decide +kernel
theorem dX7_draught_21 : decode cX7_draught 21 = .ok (.iaload, 1) := by decide +kernel
theorem dX7_draught_22 : decode cX7_draught 22 = .ok (.lookupswitch 38 #[(0, 26), (1, 32)], 26) := by decide +kernel
theorem dX7_draught_48 : decode cX7_draught 48 = .ok (.aload_n 0, 1) := by decide +kernel
theorem dX7_draught_49 : decode cX7_draught 49 = .ok (.iload_n 1, 1) := by decide +kernel
theorem dX7_draught_50 : decode cX7_draught 50 = .ok (.invokevirtual 136, 3) := by decide +kernel
theorem dX7_draught_53 : decode cX7_draught 53 = .ok (.ireturn, 1) := by decide +kernel
theorem dX7_draught_54 : decode cX7_draught 54 = .ok (.aload_n 0, 1) := by decide +kernel
theorem dX7_draught_55 : decode cX7_draught 55 = .ok (.iload_n 1, 1) := by decide +kernel
theorem dX7_draught_56 : decode cX7_draught 56 = .ok (.invokevirtual 140, 3) := by decide +kernel
theorem dX7_draught_59 : decode cX7_draught 59 = .ok (.ireturn, 1) := by decide +kernel
theorem dX7_draught_60 : decode cX7_draught 60 = .ok (.aload_n 0, 1) := by decide +kernel
theorem dX7_draught_61 : decode cX7_draught 61 = .ok (.iload_n 1, 1) := by decide +kernel
theorem dX7_draught_62 : decode cX7_draught 62 = .ok (.invokevirtual 143, 3) := by decide +kernel
theorem dX7_draught_65 : decode cX7_draught 65 = .ok (.ireturn, 1) := by decide +kernel
theorem dX7_about_0 : decode cX7_about 0 = .ok (.aload_n 0, 1) := by decide +kernel
theorem dX7_about_1 : decode cX7_about 1 = .ok (.getfield 26, 3) := by decide +kernel
theorem dX7_about_4 : decode cX7_about 4 = .ok (.iload_n 1, 1) := by decide +kernel
theorem dX7_about_5 : decode cX7_about 5 = .ok (.invokevirtual 129, 3) := by decide +kernel
theorem dX7_about_8 : decode cX7_about 8 = .ok (.ifCond .ne 5, 3) := by decide +kernel
theorem dX7_about_11 : decode cX7_about 11 = .ok (.iconst (-1), 1) := by decide +kernel
theorem dX7_about_12 : decode cX7_about 12 = .ok (.ireturn, 1) := by decide +kernel
theorem dX7_about_13 : decode cX7_about 13 = .ok (.iload_n 2, 1) := by decide +kernel
theorem dX7_about_14 : decode cX7_about 14 = .ok (.tableswitch 121 0 7 #[46, 56, 66, 76, 86, 96, 106, 115], 46) := by decide +kernel
theorem dX7_about_60 : decode cX7_about 60 = .ok (.aload_n 0, 1) := by decide +kernel
theorem dX7_about_61 : decode cX7_about 61 = .ok (.getfield 26, 3) := by decide +kernel
theorem dX7_about_64 : decode cX7_about 64 = .ok (.getfield 132, 3) := by decide +kernel
theorem dX7_about_67 : decode cX7_about 67 = .ok (.iload_n 1, 1) := by decide +kernel
theorem dX7_about_68 : decode cX7_about 68 = .ok (.iaload, 1) := by decide +kernel
theorem dX7_about_69 : decode cX7_about 69 = .ok (.ireturn, 1) := by decide +kernel
theorem dX7_about_70 : decode cX7_about 70 = .ok (.aload_n 0, 1) := by decide +kernel
theorem dX7_about_71 : decode cX7_about 71 = .ok (.getfield 26, 3) := by decide +kernel
theorem dX7_about_74 : decode cX7_about 74 = .ok (.getfield 146, 3) := by decide +kernel
theorem dX7_about_77 : decode cX7_about 77 = .ok (.iload_n 1, 1) := by decide +kernel
theorem dX7_about_78 : decode cX7_about 78 = .ok (.iaload, 1) := by decide +kernel
theorem dX7_about_79 : decode cX7_about 79 = .ok (.ireturn, 1) := by decide +kernel
theorem dX7_about_80 : decode cX7_about 80 = .ok (.aload_n 0, 1) := by decide +kernel
theorem dX7_about_81 : decode cX7_about 81 = .ok (.getfield 26, 3) := by decide +kernel
theorem dX7_about_84 : decode cX7_about 84 = .ok (.getfield 149, 3) := by decide +kernel
theorem dX7_about_87 : decode cX7_about 87 = .ok (.iload_n 1, 1) := by decide +kernel
theorem dX7_about_88 : decode cX7_about 88 = .ok (.iaload, 1) := by decide +kernel
theorem dX7_about_89 : decode cX7_about 89 = .ok (.ireturn, 1) := by decide +kernel
theorem dX7_about_90 : decode cX7_about 90 = .ok (.aload_n 0, 1) := by decide +kernel
theorem dX7_about_91 : decode cX7_about 91 = .ok (.getfield 26, 3) := by decide +kernel
theorem dX7_about_94 : decode cX7_about 94 = .ok (.getfield 152, 3) := by decide +kernel
theorem dX7_about_97 : decode cX7_about 97 = .ok (.iload_n 1, 1) := by decide +kernel
theorem dX7_about_98 : decode cX7_about 98 = .ok (.iaload, 1) := by decide +kernel
theorem dX7_about_99 : decode cX7_about 99 = .ok (.ireturn, 1) := by decide +kernel
theorem dX7_about_100 : decode cX7_about 100 = .ok (.aload_n 0, 1) := by decide +kernel
theorem dX7_about_101 : decode cX7_about 101 = .ok (.iload_n 1, 1) := by decide +kernel
theorem dX7_about_102 : decode cX7_about 102 = .ok (.aload_n 0, 1) := by decide +kernel
theorem dX7_about_103 : decode cX7_about 103 = .ok (.getfield 62, 3) := by decide +kernel
theorem dX7_about_106 : decode cX7_about 106 = .ok (.invokevirtual 155, 3) := by decide +kernel
theorem dX7_about_109 : decode cX7_about 109 = .ok (.ireturn, 1) := by decide +kernel
theorem dX7_about_110 : decode cX7_about 110 = .ok (.aload_n 0, 1) := by decide +kernel
theorem dX7_about_111 : decode cX7_about 111 = .ok (.getfield 26, 3) := by decide +kernel
theorem dX7_about_114 : decode cX7_about 114 = .ok (.getfield 158, 3) := by decide +kernel
theorem dX7_about_117 : decode cX7_about 117 = .ok (.iload_n 1, 1) := by decide +kernel
theorem dX7_about_118 : decode cX7_about 118 = .ok (.iaload, 1) := by decide +kernel
theorem dX7_about_119 : decode cX7_about 119 = .ok (.ireturn, 1) := by decide +kernel
theorem dX7_about_120 : decode cX7_about 120 = .ok (.aload_n 0, 1) := by decide +kernel
theorem dX7_about_121 : decode cX7_about 121 = .ok (.iload_n 1, 1) := by decide +kernel
theorem dX7_about_122 : decode cX7_about 122 = .ok (.invokevirtual 161, 3) := by decide +kernel
theorem dX7_about_125 : decode cX7_about 125 = .ok (.invokestatic 164, 3) := by decide +kernel
theorem dX7_about_128 : decode cX7_about 128 = .ok (.ireturn, 1) := by decide +kernel
theorem dX7_about_129 : decode cX7_about 129 = .ok (.aload_n 0, 1) := by decide +kernel
theorem dX7_about_130 : decode cX7_about 130 = .ok (.iload_n 1, 1) := by decide +kernel
theorem dX7_about_131 : decode cX7_about 131 = .ok (.invokevirtual 168, 3) := by decide +kernel
theorem dX7_about_134 : decode cX7_about 134 = .ok (.ireturn, 1) := by decide +kernel
theorem dX7_about_135 : decode cX7_about 135 = .ok (.iconst (-1), 1) := by decide +kernel
theorem dX7_about_136 : decode cX7_about 136 = .ok (.ireturn, 1) := by decide +kernel
theorem dX7_due_0 : decode cX7_due 0 = .ok (.aload_n 0, 1) := by decide +kernel
theorem dX7_due_1 : decode cX7_due 1 = .ok (.getfield 26, 3) := by decide +kernel
theorem dX7_due_4 : decode cX7_due 4 = .ok (.iload_n 1, 1) := by decide +kernel
theorem dX7_due_5 : decode cX7_due 5 = .ok (.invokevirtual 129, 3) := by decide +kernel
theorem dX7_due_8 : decode cX7_due 8 = .ok (.ifCond .ne 5, 3) := by decide +kernel
theorem dX7_due_11 : decode cX7_due 11 = .ok (.iconst (-1), 1) := by decide +kernel
theorem dX7_due_12 : decode cX7_due 12 = .ok (.ireturn, 1) := by decide +kernel
theorem dX7_due_13 : decode cX7_due 13 = .ok (.aload_n 0, 1) := by decide +kernel
theorem dX7_due_14 : decode cX7_due 14 = .ok (.iload_n 1, 1) := by decide +kernel
theorem dX7_due_15 : decode cX7_due 15 = .ok (.invokevirtual 171, 3) := by decide +kernel
theorem dX7_due_18 : decode cX7_due 18 = .ok (.ireturn, 1) := by decide +kernel
theorem dX7_beyond_0 : decode cX7_beyond 0 = .ok (.iconst 0, 1) := by decide +kernel
theorem dX7_beyond_1 : decode cX7_beyond 1 = .ok (.istore_n 1, 1) := by decide +kernel
theorem dX7_beyond_2 : decode cX7_beyond 2 = .ok (.iconst 0, 1) := by decide +kernel
theorem dX7_beyond_3 : decode cX7_beyond 3 = .ok (.istore_n 2, 1) := by decide +kernel
theorem dX7_beyond_4 : decode cX7_beyond 4 = .ok (.iload_n 2, 1) := by decide +kernel
theorem dX7_beyond_5 : decode cX7_beyond 5 = .ok (.aload_n 0, 1) := by decide +kernel
theorem dX7_beyond_6 : decode cX7_beyond 6 = .ok (.getfield 26, 3) := by decide +kernel
theorem dX7_beyond_9 : decode cX7_beyond 9 = .ok (.getfield 174, 3) := by decide +kernel
theorem dX7_beyond_12 : decode cX7_beyond 12 = .ok (.if_icmp .ge 32, 3) := by decide +kernel
theorem dX7_beyond_15 : decode cX7_beyond 15 = .ok (.aload_n 0, 1) := by decide +kernel
theorem dX7_beyond_16 : decode cX7_beyond 16 = .ok (.iload_n 2, 1) := by decide +kernel
theorem dX7_beyond_17 : decode cX7_beyond 17 = .ok (.invokevirtual 161, 3) := by decide +kernel
theorem dX7_beyond_20 : decode cX7_beyond 20 = .ok (.ifCond .ne 18, 3) := by decide +kernel
theorem dX7_beyond_23 : decode cX7_beyond 23 = .ok (.aload_n 0, 1) := by decide +kernel
theorem dX7_beyond_24 : decode cX7_beyond 24 = .ok (.iload_n 2, 1) := by decide +kernel
theorem dX7_beyond_25 : decode cX7_beyond 25 = .ok (.aload_n 0, 1) := by decide +kernel
theorem dX7_beyond_26 : decode cX7_beyond 26 = .ok (.getfield 62, 3) := by decide +kernel
theorem dX7_beyond_29 : decode cX7_beyond 29 = .ok (.invokevirtual 175, 3) := by decide +kernel
theorem dX7_beyond_32 : decode cX7_beyond 32 = .ok (.ifCond .eq 6, 3) := by decide +kernel
theorem dX7_beyond_35 : decode cX7_beyond 35 = .ok (.iinc 1 1, 3) := by decide +kernel
theorem dX7_beyond_38 : decode cX7_beyond 38 = .ok (.iinc 2 1, 3) := by decide +kernel
theorem dX7_beyond_41 : decode cX7_beyond 41 = .ok (.goto (-37), 3) := by decide +kernel
theorem dX7_beyond_44 : decode cX7_beyond 44 = .ok (.iload_n 1, 1) := by decide +kernel
theorem dX7_beyond_45 : decode cX7_beyond 45 = .ok (.ireturn, 1) := by decide +kernel
theorem dX7_sweep_0 : decode cX7_sweep 0 = .ok (.aload_n 0, 1) := by decide +kernel
theorem dX7_sweep_1 : decode cX7_sweep 1 = .ok (.getfield 26, 3) := by decide +kernel
theorem dX7_sweep_4 : decode cX7_sweep 4 = .ok (.iload_n 1, 1) := by decide +kernel
theorem dX7_sweep_5 : decode cX7_sweep 5 = .ok (.invokevirtual 129, 3) := by decide +kernel
theorem dX7_sweep_8 : decode cX7_sweep 8 = .ok (.ifCond .ne 5, 3) := by decide +kernel
theorem dX7_sweep_11 : decode cX7_sweep 11 = .ok (.iconst (-1), 1) := by decide +kernel
theorem dX7_sweep_12 : decode cX7_sweep 12 = .ok (.ireturn, 1) := by decide +kernel
theorem dX7_sweep_13 : decode cX7_sweep 13 = .ok (.aload_n 0, 1) := by decide +kernel
theorem dX7_sweep_14 : decode cX7_sweep 14 = .ok (.iload_n 1, 1) := by decide +kernel
theorem dX7_sweep_15 : decode cX7_sweep 15 = .ok (.invokevirtual 168, 3) := by decide +kernel
theorem dX7_sweep_18 : decode cX7_sweep 18 = .ok (.istore_n 2, 1) := by decide +kernel
theorem dX7_sweep_19 : decode cX7_sweep 19 = .ok (.aload_n 0, 1) := by decide +kernel
theorem dX7_sweep_20 : decode cX7_sweep 20 = .ok (.iload_n 1, 1) := by decide +kernel
theorem dX7_sweep_21 : decode cX7_sweep 21 = .ok (.invokevirtual 161, 3) := by decide +kernel
theorem dX7_sweep_24 : decode cX7_sweep 24 = .ok (.ifCond .ne 9, 3) := by decide +kernel
theorem dX7_sweep_27 : decode cX7_sweep 27 = .ok (.iload_n 2, 1) := by decide +kernel
theorem dX7_sweep_28 : decode cX7_sweep 28 = .ok (.bipush (-9), 2) := by decide +kernel
theorem dX7_sweep_30 : decode cX7_sweep 30 = .ok (.if_icmp .ne 6, 3) := by decide +kernel
theorem dX7_sweep_33 : decode cX7_sweep 33 = .ok (.bipush (-2), 2) := by decide +kernel
theorem dX7_sweep_35 : decode cX7_sweep 35 = .ok (.ireturn, 1) := by decide +kernel
theorem dX7_sweep_36 : decode cX7_sweep 36 = .ok (.aload_n 0, 1) := by decide +kernel
theorem dX7_sweep_37 : decode cX7_sweep 37 = .ok (.getfield 47, 3) := by decide +kernel
theorem dX7_sweep_40 : decode cX7_sweep 40 = .ok (.invokevirtual 178, 3) := by decide +kernel
theorem dX7_sweep_43 : decode cX7_sweep 43 = .ok (.ifCond .eq 6, 3) := by decide +kernel
theorem dX7_sweep_46 : decode cX7_sweep 46 = .ok (.bipush (-3), 2) := by decide +kernel
theorem dX7_sweep_48 : decode cX7_sweep 48 = .ok (.ireturn, 1) := by decide +kernel
theorem dX7_sweep_49 : decode cX7_sweep 49 = .ok (.aload_n 0, 1) := by decide +kernel
theorem dX7_sweep_50 : decode cX7_sweep 50 = .ok (.getfield 26, 3) := by decide +kernel
theorem dX7_sweep_53 : decode cX7_sweep 53 = .ok (.getfield 149, 3) := by decide +kernel
theorem dX7_sweep_56 : decode cX7_sweep 56 = .ok (.iload_n 1, 1) := by decide +kernel
theorem dX7_sweep_57 : decode cX7_sweep 57 = .ok (.iaload, 1) := by decide +kernel
theorem dX7_sweep_58 : decode cX7_sweep 58 = .ok (.aload_n 0, 1) := by decide +kernel
theorem dX7_sweep_59 : decode cX7_sweep 59 = .ok (.getfield 66, 3) := by decide +kernel
theorem dX7_sweep_62 : decode cX7_sweep 62 = .ok (.imul, 1) := by decide +kernel
theorem dX7_sweep_63 : decode cX7_sweep 63 = .ok (.istore_n 3, 1) := by decide +kernel
theorem dX7_sweep_64 : decode cX7_sweep 64 = .ok (.aload_n 0, 1) := by decide +kernel
theorem dX7_sweep_65 : decode cX7_sweep 65 = .ok (.getfield 47, 3) := by decide +kernel
theorem dX7_sweep_68 : decode cX7_sweep 68 = .ok (.iload_n 1, 1) := by decide +kernel
theorem dX7_sweep_69 : decode cX7_sweep 69 = .ok (.aload_n 0, 1) := by decide +kernel
theorem dX7_sweep_70 : decode cX7_sweep 70 = .ok (.getfield 62, 3) := by decide +kernel
theorem dX7_sweep_73 : decode cX7_sweep 73 = .ok (.iload_n 2, 1) := by decide +kernel
theorem dX7_sweep_74 : decode cX7_sweep 74 = .ok (.iload_n 3, 1) := by decide +kernel
theorem dX7_sweep_75 : decode cX7_sweep 75 = .ok (.invokevirtual 179, 3) := by decide +kernel
theorem dX7_sweep_78 : decode cX7_sweep 78 = .ok (.aload_n 0, 1) := by decide +kernel
theorem dX7_sweep_79 : decode cX7_sweep 79 = .ok (.getfield 26, 3) := by decide +kernel
theorem dX7_sweep_82 : decode cX7_sweep 82 = .ok (.getfield 158, 3) := by decide +kernel
theorem dX7_sweep_85 : decode cX7_sweep 85 = .ok (.iload_n 1, 1) := by decide +kernel
theorem dX7_sweep_86 : decode cX7_sweep 86 = .ok (.iconst 0, 1) := by decide +kernel
theorem dX7_sweep_87 : decode cX7_sweep 87 = .ok (.iastore, 1) := by decide +kernel
theorem dX7_sweep_88 : decode cX7_sweep 88 = .ok (.iload_n 3, 1) := by decide +kernel
theorem dX7_sweep_89 : decode cX7_sweep 89 = .ok (.ireturn, 1) := by decide +kernel
theorem dX7_refuse_0 : decode cX7_refuse 0 = .ok (.aload_n 0, 1) := by decide +kernel
theorem dX7_refuse_1 : decode cX7_refuse 1 = .ok (.getfield 26, 3) := by decide +kernel
theorem dX7_refuse_4 : decode cX7_refuse 4 = .ok (.iload_n 1, 1) := by decide +kernel
theorem dX7_refuse_5 : decode cX7_refuse 5 = .ok (.invokevirtual 129, 3) := by decide +kernel
theorem dX7_refuse_8 : decode cX7_refuse 8 = .ok (.ifCond .ne 5, 3) := by decide +kernel
theorem dX7_refuse_11 : decode cX7_refuse 11 = .ok (.iconst (-1), 1) := by decide +kernel
theorem dX7_refuse_12 : decode cX7_refuse 12 = .ok (.ireturn, 1) := by decide +kernel
theorem dX7_refuse_13 : decode cX7_refuse 13 = .ok (.aload_n 0, 1) := by decide +kernel
theorem dX7_refuse_14 : decode cX7_refuse 14 = .ok (.iload_n 1, 1) := by decide +kernel
theorem dX7_refuse_15 : decode cX7_refuse 15 = .ok (.invokevirtual 161, 3) := by decide +kernel
theorem dX7_refuse_18 : decode cX7_refuse 18 = .ok (.ifCond .eq 6, 3) := by decide +kernel
theorem dX7_refuse_21 : decode cX7_refuse 21 = .ok (.bipush (-2), 2) := by decide +kernel
theorem dX7_refuse_23 : decode cX7_refuse 23 = .ok (.ireturn, 1) := by decide +kernel
theorem dX7_refuse_24 : decode cX7_refuse 24 = .ok (.aload_n 0, 1) := by decide +kernel
theorem dX7_refuse_25 : decode cX7_refuse 25 = .ok (.getfield 26, 3) := by decide +kernel
theorem dX7_refuse_28 : decode cX7_refuse 28 = .ok (.getfield 158, 3) := by decide +kernel
theorem dX7_refuse_31 : decode cX7_refuse 31 = .ok (.iload_n 1, 1) := by decide +kernel
theorem dX7_refuse_32 : decode cX7_refuse 32 = .ok (.dup2, 1) := by decide +kernel
theorem dX7_refuse_33 : decode cX7_refuse 33 = .ok (.iaload, 1) := by decide +kernel
theorem dX7_refuse_34 : decode cX7_refuse 34 = .ok (.iconst 1, 1) := by decide +kernel
theorem dX7_refuse_35 : decode cX7_refuse 35 = .ok (.iadd, 1) := by decide +kernel
theorem dX7_refuse_36 : decode cX7_refuse 36 = .ok (.iastore, 1) := by decide +kernel
theorem dX7_refuse_37 : decode cX7_refuse 37 = .ok (.aload_n 0, 1) := by decide +kernel
theorem dX7_refuse_38 : decode cX7_refuse 38 = .ok (.getfield 26, 3) := by decide +kernel
theorem dX7_refuse_41 : decode cX7_refuse 41 = .ok (.getfield 158, 3) := by decide +kernel
theorem dX7_refuse_44 : decode cX7_refuse 44 = .ok (.iload_n 1, 1) := by decide +kernel
theorem dX7_refuse_45 : decode cX7_refuse 45 = .ok (.iaload, 1) := by decide +kernel
theorem dX7_refuse_46 : decode cX7_refuse 46 = .ok (.ireturn, 1) := by decide +kernel
theorem dX7_look_0 : decode cX7_look 0 = .ok (.aload_n 0, 1) := by decide +kernel
theorem dX7_look_1 : decode cX7_look 1 = .ok (.getfield 26, 3) := by decide +kernel
theorem dX7_look_4 : decode cX7_look 4 = .ok (.iload_n 1, 1) := by decide +kernel
theorem dX7_look_5 : decode cX7_look 5 = .ok (.invokevirtual 129, 3) := by decide +kernel
theorem dX7_look_8 : decode cX7_look 8 = .ok (.ifCond .eq 15, 3) := by decide +kernel
theorem dX7_look_11 : decode cX7_look 11 = .ok (.iload_n 2, 1) := by decide +kernel
theorem dX7_look_12 : decode cX7_look 12 = .ok (.iconst 0, 1) := by decide +kernel
theorem dX7_look_13 : decode cX7_look 13 = .ok (.aload_n 0, 1) := by decide +kernel
theorem dX7_look_14 : decode cX7_look 14 = .ok (.getfield 62, 3) := by decide +kernel
theorem dX7_look_17 : decode cX7_look 17 = .ok (.invokestatic 73, 3) := by decide +kernel
theorem dX7_look_20 : decode cX7_look 20 = .ok (.ifCond .ne 5, 3) := by decide +kernel
theorem dX7_look_23 : decode cX7_look 23 = .ok (.iconst (-1), 1) := by decide +kernel
theorem dX7_look_24 : decode cX7_look 24 = .ok (.ireturn, 1) := by decide +kernel
theorem dX7_look_25 : decode cX7_look 25 = .ok (.aload_n 0, 1) := by decide +kernel
theorem dX7_look_26 : decode cX7_look 26 = .ok (.getfield 26, 3) := by decide +kernel
theorem dX7_look_29 : decode cX7_look 29 = .ok (.getfield 181, 3) := by decide +kernel
theorem dX7_look_32 : decode cX7_look 32 = .ok (.iload_n 1, 1) := by decide +kernel
theorem dX7_look_33 : decode cX7_look 33 = .ok (.iaload, 1) := by decide +kernel
theorem dX7_look_34 : decode cX7_look 34 = .ok (.iload_n 2, 1) := by decide +kernel
theorem dX7_look_35 : decode cX7_look 35 = .ok (.if_icmp .le 6, 3) := by decide +kernel
theorem dX7_look_38 : decode cX7_look 38 = .ok (.bipush (-2), 2) := by decide +kernel
theorem dX7_look_40 : decode cX7_look 40 = .ok (.ireturn, 1) := by decide +kernel
theorem dX7_look_41 : decode cX7_look 41 = .ok (.aload_n 0, 1) := by decide +kernel
theorem dX7_look_42 : decode cX7_look 42 = .ok (.getfield 33, 3) := by decide +kernel
theorem dX7_look_45 : decode cX7_look 45 = .ok (.invokevirtual 184, 3) := by decide +kernel
theorem dX7_look_48 : decode cX7_look 48 = .ok (.ifCond .eq 6, 3) := by decide +kernel
theorem dX7_look_51 : decode cX7_look 51 = .ok (.bipush (-3), 2) := by decide +kernel
theorem dX7_look_53 : decode cX7_look 53 = .ok (.ireturn, 1) := by decide +kernel
theorem dX7_look_54 : decode cX7_look 54 = .ok (.iload_n 3, 1) := by decide +kernel
theorem dX7_look_55 : decode cX7_look 55 = .ok (.ifCond .eq 13, 3) := by decide +kernel
theorem dX7_look_58 : decode cX7_look 58 = .ok (.aload_n 0, 1) := by decide +kernel
theorem dX7_look_59 : decode cX7_look 59 = .ok (.getfield 26, 3) := by decide +kernel
theorem dX7_look_62 : decode cX7_look 62 = .ok (.getfield 158, 3) := by decide +kernel
theorem dX7_look_65 : decode cX7_look 65 = .ok (.iload_n 1, 1) := by decide +kernel
theorem dX7_look_66 : decode cX7_look 66 = .ok (.iconst 0, 1) := by decide +kernel
theorem dX7_look_67 : decode cX7_look 67 = .ok (.iastore, 1) := by decide +kernel
theorem dX7_look_68 : decode cX7_look 68 = .ok (.aload_n 0, 1) := by decide +kernel
theorem dX7_look_69 : decode cX7_look 69 = .ok (.getfield 33, 3) := by decide +kernel
theorem dX7_look_72 : decode cX7_look 72 = .ok (.iload_n 1, 1) := by decide +kernel
theorem dX7_look_73 : decode cX7_look 73 = .ok (.iload_n 2, 1) := by decide +kernel
theorem dX7_look_74 : decode cX7_look 74 = .ok (.aload_n 0, 1) := by decide +kernel
theorem dX7_look_75 : decode cX7_look 75 = .ok (.getfield 62, 3) := by decide +kernel
theorem dX7_look_78 : decode cX7_look 78 = .ok (.iload_n 3, 1) := by decide +kernel
theorem dX7_look_79 : decode cX7_look 79 = .ok (.invokevirtual 185, 3) := by decide +kernel
theorem dX7_look_82 : decode cX7_look 82 = .ok (.ireturn, 1) := by decide +kernel
theorem dX7_known_0 : decode cX7_known 0 = .ok (.aload_n 0, 1) := by decide +kernel
theorem dX7_known_1 : decode cX7_known 1 = .ok (.getfield 26, 3) := by decide +kernel
theorem dX7_known_4 : decode cX7_known 4 = .ok (.iload_n 1, 1) := by decide +kernel
theorem dX7_known_5 : decode cX7_known 5 = .ok (.invokevirtual 129, 3) := by decide +kernel
theorem dX7_known_8 : decode cX7_known 8 = .ok (.ifCond .eq 15, 3) := by decide +kernel
theorem dX7_known_11 : decode cX7_known 11 = .ok (.iload_n 2, 1) := by decide +kernel
theorem dX7_known_12 : decode cX7_known 12 = .ok (.iconst 0, 1) := by decide +kernel
theorem dX7_known_13 : decode cX7_known 13 = .ok (.aload_n 0, 1) := by decide +kernel
theorem dX7_known_14 : decode cX7_known 14 = .ok (.getfield 62, 3) := by decide +kernel
theorem dX7_known_17 : decode cX7_known 17 = .ok (.invokestatic 73, 3) := by decide +kernel
theorem dX7_known_20 : decode cX7_known 20 = .ok (.ifCond .ne 5, 3) := by decide +kernel
theorem dX7_known_23 : decode cX7_known 23 = .ok (.iconst (-1), 1) := by decide +kernel
theorem dX7_known_24 : decode cX7_known 24 = .ok (.ireturn, 1) := by decide +kernel
theorem dX7_known_25 : decode cX7_known 25 = .ok (.aload_n 0, 1) := by decide +kernel
theorem dX7_known_26 : decode cX7_known 26 = .ok (.getfield 33, 3) := by decide +kernel
theorem dX7_known_29 : decode cX7_known 29 = .ok (.iload_n 1, 1) := by decide +kernel
theorem dX7_known_30 : decode cX7_known 30 = .ok (.iload_n 2, 1) := by decide +kernel
theorem dX7_known_31 : decode cX7_known 31 = .ok (.invokevirtual 188, 3) := by decide +kernel
theorem dX7_known_34 : decode cX7_known 34 = .ok (.ireturn, 1) := by decide +kernel
theorem dX7_fire_0 : decode cX7_fire 0 = .ok (.aload_n 0, 1) := by decide +kernel
theorem dX7_fire_1 : decode cX7_fire 1 = .ok (.getfield 26, 3) := by decide +kernel
theorem dX7_fire_4 : decode cX7_fire 4 = .ok (.iload_n 1, 1) := by decide +kernel
theorem dX7_fire_5 : decode cX7_fire 5 = .ok (.invokevirtual 129, 3) := by decide +kernel
theorem dX7_fire_8 : decode cX7_fire 8 = .ok (.ifCond .eq 15, 3) := by decide +kernel
theorem dX7_fire_11 : decode cX7_fire 11 = .ok (.iload_n 2, 1) := by decide +kernel
theorem dX7_fire_12 : decode cX7_fire 12 = .ok (.iconst 0, 1) := by decide +kernel
theorem dX7_fire_13 : decode cX7_fire 13 = .ok (.aload_n 0, 1) := by decide +kernel
theorem dX7_fire_14 : decode cX7_fire 14 = .ok (.getfield 62, 3) := by decide +kernel
theorem dX7_fire_17 : decode cX7_fire 17 = .ok (.invokestatic 73, 3) := by decide +kernel
theorem dX7_fire_20 : decode cX7_fire 20 = .ok (.ifCond .ne 5, 3) := by decide +kernel
theorem dX7_fire_23 : decode cX7_fire 23 = .ok (.iconst (-1), 1) := by decide +kernel
theorem dX7_fire_24 : decode cX7_fire 24 = .ok (.ireturn, 1) := by decide +kernel
theorem dX7_fire_25 : decode cX7_fire 25 = .ok (.aload_n 0, 1) := by decide +kernel
theorem dX7_fire_26 : decode cX7_fire 26 = .ok (.getfield 26, 3) := by decide +kernel
theorem dX7_fire_29 : decode cX7_fire 29 = .ok (.getfield 181, 3) := by decide +kernel
theorem dX7_fire_32 : decode cX7_fire 32 = .ok (.iload_n 1, 1) := by decide +kernel
theorem dX7_fire_33 : decode cX7_fire 33 = .ok (.iaload, 1) := by decide +kernel
theorem dX7_fire_34 : decode cX7_fire 34 = .ok (.iload_n 2, 1) := by decide +kernel
theorem dX7_fire_35 : decode cX7_fire 35 = .ok (.if_icmp .le 6, 3) := by decide +kernel
theorem dX7_fire_38 : decode cX7_fire 38 = .ok (.bipush (-2), 2) := by decide +kernel
theorem dX7_fire_40 : decode cX7_fire 40 = .ok (.ireturn, 1) := by decide +kernel
theorem dX7_fire_41 : decode cX7_fire 41 = .ok (.aload_n 0, 1) := by decide +kernel
theorem dX7_fire_42 : decode cX7_fire 42 = .ok (.getfield 40, 3) := by decide +kernel
theorem dX7_fire_45 : decode cX7_fire 45 = .ok (.invokevirtual 191, 3) := by decide +kernel
theorem dX7_fire_48 : decode cX7_fire 48 = .ok (.ifCond .eq 6, 3) := by decide +kernel
theorem dX7_fire_51 : decode cX7_fire 51 = .ok (.bipush (-3), 2) := by decide +kernel
theorem dX7_fire_53 : decode cX7_fire 53 = .ok (.ireturn, 1) := by decide +kernel
theorem dX7_fire_54 : decode cX7_fire 54 = .ok (.aload_n 0, 1) := by decide +kernel
theorem dX7_fire_55 : decode cX7_fire 55 = .ok (.getfield 40, 3) := by decide +kernel
theorem dX7_fire_58 : decode cX7_fire 58 = .ok (.iload_n 1, 1) := by decide +kernel
theorem dX7_fire_59 : decode cX7_fire 59 = .ok (.iload_n 2, 1) := by decide +kernel
theorem dX7_fire_60 : decode cX7_fire 60 = .ok (.invokevirtual 192, 3) := by decide +kernel
theorem dX7_fire_63 : decode cX7_fire 63 = .ok (.ireturn, 1) := by decide +kernel
theorem dX7_back_0 : decode cX7_back 0 = .ok (.aload_n 0, 1) := by decide +kernel
theorem dX7_back_1 : decode cX7_back 1 = .ok (.getfield 40, 3) := by decide +kernel
theorem dX7_back_4 : decode cX7_back 4 = .ok (.iload_n 1, 1) := by decide +kernel
theorem dX7_back_5 : decode cX7_back 5 = .ok (.invokevirtual 194, 3) := by decide +kernel
theorem dX7_back_8 : decode cX7_back 8 = .ok (.ifCond .ne 5, 3) := by decide +kernel
theorem dX7_back_11 : decode cX7_back 11 = .ok (.iconst (-1), 1) := by decide +kernel
theorem dX7_back_12 : decode cX7_back 12 = .ok (.ireturn, 1) := by decide +kernel
theorem dX7_back_13 : decode cX7_back 13 = .ok (.aload_n 0, 1) := by decide +kernel
theorem dX7_back_14 : decode cX7_back 14 = .ok (.getfield 40, 3) := by decide +kernel
theorem dX7_back_17 : decode cX7_back 17 = .ok (.getfield 195, 3) := by decide +kernel
theorem dX7_back_20 : decode cX7_back 20 = .ok (.iload_n 1, 1) := by decide +kernel
theorem dX7_back_21 : decode cX7_back 21 = .ok (.iaload, 1) := by decide +kernel
theorem dX7_back_22 : decode cX7_back 22 = .ok (.istore_n 3, 1) := by decide +kernel
theorem dX7_back_23 : decode cX7_back 23 = .ok (.aload_n 0, 1) := by decide +kernel
theorem dX7_back_24 : decode cX7_back 24 = .ok (.getfield 40, 3) := by decide +kernel
theorem dX7_back_27 : decode cX7_back 27 = .ok (.getfield 198, 3) := by decide +kernel
theorem dX7_back_30 : decode cX7_back 30 = .ok (.iload_n 1, 1) := by decide +kernel
theorem dX7_back_31 : decode cX7_back 31 = .ok (.iaload, 1) := by decide +kernel
theorem dX7_back_32 : decode cX7_back 32 = .ok (.istore 4, 2) := by decide +kernel
theorem dX7_back_34 : decode cX7_back 34 = .ok (.iload_n 2, 1) := by decide +kernel
theorem dX7_back_35 : decode cX7_back 35 = .ok (.tableswitch 80 0 5 #[37, 39, 42, 50, 58, 69], 37) := by decide +kernel
theorem dX7_back_72 : decode cX7_back 72 = .ok (.iload_n 3, 1) := by decide +kernel
theorem dX7_back_73 : decode cX7_back 73 = .ok (.ireturn, 1) := by decide +kernel
theorem dX7_back_74 : decode cX7_back 74 = .ok (.iload 4, 2) := by decide +kernel
theorem dX7_back_76 : decode cX7_back 76 = .ok (.ireturn, 1) := by decide +kernel
theorem dX7_back_77 : decode cX7_back 77 = .ok (.aload_n 0, 1) := by decide +kernel
theorem dX7_back_78 : decode cX7_back 78 = .ok (.iload_n 3, 1) := by decide +kernel
theorem dX7_back_79 : decode cX7_back 79 = .ok (.iload 4, 2) := by decide +kernel
theorem dX7_back_81 : decode cX7_back 81 = .ok (.invokevirtual 155, 3) := by decide +kernel
theorem dX7_back_84 : decode cX7_back 84 = .ok (.ireturn, 1) := by decide +kernel
theorem dX7_back_85 : decode cX7_back 85 = .ok (.aload_n 0, 1) := by decide +kernel
theorem dX7_back_86 : decode cX7_back 86 = .ok (.iload_n 3, 1) := by decide +kernel
theorem dX7_back_87 : decode cX7_back 87 = .ok (.iload 4, 2) := by decide +kernel
theorem dX7_back_89 : decode cX7_back 89 = .ok (.invokevirtual 201, 3) := by decide +kernel
theorem dX7_back_92 : decode cX7_back 92 = .ok (.ireturn, 1) := by decide +kernel
theorem dX7_back_93 : decode cX7_back 93 = .ok (.aload_n 0, 1) := by decide +kernel
theorem dX7_back_94 : decode cX7_back 94 = .ok (.iload_n 3, 1) := by decide +kernel
theorem dX7_back_95 : decode cX7_back 95 = .ok (.iload 4, 2) := by decide +kernel
theorem dX7_back_97 : decode cX7_back 97 = .ok (.invokevirtual 175, 3) := by decide +kernel
theorem dX7_back_100 : decode cX7_back 100 = .ok (.invokestatic 164, 3) := by decide +kernel
theorem dX7_back_103 : decode cX7_back 103 = .ok (.ireturn, 1) := by decide +kernel
theorem dX7_back_104 : decode cX7_back 104 = .ok (.aload_n 0, 1) := by decide +kernel
theorem dX7_back_105 : decode cX7_back 105 = .ok (.getfield 33, 3) := by decide +kernel
theorem dX7_back_108 : decode cX7_back 108 = .ok (.iload_n 3, 1) := by decide +kernel
theorem dX7_back_109 : decode cX7_back 109 = .ok (.iload 4, 2) := by decide +kernel
theorem dX7_back_111 : decode cX7_back 111 = .ok (.invokevirtual 188, 3) := by decide +kernel
theorem dX7_back_114 : decode cX7_back 114 = .ok (.ireturn, 1) := by decide +kernel
theorem dX7_back_115 : decode cX7_back 115 = .ok (.iconst (-1), 1) := by decide +kernel
theorem dX7_back_116 : decode cX7_back 116 = .ok (.ireturn, 1) := by decide +kernel
theorem dX7_rate_0 : decode cX7_rate 0 = .ok (.iload_n 1, 1) := by decide +kernel
theorem dX7_rate_1 : decode cX7_rate 1 = .ok (.iconst 1, 1) := by decide +kernel
theorem dX7_rate_2 : decode cX7_rate 2 = .ok (.bipush 9, 2) := by decide +kernel
theorem dX7_rate_4 : decode cX7_rate 4 = .ok (.invokestatic 73, 3) := by decide +kernel
theorem dX7_rate_7 : decode cX7_rate 7 = .ok (.ifCond .ne 5, 3) := by decide +kernel
theorem dX7_rate_10 : decode cX7_rate 10 = .ok (.iconst (-1), 1) := by decide +kernel
theorem dX7_rate_11 : decode cX7_rate 11 = .ok (.ireturn, 1) := by decide +kernel
theorem dX7_rate_12 : decode cX7_rate 12 = .ok (.aload_n 0, 1) := by decide +kernel
theorem dX7_rate_13 : decode cX7_rate 13 = .ok (.getfield 66, 3) := by decide +kernel
theorem dX7_rate_16 : decode cX7_rate 16 = .ok (.istore_n 2, 1) := by decide +kernel
theorem dX7_rate_17 : decode cX7_rate 17 = .ok (.aload_n 0, 1) := by decide +kernel
theorem dX7_rate_18 : decode cX7_rate 18 = .ok (.iload_n 1, 1) := by decide +kernel
theorem dX7_rate_19 : decode cX7_rate 19 = .ok (.putfield 66, 3) := by decide +kernel
theorem dX7_rate_22 : decode cX7_rate 22 = .ok (.iload_n 2, 1) := by decide +kernel
theorem dX7_rate_23 : decode cX7_rate 23 = .ok (.ireturn, 1) := by decide +kernel
theorem dX7_ill_0 : decode cX7_ill 0 = .ok (.iload_n 1, 1) := by decide +kernel
theorem dX7_ill_1 : decode cX7_ill 1 = .ok (.invokestatic 115, 3) := by decide +kernel
theorem dX7_ill_4 : decode cX7_ill 4 = .ok (.ifCond .ne 5, 3) := by decide +kernel
theorem dX7_ill_7 : decode cX7_ill 7 = .ok (.iconst (-1), 1) := by decide +kernel
theorem dX7_ill_8 : decode cX7_ill 8 = .ok (.ireturn, 1) := by decide +kernel
theorem dX7_ill_9 : decode cX7_ill 9 = .ok (.aload_n 0, 1) := by decide +kernel
theorem dX7_ill_10 : decode cX7_ill 10 = .ok (.getfield 58, 3) := by decide +kernel
theorem dX7_ill_13 : decode cX7_ill 13 = .ok (.iload_n 1, 1) := by decide +kernel
theorem dX7_ill_14 : decode cX7_ill 14 = .ok (.baload, 1) := by decide +kernel
theorem dX7_ill_15 : decode cX7_ill 15 = .ok (.invokestatic 164, 3) := by decide +kernel
theorem dX7_ill_18 : decode cX7_ill 18 = .ok (.istore_n 3, 1) := by decide +kernel
theorem dX7_ill_19 : decode cX7_ill 19 = .ok (.aload_n 0, 1) := by decide +kernel
theorem dX7_ill_20 : decode cX7_ill 20 = .ok (.getfield 58, 3) := by decide +kernel
theorem dX7_ill_23 : decode cX7_ill 23 = .ok (.iload_n 1, 1) := by decide +kernel
theorem dX7_ill_24 : decode cX7_ill 24 = .ok (.iload_n 2, 1) := by decide +kernel
theorem dX7_ill_25 : decode cX7_ill 25 = .ok (.bastore, 1) := by decide +kernel
theorem dX7_ill_26 : decode cX7_ill 26 = .ok (.iload_n 3, 1) := by decide +kernel
theorem dX7_ill_27 : decode cX7_ill 27 = .ok (.ireturn, 1) := by decide +kernel
theorem dX7_fees_0 : decode cX7_fees 0 = .ok (.iload_n 1, 1) := by decide +kernel
theorem dX7_fees_1 : decode cX7_fees 1 = .ok (.invokestatic 115, 3) := by decide +kernel
theorem dX7_fees_4 : decode cX7_fees 4 = .ok (.ifCond .ne 5, 3) := by decide +kernel
theorem dX7_fees_7 : decode cX7_fees 7 = .ok (.iconst (-1), 1) := by decide +kernel
theorem dX7_fees_8 : decode cX7_fees 8 = .ok (.ireturn, 1) := by decide +kernel
theorem dX7_fees_9 : decode cX7_fees 9 = .ok (.iload_n 2, 1) := by decide +kernel
theorem dX7_fees_10 : decode cX7_fees 10 = .ok (.lookupswitch 44 #[(0, 26), (1, 35)], 26) := by decide +kernel
theorem dX7_fees_36 : decode cX7_fees 36 = .ok (.aload_n 0, 1) := by decide +kernel
theorem dX7_fees_37 : decode cX7_fees 37 = .ok (.getfield 47, 3) := by decide +kernel
theorem dX7_fees_40 : decode cX7_fees 40 = .ok (.iload_n 1, 1) := by decide +kernel
theorem dX7_fees_41 : decode cX7_fees 41 = .ok (.invokevirtual 204, 3) := by decide +kernel
theorem dX7_fees_44 : decode cX7_fees 44 = .ok (.ireturn, 1) := by decide +kernel
theorem dX7_fees_45 : decode cX7_fees 45 = .ok (.aload_n 0, 1) := by decide +kernel
theorem dX7_fees_46 : decode cX7_fees 46 = .ok (.getfield 47, 3) := by decide +kernel
theorem dX7_fees_49 : decode cX7_fees 49 = .ok (.iload_n 1, 1) := by decide +kernel
theorem dX7_fees_50 : decode cX7_fees 50 = .ok (.invokevirtual 207, 3) := by decide +kernel
theorem dX7_fees_53 : decode cX7_fees 53 = .ok (.ireturn, 1) := by decide +kernel
theorem dX7_fees_54 : decode cX7_fees 54 = .ok (.iconst (-1), 1) := by decide +kernel
theorem dX7_fees_55 : decode cX7_fees 55 = .ok (.ireturn, 1) := by decide +kernel
theorem dX7_round_0 : decode cX7_round 0 = .ok (.iload_n 1, 1) := by decide +kernel
theorem dX7_round_1 : decode cX7_round 1 = .ok (.invokestatic 115, 3) := by decide +kernel
theorem dX7_round_4 : decode cX7_round 4 = .ok (.ifCond .eq 24, 3) := by decide +kernel
theorem dX7_round_7 : decode cX7_round 7 = .ok (.iload_n 2, 1) := by decide +kernel
theorem dX7_round_8 : decode cX7_round 8 = .ok (.iconst 1, 1) := by decide +kernel
theorem dX7_round_9 : decode cX7_round 9 = .ok (.bipush 6, 2) := by decide +kernel
theorem dX7_round_11 : decode cX7_round 11 = .ok (.invokestatic 73, 3) := by decide +kernel
theorem dX7_round_14 : decode cX7_round 14 = .ok (.ifCond .eq 14, 3) := by decide +kernel
theorem dX7_round_17 : decode cX7_round 17 = .ok (.iload_n 3, 1) := by decide +kernel
theorem dX7_round_18 : decode cX7_round 18 = .ok (.iconst 0, 1) := by decide +kernel
theorem dX7_round_19 : decode cX7_round 19 = .ok (.sipush 800, 3) := by decide +kernel
theorem dX7_round_22 : decode cX7_round 22 = .ok (.invokestatic 73, 3) := by decide +kernel
theorem dX7_round_25 : decode cX7_round 25 = .ok (.ifCond .ne 5, 3) := by decide +kernel
theorem dX7_round_28 : decode cX7_round 28 = .ok (.iconst (-1), 1) := by decide +kernel
theorem dX7_round_29 : decode cX7_round 29 = .ok (.ireturn, 1) := by decide +kernel
theorem dX7_round_30 : decode cX7_round 30 = .ok (.iconst 0, 1) := by decide +kernel
theorem dX7_round_31 : decode cX7_round 31 = .ok (.istore 4, 2) := by decide +kernel
theorem dX7_round_33 : decode cX7_round 33 = .ok (.iload 4, 2) := by decide +kernel
theorem dX7_round_35 : decode cX7_round 35 = .ok (.aload_n 0, 1) := by decide +kernel
theorem dX7_round_36 : decode cX7_round 36 = .ok (.getfield 26, 3) := by decide +kernel
theorem dX7_round_39 : decode cX7_round 39 = .ok (.getfield 174, 3) := by decide +kernel
theorem dX7_round_42 : decode cX7_round 42 = .ok (.if_icmp .ge 27, 3) := by decide +kernel
theorem dX7_round_45 : decode cX7_round 45 = .ok (.aload_n 0, 1) := by decide +kernel
theorem dX7_round_46 : decode cX7_round 46 = .ok (.getfield 26, 3) := by decide +kernel
theorem dX7_round_49 : decode cX7_round 49 = .ok (.getfield 210, 3) := by decide +kernel
theorem dX7_round_52 : decode cX7_round 52 = .ok (.iload 4, 2) := by decide +kernel
theorem dX7_round_54 : decode cX7_round 54 = .ok (.aload_n 0, 1) := by decide +kernel
theorem dX7_round_55 : decode cX7_round 55 = .ok (.iload 4, 2) := by decide +kernel
theorem dX7_round_57 : decode cX7_round 57 = .ok (.iload_n 1, 1) := by decide +kernel
theorem dX7_round_58 : decode cX7_round 58 = .ok (.iload_n 3, 1) := by decide +kernel
theorem dX7_round_59 : decode cX7_round 59 = .ok (.invokevirtual 213, 3) := by decide +kernel
theorem dX7_round_62 : decode cX7_round 62 = .ok (.iastore, 1) := by decide +kernel
theorem dX7_round_63 : decode cX7_round 63 = .ok (.iinc 4 1, 3) := by decide +kernel
theorem dX7_round_66 : decode cX7_round 66 = .ok (.goto (-33), 3) := by decide +kernel
theorem dX7_round_69 : decode cX7_round 69 = .ok (.aload_n 0, 1) := by decide +kernel
theorem dX7_round_70 : decode cX7_round 70 = .ok (.getfield 54, 3) := by decide +kernel
theorem dX7_round_73 : decode cX7_round 73 = .ok (.invokevirtual 217, 3) := by decide +kernel
theorem dX7_round_76 : decode cX7_round 76 = .ok (.iconst 0, 1) := by decide +kernel
theorem dX7_round_77 : decode cX7_round 77 = .ok (.istore 4, 2) := by decide +kernel
theorem dX7_round_79 : decode cX7_round 79 = .ok (.iload 4, 2) := by decide +kernel
theorem dX7_round_81 : decode cX7_round 81 = .ok (.aload_n 0, 1) := by decide +kernel
theorem dX7_round_82 : decode cX7_round 82 = .ok (.getfield 26, 3) := by decide +kernel
theorem dX7_round_85 : decode cX7_round 85 = .ok (.getfield 174, 3) := by decide +kernel
theorem dX7_round_88 : decode cX7_round 88 = .ok (.if_icmp .ge 66, 3) := by decide +kernel
theorem dX7_round_91 : decode cX7_round 91 = .ok (.aload_n 0, 1) := by decide +kernel
theorem dX7_round_92 : decode cX7_round 92 = .ok (.getfield 26, 3) := by decide +kernel
theorem dX7_round_95 : decode cX7_round 95 = .ok (.getfield 210, 3) := by decide +kernel
theorem dX7_round_98 : decode cX7_round 98 = .ok (.iload 4, 2) := by decide +kernel
theorem dX7_round_100 : decode cX7_round 100 = .ok (.iaload, 1) := by decide +kernel
theorem dX7_round_101 : decode cX7_round 101 = .ok (.bipush (-9), 2) := by decide +kernel
theorem dX7_round_103 : decode cX7_round 103 = .ok (.if_icmp .eq 45, 3) := by decide +kernel
theorem dX7_round_106 : decode cX7_round 106 = .ok (.aload_n 0, 1) := by decide +kernel
theorem dX7_round_107 : decode cX7_round 107 = .ok (.getfield 26, 3) := by decide +kernel
theorem dX7_round_110 : decode cX7_round 110 = .ok (.iload 4, 2) := by decide +kernel
theorem dX7_round_112 : decode cX7_round 112 = .ok (.invokevirtual 220, 3) := by decide +kernel
theorem dX7_round_115 : decode cX7_round 115 = .ok (.iload_n 2, 1) := by decide +kernel
theorem dX7_round_116 : decode cX7_round 116 = .ok (.if_icmp .ge 32, 3) := by decide +kernel
theorem dX7_round_119 : decode cX7_round 119 = .ok (.aload_n 0, 1) := by decide +kernel
theorem dX7_round_120 : decode cX7_round 120 = .ok (.getfield 54, 3) := by decide +kernel
theorem dX7_round_123 : decode cX7_round 123 = .ok (.iload 4, 2) := by decide +kernel
theorem dX7_round_125 : decode cX7_round 125 = .ok (.aload_n 0, 1) := by decide +kernel
theorem dX7_round_126 : decode cX7_round 126 = .ok (.getfield 26, 3) := by decide +kernel
theorem dX7_round_129 : decode cX7_round 129 = .ok (.getfield 223, 3) := by decide +kernel
theorem dX7_round_132 : decode cX7_round 132 = .ok (.iload 4, 2) := by decide +kernel
theorem dX7_round_134 : decode cX7_round 134 = .ok (.iaload, 1) := by decide +kernel
theorem dX7_round_135 : decode cX7_round 135 = .ok (.aload_n 0, 1) := by decide +kernel
theorem dX7_round_136 : decode cX7_round 136 = .ok (.getfield 26, 3) := by decide +kernel
theorem dX7_round_139 : decode cX7_round 139 = .ok (.getfield 226, 3) := by decide +kernel
theorem dX7_round_142 : decode cX7_round 142 = .ok (.iload 4, 2) := by decide +kernel
theorem dX7_round_144 : decode cX7_round 144 = .ok (.iaload, 1) := by decide +kernel
theorem dX7_round_145 : decode cX7_round 145 = .ok (.invokevirtual 229, 3) := by decide +kernel
theorem dX7_round_148 : decode cX7_round 148 = .ok (.iinc 4 1, 3) := by decide +kernel
theorem dX7_round_151 : decode cX7_round 151 = .ok (.goto (-72), 3) := by decide +kernel
theorem dX7_round_154 : decode cX7_round 154 = .ok (.aload_n 0, 1) := by decide +kernel
theorem dX7_round_155 : decode cX7_round 155 = .ok (.getfield 54, 3) := by decide +kernel
theorem dX7_round_158 : decode cX7_round 158 = .ok (.invokevirtual 233, 3) := by decide +kernel
theorem dX7_round_161 : decode cX7_round 161 = .ok (.aload_n 0, 1) := by decide +kernel
theorem dX7_round_162 : decode cX7_round 162 = .ok (.getfield 54, 3) := by decide +kernel
theorem dX7_round_165 : decode cX7_round 165 = .ok (.getfield 236, 3) := by decide +kernel
theorem dX7_round_168 : decode cX7_round 168 = .ok (.ireturn, 1) := by decide +kernel
theorem dX7_at_0 : decode cX7_at 0 = .ok (.iload_n 1, 1) := by decide +kernel
theorem dX7_at_1 : decode cX7_at 1 = .ok (.iconst 0, 1) := by decide +kernel
theorem dX7_at_2 : decode cX7_at 2 = .ok (.bipush 6, 2) := by decide +kernel
theorem dX7_at_4 : decode cX7_at 4 = .ok (.invokestatic 73, 3) := by decide +kernel
theorem dX7_at_7 : decode cX7_at 7 = .ok (.ifCond .ne 5, 3) := by decide +kernel
theorem dX7_at_10 : decode cX7_at 10 = .ok (.iconst (-1), 1) := by decide +kernel
theorem dX7_at_11 : decode cX7_at 11 = .ok (.ireturn, 1) := by decide +kernel
theorem dX7_at_12 : decode cX7_at 12 = .ok (.iload_n 1, 1) := by decide +kernel
theorem dX7_at_13 : decode cX7_at 13 = .ok (.bipush 6, 2) := by decide +kernel
theorem dX7_at_15 : decode cX7_at 15 = .ok (.if_icmp .ne 13, 3) := by decide +kernel
theorem dX7_at_18 : decode cX7_at 18 = .ok (.aload_n 0, 1) := by decide +kernel
theorem dX7_at_19 : decode cX7_at 19 = .ok (.getfield 54, 3) := by decide +kernel
theorem dX7_at_22 : decode cX7_at 22 = .ok (.getfield 237, 3) := by decide +kernel
theorem dX7_at_25 : decode cX7_at 25 = .ok (.goto 11, 3) := by decide +kernel
theorem dX7_at_28 : decode cX7_at 28 = .ok (.aload_n 0, 1) := by decide +kernel
theorem dX7_at_29 : decode cX7_at 29 = .ok (.getfield 54, 3) := by decide +kernel
theorem dX7_at_32 : decode cX7_at 32 = .ok (.iload_n 1, 1) := by decide +kernel
theorem dX7_at_33 : decode cX7_at 33 = .ok (.invokevirtual 240, 3) := by decide +kernel
theorem dX7_at_36 : decode cX7_at 36 = .ok (.ireturn, 1) := by decide +kernel
theorem dX7_count_0 : decode cX7_count 0 = .ok (.iload_n 1, 1) := by decide +kernel
theorem dX7_count_1 : decode cX7_count 1 = .ok (.tableswitch 96 0 6 #[43, 51, 56, 64, 72, 80, 88], 43) := by decide +kernel
theorem dX7_count_44 : decode cX7_count 44 = .ok (.aload_n 0, 1) := by decide +kernel
theorem dX7_count_45 : decode cX7_count 45 = .ok (.getfield 26, 3) := by decide +kernel
theorem dX7_count_48 : decode cX7_count 48 = .ok (.getfield 174, 3) := by decide +kernel
theorem dX7_count_51 : decode cX7_count 51 = .ok (.ireturn, 1) := by decide +kernel
theorem dX7_count_52 : decode cX7_count 52 = .ok (.aload_n 0, 1) := by decide +kernel
theorem dX7_count_53 : decode cX7_count 53 = .ok (.getfield 62, 3) := by decide +kernel
theorem dX7_count_56 : decode cX7_count 56 = .ok (.ireturn, 1) := by decide +kernel
theorem dX7_count_57 : decode cX7_count 57 = .ok (.aload_n 0, 1) := by decide +kernel
theorem dX7_count_58 : decode cX7_count 58 = .ok (.getfield 10, 3) := by decide +kernel
theorem dX7_count_61 : decode cX7_count 61 = .ok (.getfield 85, 3) := by decide +kernel
theorem dX7_count_64 : decode cX7_count 64 = .ok (.ireturn, 1) := by decide +kernel
theorem dX7_count_65 : decode cX7_count 65 = .ok (.aload_n 0, 1) := by decide +kernel
theorem dX7_count_66 : decode cX7_count 66 = .ok (.getfield 19, 3) := by decide +kernel
theorem dX7_count_69 : decode cX7_count 69 = .ok (.getfield 243, 3) := by decide +kernel
theorem dX7_count_72 : decode cX7_count 72 = .ok (.ireturn, 1) := by decide +kernel
theorem dX7_count_73 : decode cX7_count 73 = .ok (.aload_n 0, 1) := by decide +kernel
theorem dX7_count_74 : decode cX7_count 74 = .ok (.getfield 33, 3) := by decide +kernel
theorem dX7_count_77 : decode cX7_count 77 = .ok (.getfield 244, 3) := by decide +kernel
theorem dX7_count_80 : decode cX7_count 80 = .ok (.ireturn, 1) := by decide +kernel
theorem dX7_count_81 : decode cX7_count 81 = .ok (.aload_n 0, 1) := by decide +kernel
theorem dX7_count_82 : decode cX7_count 82 = .ok (.getfield 40, 3) := by decide +kernel
theorem dX7_count_85 : decode cX7_count 85 = .ok (.getfield 245, 3) := by decide +kernel
theorem dX7_count_88 : decode cX7_count 88 = .ok (.ireturn, 1) := by decide +kernel
theorem dX7_count_89 : decode cX7_count 89 = .ok (.aload_n 0, 1) := by decide +kernel
theorem dX7_count_90 : decode cX7_count 90 = .ok (.getfield 47, 3) := by decide +kernel
theorem dX7_count_93 : decode cX7_count 93 = .ok (.getfield 246, 3) := by decide +kernel
theorem dX7_count_96 : decode cX7_count 96 = .ok (.ireturn, 1) := by decide +kernel
theorem dX7_count_97 : decode cX7_count 97 = .ok (.iconst (-1), 1) := by decide +kernel
theorem dX7_count_98 : decode cX7_count 98 = .ok (.ireturn, 1) := by decide +kernel
theorem dX7_trace_0 : decode cX7_trace 0 = .ok (.aload_n 0, 1) := by decide +kernel
theorem dX7_trace_1 : decode cX7_trace 1 = .ok (.getfield 69, 3) := by decide +kernel
theorem dX7_trace_4 : decode cX7_trace 4 = .ok (.lreturn, 1) := by decide +kernel
theorem dX7_within_0 : decode cX7_within 0 = .ok (.iload_n 0, 1) := by decide +kernel
theorem dX7_within_1 : decode cX7_within 1 = .ok (.iload_n 1, 1) := by decide +kernel
theorem dX7_within_2 : decode cX7_within 2 = .ok (.if_icmp .lt 12, 3) := by decide +kernel
theorem dX7_within_5 : decode cX7_within 5 = .ok (.iload_n 0, 1) := by decide +kernel
theorem dX7_within_6 : decode cX7_within 6 = .ok (.iload_n 2, 1) := by decide +kernel
theorem dX7_within_7 : decode cX7_within 7 = .ok (.if_icmp .gt 7, 3) := by decide +kernel
theorem dX7_within_10 : decode cX7_within 10 = .ok (.iconst 1, 1) := by decide +kernel
theorem dX7_within_11 : decode cX7_within 11 = .ok (.goto 4, 3) := by decide +kernel
theorem dX7_within_14 : decode cX7_within 14 = .ok (.iconst 0, 1) := by decide +kernel
theorem dX7_within_15 : decode cX7_within 15 = .ok (.ireturn, 1) := by decide +kernel
theorem dX7_asNumber_0 : decode cX7_asNumber 0 = .ok (.iload_n 0, 1) := by decide +kernel
theorem dX7_asNumber_1 : decode cX7_asNumber 1 = .ok (.ifCond .eq 7, 3) := by decide +kernel
theorem dX7_asNumber_4 : decode cX7_asNumber 4 = .ok (.iconst 1, 1) := by decide +kernel
theorem dX7_asNumber_5 : decode cX7_asNumber 5 = .ok (.goto 4, 3) := by decide +kernel
theorem dX7_asNumber_8 : decode cX7_asNumber 8 = .ok (.iconst 0, 1) := by decide +kernel
theorem dX7_asNumber_9 : decode cX7_asNumber 9 = .ok (.ireturn, 1) := by decide +kernel
theorem dX7_isHand_0 : decode cX7_isHand 0 = .ok (.iload_n 0, 1) := by decide +kernel
theorem dX7_isHand_1 : decode cX7_isHand 1 = .ok (.iconst 0, 1) := by decide +kernel
theorem dX7_isHand_2 : decode cX7_isHand 2 = .ok (.iconst 3, 1) := by decide +kernel
theorem dX7_isHand_3 : decode cX7_isHand 3 = .ok (.invokestatic 73, 3) := by decide +kernel
theorem dX7_isHand_6 : decode cX7_isHand 6 = .ok (.ireturn, 1) := by decide +kernel
theorem dX7_isPlace_0 : decode cX7_isPlace 0 = .ok (.iload_n 0, 1) := by decide +kernel
theorem dX7_isPlace_1 : decode cX7_isPlace 1 = .ok (.iconst 0, 1) := by decide +kernel
theorem dX7_isPlace_2 : decode cX7_isPlace 2 = .ok (.bipush 20, 2) := by decide +kernel
theorem dX7_isPlace_4 : decode cX7_isPlace 4 = .ok (.invokestatic 73, 3) := by decide +kernel
theorem dX7_isPlace_7 : decode cX7_isPlace 7 = .ok (.ifCond .eq 17, 3) := by decide +kernel
theorem dX7_isPlace_10 : decode cX7_isPlace 10 = .ok (.iload_n 1, 1) := by decide +kernel
theorem dX7_isPlace_11 : decode cX7_isPlace 11 = .ok (.iconst 0, 1) := by decide +kernel
theorem dX7_isPlace_12 : decode cX7_isPlace 12 = .ok (.bipush 20, 2) := by decide +kernel
theorem dX7_isPlace_14 : decode cX7_isPlace 14 = .ok (.invokestatic 73, 3) := by decide +kernel
theorem dX7_isPlace_17 : decode cX7_isPlace 17 = .ok (.ifCond .eq 7, 3) := by decide +kernel
theorem dX7_isPlace_20 : decode cX7_isPlace 20 = .ok (.iconst 1, 1) := by decide +kernel
theorem dX7_isPlace_21 : decode cX7_isPlace 21 = .ok (.goto 4, 3) := by decide +kernel
theorem dX7_isPlace_24 : decode cX7_isPlace 24 = .ok (.iconst 0, 1) := by decide +kernel
theorem dX7_isPlace_25 : decode cX7_isPlace 25 = .ok (.ireturn, 1) := by decide +kernel
theorem dX7_isBody_0 : decode cX7_isBody 0 = .ok (.iload_n 0, 1) := by decide +kernel
theorem dX7_isBody_1 : decode cX7_isBody 1 = .ok (.iconst 0, 1) := by decide +kernel
theorem dX7_isBody_2 : decode cX7_isBody 2 = .ok (.iconst 2, 1) := by decide +kernel
theorem dX7_isBody_3 : decode cX7_isBody 3 = .ok (.invokestatic 73, 3) := by decide +kernel
theorem dX7_isBody_6 : decode cX7_isBody 6 = .ok (.ifCond .eq 47, 3) := by decide +kernel
theorem dX7_isBody_9 : decode cX7_isBody 9 = .ok (.iload_n 1, 1) := by decide +kernel
theorem dX7_isBody_10 : decode cX7_isBody 10 = .ok (.iconst 0, 1) := by decide +kernel
theorem dX7_isBody_11 : decode cX7_isBody 11 = .ok (.iconst 2, 1) := by decide +kernel
theorem dX7_isBody_12 : decode cX7_isBody 12 = .ok (.invokestatic 73, 3) := by decide +kernel
theorem dX7_isBody_15 : decode cX7_isBody 15 = .ok (.ifCond .eq 38, 3) := by decide +kernel
theorem dX7_isBody_18 : decode cX7_isBody 18 = .ok (.iload_n 2, 1) := by decide +kernel
theorem dX7_isBody_19 : decode cX7_isBody 19 = .ok (.iconst 1, 1) := by decide +kernel
theorem dX7_isBody_20 : decode cX7_isBody 20 = .ok (.bipush 30, 2) := by decide +kernel
theorem dX7_isBody_22 : decode cX7_isBody 22 = .ok (.invokestatic 73, 3) := by decide +kernel
theorem dX7_isBody_25 : decode cX7_isBody 25 = .ok (.ifCond .eq 28, 3) := by decide +kernel
theorem dX7_isBody_28 : decode cX7_isBody 28 = .ok (.iload_n 3, 1) := by decide +kernel
theorem dX7_isBody_29 : decode cX7_isBody 29 = .ok (.bipush 10, 2) := by decide +kernel
theorem dX7_isBody_31 : decode cX7_isBody 31 = .ok (.bipush 40, 2) := by decide +kernel
theorem dX7_isBody_33 : decode cX7_isBody 33 = .ok (.invokestatic 73, 3) := by decide +kernel
theorem dX7_isBody_36 : decode cX7_isBody 36 = .ok (.ifCond .eq 17, 3) := by decide +kernel
theorem dX7_isBody_39 : decode cX7_isBody 39 = .ok (.iload 4, 2) := by decide +kernel
theorem dX7_isBody_41 : decode cX7_isBody 41 = .ok (.iconst 0, 1) := by decide +kernel
theorem dX7_isBody_42 : decode cX7_isBody 42 = .ok (.iconst 4, 1) := by decide +kernel
theorem dX7_isBody_43 : decode cX7_isBody 43 = .ok (.invokestatic 73, 3) := by decide +kernel
theorem dX7_isBody_46 : decode cX7_isBody 46 = .ok (.ifCond .eq 7, 3) := by decide +kernel
theorem dX7_isBody_49 : decode cX7_isBody 49 = .ok (.iconst 1, 1) := by decide +kernel
theorem dX7_isBody_50 : decode cX7_isBody 50 = .ok (.goto 4, 3) := by decide +kernel
theorem dX7_isBody_53 : decode cX7_isBody 53 = .ok (.iconst 0, 1) := by decide +kernel
theorem dX7_isBody_54 : decode cX7_isBody 54 = .ok (.ireturn, 1) := by decide +kernel
theorem dX7_straightPull_0 : decode cX7_straightPull 0 = .ok (.aload_n 0, 1) := by decide +kernel
theorem dX7_straightPull_1 : decode cX7_straightPull 1 = .ok (.dup, 1) := by decide +kernel
theorem dX7_straightPull_2 : decode cX7_straightPull 2 = .ok (.getfield 69, 3) := by decide +kernel
theorem dX7_straightPull_5 : decode cX7_straightPull 5 = .ok (.lconst 1, 1) := by decide +kernel
theorem dX7_straightPull_6 : decode cX7_straightPull 6 = .ok (.ladd, 1) := by decide +kernel
theorem dX7_straightPull_7 : decode cX7_straightPull 7 = .ok (.putfield 69, 3) := by decide +kernel
theorem dX7_straightPull_10 : decode cX7_straightPull 10 = .ok (.aload_n 0, 1) := by decide +kernel
theorem dX7_straightPull_11 : decode cX7_straightPull 11 = .ok (.getfield 26, 3) := by decide +kernel
theorem dX7_straightPull_14 : decode cX7_straightPull 14 = .ok (.iload_n 1, 1) := by decide +kernel
theorem dX7_straightPull_15 : decode cX7_straightPull 15 = .ok (.invokevirtual 247, 3) := by decide +kernel
theorem dX7_straightPull_18 : decode cX7_straightPull 18 = .ok (.ireturn, 1) := by decide +kernel
theorem dX7_bentPull_0 : decode cX7_bentPull 0 = .ok (.aload_n 0, 1) := by decide +kernel
theorem dX7_bentPull_1 : decode cX7_bentPull 1 = .ok (.dup, 1) := by decide +kernel
theorem dX7_bentPull_2 : decode cX7_bentPull 2 = .ok (.getfield 69, 3) := by decide +kernel
theorem dX7_bentPull_5 : decode cX7_bentPull 5 = .ok (.ldc2_w 250, 3) := by decide +kernel
theorem dX7_bentPull_8 : decode cX7_bentPull 8 = .ok (.ladd, 1) := by decide +kernel
theorem dX7_bentPull_9 : decode cX7_bentPull 9 = .ok (.putfield 69, 3) := by decide +kernel
theorem dX7_bentPull_12 : decode cX7_bentPull 12 = .ok (.iconst 0, 1) := by decide +kernel
theorem dX7_bentPull_13 : decode cX7_bentPull 13 = .ok (.aload_n 0, 1) := by decide +kernel
theorem dX7_bentPull_14 : decode cX7_bentPull 14 = .ok (.iload_n 1, 1) := by decide +kernel
theorem dX7_bentPull_15 : decode cX7_bentPull 15 = .ok (.invokevirtual 136, 3) := by decide +kernel
theorem dX7_bentPull_18 : decode cX7_bentPull 18 = .ok (.iconst 2, 1) := by decide +kernel
theorem dX7_bentPull_19 : decode cX7_bentPull 19 = .ok (.aload_n 0, 1) := by decide +kernel
theorem dX7_bentPull_20 : decode cX7_bentPull 20 = .ok (.getfield 26, 3) := by decide +kernel
theorem dX7_bentPull_23 : decode cX7_bentPull 23 = .ok (.getfield 252, 3) := by decide +kernel
theorem dX7_bentPull_26 : decode cX7_bentPull 26 = .ok (.iload_n 1, 1) := by decide +kernel
theorem dX7_bentPull_27 : decode cX7_bentPull 27 = .ok (.iaload, 1) := by decide +kernel
theorem dX7_bentPull_28 : decode cX7_bentPull 28 = .ok (.imul, 1) := by decide +kernel
theorem dX7_bentPull_29 : decode cX7_bentPull 29 = .ok (.isub, 1) := by decide +kernel
theorem dX7_bentPull_30 : decode cX7_bentPull 30 = .ok (.invokestatic 255, 3) := by decide +kernel
theorem dX7_bentPull_33 : decode cX7_bentPull 33 = .ok (.ireturn, 1) := by decide +kernel
theorem dX7_sharedPull_0 : decode cX7_sharedPull 0 = .ok (.aload_n 0, 1) := by decide +kernel
theorem dX7_sharedPull_1 : decode cX7_sharedPull 1 = .ok (.dup, 1) := by decide +kernel
theorem dX7_sharedPull_2 : decode cX7_sharedPull 2 = .ok (.getfield 69, 3) := by decide +kernel
theorem dX7_sharedPull_5 : decode cX7_sharedPull 5 = .ok (.ldc2_w 260, 3) := by decide +kernel
theorem dX7_sharedPull_8 : decode cX7_sharedPull 8 = .ok (.ladd, 1) := by decide +kernel
theorem dX7_sharedPull_9 : decode cX7_sharedPull 9 = .ok (.putfield 69, 3) := by decide +kernel
theorem dX7_sharedPull_12 : decode cX7_sharedPull 12 = .ok (.aload_n 0, 1) := by decide +kernel
theorem dX7_sharedPull_13 : decode cX7_sharedPull 13 = .ok (.iload_n 1, 1) := by decide +kernel
theorem dX7_sharedPull_14 : decode cX7_sharedPull 14 = .ok (.invokevirtual 140, 3) := by decide +kernel
theorem dX7_sharedPull_17 : decode cX7_sharedPull 17 = .ok (.iconst 2, 1) := by decide +kernel
theorem dX7_sharedPull_18 : decode cX7_sharedPull 18 = .ok (.idiv, 1) := by decide +kernel
theorem dX7_sharedPull_19 : decode cX7_sharedPull 19 = .ok (.ireturn, 1) := by decide +kernel
theorem dX7_sweptBy_0 : decode cX7_sweptBy 0 = .ok (.aload_n 0, 1) := by decide +kernel
theorem dX7_sweptBy_1 : decode cX7_sweptBy 1 = .ok (.getfield 47, 3) := by decide +kernel
theorem dX7_sweptBy_4 : decode cX7_sweptBy 4 = .ok (.iload_n 1, 1) := by decide +kernel
theorem dX7_sweptBy_5 : decode cX7_sweptBy 5 = .ok (.iload_n 2, 1) := by decide +kernel
theorem dX7_sweptBy_6 : decode cX7_sweptBy 6 = .ok (.invokevirtual 262, 3) := by decide +kernel
theorem dX7_sweptBy_9 : decode cX7_sweptBy 9 = .ok (.istore_n 3, 1) := by decide +kernel
theorem dX7_sweptBy_10 : decode cX7_sweptBy 10 = .ok (.iload_n 3, 1) := by decide +kernel
theorem dX7_sweptBy_11 : decode cX7_sweptBy 11 = .ok (.bipush (-9), 2) := by decide +kernel
theorem dX7_sweptBy_13 : decode cX7_sweptBy 13 = .ok (.if_icmp .ne 15, 3) := by decide +kernel
theorem dX7_sweptBy_16 : decode cX7_sweptBy 16 = .ok (.aload_n 0, 1) := by decide +kernel
theorem dX7_sweptBy_17 : decode cX7_sweptBy 17 = .ok (.getfield 26, 3) := by decide +kernel
theorem dX7_sweptBy_20 : decode cX7_sweptBy 20 = .ok (.getfield 181, 3) := by decide +kernel
theorem dX7_sweptBy_23 : decode cX7_sweptBy 23 = .ok (.iload_n 1, 1) := by decide +kernel
theorem dX7_sweptBy_24 : decode cX7_sweptBy 24 = .ok (.iaload, 1) := by decide +kernel
theorem dX7_sweptBy_25 : decode cX7_sweptBy 25 = .ok (.goto 12, 3) := by decide +kernel
theorem dX7_sweptBy_28 : decode cX7_sweptBy 28 = .ok (.aload_n 0, 1) := by decide +kernel
theorem dX7_sweptBy_29 : decode cX7_sweptBy 29 = .ok (.getfield 47, 3) := by decide +kernel
theorem dX7_sweptBy_32 : decode cX7_sweptBy 32 = .ok (.getfield 265, 3) := by decide +kernel
theorem dX7_sweptBy_35 : decode cX7_sweptBy 35 = .ok (.iload_n 3, 1) := by decide +kernel
theorem dX7_sweptBy_36 : decode cX7_sweptBy 36 = .ok (.iaload, 1) := by decide +kernel
theorem dX7_sweptBy_37 : decode cX7_sweptBy 37 = .ok (.ireturn, 1) := by decide +kernel
theorem dX7_sweeperBy_0 : decode cX7_sweeperBy 0 = .ok (.aload_n 0, 1) := by decide +kernel
theorem dX7_sweeperBy_1 : decode cX7_sweeperBy 1 = .ok (.getfield 47, 3) := by decide +kernel
theorem dX7_sweeperBy_4 : decode cX7_sweeperBy 4 = .ok (.iload_n 1, 1) := by decide +kernel
theorem dX7_sweeperBy_5 : decode cX7_sweeperBy 5 = .ok (.iload_n 2, 1) := by decide +kernel
theorem dX7_sweeperBy_6 : decode cX7_sweeperBy 6 = .ok (.invokevirtual 262, 3) := by decide +kernel
theorem dX7_sweeperBy_9 : decode cX7_sweeperBy 9 = .ok (.istore_n 3, 1) := by decide +kernel
theorem dX7_sweeperBy_10 : decode cX7_sweeperBy 10 = .ok (.iload_n 3, 1) := by decide +kernel
theorem dX7_sweeperBy_11 : decode cX7_sweeperBy 11 = .ok (.bipush (-9), 2) := by decide +kernel
theorem dX7_sweeperBy_13 : decode cX7_sweeperBy 13 = .ok (.if_icmp .ne 8, 3) := by decide +kernel
theorem dX7_sweeperBy_16 : decode cX7_sweeperBy 16 = .ok (.bipush (-9), 2) := by decide +kernel
theorem dX7_sweeperBy_18 : decode cX7_sweeperBy 18 = .ok (.goto 12, 3) := by decide +kernel
theorem dX7_sweeperBy_21 : decode cX7_sweeperBy 21 = .ok (.aload_n 0, 1) := by decide +kernel
theorem dX7_sweeperBy_22 : decode cX7_sweeperBy 22 = .ok (.getfield 47, 3) := by decide +kernel
theorem dX7_sweeperBy_25 : decode cX7_sweeperBy 25 = .ok (.getfield 266, 3) := by decide +kernel
theorem dX7_sweeperBy_28 : decode cX7_sweeperBy 28 = .ok (.iload_n 3, 1) := by decide +kernel
theorem dX7_sweeperBy_29 : decode cX7_sweeperBy 29 = .ok (.iaload, 1) := by decide +kernel
theorem dX7_sweeperBy_30 : decode cX7_sweeperBy 30 = .ok (.ireturn, 1) := by decide +kernel
theorem dX7_dueOf_0 : decode cX7_dueOf 0 = .ok (.aload_n 0, 1) := by decide +kernel
theorem dX7_dueOf_1 : decode cX7_dueOf 1 = .ok (.getfield 19, 3) := by decide +kernel
theorem dX7_dueOf_4 : decode cX7_dueOf 4 = .ok (.aload_n 0, 1) := by decide +kernel
theorem dX7_dueOf_5 : decode cX7_dueOf 5 = .ok (.getfield 26, 3) := by decide +kernel
theorem dX7_dueOf_8 : decode cX7_dueOf 8 = .ok (.getfield 146, 3) := by decide +kernel
theorem dX7_dueOf_11 : decode cX7_dueOf 11 = .ok (.iload_n 1, 1) := by decide +kernel
theorem dX7_dueOf_12 : decode cX7_dueOf 12 = .ok (.iaload, 1) := by decide +kernel
theorem dX7_dueOf_13 : decode cX7_dueOf 13 = .ok (.aload_n 0, 1) := by decide +kernel
theorem dX7_dueOf_14 : decode cX7_dueOf 14 = .ok (.iload_n 1, 1) := by decide +kernel
theorem dX7_dueOf_15 : decode cX7_dueOf 15 = .ok (.aload_n 0, 1) := by decide +kernel
theorem dX7_dueOf_16 : decode cX7_dueOf 16 = .ok (.getfield 62, 3) := by decide +kernel
theorem dX7_dueOf_19 : decode cX7_dueOf 19 = .ok (.invokevirtual 155, 3) := by decide +kernel
theorem dX7_dueOf_22 : decode cX7_dueOf 22 = .ok (.invokevirtual 267, 3) := by decide +kernel
theorem dX7_dueOf_25 : decode cX7_dueOf 25 = .ok (.ireturn, 1) := by decide +kernel
theorem dX7_wasBeyond_0 : decode cX7_wasBeyond 0 = .ok (.iload_n 2, 1) := by decide +kernel
theorem dX7_wasBeyond_1 : decode cX7_wasBeyond 1 = .ok (.aload_n 0, 1) := by decide +kernel
theorem dX7_wasBeyond_2 : decode cX7_wasBeyond 2 = .ok (.getfield 19, 3) := by decide +kernel
theorem dX7_wasBeyond_5 : decode cX7_wasBeyond 5 = .ok (.aload_n 0, 1) := by decide +kernel
theorem dX7_wasBeyond_6 : decode cX7_wasBeyond 6 = .ok (.getfield 26, 3) := by decide +kernel
theorem dX7_wasBeyond_9 : decode cX7_wasBeyond 9 = .ok (.getfield 146, 3) := by decide +kernel
theorem dX7_wasBeyond_12 : decode cX7_wasBeyond 12 = .ok (.iload_n 1, 1) := by decide +kernel
theorem dX7_wasBeyond_13 : decode cX7_wasBeyond 13 = .ok (.iaload, 1) := by decide +kernel
theorem dX7_wasBeyond_14 : decode cX7_wasBeyond 14 = .ok (.aload_n 0, 1) := by decide +kernel
theorem dX7_wasBeyond_15 : decode cX7_wasBeyond 15 = .ok (.iload_n 1, 1) := by decide +kernel
theorem dX7_wasBeyond_16 : decode cX7_wasBeyond 16 = .ok (.iload_n 2, 1) := by decide +kernel
theorem dX7_wasBeyond_17 : decode cX7_wasBeyond 17 = .ok (.invokevirtual 155, 3) := by decide +kernel
theorem dX7_wasBeyond_20 : decode cX7_wasBeyond 20 = .ok (.invokevirtual 267, 3) := by decide +kernel
theorem dX7_wasBeyond_23 : decode cX7_wasBeyond 23 = .ok (.if_icmp .le 7, 3) := by decide +kernel
theorem dX7_wasBeyond_26 : decode cX7_wasBeyond 26 = .ok (.iconst 1, 1) := by decide +kernel
theorem dX7_wasBeyond_27 : decode cX7_wasBeyond 27 = .ok (.goto 4, 3) := by decide +kernel
theorem dX7_wasBeyond_30 : decode cX7_wasBeyond 30 = .ok (.iconst 0, 1) := by decide +kernel
theorem dX7_wasBeyond_31 : decode cX7_wasBeyond 31 = .ok (.ireturn, 1) := by decide +kernel
theorem dX7_isForbidden_0 : decode cX7_isForbidden 0 = .ok (.aload_n 0, 1) := by decide +kernel
theorem dX7_isForbidden_1 : decode cX7_isForbidden 1 = .ok (.getfield 26, 3) := by decide +kernel
theorem dX7_isForbidden_4 : decode cX7_isForbidden 4 = .ok (.getfield 158, 3) := by decide +kernel
theorem dX7_isForbidden_7 : decode cX7_isForbidden 7 = .ok (.iload_n 1, 1) := by decide +kernel
theorem dX7_isForbidden_8 : decode cX7_isForbidden 8 = .ok (.iaload, 1) := by decide +kernel
theorem dX7_isForbidden_9 : decode cX7_isForbidden 9 = .ok (.iconst 3, 1) := by decide +kernel
theorem dX7_isForbidden_10 : decode cX7_isForbidden 10 = .ok (.if_icmp .ge 18, 3) := by decide +kernel
theorem dX7_isForbidden_13 : decode cX7_isForbidden 13 = .ok (.aload_n 0, 1) := by decide +kernel
theorem dX7_isForbidden_14 : decode cX7_isForbidden 14 = .ok (.getfield 33, 3) := by decide +kernel
theorem dX7_isForbidden_17 : decode cX7_isForbidden 17 = .ok (.iload_n 1, 1) := by decide +kernel
theorem dX7_isForbidden_18 : decode cX7_isForbidden 18 = .ok (.aload_n 0, 1) := by decide +kernel
theorem dX7_isForbidden_19 : decode cX7_isForbidden 19 = .ok (.getfield 62, 3) := by decide +kernel
theorem dX7_isForbidden_22 : decode cX7_isForbidden 22 = .ok (.invokevirtual 188, 3) := by decide +kernel
theorem dX7_isForbidden_25 : decode cX7_isForbidden 25 = .ok (.ifCond .ne 7, 3) := by decide +kernel
theorem dX7_isForbidden_28 : decode cX7_isForbidden 28 = .ok (.iconst 1, 1) := by decide +kernel
theorem dX7_isForbidden_29 : decode cX7_isForbidden 29 = .ok (.goto 4, 3) := by decide +kernel
theorem dX7_isForbidden_32 : decode cX7_isForbidden 32 = .ok (.iconst 0, 1) := by decide +kernel
theorem dX7_isForbidden_33 : decode cX7_isForbidden 33 = .ok (.ireturn, 1) := by decide +kernel
theorem dX7_doerOf_0 : decode cX7_doerOf 0 = .ok (.aload_n 0, 1) := by decide +kernel
theorem dX7_doerOf_1 : decode cX7_doerOf 1 = .ok (.getfield 26, 3) := by decide +kernel
theorem dX7_doerOf_4 : decode cX7_doerOf 4 = .ok (.getfield 152, 3) := by decide +kernel
theorem dX7_doerOf_7 : decode cX7_doerOf 7 = .ok (.iload_n 1, 1) := by decide +kernel
theorem dX7_doerOf_8 : decode cX7_doerOf 8 = .ok (.iaload, 1) := by decide +kernel
theorem dX7_doerOf_9 : decode cX7_doerOf 9 = .ok (.istore_n 2, 1) := by decide +kernel
theorem dX7_doerOf_10 : decode cX7_doerOf 10 = .ok (.aload_n 0, 1) := by decide +kernel
theorem dX7_doerOf_11 : decode cX7_doerOf 11 = .ok (.getfield 58, 3) := by decide +kernel
theorem dX7_doerOf_14 : decode cX7_doerOf 14 = .ok (.iload_n 2, 1) := by decide +kernel
theorem dX7_doerOf_15 : decode cX7_doerOf 15 = .ok (.baload, 1) := by decide +kernel
theorem dX7_doerOf_16 : decode cX7_doerOf 16 = .ok (.ifCond .ne 5, 3) := by decide +kernel
theorem dX7_doerOf_19 : decode cX7_doerOf 19 = .ok (.iload_n 2, 1) := by decide +kernel
theorem dX7_doerOf_20 : decode cX7_doerOf 20 = .ok (.ireturn, 1) := by decide +kernel
theorem dX7_doerOf_21 : decode cX7_doerOf 21 = .ok (.aload_n 0, 1) := by decide +kernel
theorem dX7_doerOf_22 : decode cX7_doerOf 22 = .ok (.iload_n 1, 1) := by decide +kernel
theorem dX7_doerOf_23 : decode cX7_doerOf 23 = .ok (.invokevirtual 270, 3) := by decide +kernel
theorem dX7_doerOf_26 : decode cX7_doerOf 26 = .ok (.istore_n 3, 1) := by decide +kernel
theorem dX7_doerOf_27 : decode cX7_doerOf 27 = .ok (.iload_n 3, 1) := by decide +kernel
theorem dX7_doerOf_28 : decode cX7_doerOf 28 = .ok (.bipush (-9), 2) := by decide +kernel
theorem dX7_doerOf_30 : decode cX7_doerOf 30 = .ok (.if_icmp .ne 10, 3) := by decide +kernel
theorem dX7_doerOf_33 : decode cX7_doerOf 33 = .ok (.aload_n 0, 1) := by decide +kernel
theorem dX7_doerOf_34 : decode cX7_doerOf 34 = .ok (.invokevirtual 273, 3) := by decide +kernel
theorem dX7_doerOf_37 : decode cX7_doerOf 37 = .ok (.goto 4, 3) := by decide +kernel
theorem dX7_doerOf_40 : decode cX7_doerOf 40 = .ok (.iload_n 3, 1) := by decide +kernel
theorem dX7_doerOf_41 : decode cX7_doerOf 41 = .ok (.ireturn, 1) := by decide +kernel
theorem dX7_nearestHand_0 : decode cX7_nearestHand 0 = .ok (.bipush (-9), 2) := by decide +kernel
theorem dX7_nearestHand_2 : decode cX7_nearestHand 2 = .ok (.istore_n 2, 1) := by decide +kernel
theorem dX7_nearestHand_3 : decode cX7_nearestHand 3 = .ok (.ldc_w 276, 3) := by decide +kernel
theorem dX7_nearestHand_6 : decode cX7_nearestHand 6 = .ok (.istore_n 3, 1) := by decide +kernel
theorem dX7_nearestHand_7 : decode cX7_nearestHand 7 = .ok (.iconst 0, 1) := by decide +kernel
theorem dX7_nearestHand_8 : decode cX7_nearestHand 8 = .ok (.istore 4, 2) := by decide +kernel
theorem dX7_nearestHand_10 : decode cX7_nearestHand 10 = .ok (.iload 4, 2) := by decide +kernel
theorem dX7_nearestHand_12 : decode cX7_nearestHand 12 = .ok (.aload_n 0, 1) := by decide +kernel
theorem dX7_nearestHand_13 : decode cX7_nearestHand 13 = .ok (.getfield 26, 3) := by decide +kernel
theorem dX7_nearestHand_16 : decode cX7_nearestHand 16 = .ok (.getfield 174, 3) := by decide +kernel
theorem dX7_nearestHand_19 : decode cX7_nearestHand 19 = .ok (.if_icmp .ge 67, 3) := by decide +kernel
theorem dX7_nearestHand_22 : decode cX7_nearestHand 22 = .ok (.aload_n 0, 1) := by decide +kernel
theorem dX7_nearestHand_23 : decode cX7_nearestHand 23 = .ok (.getfield 26, 3) := by decide +kernel
theorem dX7_nearestHand_26 : decode cX7_nearestHand 26 = .ok (.getfield 152, 3) := by decide +kernel
theorem dX7_nearestHand_29 : decode cX7_nearestHand 29 = .ok (.iload 4, 2) := by decide +kernel
theorem dX7_nearestHand_31 : decode cX7_nearestHand 31 = .ok (.iaload, 1) := by decide +kernel
theorem dX7_nearestHand_32 : decode cX7_nearestHand 32 = .ok (.istore 5, 2) := by decide +kernel
theorem dX7_nearestHand_34 : decode cX7_nearestHand 34 = .ok (.aload_n 0, 1) := by decide +kernel
theorem dX7_nearestHand_35 : decode cX7_nearestHand 35 = .ok (.getfield 26, 3) := by decide +kernel
theorem dX7_nearestHand_38 : decode cX7_nearestHand 38 = .ok (.iload_n 1, 1) := by decide +kernel
theorem dX7_nearestHand_39 : decode cX7_nearestHand 39 = .ok (.iload 4, 2) := by decide +kernel
theorem dX7_nearestHand_41 : decode cX7_nearestHand 41 = .ok (.invokevirtual 277, 3) := by decide +kernel
theorem dX7_nearestHand_44 : decode cX7_nearestHand 44 = .ok (.istore 6, 2) := by decide +kernel
theorem dX7_nearestHand_46 : decode cX7_nearestHand 46 = .ok (.aload_n 0, 1) := by decide +kernel
theorem dX7_nearestHand_47 : decode cX7_nearestHand 47 = .ok (.getfield 58, 3) := by decide +kernel
theorem dX7_nearestHand_50 : decode cX7_nearestHand 50 = .ok (.iload 5, 2) := by decide +kernel
theorem dX7_nearestHand_52 : decode cX7_nearestHand 52 = .ok (.baload, 1) := by decide +kernel
theorem dX7_nearestHand_53 : decode cX7_nearestHand 53 = .ok (.ifCond .ne 27, 3) := by decide +kernel
theorem dX7_nearestHand_56 : decode cX7_nearestHand 56 = .ok (.iload 6, 2) := by decide +kernel
theorem dX7_nearestHand_58 : decode cX7_nearestHand 58 = .ok (.iload_n 3, 1) := by decide +kernel
theorem dX7_nearestHand_59 : decode cX7_nearestHand 59 = .ok (.if_icmp .lt 15, 3) := by decide +kernel
theorem dX7_nearestHand_62 : decode cX7_nearestHand 62 = .ok (.iload 6, 2) := by decide +kernel
theorem dX7_nearestHand_64 : decode cX7_nearestHand 64 = .ok (.iload_n 3, 1) := by decide +kernel
theorem dX7_nearestHand_65 : decode cX7_nearestHand 65 = .ok (.if_icmp .ne 15, 3) := by decide +kernel
theorem dX7_nearestHand_68 : decode cX7_nearestHand 68 = .ok (.iload 5, 2) := by decide +kernel
theorem dX7_nearestHand_70 : decode cX7_nearestHand 70 = .ok (.iload_n 2, 1) := by decide +kernel
theorem dX7_nearestHand_71 : decode cX7_nearestHand 71 = .ok (.if_icmp .ge 9, 3) := by decide +kernel
theorem dX7_nearestHand_74 : decode cX7_nearestHand 74 = .ok (.iload 5, 2) := by decide +kernel
theorem dX7_nearestHand_76 : decode cX7_nearestHand 76 = .ok (.istore_n 2, 1) := by decide +kernel
theorem dX7_nearestHand_77 : decode cX7_nearestHand 77 = .ok (.iload 6, 2) := by decide +kernel
theorem dX7_nearestHand_79 : decode cX7_nearestHand 79 = .ok (.istore_n 3, 1) := by decide +kernel
theorem dX7_nearestHand_80 : decode cX7_nearestHand 80 = .ok (.iinc 4 1, 3) := by decide +kernel
theorem dX7_nearestHand_83 : decode cX7_nearestHand 83 = .ok (.goto (-73), 3) := by decide +kernel
theorem dX7_nearestHand_86 : decode cX7_nearestHand 86 = .ok (.iload_n 2, 1) := by decide +kernel
theorem dX7_nearestHand_87 : decode cX7_nearestHand 87 = .ok (.ireturn, 1) := by decide +kernel
theorem dX7_leastHandNotIll_0 : decode cX7_leastHandNotIll 0 = .ok (.iconst 0, 1) := by decide +kernel
theorem dX7_leastHandNotIll_1 : decode cX7_leastHandNotIll 1 = .ok (.istore_n 1, 1) := by decide +kernel
theorem dX7_leastHandNotIll_2 : decode cX7_leastHandNotIll 2 = .ok (.iload_n 1, 1) := by decide +kernel
theorem dX7_leastHandNotIll_3 : decode cX7_leastHandNotIll 3 = .ok (.iconst 4, 1) := by decide +kernel
theorem dX7_leastHandNotIll_4 : decode cX7_leastHandNotIll 4 = .ok (.if_icmp .ge 20, 3) := by decide +kernel
theorem dX7_leastHandNotIll_7 : decode cX7_leastHandNotIll 7 = .ok (.aload_n 0, 1) := by decide +kernel
theorem dX7_leastHandNotIll_8 : decode cX7_leastHandNotIll 8 = .ok (.getfield 58, 3) := by decide +kernel
theorem dX7_leastHandNotIll_11 : decode cX7_leastHandNotIll 11 = .ok (.iload_n 1, 1) := by decide +kernel
theorem dX7_leastHandNotIll_12 : decode cX7_leastHandNotIll 12 = .ok (.baload, 1) := by decide +kernel
theorem dX7_leastHandNotIll_13 : decode cX7_leastHandNotIll 13 = .ok (.ifCond .ne 5, 3) := by decide +kernel
theorem dX7_leastHandNotIll_16 : decode cX7_leastHandNotIll 16 = .ok (.iload_n 1, 1) := by decide +kernel
theorem dX7_leastHandNotIll_17 : decode cX7_leastHandNotIll 17 = .ok (.ireturn, 1) := by decide +kernel
theorem dX7_leastHandNotIll_18 : decode cX7_leastHandNotIll 18 = .ok (.iinc 1 1, 3) := by decide +kernel
theorem dX7_leastHandNotIll_21 : decode cX7_leastHandNotIll 21 = .ok (.goto (-19), 3) := by decide +kernel
theorem dX7_leastHandNotIll_24 : decode cX7_leastHandNotIll 24 = .ok (.bipush (-9), 2) := by decide +kernel
theorem dX7_leastHandNotIll_26 : decode cX7_leastHandNotIll 26 = .ok (.ireturn, 1) := by decide +kernel
theorem dX7_waitingSince_0 : decode cX7_waitingSince 0 = .ok (.aload_n 0, 1) := by decide +kernel
theorem dX7_waitingSince_1 : decode cX7_waitingSince 1 = .ok (.iload_n 1, 1) := by decide +kernel
theorem dX7_waitingSince_2 : decode cX7_waitingSince 2 = .ok (.invokevirtual 168, 3) := by decide +kernel
theorem dX7_waitingSince_5 : decode cX7_waitingSince 5 = .ok (.iload_n 2, 1) := by decide +kernel
theorem dX7_waitingSince_6 : decode cX7_waitingSince 6 = .ok (.if_icmp .ne 11, 3) := by decide +kernel
theorem dX7_waitingSince_9 : decode cX7_waitingSince 9 = .ok (.aload_n 0, 1) := by decide +kernel
theorem dX7_waitingSince_10 : decode cX7_waitingSince 10 = .ok (.iload_n 1, 1) := by decide +kernel
theorem dX7_waitingSince_11 : decode cX7_waitingSince 11 = .ok (.invokevirtual 161, 3) := by decide +kernel
theorem dX7_waitingSince_14 : decode cX7_waitingSince 14 = .ok (.ifCond .eq 6, 3) := by decide +kernel
theorem dX7_waitingSince_17 : decode cX7_waitingSince 17 = .ok (.bipush (-9), 2) := by decide +kernel
theorem dX7_waitingSince_19 : decode cX7_waitingSince 19 = .ok (.ireturn, 1) := by decide +kernel
theorem dX7_waitingSince_20 : decode cX7_waitingSince 20 = .ok (.aload_n 0, 1) := by decide +kernel
theorem dX7_waitingSince_21 : decode cX7_waitingSince 21 = .ok (.iload_n 1, 1) := by decide +kernel
theorem dX7_waitingSince_22 : decode cX7_waitingSince 22 = .ok (.invokevirtual 171, 3) := by decide +kernel
theorem dX7_waitingSince_25 : decode cX7_waitingSince 25 = .ok (.istore 4, 2) := by decide +kernel
theorem dX7_waitingSince_27 : decode cX7_waitingSince 27 = .ok (.iload 4, 2) := by decide +kernel
theorem dX7_waitingSince_29 : decode cX7_waitingSince 29 = .ok (.iload_n 3, 1) := by decide +kernel
theorem dX7_waitingSince_30 : decode cX7_waitingSince 30 = .ok (.if_icmp .gt 8, 3) := by decide +kernel
theorem dX7_waitingSince_33 : decode cX7_waitingSince 33 = .ok (.iload 4, 2) := by decide +kernel
theorem dX7_waitingSince_35 : decode cX7_waitingSince 35 = .ok (.goto 5, 3) := by decide +kernel
theorem dX7_waitingSince_38 : decode cX7_waitingSince 38 = .ok (.bipush (-9), 2) := by decide +kernel
theorem dX7_waitingSince_40 : decode cX7_waitingSince 40 = .ok (.ireturn, 1) := by decide +kernel
