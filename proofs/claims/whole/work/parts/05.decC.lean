theorem dX8_init_0 : decode cX8_init 0 = .ok (.aload_n 0, 1) := by decide +kernel
theorem dX8_init_1 : decode cX8_init 1 = .ok (.invokespecial 1, 3) := by decide +kernel
theorem dX8_init_4 : decode cX8_init 4 = .ok (.aload_n 0, 1) := by decide +kernel
theorem dX8_init_5 : decode cX8_init 5 = .ok (.bipush 60, 2) := by decide +kernel
theorem dX8_init_7 : decode cX8_init 7 = .ok (.newarray .int, 2) := by decide +kernel
theorem dX8_init_9 : decode cX8_init 9 = .ok (.putfield 7, 3) := by decide +kernel
theorem dX8_init_12 : decode cX8_init 12 = .ok (.aload_n 0, 1) := by decide +kernel
theorem dX8_init_13 : decode cX8_init 13 = .ok (.bipush 6, 2) := by decide +kernel
theorem dX8_init_15 : decode cX8_init 15 = .ok (.newarray .int, 2) := by decide +kernel
theorem dX8_init_17 : decode cX8_init 17 = .ok (.putfield 13, 3) := by decide +kernel
theorem dX8_init_20 : decode cX8_init 20 = .ok (.aload_n 0, 1) := by decide +kernel
theorem dX8_init_21 : decode cX8_init 21 = .ok (.bipush 7, 2) := by decide +kernel
theorem dX8_init_23 : decode cX8_init 23 = .ok (.newarray .int, 2) := by decide +kernel
theorem dX8_init_25 : decode cX8_init 25 = .ok (.putfield 16, 3) := by decide +kernel
theorem dX8_init_28 : decode cX8_init 28 = .ok (.aload_n 0, 1) := by decide +kernel
theorem dX8_init_29 : decode cX8_init 29 = .ok (.sipush 240, 3) := by decide +kernel
theorem dX8_init_32 : decode cX8_init 32 = .ok (.newarray .int, 2) := by decide +kernel
theorem dX8_init_34 : decode cX8_init 34 = .ok (.putfield 19, 3) := by decide +kernel
theorem dX8_init_37 : decode cX8_init 37 = .ok (.aload_n 0, 1) := by decide +kernel
theorem dX8_init_38 : decode cX8_init 38 = .ok (.sipush 240, 3) := by decide +kernel
theorem dX8_init_41 : decode cX8_init 41 = .ok (.newarray .int, 2) := by decide +kernel
theorem dX8_init_43 : decode cX8_init 43 = .ok (.putfield 22, 3) := by decide +kernel
theorem dX8_init_46 : decode cX8_init 46 = .ok (.aload_n 0, 1) := by decide +kernel
theorem dX8_init_47 : decode cX8_init 47 = .ok (.sipush 240, 3) := by decide +kernel
theorem dX8_init_50 : decode cX8_init 50 = .ok (.newarray .int, 2) := by decide +kernel
theorem dX8_init_52 : decode cX8_init 52 = .ok (.putfield 25, 3) := by decide +kernel
theorem dX8_init_55 : decode cX8_init 55 = .ok (.aload_n 0, 1) := by decide +kernel
theorem dX8_init_56 : decode cX8_init 56 = .ok (.sipush 132, 3) := by decide +kernel
theorem dX8_init_59 : decode cX8_init 59 = .ok (.newarray .int, 2) := by decide +kernel
theorem dX8_init_61 : decode cX8_init 61 = .ok (.putfield 28, 3) := by decide +kernel
theorem dX8_init_64 : decode cX8_init 64 = .ok (.aload_n 0, 1) := by decide +kernel
theorem dX8_init_65 : decode cX8_init 65 = .ok (.bipush 120, 2) := by decide +kernel
theorem dX8_init_67 : decode cX8_init 67 = .ok (.newarray .int, 2) := by decide +kernel
theorem dX8_init_69 : decode cX8_init 69 = .ok (.putfield 31, 3) := by decide +kernel
theorem dX8_init_72 : decode cX8_init 72 = .ok (.aload_n 0, 1) := by decide +kernel
theorem dX8_init_73 : decode cX8_init 73 = .ok (.bipush 20, 2) := by decide +kernel
theorem dX8_init_75 : decode cX8_init 75 = .ok (.newarray .int, 2) := by decide +kernel
theorem dX8_init_77 : decode cX8_init 77 = .ok (.putfield 34, 3) := by decide +kernel
theorem dX8_init_80 : decode cX8_init 80 = .ok (.aload_n 0, 1) := by decide +kernel
theorem dX8_init_81 : decode cX8_init 81 = .ok (.sipush 400, 3) := by decide +kernel
theorem dX8_init_84 : decode cX8_init 84 = .ok (.newarray .int, 2) := by decide +kernel
theorem dX8_init_86 : decode cX8_init 86 = .ok (.putfield 37, 3) := by decide +kernel
theorem dX8_init_89 : decode cX8_init 89 = .ok (.aload_n 0, 1) := by decide +kernel
theorem dX8_init_90 : decode cX8_init 90 = .ok (.iconst 1, 1) := by decide +kernel
theorem dX8_init_91 : decode cX8_init 91 = .ok (.putfield 40, 3) := by decide +kernel
theorem dX8_init_94 : decode cX8_init 94 = .ok (.aload_n 0, 1) := by decide +kernel
theorem dX8_init_95 : decode cX8_init 95 = .ok (.iconst 4, 1) := by decide +kernel
theorem dX8_init_96 : decode cX8_init 96 = .ok (.newarray .boolean, 2) := by decide +kernel
theorem dX8_init_98 : decode cX8_init 98 = .ok (.putfield 44, 3) := by decide +kernel
theorem dX8_init_101 : decode cX8_init 101 = .ok (.aload_n 0, 1) := by decide +kernel
theorem dX8_init_102 : decode cX8_init 102 = .ok (.bipush 6, 2) := by decide +kernel
theorem dX8_init_104 : decode cX8_init 104 = .ok (.newarray .int, 2) := by decide +kernel
theorem dX8_init_106 : decode cX8_init 106 = .ok (.putfield 48, 3) := by decide +kernel
theorem dX8_init_109 : decode cX8_init 109 = .ok (.aload_n 0, 1) := by decide +kernel
theorem dX8_init_110 : decode cX8_init 110 = .ok (.bipush 6, 2) := by decide +kernel
theorem dX8_init_112 : decode cX8_init 112 = .ok (.newarray .int, 2) := by decide +kernel
theorem dX8_init_114 : decode cX8_init 114 = .ok (.putfield 51, 3) := by decide +kernel
theorem dX8_init_117 : decode cX8_init 117 = .ok (.aload_n 0, 1) := by decide +kernel
theorem dX8_init_118 : decode cX8_init 118 = .ok (.bipush 6, 2) := by decide +kernel
theorem dX8_init_120 : decode cX8_init 120 = .ok (.newarray .int, 2) := by decide +kernel
theorem dX8_init_122 : decode cX8_init 122 = .ok (.putfield 54, 3) := by decide +kernel
theorem dX8_init_125 : decode cX8_init 125 = .ok (.aload_n 0, 1) := by decide +kernel
theorem dX8_init_126 : decode cX8_init 126 = .ok (.iconst 0, 1) := by decide +kernel
theorem dX8_init_127 : decode cX8_init 127 = .ok (.putfield 57, 3) := by decide +kernel
theorem dX8_init_130 : decode cX8_init 130 = .ok (.return_, 1) := by decide +kernel
theorem dX8_in_0 : decode cX8_in 0 = .ok (.iload_n 0, 1) := by decide +kernel
theorem dX8_in_1 : decode cX8_in 1 = .ok (.iload_n 1, 1) := by decide +kernel
theorem dX8_in_2 : decode cX8_in 2 = .ok (.if_icmp .lt 12, 3) := by decide +kernel
theorem dX8_in_5 : decode cX8_in 5 = .ok (.iload_n 0, 1) := by decide +kernel
theorem dX8_in_6 : decode cX8_in 6 = .ok (.iload_n 2, 1) := by decide +kernel
theorem dX8_in_7 : decode cX8_in 7 = .ok (.if_icmp .gt 7, 3) := by decide +kernel
theorem dX8_in_10 : decode cX8_in 10 = .ok (.iconst 1, 1) := by decide +kernel
theorem dX8_in_11 : decode cX8_in 11 = .ok (.goto 4, 3) := by decide +kernel
theorem dX8_in_14 : decode cX8_in 14 = .ok (.iconst 0, 1) := by decide +kernel
theorem dX8_in_15 : decode cX8_in 15 = .ok (.ireturn, 1) := by decide +kernel
theorem dX8_type_0 : decode cX8_type 0 = .ok (.aload_n 0, 1) := by decide +kernel
theorem dX8_type_1 : decode cX8_type 1 = .ok (.iconst 0, 1) := by decide +kernel
theorem dX8_type_2 : decode cX8_type 2 = .ok (.putfield 57, 3) := by decide +kernel
theorem dX8_type_5 : decode cX8_type 5 = .ok (.iload_n 3, 1) := by decide +kernel
theorem dX8_type_6 : decode cX8_type 6 = .ok (.iconst 1, 1) := by decide +kernel
theorem dX8_type_7 : decode cX8_type 7 = .ok (.bipush 8, 2) := by decide +kernel
theorem dX8_type_9 : decode cX8_type 9 = .ok (.invokestatic 60, 3) := by decide +kernel
theorem dX8_type_12 : decode cX8_type 12 = .ok (.ifCond .ne 5, 3) := by decide +kernel
theorem dX8_type_15 : decode cX8_type 15 = .ok (.iconst (-1), 1) := by decide +kernel
theorem dX8_type_16 : decode cX8_type 16 = .ok (.ireturn, 1) := by decide +kernel
theorem dX8_type_17 : decode cX8_type 17 = .ok (.aload_n 0, 1) := by decide +kernel
theorem dX8_type_18 : decode cX8_type 18 = .ok (.getfield 64, 3) := by decide +kernel
theorem dX8_type_21 : decode cX8_type 21 = .ok (.iload_n 3, 1) := by decide +kernel
theorem dX8_type_22 : decode cX8_type 22 = .ok (.iadd, 1) := by decide +kernel
theorem dX8_type_23 : decode cX8_type 23 = .ok (.bipush 60, 2) := by decide +kernel
theorem dX8_type_25 : decode cX8_type 25 = .ok (.if_icmp .le 6, 3) := by decide +kernel
theorem dX8_type_28 : decode cX8_type 28 = .ok (.bipush (-3), 2) := by decide +kernel
theorem dX8_type_30 : decode cX8_type 30 = .ok (.ireturn, 1) := by decide +kernel
theorem dX8_type_31 : decode cX8_type 31 = .ok (.iload_n 3, 1) := by decide +kernel
theorem dX8_type_32 : decode cX8_type 32 = .ok (.iconst 1, 1) := by decide +kernel
theorem dX8_type_33 : decode cX8_type 33 = .ok (.isub, 1) := by decide +kernel
theorem dX8_type_34 : decode cX8_type 34 = .ok (.istore 4, 2) := by decide +kernel
theorem dX8_type_36 : decode cX8_type 36 = .ok (.iload 4, 2) := by decide +kernel
theorem dX8_type_38 : decode cX8_type 38 = .ok (.ifCond .lt 40, 3) := by decide +kernel
theorem dX8_type_41 : decode cX8_type 41 = .ok (.aload_n 0, 1) := by decide +kernel
theorem dX8_type_42 : decode cX8_type 42 = .ok (.getfield 7, 3) := by decide +kernel
theorem dX8_type_45 : decode cX8_type 45 = .ok (.aload_n 0, 1) := by decide +kernel
theorem dX8_type_46 : decode cX8_type 46 = .ok (.getfield 64, 3) := by decide +kernel
theorem dX8_type_49 : decode cX8_type 49 = .ok (.lload_n 1, 1) := by decide +kernel
theorem dX8_type_50 : decode cX8_type 50 = .ok (.bipush 8, 2) := by decide +kernel
theorem dX8_type_52 : decode cX8_type 52 = .ok (.iload 4, 2) := by decide +kernel
theorem dX8_type_54 : decode cX8_type 54 = .ok (.imul, 1) := by decide +kernel
theorem dX8_type_55 : decode cX8_type 55 = .ok (.lshr, 1) := by decide +kernel
theorem dX8_type_56 : decode cX8_type 56 = .ok (.ldc2_w 67, 3) := by decide +kernel
theorem dX8_type_59 : decode cX8_type 59 = .ok (.land, 1) := by decide +kernel
theorem dX8_type_60 : decode cX8_type 60 = .ok (.l2i, 1) := by decide +kernel
theorem dX8_type_61 : decode cX8_type 61 = .ok (.iastore, 1) := by decide +kernel
theorem dX8_type_62 : decode cX8_type 62 = .ok (.aload_n 0, 1) := by decide +kernel
theorem dX8_type_63 : decode cX8_type 63 = .ok (.dup, 1) := by decide +kernel
theorem dX8_type_64 : decode cX8_type 64 = .ok (.getfield 64, 3) := by decide +kernel
theorem dX8_type_67 : decode cX8_type 67 = .ok (.iconst 1, 1) := by decide +kernel
theorem dX8_type_68 : decode cX8_type 68 = .ok (.iadd, 1) := by decide +kernel
theorem dX8_type_69 : decode cX8_type 69 = .ok (.putfield 64, 3) := by decide +kernel
theorem dX8_type_72 : decode cX8_type 72 = .ok (.iinc 4 (-1), 3) := by decide +kernel
theorem dX8_type_75 : decode cX8_type 75 = .ok (.goto (-39), 3) := by decide +kernel
theorem dX8_type_78 : decode cX8_type 78 = .ok (.aload_n 0, 1) := by decide +kernel
theorem dX8_type_79 : decode cX8_type 79 = .ok (.getfield 64, 3) := by decide +kernel
theorem dX8_type_82 : decode cX8_type 82 = .ok (.ireturn, 1) := by decide +kernel
theorem dX8_clear_0 : decode cX8_clear 0 = .ok (.aload_n 0, 1) := by decide +kernel
theorem dX8_clear_1 : decode cX8_clear 1 = .ok (.iconst 0, 1) := by decide +kernel
theorem dX8_clear_2 : decode cX8_clear 2 = .ok (.putfield 57, 3) := by decide +kernel
theorem dX8_clear_5 : decode cX8_clear 5 = .ok (.aload_n 0, 1) := by decide +kernel
theorem dX8_clear_6 : decode cX8_clear 6 = .ok (.getfield 64, 3) := by decide +kernel
theorem dX8_clear_9 : decode cX8_clear 9 = .ok (.istore_n 1, 1) := by decide +kernel
theorem dX8_clear_10 : decode cX8_clear 10 = .ok (.aload_n 0, 1) := by decide +kernel
theorem dX8_clear_11 : decode cX8_clear 11 = .ok (.iconst 0, 1) := by decide +kernel
theorem dX8_clear_12 : decode cX8_clear 12 = .ok (.putfield 64, 3) := by decide +kernel
theorem dX8_clear_15 : decode cX8_clear 15 = .ok (.iload_n 1, 1) := by decide +kernel
theorem dX8_clear_16 : decode cX8_clear 16 = .ok (.ireturn, 1) := by decide +kernel
theorem dX8_isDigit_0 : decode cX8_isDigit 0 = .ok (.iload_n 1, 1) := by decide +kernel
theorem dX8_isDigit_1 : decode cX8_isDigit 1 = .ok (.aload_n 0, 1) := by decide +kernel
theorem dX8_isDigit_2 : decode cX8_isDigit 2 = .ok (.getfield 64, 3) := by decide +kernel
theorem dX8_isDigit_5 : decode cX8_isDigit 5 = .ok (.if_icmp .ge 29, 3) := by decide +kernel
theorem dX8_isDigit_8 : decode cX8_isDigit 8 = .ok (.aload_n 0, 1) := by decide +kernel
theorem dX8_isDigit_9 : decode cX8_isDigit 9 = .ok (.getfield 7, 3) := by decide +kernel
theorem dX8_isDigit_12 : decode cX8_isDigit 12 = .ok (.iload_n 1, 1) := by decide +kernel
theorem dX8_isDigit_13 : decode cX8_isDigit 13 = .ok (.iaload, 1) := by decide +kernel
theorem dX8_isDigit_14 : decode cX8_isDigit 14 = .ok (.bipush 48, 2) := by decide +kernel
theorem dX8_isDigit_16 : decode cX8_isDigit 16 = .ok (.if_icmp .lt 18, 3) := by decide +kernel
theorem dX8_isDigit_19 : decode cX8_isDigit 19 = .ok (.aload_n 0, 1) := by decide +kernel
theorem dX8_isDigit_20 : decode cX8_isDigit 20 = .ok (.getfield 7, 3) := by decide +kernel
theorem dX8_isDigit_23 : decode cX8_isDigit 23 = .ok (.iload_n 1, 1) := by decide +kernel
theorem dX8_isDigit_24 : decode cX8_isDigit 24 = .ok (.iaload, 1) := by decide +kernel
theorem dX8_isDigit_25 : decode cX8_isDigit 25 = .ok (.bipush 57, 2) := by decide +kernel
theorem dX8_isDigit_27 : decode cX8_isDigit 27 = .ok (.if_icmp .gt 7, 3) := by decide +kernel
theorem dX8_isDigit_30 : decode cX8_isDigit 30 = .ok (.iconst 1, 1) := by decide +kernel
theorem dX8_isDigit_31 : decode cX8_isDigit 31 = .ok (.goto 4, 3) := by decide +kernel
theorem dX8_isDigit_34 : decode cX8_isDigit 34 = .ok (.iconst 0, 1) := by decide +kernel
theorem dX8_isDigit_35 : decode cX8_isDigit 35 = .ok (.ireturn, 1) := by decide +kernel
theorem dX8_reads_0 : decode cX8_reads 0 = .ok (.aload_n 0, 1) := by decide +kernel
theorem dX8_reads_1 : decode cX8_reads 1 = .ok (.getfield 16, 3) := by decide +kernel
theorem dX8_reads_4 : decode cX8_reads 4 = .ok (.aload_n 0, 1) := by decide +kernel
theorem dX8_reads_5 : decode cX8_reads 5 = .ok (.getfield 69, 3) := by decide +kernel
theorem dX8_reads_8 : decode cX8_reads 8 = .ok (.iaload, 1) := by decide +kernel
theorem dX8_reads_9 : decode cX8_reads 9 = .ok (.istore_n 1, 1) := by decide +kernel
theorem dX8_reads_10 : decode cX8_reads 10 = .ok (.iconst 0, 1) := by decide +kernel
theorem dX8_reads_11 : decode cX8_reads 11 = .ok (.istore_n 2, 1) := by decide +kernel
theorem dX8_reads_12 : decode cX8_reads 12 = .ok (.iconst 0, 1) := by decide +kernel
theorem dX8_reads_13 : decode cX8_reads 13 = .ok (.istore_n 3, 1) := by decide +kernel
theorem dX8_reads_14 : decode cX8_reads 14 = .ok (.iload_n 3, 1) := by decide +kernel
theorem dX8_reads_15 : decode cX8_reads 15 = .ok (.aload_n 0, 1) := by decide +kernel
theorem dX8_reads_16 : decode cX8_reads 16 = .ok (.getfield 64, 3) := by decide +kernel
theorem dX8_reads_19 : decode cX8_reads 19 = .ok (.if_icmp .ge 235, 3) := by decide +kernel
theorem dX8_reads_22 : decode cX8_reads 22 = .ok (.aload_n 0, 1) := by decide +kernel
theorem dX8_reads_23 : decode cX8_reads 23 = .ok (.getfield 7, 3) := by decide +kernel
theorem dX8_reads_26 : decode cX8_reads 26 = .ok (.iload_n 3, 1) := by decide +kernel
theorem dX8_reads_27 : decode cX8_reads 27 = .ok (.iaload, 1) := by decide +kernel
theorem dX8_reads_28 : decode cX8_reads 28 = .ok (.istore 4, 2) := by decide +kernel
theorem dX8_reads_30 : decode cX8_reads 30 = .ok (.iload 4, 2) := by decide +kernel
theorem dX8_reads_32 : decode cX8_reads 32 = .ok (.bipush 103, 2) := by decide +kernel
theorem dX8_reads_34 : decode cX8_reads 34 = .ok (.if_icmp .ne 7, 3) := by decide +kernel
theorem dX8_reads_37 : decode cX8_reads 37 = .ok (.iconst 0, 1) := by decide +kernel
theorem dX8_reads_38 : decode cX8_reads 38 = .ok (.goto 48, 3) := by decide +kernel
theorem dX8_reads_41 : decode cX8_reads 41 = .ok (.iload 4, 2) := by decide +kernel
theorem dX8_reads_43 : decode cX8_reads 43 = .ok (.bipush 119, 2) := by decide +kernel
theorem dX8_reads_45 : decode cX8_reads 45 = .ok (.if_icmp .ne 7, 3) := by decide +kernel
theorem dX8_reads_48 : decode cX8_reads 48 = .ok (.iconst 1, 1) := by decide +kernel
theorem dX8_reads_49 : decode cX8_reads 49 = .ok (.goto 37, 3) := by decide +kernel
theorem dX8_reads_52 : decode cX8_reads 52 = .ok (.iload 4, 2) := by decide +kernel
theorem dX8_reads_54 : decode cX8_reads 54 = .ok (.bipush 99, 2) := by decide +kernel
theorem dX8_reads_56 : decode cX8_reads 56 = .ok (.if_icmp .ne 7, 3) := by decide +kernel
theorem dX8_reads_59 : decode cX8_reads 59 = .ok (.iconst 2, 1) := by decide +kernel
theorem dX8_reads_60 : decode cX8_reads 60 = .ok (.goto 26, 3) := by decide +kernel
theorem dX8_reads_63 : decode cX8_reads 63 = .ok (.iload 4, 2) := by decide +kernel
theorem dX8_reads_65 : decode cX8_reads 65 = .ok (.bipush 64, 2) := by decide +kernel
theorem dX8_reads_67 : decode cX8_reads 67 = .ok (.if_icmp .ne 7, 3) := by decide +kernel
theorem dX8_reads_70 : decode cX8_reads 70 = .ok (.iconst 3, 1) := by decide +kernel
theorem dX8_reads_71 : decode cX8_reads 71 = .ok (.goto 15, 3) := by decide +kernel
theorem dX8_reads_74 : decode cX8_reads 74 = .ok (.iload 4, 2) := by decide +kernel
theorem dX8_reads_76 : decode cX8_reads 76 = .ok (.bipush 32, 2) := by decide +kernel
theorem dX8_reads_78 : decode cX8_reads 78 = .ok (.if_icmp .ne 7, 3) := by decide +kernel
theorem dX8_reads_81 : decode cX8_reads 81 = .ok (.iconst 4, 1) := by decide +kernel
theorem dX8_reads_82 : decode cX8_reads 82 = .ok (.goto 4, 3) := by decide +kernel
theorem dX8_reads_85 : decode cX8_reads 85 = .ok (.iconst 5, 1) := by decide +kernel
theorem dX8_reads_86 : decode cX8_reads 86 = .ok (.istore 5, 2) := by decide +kernel
theorem dX8_reads_88 : decode cX8_reads 88 = .ok (.iload 5, 2) := by decide +kernel
theorem dX8_reads_90 : decode cX8_reads 90 = .ok (.iconst 5, 1) := by decide +kernel
theorem dX8_reads_91 : decode cX8_reads 91 = .ok (.if_icmp .ne 5, 3) := by decide +kernel
theorem dX8_reads_94 : decode cX8_reads 94 = .ok (.iload_n 3, 1) := by decide +kernel
theorem dX8_reads_95 : decode cX8_reads 95 = .ok (.ireturn, 1) := by decide +kernel
theorem dX8_reads_96 : decode cX8_reads 96 = .ok (.iinc 3 1, 3) := by decide +kernel
theorem dX8_reads_99 : decode cX8_reads 99 = .ok (.iload 5, 2) := by decide +kernel
theorem dX8_reads_101 : decode cX8_reads 101 = .ok (.iconst 4, 1) := by decide +kernel
theorem dX8_reads_102 : decode cX8_reads 102 = .ok (.if_icmp .ne 6, 3) := by decide +kernel
theorem dX8_reads_105 : decode cX8_reads 105 = .ok (.goto (-91), 3) := by decide +kernel
theorem dX8_reads_108 : decode cX8_reads 108 = .ok (.aload_n 0, 1) := by decide +kernel
theorem dX8_reads_109 : decode cX8_reads 109 = .ok (.iload_n 3, 1) := by decide +kernel
theorem dX8_reads_110 : decode cX8_reads 110 = .ok (.invokevirtual 72, 3) := by decide +kernel
theorem dX8_reads_113 : decode cX8_reads 113 = .ok (.ifCond .eq 20, 3) := by decide +kernel
theorem dX8_reads_116 : decode cX8_reads 116 = .ok (.iload 5, 2) := by decide +kernel
theorem dX8_reads_118 : decode cX8_reads 118 = .ok (.iconst 3, 1) := by decide +kernel
theorem dX8_reads_119 : decode cX8_reads 119 = .ok (.if_icmp .ge 16, 3) := by decide +kernel
theorem dX8_reads_122 : decode cX8_reads 122 = .ok (.aload_n 0, 1) := by decide +kernel
theorem dX8_reads_123 : decode cX8_reads 123 = .ok (.getfield 7, 3) := by decide +kernel
theorem dX8_reads_126 : decode cX8_reads 126 = .ok (.iload_n 3, 1) := by decide +kernel
theorem dX8_reads_127 : decode cX8_reads 127 = .ok (.iaload, 1) := by decide +kernel
theorem dX8_reads_128 : decode cX8_reads 128 = .ok (.bipush 48, 2) := by decide +kernel
theorem dX8_reads_130 : decode cX8_reads 130 = .ok (.if_icmp .ne 5, 3) := by decide +kernel
theorem dX8_reads_133 : decode cX8_reads 133 = .ok (.iload_n 3, 1) := by decide +kernel
theorem dX8_reads_134 : decode cX8_reads 134 = .ok (.ireturn, 1) := by decide +kernel
theorem dX8_reads_135 : decode cX8_reads 135 = .ok (.iload 5, 2) := by decide +kernel
theorem dX8_reads_137 : decode cX8_reads 137 = .ok (.iconst 3, 1) := by decide +kernel
theorem dX8_reads_138 : decode cX8_reads 138 = .ok (.if_icmp .ne 9, 3) := by decide +kernel
theorem dX8_reads_141 : decode cX8_reads 141 = .ok (.sipush 500, 3) := by decide +kernel
theorem dX8_reads_144 : decode cX8_reads 144 = .ok (.goto 6, 3) := by decide +kernel
theorem dX8_reads_147 : decode cX8_reads 147 = .ok (.sipush 200, 3) := by decide +kernel
theorem dX8_reads_150 : decode cX8_reads 150 = .ok (.istore 6, 2) := by decide +kernel
theorem dX8_reads_152 : decode cX8_reads 152 = .ok (.aload_n 0, 1) := by decide +kernel
theorem dX8_reads_153 : decode cX8_reads 153 = .ok (.getfield 7, 3) := by decide +kernel
theorem dX8_reads_156 : decode cX8_reads 156 = .ok (.iload_n 3, 1) := by decide +kernel
theorem dX8_reads_157 : decode cX8_reads 157 = .ok (.iaload, 1) := by decide +kernel
theorem dX8_reads_158 : decode cX8_reads 158 = .ok (.bipush 48, 2) := by decide +kernel
theorem dX8_reads_160 : decode cX8_reads 160 = .ok (.isub, 1) := by decide +kernel
theorem dX8_reads_161 : decode cX8_reads 161 = .ok (.istore 7, 2) := by decide +kernel
theorem dX8_reads_163 : decode cX8_reads 163 = .ok (.iinc 3 1, 3) := by decide +kernel
theorem dX8_reads_166 : decode cX8_reads 166 = .ok (.aload_n 0, 1) := by decide +kernel
theorem dX8_reads_167 : decode cX8_reads 167 = .ok (.iload_n 3, 1) := by decide +kernel
theorem dX8_reads_168 : decode cX8_reads 168 = .ok (.invokevirtual 72, 3) := by decide +kernel
theorem dX8_reads_171 : decode cX8_reads 171 = .ok (.ifCond .eq 42, 3) := by decide +kernel
theorem dX8_reads_174 : decode cX8_reads 174 = .ok (.bipush 10, 2) := by decide +kernel
theorem dX8_reads_176 : decode cX8_reads 176 = .ok (.iload 7, 2) := by decide +kernel
theorem dX8_reads_178 : decode cX8_reads 178 = .ok (.imul, 1) := by decide +kernel
theorem dX8_reads_179 : decode cX8_reads 179 = .ok (.aload_n 0, 1) := by decide +kernel
theorem dX8_reads_180 : decode cX8_reads 180 = .ok (.getfield 7, 3) := by decide +kernel
theorem dX8_reads_183 : decode cX8_reads 183 = .ok (.iload_n 3, 1) := by decide +kernel
theorem dX8_reads_184 : decode cX8_reads 184 = .ok (.iaload, 1) := by decide +kernel
theorem dX8_reads_185 : decode cX8_reads 185 = .ok (.iadd, 1) := by decide +kernel
theorem dX8_reads_186 : decode cX8_reads 186 = .ok (.bipush 48, 2) := by decide +kernel
theorem dX8_reads_188 : decode cX8_reads 188 = .ok (.isub, 1) := by decide +kernel
theorem dX8_reads_189 : decode cX8_reads 189 = .ok (.istore 7, 2) := by decide +kernel
theorem dX8_reads_191 : decode cX8_reads 191 = .ok (.iload 7, 2) := by decide +kernel
theorem dX8_reads_193 : decode cX8_reads 193 = .ok (.iload 6, 2) := by decide +kernel
theorem dX8_reads_195 : decode cX8_reads 195 = .ok (.if_icmp .gt 10, 3) := by decide +kernel
theorem dX8_reads_198 : decode cX8_reads 198 = .ok (.iload 7, 2) := by decide +kernel
theorem dX8_reads_200 : decode cX8_reads 200 = .ok (.bipush 10, 2) := by decide +kernel
theorem dX8_reads_202 : decode cX8_reads 202 = .ok (.if_icmp .ge 5, 3) := by decide +kernel
theorem dX8_reads_205 : decode cX8_reads 205 = .ok (.iload_n 3, 1) := by decide +kernel
theorem dX8_reads_206 : decode cX8_reads 206 = .ok (.ireturn, 1) := by decide +kernel
theorem dX8_reads_207 : decode cX8_reads 207 = .ok (.iinc 3 1, 3) := by decide +kernel
theorem dX8_reads_210 : decode cX8_reads 210 = .ok (.goto (-44), 3) := by decide +kernel
theorem dX8_reads_213 : decode cX8_reads 213 = .ok (.iload 5, 2) := by decide +kernel
theorem dX8_reads_215 : decode cX8_reads 215 = .ok (.iconst 3, 1) := by decide +kernel
theorem dX8_reads_216 : decode cX8_reads 216 = .ok (.if_icmp .ne 9, 3) := by decide +kernel
theorem dX8_reads_219 : decode cX8_reads 219 = .ok (.iload 7, 2) := by decide +kernel
theorem dX8_reads_221 : decode cX8_reads 221 = .ok (.istore_n 2, 1) := by decide +kernel
theorem dX8_reads_222 : decode cX8_reads 222 = .ok (.goto 29, 3) := by decide +kernel
theorem dX8_reads_225 : decode cX8_reads 225 = .ok (.aload_n 0, 1) := by decide +kernel
theorem dX8_reads_226 : decode cX8_reads 226 = .ok (.getfield 19, 3) := by decide +kernel
theorem dX8_reads_229 : decode cX8_reads 229 = .ok (.iload_n 1, 1) := by decide +kernel
theorem dX8_reads_230 : decode cX8_reads 230 = .ok (.iload 5, 2) := by decide +kernel
theorem dX8_reads_232 : decode cX8_reads 232 = .ok (.iastore, 1) := by decide +kernel
theorem dX8_reads_233 : decode cX8_reads 233 = .ok (.aload_n 0, 1) := by decide +kernel
theorem dX8_reads_234 : decode cX8_reads 234 = .ok (.getfield 22, 3) := by decide +kernel
theorem dX8_reads_237 : decode cX8_reads 237 = .ok (.iload_n 1, 1) := by decide +kernel
theorem dX8_reads_238 : decode cX8_reads 238 = .ok (.iload 7, 2) := by decide +kernel
theorem dX8_reads_240 : decode cX8_reads 240 = .ok (.iastore, 1) := by decide +kernel
theorem dX8_reads_241 : decode cX8_reads 241 = .ok (.aload_n 0, 1) := by decide +kernel
theorem dX8_reads_242 : decode cX8_reads 242 = .ok (.getfield 25, 3) := by decide +kernel
theorem dX8_reads_245 : decode cX8_reads 245 = .ok (.iload_n 1, 1) := by decide +kernel
theorem dX8_reads_246 : decode cX8_reads 246 = .ok (.iload_n 2, 1) := by decide +kernel
theorem dX8_reads_247 : decode cX8_reads 247 = .ok (.iastore, 1) := by decide +kernel
theorem dX8_reads_248 : decode cX8_reads 248 = .ok (.iinc 1 1, 3) := by decide +kernel
theorem dX8_reads_251 : decode cX8_reads 251 = .ok (.goto (-237), 3) := by decide +kernel
theorem dX8_reads_254 : decode cX8_reads 254 = .ok (.aload_n 0, 1) := by decide +kernel
theorem dX8_reads_255 : decode cX8_reads 255 = .ok (.iload_n 1, 1) := by decide +kernel
theorem dX8_reads_256 : decode cX8_reads 256 = .ok (.putfield 76, 3) := by decide +kernel
theorem dX8_reads_259 : decode cX8_reads 259 = .ok (.bipush (-9), 2) := by decide +kernel
theorem dX8_reads_261 : decode cX8_reads 261 = .ok (.ireturn, 1) := by decide +kernel
theorem dX8_law_0 : decode cX8_law 0 = .ok (.aload_n 0, 1) := by decide +kernel
theorem dX8_law_1 : decode cX8_law 1 = .ok (.iconst 0, 1) := by decide +kernel
theorem dX8_law_2 : decode cX8_law 2 = .ok (.putfield 57, 3) := by decide +kernel
theorem dX8_law_5 : decode cX8_law 5 = .ok (.aload_n 0, 1) := by decide +kernel
theorem dX8_law_6 : decode cX8_law 6 = .ok (.getfield 64, 3) := by decide +kernel
theorem dX8_law_9 : decode cX8_law 9 = .ok (.ifCond .ne 6, 3) := by decide +kernel
theorem dX8_law_12 : decode cX8_law 12 = .ok (.bipush (-2), 2) := by decide +kernel
theorem dX8_law_14 : decode cX8_law 14 = .ok (.ireturn, 1) := by decide +kernel
theorem dX8_law_15 : decode cX8_law 15 = .ok (.aload_n 0, 1) := by decide +kernel
theorem dX8_law_16 : decode cX8_law 16 = .ok (.getfield 69, 3) := by decide +kernel
theorem dX8_law_19 : decode cX8_law 19 = .ok (.bipush 6, 2) := by decide +kernel
theorem dX8_law_21 : decode cX8_law 21 = .ok (.if_icmp .ne 24, 3) := by decide +kernel
theorem dX8_law_24 : decode cX8_law 24 = .ok (.aload_n 0, 1) := by decide +kernel
theorem dX8_law_25 : decode cX8_law 25 = .ok (.invokevirtual 79, 3) := by decide +kernel
theorem dX8_law_28 : decode cX8_law 28 = .ok (.istore_n 1, 1) := by decide +kernel
theorem dX8_law_29 : decode cX8_law 29 = .ok (.iload_n 1, 1) := by decide +kernel
theorem dX8_law_30 : decode cX8_law 30 = .ok (.bipush (-9), 2) := by decide +kernel
theorem dX8_law_32 : decode cX8_law 32 = .ok (.if_icmp .ne 8, 3) := by decide +kernel
theorem dX8_law_35 : decode cX8_law 35 = .ok (.bipush (-3), 2) := by decide +kernel
theorem dX8_law_37 : decode cX8_law 37 = .ok (.goto 7, 3) := by decide +kernel
theorem dX8_law_40 : decode cX8_law 40 = .ok (.bipush (-100), 2) := by decide +kernel
theorem dX8_law_42 : decode cX8_law 42 = .ok (.iload_n 1, 1) := by decide +kernel
theorem dX8_law_43 : decode cX8_law 43 = .ok (.isub, 1) := by decide +kernel
theorem dX8_law_44 : decode cX8_law 44 = .ok (.ireturn, 1) := by decide +kernel
theorem dX8_law_45 : decode cX8_law 45 = .ok (.aload_n 0, 1) := by decide +kernel
theorem dX8_law_46 : decode cX8_law 46 = .ok (.invokevirtual 83, 3) := by decide +kernel
theorem dX8_law_49 : decode cX8_law 49 = .ok (.istore_n 1, 1) := by decide +kernel
theorem dX8_law_50 : decode cX8_law 50 = .ok (.iload_n 1, 1) := by decide +kernel
theorem dX8_law_51 : decode cX8_law 51 = .ok (.bipush (-9), 2) := by decide +kernel
theorem dX8_law_53 : decode cX8_law 53 = .ok (.if_icmp .eq 8, 3) := by decide +kernel
theorem dX8_law_56 : decode cX8_law 56 = .ok (.bipush (-100), 2) := by decide +kernel
theorem dX8_law_58 : decode cX8_law 58 = .ok (.iload_n 1, 1) := by decide +kernel
theorem dX8_law_59 : decode cX8_law 59 = .ok (.isub, 1) := by decide +kernel
theorem dX8_law_60 : decode cX8_law 60 = .ok (.ireturn, 1) := by decide +kernel
theorem dX8_law_61 : decode cX8_law 61 = .ok (.aload_n 0, 1) := by decide +kernel
theorem dX8_law_62 : decode cX8_law 62 = .ok (.getfield 13, 3) := by decide +kernel
theorem dX8_law_65 : decode cX8_law 65 = .ok (.aload_n 0, 1) := by decide +kernel
theorem dX8_law_66 : decode cX8_law 66 = .ok (.getfield 69, 3) := by decide +kernel
theorem dX8_law_69 : decode cX8_law 69 = .ok (.aload_n 0, 1) := by decide +kernel
theorem dX8_law_70 : decode cX8_law 70 = .ok (.getfield 86, 3) := by decide +kernel
theorem dX8_law_73 : decode cX8_law 73 = .ok (.iastore, 1) := by decide +kernel
theorem dX8_law_74 : decode cX8_law 74 = .ok (.aload_n 0, 1) := by decide +kernel
theorem dX8_law_75 : decode cX8_law 75 = .ok (.dup, 1) := by decide +kernel
theorem dX8_law_76 : decode cX8_law 76 = .ok (.getfield 69, 3) := by decide +kernel
theorem dX8_law_79 : decode cX8_law 79 = .ok (.iconst 1, 1) := by decide +kernel
theorem dX8_law_80 : decode cX8_law 80 = .ok (.iadd, 1) := by decide +kernel
theorem dX8_law_81 : decode cX8_law 81 = .ok (.putfield 69, 3) := by decide +kernel
theorem dX8_law_84 : decode cX8_law 84 = .ok (.aload_n 0, 1) := by decide +kernel
theorem dX8_law_85 : decode cX8_law 85 = .ok (.getfield 16, 3) := by decide +kernel
theorem dX8_law_88 : decode cX8_law 88 = .ok (.aload_n 0, 1) := by decide +kernel
theorem dX8_law_89 : decode cX8_law 89 = .ok (.getfield 69, 3) := by decide +kernel
theorem dX8_law_92 : decode cX8_law 92 = .ok (.aload_n 0, 1) := by decide +kernel
theorem dX8_law_93 : decode cX8_law 93 = .ok (.getfield 76, 3) := by decide +kernel
theorem dX8_law_96 : decode cX8_law 96 = .ok (.iastore, 1) := by decide +kernel
theorem dX8_law_97 : decode cX8_law 97 = .ok (.aload_n 0, 1) := by decide +kernel
theorem dX8_law_98 : decode cX8_law 98 = .ok (.iconst 0, 1) := by decide +kernel
theorem dX8_law_99 : decode cX8_law 99 = .ok (.putfield 64, 3) := by decide +kernel
theorem dX8_law_102 : decode cX8_law 102 = .ok (.aload_n 0, 1) := by decide +kernel
theorem dX8_law_103 : decode cX8_law 103 = .ok (.getfield 69, 3) := by decide +kernel
theorem dX8_law_106 : decode cX8_law 106 = .ok (.iconst 1, 1) := by decide +kernel
theorem dX8_law_107 : decode cX8_law 107 = .ok (.isub, 1) := by decide +kernel
theorem dX8_law_108 : decode cX8_law 108 = .ok (.ireturn, 1) := by decide +kernel
theorem dX8_faultAlone_0 : decode cX8_faultAlone 0 = .ok (.aload_n 0, 1) := by decide +kernel
theorem dX8_faultAlone_1 : decode cX8_faultAlone 1 = .ok (.getfield 76, 3) := by decide +kernel
theorem dX8_faultAlone_4 : decode cX8_faultAlone 4 = .ok (.istore_n 1, 1) := by decide +kernel
theorem dX8_faultAlone_5 : decode cX8_faultAlone 5 = .ok (.aload_n 0, 1) := by decide +kernel
theorem dX8_faultAlone_6 : decode cX8_faultAlone 6 = .ok (.invokevirtual 83, 3) := by decide +kernel
theorem dX8_faultAlone_9 : decode cX8_faultAlone 9 = .ok (.istore_n 2, 1) := by decide +kernel
theorem dX8_faultAlone_10 : decode cX8_faultAlone 10 = .ok (.aload_n 0, 1) := by decide +kernel
theorem dX8_faultAlone_11 : decode cX8_faultAlone 11 = .ok (.iload_n 1, 1) := by decide +kernel
theorem dX8_faultAlone_12 : decode cX8_faultAlone 12 = .ok (.putfield 76, 3) := by decide +kernel
theorem dX8_faultAlone_15 : decode cX8_faultAlone 15 = .ok (.iload_n 2, 1) := by decide +kernel
theorem dX8_faultAlone_16 : decode cX8_faultAlone 16 = .ok (.ireturn, 1) := by decide +kernel
theorem dX8_spanBy_0 : decode cX8_spanBy 0 = .ok (.bipush (-9), 2) := by decide +kernel
theorem dX8_spanBy_2 : decode cX8_spanBy 2 = .ok (.istore_n 3, 1) := by decide +kernel
theorem dX8_spanBy_3 : decode cX8_spanBy 3 = .ok (.iconst 0, 1) := by decide +kernel
theorem dX8_spanBy_4 : decode cX8_spanBy 4 = .ok (.istore 4, 2) := by decide +kernel
theorem dX8_spanBy_6 : decode cX8_spanBy 6 = .ok (.iload 4, 2) := by decide +kernel
theorem dX8_spanBy_8 : decode cX8_spanBy 8 = .ok (.aload_n 0, 1) := by decide +kernel
theorem dX8_spanBy_9 : decode cX8_spanBy 9 = .ok (.getfield 69, 3) := by decide +kernel
theorem dX8_spanBy_12 : decode cX8_spanBy 12 = .ok (.if_icmp .ge 27, 3) := by decide +kernel
theorem dX8_spanBy_15 : decode cX8_spanBy 15 = .ok (.aload_n 0, 1) := by decide +kernel
theorem dX8_spanBy_16 : decode cX8_spanBy 16 = .ok (.getfield 13, 3) := by decide +kernel
theorem dX8_spanBy_19 : decode cX8_spanBy 19 = .ok (.iload 4, 2) := by decide +kernel
theorem dX8_spanBy_21 : decode cX8_spanBy 21 = .ok (.iaload, 1) := by decide +kernel
theorem dX8_spanBy_22 : decode cX8_spanBy 22 = .ok (.iload_n 2, 1) := by decide +kernel
theorem dX8_spanBy_23 : decode cX8_spanBy 23 = .ok (.if_icmp .gt 8, 3) := by decide +kernel
theorem dX8_spanBy_26 : decode cX8_spanBy 26 = .ok (.iload 4, 2) := by decide +kernel
theorem dX8_spanBy_28 : decode cX8_spanBy 28 = .ok (.goto 4, 3) := by decide +kernel
theorem dX8_spanBy_31 : decode cX8_spanBy 31 = .ok (.iload_n 3, 1) := by decide +kernel
theorem dX8_spanBy_32 : decode cX8_spanBy 32 = .ok (.istore_n 3, 1) := by decide +kernel
theorem dX8_spanBy_33 : decode cX8_spanBy 33 = .ok (.iinc 4 1, 3) := by decide +kernel
theorem dX8_spanBy_36 : decode cX8_spanBy 36 = .ok (.goto (-30), 3) := by decide +kernel
theorem dX8_spanBy_39 : decode cX8_spanBy 39 = .ok (.bipush 100, 2) := by decide +kernel
theorem dX8_spanBy_41 : decode cX8_spanBy 41 = .ok (.istore 4, 2) := by decide +kernel
theorem dX8_spanBy_43 : decode cX8_spanBy 43 = .ok (.iload_n 3, 1) := by decide +kernel
theorem dX8_spanBy_44 : decode cX8_spanBy 44 = .ok (.bipush (-9), 2) := by decide +kernel
theorem dX8_spanBy_46 : decode cX8_spanBy 46 = .ok (.if_icmp .ne 7, 3) := by decide +kernel
theorem dX8_spanBy_49 : decode cX8_spanBy 49 = .ok (.iconst 0, 1) := by decide +kernel
theorem dX8_spanBy_50 : decode cX8_spanBy 50 = .ok (.goto 9, 3) := by decide +kernel
theorem dX8_spanBy_53 : decode cX8_spanBy 53 = .ok (.aload_n 0, 1) := by decide +kernel
theorem dX8_spanBy_54 : decode cX8_spanBy 54 = .ok (.getfield 16, 3) := by decide +kernel
theorem dX8_spanBy_57 : decode cX8_spanBy 57 = .ok (.iload_n 3, 1) := by decide +kernel
theorem dX8_spanBy_58 : decode cX8_spanBy 58 = .ok (.iaload, 1) := by decide +kernel
theorem dX8_spanBy_59 : decode cX8_spanBy 59 = .ok (.istore 5, 2) := by decide +kernel
theorem dX8_spanBy_61 : decode cX8_spanBy 61 = .ok (.iload_n 3, 1) := by decide +kernel
theorem dX8_spanBy_62 : decode cX8_spanBy 62 = .ok (.bipush (-9), 2) := by decide +kernel
theorem dX8_spanBy_64 : decode cX8_spanBy 64 = .ok (.if_icmp .eq 58, 3) := by decide +kernel
theorem dX8_spanBy_67 : decode cX8_spanBy 67 = .ok (.iload 5, 2) := by decide +kernel
theorem dX8_spanBy_69 : decode cX8_spanBy 69 = .ok (.aload_n 0, 1) := by decide +kernel
theorem dX8_spanBy_70 : decode cX8_spanBy 70 = .ok (.getfield 16, 3) := by decide +kernel
theorem dX8_spanBy_73 : decode cX8_spanBy 73 = .ok (.iload_n 3, 1) := by decide +kernel
theorem dX8_spanBy_74 : decode cX8_spanBy 74 = .ok (.iconst 1, 1) := by decide +kernel
theorem dX8_spanBy_75 : decode cX8_spanBy 75 = .ok (.iadd, 1) := by decide +kernel
theorem dX8_spanBy_76 : decode cX8_spanBy 76 = .ok (.iaload, 1) := by decide +kernel
theorem dX8_spanBy_77 : decode cX8_spanBy 77 = .ok (.if_icmp .ge 45, 3) := by decide +kernel
theorem dX8_spanBy_80 : decode cX8_spanBy 80 = .ok (.aload_n 0, 1) := by decide +kernel
theorem dX8_spanBy_81 : decode cX8_spanBy 81 = .ok (.getfield 19, 3) := by decide +kernel
theorem dX8_spanBy_84 : decode cX8_spanBy 84 = .ok (.iload 5, 2) := by decide +kernel
theorem dX8_spanBy_86 : decode cX8_spanBy 86 = .ok (.iaload, 1) := by decide +kernel
theorem dX8_spanBy_87 : decode cX8_spanBy 87 = .ok (.iload_n 1, 1) := by decide +kernel
theorem dX8_spanBy_88 : decode cX8_spanBy 88 = .ok (.if_icmp .ne 24, 3) := by decide +kernel
theorem dX8_spanBy_91 : decode cX8_spanBy 91 = .ok (.aload_n 0, 1) := by decide +kernel
theorem dX8_spanBy_92 : decode cX8_spanBy 92 = .ok (.getfield 25, 3) := by decide +kernel
theorem dX8_spanBy_95 : decode cX8_spanBy 95 = .ok (.iload 5, 2) := by decide +kernel
theorem dX8_spanBy_97 : decode cX8_spanBy 97 = .ok (.iaload, 1) := by decide +kernel
theorem dX8_spanBy_98 : decode cX8_spanBy 98 = .ok (.iload_n 2, 1) := by decide +kernel
theorem dX8_spanBy_99 : decode cX8_spanBy 99 = .ok (.if_icmp .gt 13, 3) := by decide +kernel
theorem dX8_spanBy_102 : decode cX8_spanBy 102 = .ok (.aload_n 0, 1) := by decide +kernel
theorem dX8_spanBy_103 : decode cX8_spanBy 103 = .ok (.getfield 22, 3) := by decide +kernel
theorem dX8_spanBy_106 : decode cX8_spanBy 106 = .ok (.iload 5, 2) := by decide +kernel
theorem dX8_spanBy_108 : decode cX8_spanBy 108 = .ok (.iaload, 1) := by decide +kernel
theorem dX8_spanBy_109 : decode cX8_spanBy 109 = .ok (.goto 5, 3) := by decide +kernel
theorem dX8_spanBy_112 : decode cX8_spanBy 112 = .ok (.iload 4, 2) := by decide +kernel
theorem dX8_spanBy_114 : decode cX8_spanBy 114 = .ok (.istore 4, 2) := by decide +kernel
theorem dX8_spanBy_116 : decode cX8_spanBy 116 = .ok (.iinc 5 1, 3) := by decide +kernel
theorem dX8_spanBy_119 : decode cX8_spanBy 119 = .ok (.goto (-58), 3) := by decide +kernel
theorem dX8_spanBy_122 : decode cX8_spanBy 122 = .ok (.iload 4, 2) := by decide +kernel
theorem dX8_spanBy_124 : decode cX8_spanBy 124 = .ok (.ireturn, 1) := by decide +kernel
theorem dX8_span_0 : decode cX8_span 0 = .ok (.aload_n 0, 1) := by decide +kernel
theorem dX8_span_1 : decode cX8_span 1 = .ok (.iconst 0, 1) := by decide +kernel
theorem dX8_span_2 : decode cX8_span 2 = .ok (.putfield 57, 3) := by decide +kernel
theorem dX8_span_5 : decode cX8_span 5 = .ok (.iload_n 1, 1) := by decide +kernel
theorem dX8_span_6 : decode cX8_span 6 = .ok (.iconst 0, 1) := by decide +kernel
theorem dX8_span_7 : decode cX8_span 7 = .ok (.iconst 2, 1) := by decide +kernel
theorem dX8_span_8 : decode cX8_span 8 = .ok (.invokestatic 60, 3) := by decide +kernel
theorem dX8_span_11 : decode cX8_span 11 = .ok (.ifCond .eq 23, 3) := by decide +kernel
theorem dX8_span_14 : decode cX8_span 14 = .ok (.iload_n 2, 1) := by decide +kernel
theorem dX8_span_15 : decode cX8_span 15 = .ok (.iconst 0, 1) := by decide +kernel
theorem dX8_span_16 : decode cX8_span 16 = .ok (.sipush 500, 3) := by decide +kernel
theorem dX8_span_19 : decode cX8_span 19 = .ok (.invokestatic 60, 3) := by decide +kernel
theorem dX8_span_22 : decode cX8_span 22 = .ok (.ifCond .eq 12, 3) := by decide +kernel
theorem dX8_span_25 : decode cX8_span 25 = .ok (.aload_n 0, 1) := by decide +kernel
theorem dX8_span_26 : decode cX8_span 26 = .ok (.iload_n 1, 1) := by decide +kernel
theorem dX8_span_27 : decode cX8_span 27 = .ok (.iload_n 2, 1) := by decide +kernel
theorem dX8_span_28 : decode cX8_span 28 = .ok (.invokevirtual 89, 3) := by decide +kernel
theorem dX8_span_31 : decode cX8_span 31 = .ok (.goto 4, 3) := by decide +kernel
theorem dX8_span_34 : decode cX8_span 34 = .ok (.iconst (-1), 1) := by decide +kernel
theorem dX8_span_35 : decode cX8_span 35 = .ok (.ireturn, 1) := by decide +kernel
theorem dX8_days_0 : decode cX8_days 0 = .ok (.aload_n 0, 1) := by decide +kernel
theorem dX8_days_1 : decode cX8_days 1 = .ok (.iconst 0, 1) := by decide +kernel
theorem dX8_days_2 : decode cX8_days 2 = .ok (.putfield 57, 3) := by decide +kernel
theorem dX8_days_5 : decode cX8_days 5 = .ok (.iload_n 1, 1) := by decide +kernel
theorem dX8_days_6 : decode cX8_days 6 = .ok (.iconst 1, 1) := by decide +kernel
theorem dX8_days_7 : decode cX8_days 7 = .ok (.bipush 50, 2) := by decide +kernel
theorem dX8_days_9 : decode cX8_days 9 = .ok (.invokestatic 60, 3) := by decide +kernel
theorem dX8_days_12 : decode cX8_days 12 = .ok (.ifCond .ne 5, 3) := by decide +kernel
theorem dX8_days_15 : decode cX8_days 15 = .ok (.iconst (-1), 1) := by decide +kernel
theorem dX8_days_16 : decode cX8_days 16 = .ok (.ireturn, 1) := by decide +kernel
theorem dX8_days_17 : decode cX8_days 17 = .ok (.aload_n 0, 1) := by decide +kernel
theorem dX8_days_18 : decode cX8_days 18 = .ok (.getfield 86, 3) := by decide +kernel
theorem dX8_days_21 : decode cX8_days 21 = .ok (.iload_n 1, 1) := by decide +kernel
theorem dX8_days_22 : decode cX8_days 22 = .ok (.iadd, 1) := by decide +kernel
theorem dX8_days_23 : decode cX8_days 23 = .ok (.sipush 500, 3) := by decide +kernel
theorem dX8_days_26 : decode cX8_days 26 = .ok (.if_icmp .le 6, 3) := by decide +kernel
theorem dX8_days_29 : decode cX8_days 29 = .ok (.bipush (-2), 2) := by decide +kernel
theorem dX8_days_31 : decode cX8_days 31 = .ok (.ireturn, 1) := by decide +kernel
theorem dX8_days_32 : decode cX8_days 32 = .ok (.aload_n 0, 1) := by decide +kernel
theorem dX8_days_33 : decode cX8_days 33 = .ok (.dup, 1) := by decide +kernel
theorem dX8_days_34 : decode cX8_days 34 = .ok (.getfield 86, 3) := by decide +kernel
theorem dX8_days_37 : decode cX8_days 37 = .ok (.iload_n 1, 1) := by decide +kernel
theorem dX8_days_38 : decode cX8_days 38 = .ok (.iadd, 1) := by decide +kernel
theorem dX8_days_39 : decode cX8_days 39 = .ok (.putfield 86, 3) := by decide +kernel
theorem dX8_days_42 : decode cX8_days 42 = .ok (.aload_n 0, 1) := by decide +kernel
theorem dX8_days_43 : decode cX8_days 43 = .ok (.getfield 86, 3) := by decide +kernel
theorem dX8_days_46 : decode cX8_days 46 = .ok (.ireturn, 1) := by decide +kernel
theorem dX8_isFlue_0 : decode cX8_isFlue 0 = .ok (.iload_n 1, 1) := by decide +kernel
theorem dX8_isFlue_1 : decode cX8_isFlue 1 = .ok (.iconst 0, 1) := by decide +kernel
theorem dX8_isFlue_2 : decode cX8_isFlue 2 = .ok (.aload_n 0, 1) := by decide +kernel
theorem dX8_isFlue_3 : decode cX8_isFlue 3 = .ok (.getfield 93, 3) := by decide +kernel
theorem dX8_isFlue_6 : decode cX8_isFlue 6 = .ok (.iconst 1, 1) := by decide +kernel
theorem dX8_isFlue_7 : decode cX8_isFlue 7 = .ok (.isub, 1) := by decide +kernel
theorem dX8_isFlue_8 : decode cX8_isFlue 8 = .ok (.invokestatic 60, 3) := by decide +kernel
theorem dX8_isFlue_11 : decode cX8_isFlue 11 = .ok (.ireturn, 1) := by decide +kernel
theorem dX8_flue_0 : decode cX8_flue 0 = .ok (.aload_n 0, 1) := by decide +kernel
theorem dX8_flue_1 : decode cX8_flue 1 = .ok (.iconst 0, 1) := by decide +kernel
theorem dX8_flue_2 : decode cX8_flue 2 = .ok (.putfield 57, 3) := by decide +kernel
theorem dX8_flue_5 : decode cX8_flue 5 = .ok (.iload_n 1, 1) := by decide +kernel
theorem dX8_flue_6 : decode cX8_flue 6 = .ok (.iconst 0, 1) := by decide +kernel
theorem dX8_flue_7 : decode cX8_flue 7 = .ok (.iconst 2, 1) := by decide +kernel
theorem dX8_flue_8 : decode cX8_flue 8 = .ok (.invokestatic 60, 3) := by decide +kernel
theorem dX8_flue_11 : decode cX8_flue 11 = .ok (.ifCond .eq 76, 3) := by decide +kernel
theorem dX8_flue_14 : decode cX8_flue 14 = .ok (.iload_n 2, 1) := by decide +kernel
theorem dX8_flue_15 : decode cX8_flue 15 = .ok (.iconst 0, 1) := by decide +kernel
theorem dX8_flue_16 : decode cX8_flue 16 = .ok (.iconst 2, 1) := by decide +kernel
theorem dX8_flue_17 : decode cX8_flue 17 = .ok (.invokestatic 60, 3) := by decide +kernel
theorem dX8_flue_20 : decode cX8_flue 20 = .ok (.ifCond .eq 67, 3) := by decide +kernel
theorem dX8_flue_23 : decode cX8_flue 23 = .ok (.iload_n 3, 1) := by decide +kernel
theorem dX8_flue_24 : decode cX8_flue 24 = .ok (.iconst 1, 1) := by decide +kernel
theorem dX8_flue_25 : decode cX8_flue 25 = .ok (.bipush 30, 2) := by decide +kernel
theorem dX8_flue_27 : decode cX8_flue 27 = .ok (.invokestatic 60, 3) := by decide +kernel
theorem dX8_flue_30 : decode cX8_flue 30 = .ok (.ifCond .eq 57, 3) := by decide +kernel
theorem dX8_flue_33 : decode cX8_flue 33 = .ok (.iload 4, 2) := by decide +kernel
theorem dX8_flue_35 : decode cX8_flue 35 = .ok (.bipush 10, 2) := by decide +kernel
theorem dX8_flue_37 : decode cX8_flue 37 = .ok (.bipush 40, 2) := by decide +kernel
theorem dX8_flue_39 : decode cX8_flue 39 = .ok (.invokestatic 60, 3) := by decide +kernel
theorem dX8_flue_42 : decode cX8_flue 42 = .ok (.ifCond .eq 45, 3) := by decide +kernel
theorem dX8_flue_45 : decode cX8_flue 45 = .ok (.iload 5, 2) := by decide +kernel
theorem dX8_flue_47 : decode cX8_flue 47 = .ok (.iconst 0, 1) := by decide +kernel
theorem dX8_flue_48 : decode cX8_flue 48 = .ok (.iconst 4, 1) := by decide +kernel
theorem dX8_flue_49 : decode cX8_flue 49 = .ok (.invokestatic 60, 3) := by decide +kernel
theorem dX8_flue_52 : decode cX8_flue 52 = .ok (.ifCond .eq 35, 3) := by decide +kernel
theorem dX8_flue_55 : decode cX8_flue 55 = .ok (.iload 6, 2) := by decide +kernel
theorem dX8_flue_57 : decode cX8_flue 57 = .ok (.iconst 0, 1) := by decide +kernel
theorem dX8_flue_58 : decode cX8_flue 58 = .ok (.bipush 20, 2) := by decide +kernel
theorem dX8_flue_60 : decode cX8_flue 60 = .ok (.invokestatic 60, 3) := by decide +kernel
theorem dX8_flue_63 : decode cX8_flue 63 = .ok (.ifCond .eq 24, 3) := by decide +kernel
theorem dX8_flue_66 : decode cX8_flue 66 = .ok (.iload 7, 2) := by decide +kernel
theorem dX8_flue_68 : decode cX8_flue 68 = .ok (.iconst 0, 1) := by decide +kernel
theorem dX8_flue_69 : decode cX8_flue 69 = .ok (.bipush 20, 2) := by decide +kernel
theorem dX8_flue_71 : decode cX8_flue 71 = .ok (.invokestatic 60, 3) := by decide +kernel
theorem dX8_flue_74 : decode cX8_flue 74 = .ok (.ifCond .eq 13, 3) := by decide +kernel
theorem dX8_flue_77 : decode cX8_flue 77 = .ok (.iload 8, 2) := by decide +kernel
theorem dX8_flue_79 : decode cX8_flue 79 = .ok (.iconst 0, 1) := by decide +kernel
theorem dX8_flue_80 : decode cX8_flue 80 = .ok (.iconst 3, 1) := by decide +kernel
theorem dX8_flue_81 : decode cX8_flue 81 = .ok (.invokestatic 60, 3) := by decide +kernel
theorem dX8_flue_84 : decode cX8_flue 84 = .ok (.ifCond .ne 5, 3) := by decide +kernel
theorem dX8_flue_87 : decode cX8_flue 87 = .ok (.iconst (-1), 1) := by decide +kernel
theorem dX8_flue_88 : decode cX8_flue 88 = .ok (.ireturn, 1) := by decide +kernel
theorem dX8_flue_89 : decode cX8_flue 89 = .ok (.aload_n 0, 1) := by decide +kernel
theorem dX8_flue_90 : decode cX8_flue 90 = .ok (.getfield 93, 3) := by decide +kernel
theorem dX8_flue_93 : decode cX8_flue 93 = .ok (.bipush 12, 2) := by decide +kernel
theorem dX8_flue_95 : decode cX8_flue 95 = .ok (.if_icmp .ne 6, 3) := by decide +kernel
theorem dX8_flue_98 : decode cX8_flue 98 = .ok (.bipush (-3), 2) := by decide +kernel
theorem dX8_flue_100 : decode cX8_flue 100 = .ok (.ireturn, 1) := by decide +kernel
theorem dX8_flue_101 : decode cX8_flue 101 = .ok (.bipush 11, 2) := by decide +kernel
theorem dX8_flue_103 : decode cX8_flue 103 = .ok (.aload_n 0, 1) := by decide +kernel
theorem dX8_flue_104 : decode cX8_flue 104 = .ok (.getfield 93, 3) := by decide +kernel
theorem dX8_flue_107 : decode cX8_flue 107 = .ok (.imul, 1) := by decide +kernel
theorem dX8_flue_108 : decode cX8_flue 108 = .ok (.istore 9, 2) := by decide +kernel
theorem dX8_flue_110 : decode cX8_flue 110 = .ok (.aload_n 0, 1) := by decide +kernel
theorem dX8_flue_111 : decode cX8_flue 111 = .ok (.getfield 28, 3) := by decide +kernel
theorem dX8_flue_114 : decode cX8_flue 114 = .ok (.iload 9, 2) := by decide +kernel
theorem dX8_flue_116 : decode cX8_flue 116 = .ok (.iload_n 1, 1) := by decide +kernel
theorem dX8_flue_117 : decode cX8_flue 117 = .ok (.iastore, 1) := by decide +kernel
theorem dX8_flue_118 : decode cX8_flue 118 = .ok (.aload_n 0, 1) := by decide +kernel
theorem dX8_flue_119 : decode cX8_flue 119 = .ok (.getfield 28, 3) := by decide +kernel
theorem dX8_flue_122 : decode cX8_flue 122 = .ok (.iload 9, 2) := by decide +kernel
theorem dX8_flue_124 : decode cX8_flue 124 = .ok (.iconst 1, 1) := by decide +kernel
theorem dX8_flue_125 : decode cX8_flue 125 = .ok (.iadd, 1) := by decide +kernel
theorem dX8_flue_126 : decode cX8_flue 126 = .ok (.iload_n 2, 1) := by decide +kernel
theorem dX8_flue_127 : decode cX8_flue 127 = .ok (.iastore, 1) := by decide +kernel
theorem dX8_flue_128 : decode cX8_flue 128 = .ok (.aload_n 0, 1) := by decide +kernel
theorem dX8_flue_129 : decode cX8_flue 129 = .ok (.getfield 28, 3) := by decide +kernel
theorem dX8_flue_132 : decode cX8_flue 132 = .ok (.iload 9, 2) := by decide +kernel
theorem dX8_flue_134 : decode cX8_flue 134 = .ok (.iconst 2, 1) := by decide +kernel
theorem dX8_flue_135 : decode cX8_flue 135 = .ok (.iadd, 1) := by decide +kernel
theorem dX8_flue_136 : decode cX8_flue 136 = .ok (.iload_n 3, 1) := by decide +kernel
theorem dX8_flue_137 : decode cX8_flue 137 = .ok (.iastore, 1) := by decide +kernel
theorem dX8_flue_138 : decode cX8_flue 138 = .ok (.aload_n 0, 1) := by decide +kernel
theorem dX8_flue_139 : decode cX8_flue 139 = .ok (.getfield 28, 3) := by decide +kernel
theorem dX8_flue_142 : decode cX8_flue 142 = .ok (.iload 9, 2) := by decide +kernel
theorem dX8_flue_144 : decode cX8_flue 144 = .ok (.iconst 3, 1) := by decide +kernel
theorem dX8_flue_145 : decode cX8_flue 145 = .ok (.iadd, 1) := by decide +kernel
theorem dX8_flue_146 : decode cX8_flue 146 = .ok (.iload 4, 2) := by decide +kernel
theorem dX8_flue_148 : decode cX8_flue 148 = .ok (.iastore, 1) := by decide +kernel
theorem dX8_flue_149 : decode cX8_flue 149 = .ok (.aload_n 0, 1) := by decide +kernel
theorem dX8_flue_150 : decode cX8_flue 150 = .ok (.getfield 28, 3) := by decide +kernel
theorem dX8_flue_153 : decode cX8_flue 153 = .ok (.iload 9, 2) := by decide +kernel
theorem dX8_flue_155 : decode cX8_flue 155 = .ok (.iconst 4, 1) := by decide +kernel
theorem dX8_flue_156 : decode cX8_flue 156 = .ok (.iadd, 1) := by decide +kernel
theorem dX8_flue_157 : decode cX8_flue 157 = .ok (.iload 5, 2) := by decide +kernel
theorem dX8_flue_159 : decode cX8_flue 159 = .ok (.iastore, 1) := by decide +kernel
theorem dX8_flue_160 : decode cX8_flue 160 = .ok (.aload_n 0, 1) := by decide +kernel
theorem dX8_flue_161 : decode cX8_flue 161 = .ok (.getfield 28, 3) := by decide +kernel
theorem dX8_flue_164 : decode cX8_flue 164 = .ok (.iload 9, 2) := by decide +kernel
theorem dX8_flue_166 : decode cX8_flue 166 = .ok (.iconst 5, 1) := by decide +kernel
theorem dX8_flue_167 : decode cX8_flue 167 = .ok (.iadd, 1) := by decide +kernel
theorem dX8_flue_168 : decode cX8_flue 168 = .ok (.iload 6, 2) := by decide +kernel
theorem dX8_flue_170 : decode cX8_flue 170 = .ok (.iastore, 1) := by decide +kernel
theorem dX8_flue_171 : decode cX8_flue 171 = .ok (.aload_n 0, 1) := by decide +kernel
theorem dX8_flue_172 : decode cX8_flue 172 = .ok (.getfield 28, 3) := by decide +kernel
theorem dX8_flue_175 : decode cX8_flue 175 = .ok (.iload 9, 2) := by decide +kernel
theorem dX8_flue_177 : decode cX8_flue 177 = .ok (.bipush 6, 2) := by decide +kernel
theorem dX8_flue_179 : decode cX8_flue 179 = .ok (.iadd, 1) := by decide +kernel
theorem dX8_flue_180 : decode cX8_flue 180 = .ok (.iload 7, 2) := by decide +kernel
theorem dX8_flue_182 : decode cX8_flue 182 = .ok (.iastore, 1) := by decide +kernel
theorem dX8_flue_183 : decode cX8_flue 183 = .ok (.aload_n 0, 1) := by decide +kernel
theorem dX8_flue_184 : decode cX8_flue 184 = .ok (.getfield 28, 3) := by decide +kernel
theorem dX8_flue_187 : decode cX8_flue 187 = .ok (.iload 9, 2) := by decide +kernel
theorem dX8_flue_189 : decode cX8_flue 189 = .ok (.bipush 7, 2) := by decide +kernel
theorem dX8_flue_191 : decode cX8_flue 191 = .ok (.iadd, 1) := by decide +kernel
theorem dX8_flue_192 : decode cX8_flue 192 = .ok (.iload 8, 2) := by decide +kernel
theorem dX8_flue_194 : decode cX8_flue 194 = .ok (.iastore, 1) := by decide +kernel
theorem dX8_flue_195 : decode cX8_flue 195 = .ok (.aload_n 0, 1) := by decide +kernel
theorem dX8_flue_196 : decode cX8_flue 196 = .ok (.getfield 28, 3) := by decide +kernel
theorem dX8_flue_199 : decode cX8_flue 199 = .ok (.iload 9, 2) := by decide +kernel
theorem dX8_flue_201 : decode cX8_flue 201 = .ok (.bipush 8, 2) := by decide +kernel
theorem dX8_flue_203 : decode cX8_flue 203 = .ok (.iadd, 1) := by decide +kernel
theorem dX8_flue_204 : decode cX8_flue 204 = .ok (.aload_n 0, 1) := by decide +kernel
theorem dX8_flue_205 : decode cX8_flue 205 = .ok (.getfield 86, 3) := by decide +kernel
theorem dX8_flue_208 : decode cX8_flue 208 = .ok (.iastore, 1) := by decide +kernel
theorem dX8_flue_209 : decode cX8_flue 209 = .ok (.aload_n 0, 1) := by decide +kernel
theorem dX8_flue_210 : decode cX8_flue 210 = .ok (.getfield 28, 3) := by decide +kernel
theorem dX8_flue_213 : decode cX8_flue 213 = .ok (.iload 9, 2) := by decide +kernel
theorem dX8_flue_215 : decode cX8_flue 215 = .ok (.bipush 9, 2) := by decide +kernel
theorem dX8_flue_217 : decode cX8_flue 217 = .ok (.iadd, 1) := by decide +kernel
theorem dX8_flue_218 : decode cX8_flue 218 = .ok (.aload_n 0, 1) := by decide +kernel
theorem dX8_flue_219 : decode cX8_flue 219 = .ok (.getfield 86, 3) := by decide +kernel
theorem dX8_flue_222 : decode cX8_flue 222 = .ok (.iastore, 1) := by decide +kernel
theorem dX8_flue_223 : decode cX8_flue 223 = .ok (.aload_n 0, 1) := by decide +kernel
theorem dX8_flue_224 : decode cX8_flue 224 = .ok (.getfield 28, 3) := by decide +kernel
theorem dX8_flue_227 : decode cX8_flue 227 = .ok (.iload 9, 2) := by decide +kernel
theorem dX8_flue_229 : decode cX8_flue 229 = .ok (.bipush 10, 2) := by decide +kernel
theorem dX8_flue_231 : decode cX8_flue 231 = .ok (.iadd, 1) := by decide +kernel
theorem dX8_flue_232 : decode cX8_flue 232 = .ok (.iconst 0, 1) := by decide +kernel
theorem dX8_flue_233 : decode cX8_flue 233 = .ok (.iastore, 1) := by decide +kernel
theorem dX8_flue_234 : decode cX8_flue 234 = .ok (.aload_n 0, 1) := by decide +kernel
theorem dX8_flue_235 : decode cX8_flue 235 = .ok (.dup, 1) := by decide +kernel
theorem dX8_flue_236 : decode cX8_flue 236 = .ok (.getfield 93, 3) := by decide +kernel
theorem dX8_flue_239 : decode cX8_flue 239 = .ok (.iconst 1, 1) := by decide +kernel
theorem dX8_flue_240 : decode cX8_flue 240 = .ok (.iadd, 1) := by decide +kernel
theorem dX8_flue_241 : decode cX8_flue 241 = .ok (.putfield 93, 3) := by decide +kernel
theorem dX8_flue_244 : decode cX8_flue 244 = .ok (.aload_n 0, 1) := by decide +kernel
theorem dX8_flue_245 : decode cX8_flue 245 = .ok (.getfield 93, 3) := by decide +kernel
theorem dX8_flue_248 : decode cX8_flue 248 = .ok (.iconst 1, 1) := by decide +kernel
theorem dX8_flue_249 : decode cX8_flue 249 = .ok (.isub, 1) := by decide +kernel
theorem dX8_flue_250 : decode cX8_flue 250 = .ok (.ireturn, 1) := by decide +kernel
theorem dX8_of_0 : decode cX8_of 0 = .ok (.aload_n 0, 1) := by decide +kernel
theorem dX8_of_1 : decode cX8_of 1 = .ok (.getfield 28, 3) := by decide +kernel
theorem dX8_of_4 : decode cX8_of 4 = .ok (.bipush 11, 2) := by decide +kernel
theorem dX8_of_6 : decode cX8_of 6 = .ok (.iload_n 1, 1) := by decide +kernel
theorem dX8_of_7 : decode cX8_of 7 = .ok (.imul, 1) := by decide +kernel
theorem dX8_of_8 : decode cX8_of 8 = .ok (.iload_n 2, 1) := by decide +kernel
theorem dX8_of_9 : decode cX8_of 9 = .ok (.iadd, 1) := by decide +kernel
theorem dX8_of_10 : decode cX8_of 10 = .ok (.iaload, 1) := by decide +kernel
theorem dX8_of_11 : decode cX8_of 11 = .ok (.ireturn, 1) := by decide +kernel
theorem dX8_draught_0 : decode cX8_draught 0 = .ok (.aload_n 0, 1) := by decide +kernel
theorem dX8_draught_1 : decode cX8_draught 1 = .ok (.iconst 0, 1) := by decide +kernel
theorem dX8_draught_2 : decode cX8_draught 2 = .ok (.putfield 57, 3) := by decide +kernel
theorem dX8_draught_5 : decode cX8_draught 5 = .ok (.aload_n 0, 1) := by decide +kernel
theorem dX8_draught_6 : decode cX8_draught 6 = .ok (.iload_n 1, 1) := by decide +kernel
theorem dX8_draught_7 : decode cX8_draught 7 = .ok (.invokevirtual 96, 3) := by decide +kernel
theorem dX8_draught_10 : decode cX8_draught 10 = .ok (.ifCond .ne 5, 3) := by decide +kernel
theorem dX8_draught_13 : decode cX8_draught 13 = .ok (.iconst (-1), 1) := by decide +kernel
theorem dX8_draught_14 : decode cX8_draught 14 = .ok (.ireturn, 1) := by decide +kernel
theorem dX8_draught_15 : decode cX8_draught 15 = .ok (.aload_n 0, 1) := by decide +kernel
theorem dX8_draught_16 : decode cX8_draught 16 = .ok (.iload_n 1, 1) := by decide +kernel
theorem dX8_draught_17 : decode cX8_draught 17 = .ok (.iconst 0, 1) := by decide +kernel
theorem dX8_draught_18 : decode cX8_draught 18 = .ok (.invokevirtual 99, 3) := by decide +kernel
theorem dX8_draught_21 : decode cX8_draught 21 = .ok (.istore_n 2, 1) := by decide +kernel
theorem dX8_draught_22 : decode cX8_draught 22 = .ok (.aload_n 0, 1) := by decide +kernel
theorem dX8_draught_23 : decode cX8_draught 23 = .ok (.dup, 1) := by decide +kernel
theorem dX8_draught_24 : decode cX8_draught 24 = .ok (.getfield 102, 3) := by decide +kernel
theorem dX8_draught_27 : decode cX8_draught 27 = .ok (.iload_n 2, 1) := by decide +kernel
theorem dX8_draught_28 : decode cX8_draught 28 = .ok (.ifCond .ne 7, 3) := by decide +kernel
theorem dX8_draught_31 : decode cX8_draught 31 = .ok (.lconst 1, 1) := by decide +kernel
theorem dX8_draught_32 : decode cX8_draught 32 = .ok (.goto 17, 3) := by decide +kernel
theorem dX8_draught_35 : decode cX8_draught 35 = .ok (.iload_n 2, 1) := by decide +kernel
theorem dX8_draught_36 : decode cX8_draught 36 = .ok (.iconst 1, 1) := by decide +kernel
theorem dX8_draught_37 : decode cX8_draught 37 = .ok (.if_icmp .ne 9, 3) := by decide +kernel
theorem dX8_draught_40 : decode cX8_draught 40 = .ok (.ldc2_w 106, 3) := by decide +kernel
theorem dX8_draught_43 : decode cX8_draught 43 = .ok (.goto 6, 3) := by decide +kernel
theorem dX8_draught_46 : decode cX8_draught 46 = .ok (.ldc2_w 108, 3) := by decide +kernel
theorem dX8_draught_49 : decode cX8_draught 49 = .ok (.ladd, 1) := by decide +kernel
theorem dX8_draught_50 : decode cX8_draught 50 = .ok (.putfield 102, 3) := by decide +kernel
theorem dX8_draught_53 : decode cX8_draught 53 = .ok (.aload_n 0, 1) := by decide +kernel
theorem dX8_draught_54 : decode cX8_draught 54 = .ok (.iload_n 1, 1) := by decide +kernel
theorem dX8_draught_55 : decode cX8_draught 55 = .ok (.iconst 1, 1) := by decide +kernel
theorem dX8_draught_56 : decode cX8_draught 56 = .ok (.invokevirtual 99, 3) := by decide +kernel
theorem dX8_draught_59 : decode cX8_draught 59 = .ok (.istore_n 3, 1) := by decide +kernel
theorem dX8_draught_60 : decode cX8_draught 60 = .ok (.aload_n 0, 1) := by decide +kernel
theorem dX8_draught_61 : decode cX8_draught 61 = .ok (.iload_n 1, 1) := by decide +kernel
theorem dX8_draught_62 : decode cX8_draught 62 = .ok (.iconst 2, 1) := by decide +kernel
theorem dX8_draught_63 : decode cX8_draught 63 = .ok (.invokevirtual 99, 3) := by decide +kernel
theorem dX8_draught_66 : decode cX8_draught 66 = .ok (.iload_n 3, 1) := by decide +kernel
theorem dX8_draught_67 : decode cX8_draught 67 = .ok (.ifCond .ne 8, 3) := by decide +kernel
theorem dX8_draught_70 : decode cX8_draught 70 = .ok (.bipush 10, 2) := by decide +kernel
theorem dX8_draught_72 : decode cX8_draught 72 = .ok (.goto 15, 3) := by decide +kernel
theorem dX8_draught_75 : decode cX8_draught 75 = .ok (.iload_n 3, 1) := by decide +kernel
theorem dX8_draught_76 : decode cX8_draught 76 = .ok (.iconst 1, 1) := by decide +kernel
theorem dX8_draught_77 : decode cX8_draught 77 = .ok (.if_icmp .ne 8, 3) := by decide +kernel
theorem dX8_draught_80 : decode cX8_draught 80 = .ok (.bipush 30, 2) := by decide +kernel
theorem dX8_draught_82 : decode cX8_draught 82 = .ok (.goto 5, 3) := by decide +kernel
theorem dX8_draught_85 : decode cX8_draught 85 = .ok (.bipush 40, 2) := by decide +kernel
theorem dX8_draught_87 : decode cX8_draught 87 = .ok (.imul, 1) := by decide +kernel
theorem dX8_draught_88 : decode cX8_draught 88 = .ok (.aload_n 0, 1) := by decide +kernel
theorem dX8_draught_89 : decode cX8_draught 89 = .ok (.iload_n 1, 1) := by decide +kernel
theorem dX8_draught_90 : decode cX8_draught 90 = .ok (.iconst 3, 1) := by decide +kernel
theorem dX8_draught_91 : decode cX8_draught 91 = .ok (.invokevirtual 99, 3) := by decide +kernel
theorem dX8_draught_94 : decode cX8_draught 94 = .ok (.idiv, 1) := by decide +kernel
theorem dX8_draught_95 : decode cX8_draught 95 = .ok (.istore 4, 2) := by decide +kernel
theorem dX8_draught_97 : decode cX8_draught 97 = .ok (.iload_n 2, 1) := by decide +kernel
theorem dX8_draught_98 : decode cX8_draught 98 = .ok (.ifCond .le 29, 3) := by decide +kernel
theorem dX8_draught_101 : decode cX8_draught 101 = .ok (.iload 4, 2) := by decide +kernel
theorem dX8_draught_103 : decode cX8_draught 103 = .ok (.iconst 2, 1) := by decide +kernel
theorem dX8_draught_104 : decode cX8_draught 104 = .ok (.aload_n 0, 1) := by decide +kernel
theorem dX8_draught_105 : decode cX8_draught 105 = .ok (.iload_n 1, 1) := by decide +kernel
theorem dX8_draught_106 : decode cX8_draught 106 = .ok (.iconst 4, 1) := by decide +kernel
theorem dX8_draught_107 : decode cX8_draught 107 = .ok (.invokevirtual 99, 3) := by decide +kernel
theorem dX8_draught_110 : decode cX8_draught 110 = .ok (.imul, 1) := by decide +kernel
theorem dX8_draught_111 : decode cX8_draught 111 = .ok (.isub, 1) := by decide +kernel
theorem dX8_draught_112 : decode cX8_draught 112 = .ok (.istore 4, 2) := by decide +kernel
theorem dX8_draught_114 : decode cX8_draught 114 = .ok (.iload 4, 2) := by decide +kernel
theorem dX8_draught_116 : decode cX8_draught 116 = .ok (.ifCond .ge 7, 3) := by decide +kernel
theorem dX8_draught_119 : decode cX8_draught 119 = .ok (.iconst 0, 1) := by decide +kernel
theorem dX8_draught_120 : decode cX8_draught 120 = .ok (.goto 5, 3) := by decide +kernel
theorem dX8_draught_123 : decode cX8_draught 123 = .ok (.iload 4, 2) := by decide +kernel
theorem dX8_draught_125 : decode cX8_draught 125 = .ok (.istore 4, 2) := by decide +kernel
theorem dX8_draught_127 : decode cX8_draught 127 = .ok (.iload_n 2, 1) := by decide +kernel
theorem dX8_draught_128 : decode cX8_draught 128 = .ok (.iconst 2, 1) := by decide +kernel
theorem dX8_draught_129 : decode cX8_draught 129 = .ok (.if_icmp .ne 10, 3) := by decide +kernel
theorem dX8_draught_132 : decode cX8_draught 132 = .ok (.iload 4, 2) := by decide +kernel
theorem dX8_draught_134 : decode cX8_draught 134 = .ok (.iconst 2, 1) := by decide +kernel
theorem dX8_draught_135 : decode cX8_draught 135 = .ok (.idiv, 1) := by decide +kernel
theorem dX8_draught_136 : decode cX8_draught 136 = .ok (.goto 5, 3) := by decide +kernel
theorem dX8_draught_139 : decode cX8_draught 139 = .ok (.iload 4, 2) := by decide +kernel
theorem dX8_draught_141 : decode cX8_draught 141 = .ok (.ireturn, 1) := by decide +kernel
theorem dX8_dueBy_0 : decode cX8_dueBy 0 = .ok (.iconst 1, 1) := by decide +kernel
theorem dX8_dueBy_1 : decode cX8_dueBy 1 = .ok (.istore_n 3, 1) := by decide +kernel
theorem dX8_dueBy_2 : decode cX8_dueBy 2 = .ok (.iload_n 3, 1) := by decide +kernel
theorem dX8_dueBy_3 : decode cX8_dueBy 3 = .ok (.aload_n 0, 1) := by decide +kernel
theorem dX8_dueBy_4 : decode cX8_dueBy 4 = .ok (.aload_n 0, 1) := by decide +kernel
theorem dX8_dueBy_5 : decode cX8_dueBy 5 = .ok (.iload_n 1, 1) := by decide +kernel
theorem dX8_dueBy_6 : decode cX8_dueBy 6 = .ok (.iconst 1, 1) := by decide +kernel
theorem dX8_dueBy_7 : decode cX8_dueBy 7 = .ok (.invokevirtual 99, 3) := by decide +kernel
theorem dX8_dueBy_10 : decode cX8_dueBy 10 = .ok (.iload_n 2, 1) := by decide +kernel
theorem dX8_dueBy_11 : decode cX8_dueBy 11 = .ok (.iload_n 3, 1) := by decide +kernel
theorem dX8_dueBy_12 : decode cX8_dueBy 12 = .ok (.iadd, 1) := by decide +kernel
theorem dX8_dueBy_13 : decode cX8_dueBy 13 = .ok (.invokevirtual 89, 3) := by decide +kernel
theorem dX8_dueBy_16 : decode cX8_dueBy 16 = .ok (.if_icmp .ge 9, 3) := by decide +kernel
theorem dX8_dueBy_19 : decode cX8_dueBy 19 = .ok (.iinc 3 1, 3) := by decide +kernel
theorem dX8_dueBy_22 : decode cX8_dueBy 22 = .ok (.goto (-20), 3) := by decide +kernel
theorem dX8_dueBy_25 : decode cX8_dueBy 25 = .ok (.iload_n 2, 1) := by decide +kernel
theorem dX8_dueBy_26 : decode cX8_dueBy 26 = .ok (.iload_n 3, 1) := by decide +kernel
theorem dX8_dueBy_27 : decode cX8_dueBy 27 = .ok (.iadd, 1) := by decide +kernel
theorem dX8_dueBy_28 : decode cX8_dueBy 28 = .ok (.ireturn, 1) := by decide +kernel
theorem dX8_knownOn_0 : decode cX8_knownOn 0 = .ok (.bipush (-9), 2) := by decide +kernel
theorem dX8_knownOn_2 : decode cX8_knownOn 2 = .ok (.istore_n 3, 1) := by decide +kernel
theorem dX8_knownOn_3 : decode cX8_knownOn 3 = .ok (.iconst (-1), 1) := by decide +kernel
theorem dX8_knownOn_4 : decode cX8_knownOn 4 = .ok (.istore 4, 2) := by decide +kernel
theorem dX8_knownOn_6 : decode cX8_knownOn 6 = .ok (.iconst 0, 1) := by decide +kernel
theorem dX8_knownOn_7 : decode cX8_knownOn 7 = .ok (.istore 5, 2) := by decide +kernel
theorem dX8_knownOn_9 : decode cX8_knownOn 9 = .ok (.iload 5, 2) := by decide +kernel
theorem dX8_knownOn_11 : decode cX8_knownOn 11 = .ok (.aload_n 0, 1) := by decide +kernel
theorem dX8_knownOn_12 : decode cX8_knownOn 12 = .ok (.getfield 110, 3) := by decide +kernel
theorem dX8_knownOn_15 : decode cX8_knownOn 15 = .ok (.if_icmp .ge 93, 3) := by decide +kernel
theorem dX8_knownOn_18 : decode cX8_knownOn 18 = .ok (.aload_n 0, 1) := by decide +kernel
theorem dX8_knownOn_19 : decode cX8_knownOn 19 = .ok (.getfield 31, 3) := by decide +kernel
theorem dX8_knownOn_22 : decode cX8_knownOn 22 = .ok (.iconst 4, 1) := by decide +kernel
theorem dX8_knownOn_23 : decode cX8_knownOn 23 = .ok (.iload 5, 2) := by decide +kernel
theorem dX8_knownOn_25 : decode cX8_knownOn 25 = .ok (.imul, 1) := by decide +kernel
theorem dX8_knownOn_26 : decode cX8_knownOn 26 = .ok (.iaload, 1) := by decide +kernel
theorem dX8_knownOn_27 : decode cX8_knownOn 27 = .ok (.iload_n 1, 1) := by decide +kernel
theorem dX8_knownOn_28 : decode cX8_knownOn 28 = .ok (.if_icmp .ne 74, 3) := by decide +kernel
theorem dX8_knownOn_31 : decode cX8_knownOn 31 = .ok (.aload_n 0, 1) := by decide +kernel
theorem dX8_knownOn_32 : decode cX8_knownOn 32 = .ok (.getfield 31, 3) := by decide +kernel
theorem dX8_knownOn_35 : decode cX8_knownOn 35 = .ok (.iconst 4, 1) := by decide +kernel
theorem dX8_knownOn_36 : decode cX8_knownOn 36 = .ok (.iload 5, 2) := by decide +kernel
theorem dX8_knownOn_38 : decode cX8_knownOn 38 = .ok (.imul, 1) := by decide +kernel
theorem dX8_knownOn_39 : decode cX8_knownOn 39 = .ok (.iconst 3, 1) := by decide +kernel
theorem dX8_knownOn_40 : decode cX8_knownOn 40 = .ok (.iadd, 1) := by decide +kernel
theorem dX8_knownOn_41 : decode cX8_knownOn 41 = .ok (.iaload, 1) := by decide +kernel
theorem dX8_knownOn_42 : decode cX8_knownOn 42 = .ok (.iload_n 2, 1) := by decide +kernel
theorem dX8_knownOn_43 : decode cX8_knownOn 43 = .ok (.if_icmp .gt 59, 3) := by decide +kernel
theorem dX8_knownOn_46 : decode cX8_knownOn 46 = .ok (.aload_n 0, 1) := by decide +kernel
theorem dX8_knownOn_47 : decode cX8_knownOn 47 = .ok (.getfield 31, 3) := by decide +kernel
theorem dX8_knownOn_50 : decode cX8_knownOn 50 = .ok (.iconst 4, 1) := by decide +kernel
theorem dX8_knownOn_51 : decode cX8_knownOn 51 = .ok (.iload 5, 2) := by decide +kernel
theorem dX8_knownOn_53 : decode cX8_knownOn 53 = .ok (.imul, 1) := by decide +kernel
theorem dX8_knownOn_54 : decode cX8_knownOn 54 = .ok (.iconst 1, 1) := by decide +kernel
theorem dX8_knownOn_55 : decode cX8_knownOn 55 = .ok (.iadd, 1) := by decide +kernel
theorem dX8_knownOn_56 : decode cX8_knownOn 56 = .ok (.iaload, 1) := by decide +kernel
theorem dX8_knownOn_57 : decode cX8_knownOn 57 = .ok (.iload_n 2, 1) := by decide +kernel
theorem dX8_knownOn_58 : decode cX8_knownOn 58 = .ok (.if_icmp .gt 44, 3) := by decide +kernel
theorem dX8_knownOn_61 : decode cX8_knownOn 61 = .ok (.aload_n 0, 1) := by decide +kernel
theorem dX8_knownOn_62 : decode cX8_knownOn 62 = .ok (.getfield 31, 3) := by decide +kernel
theorem dX8_knownOn_65 : decode cX8_knownOn 65 = .ok (.iconst 4, 1) := by decide +kernel
theorem dX8_knownOn_66 : decode cX8_knownOn 66 = .ok (.iload 5, 2) := by decide +kernel
theorem dX8_knownOn_68 : decode cX8_knownOn 68 = .ok (.imul, 1) := by decide +kernel
theorem dX8_knownOn_69 : decode cX8_knownOn 69 = .ok (.iconst 1, 1) := by decide +kernel
theorem dX8_knownOn_70 : decode cX8_knownOn 70 = .ok (.iadd, 1) := by decide +kernel
theorem dX8_knownOn_71 : decode cX8_knownOn 71 = .ok (.iaload, 1) := by decide +kernel
theorem dX8_knownOn_72 : decode cX8_knownOn 72 = .ok (.iload 4, 2) := by decide +kernel
theorem dX8_knownOn_74 : decode cX8_knownOn 74 = .ok (.if_icmp .lt 28, 3) := by decide +kernel
theorem dX8_knownOn_77 : decode cX8_knownOn 77 = .ok (.aload_n 0, 1) := by decide +kernel
theorem dX8_knownOn_78 : decode cX8_knownOn 78 = .ok (.getfield 31, 3) := by decide +kernel
theorem dX8_knownOn_81 : decode cX8_knownOn 81 = .ok (.iconst 4, 1) := by decide +kernel
theorem dX8_knownOn_82 : decode cX8_knownOn 82 = .ok (.iload 5, 2) := by decide +kernel
theorem dX8_knownOn_84 : decode cX8_knownOn 84 = .ok (.imul, 1) := by decide +kernel
theorem dX8_knownOn_85 : decode cX8_knownOn 85 = .ok (.iconst 1, 1) := by decide +kernel
theorem dX8_knownOn_86 : decode cX8_knownOn 86 = .ok (.iadd, 1) := by decide +kernel
theorem dX8_knownOn_87 : decode cX8_knownOn 87 = .ok (.iaload, 1) := by decide +kernel
theorem dX8_knownOn_88 : decode cX8_knownOn 88 = .ok (.istore 4, 2) := by decide +kernel
theorem dX8_knownOn_90 : decode cX8_knownOn 90 = .ok (.aload_n 0, 1) := by decide +kernel
theorem dX8_knownOn_91 : decode cX8_knownOn 91 = .ok (.getfield 31, 3) := by decide +kernel
theorem dX8_knownOn_94 : decode cX8_knownOn 94 = .ok (.iconst 4, 1) := by decide +kernel
theorem dX8_knownOn_95 : decode cX8_knownOn 95 = .ok (.iload 5, 2) := by decide +kernel
theorem dX8_knownOn_97 : decode cX8_knownOn 97 = .ok (.imul, 1) := by decide +kernel
theorem dX8_knownOn_98 : decode cX8_knownOn 98 = .ok (.iconst 2, 1) := by decide +kernel
theorem dX8_knownOn_99 : decode cX8_knownOn 99 = .ok (.iadd, 1) := by decide +kernel
theorem dX8_knownOn_100 : decode cX8_knownOn 100 = .ok (.iaload, 1) := by decide +kernel
theorem dX8_knownOn_101 : decode cX8_knownOn 101 = .ok (.istore_n 3, 1) := by decide +kernel
theorem dX8_knownOn_102 : decode cX8_knownOn 102 = .ok (.iinc 5 1, 3) := by decide +kernel
theorem dX8_knownOn_105 : decode cX8_knownOn 105 = .ok (.goto (-96), 3) := by decide +kernel
theorem dX8_knownOn_108 : decode cX8_knownOn 108 = .ok (.iload_n 3, 1) := by decide +kernel
theorem dX8_knownOn_109 : decode cX8_knownOn 109 = .ok (.ireturn, 1) := by decide +kernel
theorem dX8_isForbidden_0 : decode cX8_isForbidden 0 = .ok (.aload_n 0, 1) := by decide +kernel
theorem dX8_isForbidden_1 : decode cX8_isForbidden 1 = .ok (.iload_n 1, 1) := by decide +kernel
theorem dX8_isForbidden_2 : decode cX8_isForbidden 2 = .ok (.bipush 10, 2) := by decide +kernel
theorem dX8_isForbidden_4 : decode cX8_isForbidden 4 = .ok (.invokevirtual 99, 3) := by decide +kernel
theorem dX8_isForbidden_7 : decode cX8_isForbidden 7 = .ok (.iconst 3, 1) := by decide +kernel
theorem dX8_isForbidden_8 : decode cX8_isForbidden 8 = .ok (.if_icmp .ge 15, 3) := by decide +kernel
theorem dX8_isForbidden_11 : decode cX8_isForbidden 11 = .ok (.aload_n 0, 1) := by decide +kernel
theorem dX8_isForbidden_12 : decode cX8_isForbidden 12 = .ok (.iload_n 1, 1) := by decide +kernel
theorem dX8_isForbidden_13 : decode cX8_isForbidden 13 = .ok (.aload_n 0, 1) := by decide +kernel
theorem dX8_isForbidden_14 : decode cX8_isForbidden 14 = .ok (.getfield 86, 3) := by decide +kernel
theorem dX8_isForbidden_17 : decode cX8_isForbidden 17 = .ok (.invokevirtual 113, 3) := by decide +kernel
theorem dX8_isForbidden_20 : decode cX8_isForbidden 20 = .ok (.ifCond .ne 7, 3) := by decide +kernel
theorem dX8_isForbidden_23 : decode cX8_isForbidden 23 = .ok (.iconst 1, 1) := by decide +kernel
theorem dX8_isForbidden_24 : decode cX8_isForbidden 24 = .ok (.goto 4, 3) := by decide +kernel
theorem dX8_isForbidden_27 : decode cX8_isForbidden 27 = .ok (.iconst 0, 1) := by decide +kernel
theorem dX8_isForbidden_28 : decode cX8_isForbidden 28 = .ok (.ireturn, 1) := by decide +kernel
theorem dX8_doer_0 : decode cX8_doer 0 = .ok (.aload_n 0, 1) := by decide +kernel
theorem dX8_doer_1 : decode cX8_doer 1 = .ok (.iload_n 1, 1) := by decide +kernel
theorem dX8_doer_2 : decode cX8_doer 2 = .ok (.bipush 7, 2) := by decide +kernel
theorem dX8_doer_4 : decode cX8_doer 4 = .ok (.invokevirtual 99, 3) := by decide +kernel
theorem dX8_doer_7 : decode cX8_doer 7 = .ok (.istore_n 2, 1) := by decide +kernel
theorem dX8_doer_8 : decode cX8_doer 8 = .ok (.aload_n 0, 1) := by decide +kernel
theorem dX8_doer_9 : decode cX8_doer 9 = .ok (.getfield 44, 3) := by decide +kernel
theorem dX8_doer_12 : decode cX8_doer 12 = .ok (.iload_n 2, 1) := by decide +kernel
theorem dX8_doer_13 : decode cX8_doer 13 = .ok (.baload, 1) := by decide +kernel
theorem dX8_doer_14 : decode cX8_doer 14 = .ok (.ifCond .ne 5, 3) := by decide +kernel
theorem dX8_doer_17 : decode cX8_doer 17 = .ok (.iload_n 2, 1) := by decide +kernel
theorem dX8_doer_18 : decode cX8_doer 18 = .ok (.ireturn, 1) := by decide +kernel
theorem dX8_doer_19 : decode cX8_doer 19 = .ok (.bipush (-9), 2) := by decide +kernel
theorem dX8_doer_21 : decode cX8_doer 21 = .ok (.istore_n 3, 1) := by decide +kernel
theorem dX8_doer_22 : decode cX8_doer 22 = .ok (.sipush 1000, 3) := by decide +kernel
theorem dX8_doer_25 : decode cX8_doer 25 = .ok (.istore 4, 2) := by decide +kernel
theorem dX8_doer_27 : decode cX8_doer 27 = .ok (.iconst 3, 1) := by decide +kernel
theorem dX8_doer_28 : decode cX8_doer 28 = .ok (.istore 5, 2) := by decide +kernel
theorem dX8_doer_30 : decode cX8_doer 30 = .ok (.iload 5, 2) := by decide +kernel
theorem dX8_doer_32 : decode cX8_doer 32 = .ok (.ifCond .lt 147, 3) := by decide +kernel
theorem dX8_doer_35 : decode cX8_doer 35 = .ok (.bipush 100, 2) := by decide +kernel
theorem dX8_doer_37 : decode cX8_doer 37 = .ok (.istore 6, 2) := by decide +kernel
theorem dX8_doer_39 : decode cX8_doer 39 = .ok (.iconst 0, 1) := by decide +kernel
theorem dX8_doer_40 : decode cX8_doer 40 = .ok (.istore 7, 2) := by decide +kernel
theorem dX8_doer_42 : decode cX8_doer 42 = .ok (.iload 7, 2) := by decide +kernel
theorem dX8_doer_44 : decode cX8_doer 44 = .ok (.aload_n 0, 1) := by decide +kernel
theorem dX8_doer_45 : decode cX8_doer 45 = .ok (.getfield 93, 3) := by decide +kernel
theorem dX8_doer_48 : decode cX8_doer 48 = .ok (.if_icmp .ge 101, 3) := by decide +kernel
theorem dX8_doer_51 : decode cX8_doer 51 = .ok (.aload_n 0, 1) := by decide +kernel
theorem dX8_doer_52 : decode cX8_doer 52 = .ok (.iload 7, 2) := by decide +kernel
theorem dX8_doer_54 : decode cX8_doer 54 = .ok (.iconst 5, 1) := by decide +kernel
theorem dX8_doer_55 : decode cX8_doer 55 = .ok (.invokevirtual 99, 3) := by decide +kernel
theorem dX8_doer_58 : decode cX8_doer 58 = .ok (.aload_n 0, 1) := by decide +kernel
theorem dX8_doer_59 : decode cX8_doer 59 = .ok (.iload_n 1, 1) := by decide +kernel
theorem dX8_doer_60 : decode cX8_doer 60 = .ok (.iconst 5, 1) := by decide +kernel
theorem dX8_doer_61 : decode cX8_doer 61 = .ok (.invokevirtual 99, 3) := by decide +kernel
theorem dX8_doer_64 : decode cX8_doer 64 = .ok (.isub, 1) := by decide +kernel
theorem dX8_doer_65 : decode cX8_doer 65 = .ok (.istore 8, 2) := by decide +kernel
theorem dX8_doer_67 : decode cX8_doer 67 = .ok (.aload_n 0, 1) := by decide +kernel
theorem dX8_doer_68 : decode cX8_doer 68 = .ok (.iload 7, 2) := by decide +kernel
theorem dX8_doer_70 : decode cX8_doer 70 = .ok (.bipush 6, 2) := by decide +kernel
theorem dX8_doer_72 : decode cX8_doer 72 = .ok (.invokevirtual 99, 3) := by decide +kernel
theorem dX8_doer_75 : decode cX8_doer 75 = .ok (.aload_n 0, 1) := by decide +kernel
theorem dX8_doer_76 : decode cX8_doer 76 = .ok (.iload_n 1, 1) := by decide +kernel
theorem dX8_doer_77 : decode cX8_doer 77 = .ok (.bipush 6, 2) := by decide +kernel
theorem dX8_doer_79 : decode cX8_doer 79 = .ok (.invokevirtual 99, 3) := by decide +kernel
theorem dX8_doer_82 : decode cX8_doer 82 = .ok (.isub, 1) := by decide +kernel
theorem dX8_doer_83 : decode cX8_doer 83 = .ok (.istore 9, 2) := by decide +kernel
theorem dX8_doer_85 : decode cX8_doer 85 = .ok (.iload 8, 2) := by decide +kernel
theorem dX8_doer_87 : decode cX8_doer 87 = .ok (.ifCond .ge 9, 3) := by decide +kernel
theorem dX8_doer_90 : decode cX8_doer 90 = .ok (.iload 8, 2) := by decide +kernel
theorem dX8_doer_92 : decode cX8_doer 92 = .ok (.ineg, 1) := by decide +kernel
theorem dX8_doer_93 : decode cX8_doer 93 = .ok (.goto 5, 3) := by decide +kernel
theorem dX8_doer_96 : decode cX8_doer 96 = .ok (.iload 8, 2) := by decide +kernel
theorem dX8_doer_98 : decode cX8_doer 98 = .ok (.iload 9, 2) := by decide +kernel
theorem dX8_doer_100 : decode cX8_doer 100 = .ok (.ifCond .ge 9, 3) := by decide +kernel
theorem dX8_doer_103 : decode cX8_doer 103 = .ok (.iload 9, 2) := by decide +kernel
theorem dX8_doer_105 : decode cX8_doer 105 = .ok (.ineg, 1) := by decide +kernel
theorem dX8_doer_106 : decode cX8_doer 106 = .ok (.goto 5, 3) := by decide +kernel
theorem dX8_doer_109 : decode cX8_doer 109 = .ok (.iload 9, 2) := by decide +kernel
theorem dX8_doer_111 : decode cX8_doer 111 = .ok (.iadd, 1) := by decide +kernel
theorem dX8_doer_112 : decode cX8_doer 112 = .ok (.istore 10, 2) := by decide +kernel
theorem dX8_doer_114 : decode cX8_doer 114 = .ok (.aload_n 0, 1) := by decide +kernel
theorem dX8_doer_115 : decode cX8_doer 115 = .ok (.iload 7, 2) := by decide +kernel
theorem dX8_doer_117 : decode cX8_doer 117 = .ok (.bipush 7, 2) := by decide +kernel
theorem dX8_doer_119 : decode cX8_doer 119 = .ok (.invokevirtual 99, 3) := by decide +kernel
theorem dX8_doer_122 : decode cX8_doer 122 = .ok (.iload 5, 2) := by decide +kernel
theorem dX8_doer_124 : decode cX8_doer 124 = .ok (.if_icmp .ne 15, 3) := by decide +kernel
theorem dX8_doer_127 : decode cX8_doer 127 = .ok (.iload 10, 2) := by decide +kernel
theorem dX8_doer_129 : decode cX8_doer 129 = .ok (.iload 6, 2) := by decide +kernel
theorem dX8_doer_131 : decode cX8_doer 131 = .ok (.if_icmp .ge 8, 3) := by decide +kernel
theorem dX8_doer_134 : decode cX8_doer 134 = .ok (.iload 10, 2) := by decide +kernel
theorem dX8_doer_136 : decode cX8_doer 136 = .ok (.goto 5, 3) := by decide +kernel
theorem dX8_doer_139 : decode cX8_doer 139 = .ok (.iload 6, 2) := by decide +kernel
theorem dX8_doer_141 : decode cX8_doer 141 = .ok (.istore 6, 2) := by decide +kernel
theorem dX8_doer_143 : decode cX8_doer 143 = .ok (.iinc 7 1, 3) := by decide +kernel
theorem dX8_doer_146 : decode cX8_doer 146 = .ok (.goto (-104), 3) := by decide +kernel
theorem dX8_doer_149 : decode cX8_doer 149 = .ok (.aload_n 0, 1) := by decide +kernel
theorem dX8_doer_150 : decode cX8_doer 150 = .ok (.getfield 44, 3) := by decide +kernel
theorem dX8_doer_153 : decode cX8_doer 153 = .ok (.iload 5, 2) := by decide +kernel
theorem dX8_doer_155 : decode cX8_doer 155 = .ok (.baload, 1) := by decide +kernel
theorem dX8_doer_156 : decode cX8_doer 156 = .ok (.ifCond .ne 17, 3) := by decide +kernel
theorem dX8_doer_159 : decode cX8_doer 159 = .ok (.iload 6, 2) := by decide +kernel
theorem dX8_doer_161 : decode cX8_doer 161 = .ok (.iload 4, 2) := by decide +kernel
theorem dX8_doer_163 : decode cX8_doer 163 = .ok (.if_icmp .gt 10, 3) := by decide +kernel
theorem dX8_doer_166 : decode cX8_doer 166 = .ok (.iload 6, 2) := by decide +kernel
theorem dX8_doer_168 : decode cX8_doer 168 = .ok (.istore 4, 2) := by decide +kernel
theorem dX8_doer_170 : decode cX8_doer 170 = .ok (.iload 5, 2) := by decide +kernel
theorem dX8_doer_172 : decode cX8_doer 172 = .ok (.istore_n 3, 1) := by decide +kernel
theorem dX8_doer_173 : decode cX8_doer 173 = .ok (.iinc 5 (-1), 3) := by decide +kernel
theorem dX8_doer_176 : decode cX8_doer 176 = .ok (.goto (-146), 3) := by decide +kernel
theorem dX8_doer_179 : decode cX8_doer 179 = .ok (.iload_n 3, 1) := by decide +kernel
theorem dX8_doer_180 : decode cX8_doer 180 = .ok (.ireturn, 1) := by decide +kernel
theorem dX8_about_0 : decode cX8_about 0 = .ok (.aload_n 0, 1) := by decide +kernel
theorem dX8_about_1 : decode cX8_about 1 = .ok (.iconst 0, 1) := by decide +kernel
theorem dX8_about_2 : decode cX8_about 2 = .ok (.putfield 57, 3) := by decide +kernel
theorem dX8_about_5 : decode cX8_about 5 = .ok (.aload_n 0, 1) := by decide +kernel
theorem dX8_about_6 : decode cX8_about 6 = .ok (.iload_n 1, 1) := by decide +kernel
theorem dX8_about_7 : decode cX8_about 7 = .ok (.invokevirtual 96, 3) := by decide +kernel
theorem dX8_about_10 : decode cX8_about 10 = .ok (.ifCond .eq 13, 3) := by decide +kernel
theorem dX8_about_13 : decode cX8_about 13 = .ok (.iload_n 2, 1) := by decide +kernel
theorem dX8_about_14 : decode cX8_about 14 = .ok (.iconst 0, 1) := by decide +kernel
theorem dX8_about_15 : decode cX8_about 15 = .ok (.bipush 7, 2) := by decide +kernel
theorem dX8_about_17 : decode cX8_about 17 = .ok (.invokestatic 60, 3) := by decide +kernel
theorem dX8_about_20 : decode cX8_about 20 = .ok (.ifCond .ne 5, 3) := by decide +kernel
theorem dX8_about_23 : decode cX8_about 23 = .ok (.iconst (-1), 1) := by decide +kernel
theorem dX8_about_24 : decode cX8_about 24 = .ok (.ireturn, 1) := by decide +kernel
theorem dX8_about_25 : decode cX8_about 25 = .ok (.iload_n 2, 1) := by decide +kernel
theorem dX8_about_26 : decode cX8_about 26 = .ok (.tableswitch 78 3 7 #[34, 42, 50, 58, 72], 34) := by decide +kernel
theorem dX8_about_60 : decode cX8_about 60 = .ok (.aload_n 0, 1) := by decide +kernel
theorem dX8_about_61 : decode cX8_about 61 = .ok (.iload_n 1, 1) := by decide +kernel
theorem dX8_about_62 : decode cX8_about 62 = .ok (.bipush 7, 2) := by decide +kernel
theorem dX8_about_64 : decode cX8_about 64 = .ok (.invokevirtual 99, 3) := by decide +kernel
theorem dX8_about_67 : decode cX8_about 67 = .ok (.ireturn, 1) := by decide +kernel
theorem dX8_about_68 : decode cX8_about 68 = .ok (.aload_n 0, 1) := by decide +kernel
theorem dX8_about_69 : decode cX8_about 69 = .ok (.iload_n 1, 1) := by decide +kernel
theorem dX8_about_70 : decode cX8_about 70 = .ok (.bipush 9, 2) := by decide +kernel
theorem dX8_about_72 : decode cX8_about 72 = .ok (.invokevirtual 99, 3) := by decide +kernel
theorem dX8_about_75 : decode cX8_about 75 = .ok (.ireturn, 1) := by decide +kernel
theorem dX8_about_76 : decode cX8_about 76 = .ok (.aload_n 0, 1) := by decide +kernel
theorem dX8_about_77 : decode cX8_about 77 = .ok (.iload_n 1, 1) := by decide +kernel
theorem dX8_about_78 : decode cX8_about 78 = .ok (.bipush 10, 2) := by decide +kernel
theorem dX8_about_80 : decode cX8_about 80 = .ok (.invokevirtual 99, 3) := by decide +kernel
theorem dX8_about_83 : decode cX8_about 83 = .ok (.ireturn, 1) := by decide +kernel
theorem dX8_about_84 : decode cX8_about 84 = .ok (.aload_n 0, 1) := by decide +kernel
theorem dX8_about_85 : decode cX8_about 85 = .ok (.iload_n 1, 1) := by decide +kernel
theorem dX8_about_86 : decode cX8_about 86 = .ok (.invokevirtual 116, 3) := by decide +kernel
theorem dX8_about_89 : decode cX8_about 89 = .ok (.ifCond .eq 7, 3) := by decide +kernel
theorem dX8_about_92 : decode cX8_about 92 = .ok (.iconst 1, 1) := by decide +kernel
theorem dX8_about_93 : decode cX8_about 93 = .ok (.goto 4, 3) := by decide +kernel
theorem dX8_about_96 : decode cX8_about 96 = .ok (.iconst 0, 1) := by decide +kernel
theorem dX8_about_97 : decode cX8_about 97 = .ok (.ireturn, 1) := by decide +kernel
theorem dX8_about_98 : decode cX8_about 98 = .ok (.aload_n 0, 1) := by decide +kernel
theorem dX8_about_99 : decode cX8_about 99 = .ok (.iload_n 1, 1) := by decide +kernel
theorem dX8_about_100 : decode cX8_about 100 = .ok (.invokevirtual 119, 3) := by decide +kernel
theorem dX8_about_103 : decode cX8_about 103 = .ok (.ireturn, 1) := by decide +kernel
theorem dX8_about_104 : decode cX8_about 104 = .ok (.aload_n 0, 1) := by decide +kernel
theorem dX8_about_105 : decode cX8_about 105 = .ok (.iload_n 1, 1) := by decide +kernel
theorem dX8_about_106 : decode cX8_about 106 = .ok (.iload_n 2, 1) := by decide +kernel
theorem dX8_about_107 : decode cX8_about 107 = .ok (.invokevirtual 99, 3) := by decide +kernel
theorem dX8_about_110 : decode cX8_about 110 = .ok (.ireturn, 1) := by decide +kernel
theorem dX8_due_0 : decode cX8_due 0 = .ok (.aload_n 0, 1) := by decide +kernel
theorem dX8_due_1 : decode cX8_due 1 = .ok (.iconst 0, 1) := by decide +kernel
theorem dX8_due_2 : decode cX8_due 2 = .ok (.putfield 57, 3) := by decide +kernel
