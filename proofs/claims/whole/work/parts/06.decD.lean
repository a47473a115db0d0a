theorem dX8_due_5 : decode cX8_due 5 = .ok (.aload_n 0, 1) := by decide +kernel
theorem dX8_due_6 : decode cX8_due 6 = .ok (.iload_n 1, 1) := by decide +kernel
theorem dX8_due_7 : decode cX8_due 7 = .ok (.invokevirtual 96, 3) := by decide +kernel
theorem dX8_due_10 : decode cX8_due 10 = .ok (.ifCond .eq 18, 3) := by decide +kernel
theorem dX8_due_13 : decode cX8_due 13 = .ok (.aload_n 0, 1) := by decide +kernel
theorem dX8_due_14 : decode cX8_due 14 = .ok (.iload_n 1, 1) := by decide +kernel
theorem dX8_due_15 : decode cX8_due 15 = .ok (.aload_n 0, 1) := by decide +kernel
theorem dX8_due_16 : decode cX8_due 16 = .ok (.iload_n 1, 1) := by decide +kernel
theorem dX8_due_17 : decode cX8_due 17 = .ok (.bipush 9, 2) := by decide +kernel
theorem dX8_due_19 : decode cX8_due 19 = .ok (.invokevirtual 99, 3) := by decide +kernel
theorem dX8_due_22 : decode cX8_due 22 = .ok (.invokevirtual 123, 3) := by decide +kernel
theorem dX8_due_25 : decode cX8_due 25 = .ok (.goto 4, 3) := by decide +kernel
theorem dX8_due_28 : decode cX8_due 28 = .ok (.iconst (-1), 1) := by decide +kernel
theorem dX8_due_29 : decode cX8_due 29 = .ok (.ireturn, 1) := by decide +kernel
theorem dX8_beyond_0 : decode cX8_beyond 0 = .ok (.aload_n 0, 1) := by decide +kernel
theorem dX8_beyond_1 : decode cX8_beyond 1 = .ok (.iconst 0, 1) := by decide +kernel
theorem dX8_beyond_2 : decode cX8_beyond 2 = .ok (.putfield 57, 3) := by decide +kernel
theorem dX8_beyond_5 : decode cX8_beyond 5 = .ok (.iconst 0, 1) := by decide +kernel
theorem dX8_beyond_6 : decode cX8_beyond 6 = .ok (.istore_n 1, 1) := by decide +kernel
theorem dX8_beyond_7 : decode cX8_beyond 7 = .ok (.iconst 0, 1) := by decide +kernel
theorem dX8_beyond_8 : decode cX8_beyond 8 = .ok (.istore_n 2, 1) := by decide +kernel
theorem dX8_beyond_9 : decode cX8_beyond 9 = .ok (.iload_n 2, 1) := by decide +kernel
theorem dX8_beyond_10 : decode cX8_beyond 10 = .ok (.aload_n 0, 1) := by decide +kernel
theorem dX8_beyond_11 : decode cX8_beyond 11 = .ok (.getfield 93, 3) := by decide +kernel
theorem dX8_beyond_14 : decode cX8_beyond 14 = .ok (.if_icmp .ge 44, 3) := by decide +kernel
theorem dX8_beyond_17 : decode cX8_beyond 17 = .ok (.iload_n 1, 1) := by decide +kernel
theorem dX8_beyond_18 : decode cX8_beyond 18 = .ok (.aload_n 0, 1) := by decide +kernel
theorem dX8_beyond_19 : decode cX8_beyond 19 = .ok (.iload_n 2, 1) := by decide +kernel
theorem dX8_beyond_20 : decode cX8_beyond 20 = .ok (.invokevirtual 116, 3) := by decide +kernel
theorem dX8_beyond_23 : decode cX8_beyond 23 = .ok (.ifCond .ne 26, 3) := by decide +kernel
theorem dX8_beyond_26 : decode cX8_beyond 26 = .ok (.aload_n 0, 1) := by decide +kernel
theorem dX8_beyond_27 : decode cX8_beyond 27 = .ok (.iload_n 2, 1) := by decide +kernel
theorem dX8_beyond_28 : decode cX8_beyond 28 = .ok (.aload_n 0, 1) := by decide +kernel
theorem dX8_beyond_29 : decode cX8_beyond 29 = .ok (.iload_n 2, 1) := by decide +kernel
theorem dX8_beyond_30 : decode cX8_beyond 30 = .ok (.bipush 9, 2) := by decide +kernel
theorem dX8_beyond_32 : decode cX8_beyond 32 = .ok (.invokevirtual 99, 3) := by decide +kernel
theorem dX8_beyond_35 : decode cX8_beyond 35 = .ok (.invokevirtual 123, 3) := by decide +kernel
theorem dX8_beyond_38 : decode cX8_beyond 38 = .ok (.aload_n 0, 1) := by decide +kernel
theorem dX8_beyond_39 : decode cX8_beyond 39 = .ok (.getfield 86, 3) := by decide +kernel
theorem dX8_beyond_42 : decode cX8_beyond 42 = .ok (.if_icmp .ge 7, 3) := by decide +kernel
theorem dX8_beyond_45 : decode cX8_beyond 45 = .ok (.iconst 1, 1) := by decide +kernel
theorem dX8_beyond_46 : decode cX8_beyond 46 = .ok (.goto 4, 3) := by decide +kernel
theorem dX8_beyond_49 : decode cX8_beyond 49 = .ok (.iconst 0, 1) := by decide +kernel
theorem dX8_beyond_50 : decode cX8_beyond 50 = .ok (.iadd, 1) := by decide +kernel
theorem dX8_beyond_51 : decode cX8_beyond 51 = .ok (.istore_n 1, 1) := by decide +kernel
theorem dX8_beyond_52 : decode cX8_beyond 52 = .ok (.iinc 2 1, 3) := by decide +kernel
theorem dX8_beyond_55 : decode cX8_beyond 55 = .ok (.goto (-46), 3) := by decide +kernel
theorem dX8_beyond_58 : decode cX8_beyond 58 = .ok (.iload_n 1, 1) := by decide +kernel
theorem dX8_beyond_59 : decode cX8_beyond 59 = .ok (.ireturn, 1) := by decide +kernel
theorem dX8_sweep_0 : decode cX8_sweep 0 = .ok (.aload_n 0, 1) := by decide +kernel
theorem dX8_sweep_1 : decode cX8_sweep 1 = .ok (.iconst 0, 1) := by decide +kernel
theorem dX8_sweep_2 : decode cX8_sweep 2 = .ok (.putfield 57, 3) := by decide +kernel
theorem dX8_sweep_5 : decode cX8_sweep 5 = .ok (.aload_n 0, 1) := by decide +kernel
theorem dX8_sweep_6 : decode cX8_sweep 6 = .ok (.iload_n 1, 1) := by decide +kernel
theorem dX8_sweep_7 : decode cX8_sweep 7 = .ok (.invokevirtual 96, 3) := by decide +kernel
theorem dX8_sweep_10 : decode cX8_sweep 10 = .ok (.ifCond .ne 5, 3) := by decide +kernel
theorem dX8_sweep_13 : decode cX8_sweep 13 = .ok (.iconst (-1), 1) := by decide +kernel
theorem dX8_sweep_14 : decode cX8_sweep 14 = .ok (.ireturn, 1) := by decide +kernel
theorem dX8_sweep_15 : decode cX8_sweep 15 = .ok (.aload_n 0, 1) := by decide +kernel
theorem dX8_sweep_16 : decode cX8_sweep 16 = .ok (.iload_n 1, 1) := by decide +kernel
theorem dX8_sweep_17 : decode cX8_sweep 17 = .ok (.invokevirtual 119, 3) := by decide +kernel
theorem dX8_sweep_20 : decode cX8_sweep 20 = .ok (.istore_n 2, 1) := by decide +kernel
theorem dX8_sweep_21 : decode cX8_sweep 21 = .ok (.aload_n 0, 1) := by decide +kernel
theorem dX8_sweep_22 : decode cX8_sweep 22 = .ok (.iload_n 1, 1) := by decide +kernel
theorem dX8_sweep_23 : decode cX8_sweep 23 = .ok (.invokevirtual 116, 3) := by decide +kernel
theorem dX8_sweep_26 : decode cX8_sweep 26 = .ok (.ifCond .ne 9, 3) := by decide +kernel
theorem dX8_sweep_29 : decode cX8_sweep 29 = .ok (.iload_n 2, 1) := by decide +kernel
theorem dX8_sweep_30 : decode cX8_sweep 30 = .ok (.bipush (-9), 2) := by decide +kernel
theorem dX8_sweep_32 : decode cX8_sweep 32 = .ok (.if_icmp .ne 6, 3) := by decide +kernel
theorem dX8_sweep_35 : decode cX8_sweep 35 = .ok (.bipush (-2), 2) := by decide +kernel
theorem dX8_sweep_37 : decode cX8_sweep 37 = .ok (.ireturn, 1) := by decide +kernel
theorem dX8_sweep_38 : decode cX8_sweep 38 = .ok (.aload_n 0, 1) := by decide +kernel
theorem dX8_sweep_39 : decode cX8_sweep 39 = .ok (.getfield 126, 3) := by decide +kernel
theorem dX8_sweep_42 : decode cX8_sweep 42 = .ok (.bipush 100, 2) := by decide +kernel
theorem dX8_sweep_44 : decode cX8_sweep 44 = .ok (.if_icmp .ne 6, 3) := by decide +kernel
theorem dX8_sweep_47 : decode cX8_sweep 47 = .ok (.bipush (-3), 2) := by decide +kernel
theorem dX8_sweep_49 : decode cX8_sweep 49 = .ok (.ireturn, 1) := by decide +kernel
theorem dX8_sweep_50 : decode cX8_sweep 50 = .ok (.aload_n 0, 1) := by decide +kernel
theorem dX8_sweep_51 : decode cX8_sweep 51 = .ok (.iload_n 1, 1) := by decide +kernel
theorem dX8_sweep_52 : decode cX8_sweep 52 = .ok (.iconst 2, 1) := by decide +kernel
theorem dX8_sweep_53 : decode cX8_sweep 53 = .ok (.invokevirtual 99, 3) := by decide +kernel
theorem dX8_sweep_56 : decode cX8_sweep 56 = .ok (.aload_n 0, 1) := by decide +kernel
theorem dX8_sweep_57 : decode cX8_sweep 57 = .ok (.getfield 40, 3) := by decide +kernel
theorem dX8_sweep_60 : decode cX8_sweep 60 = .ok (.imul, 1) := by decide +kernel
theorem dX8_sweep_61 : decode cX8_sweep 61 = .ok (.istore_n 3, 1) := by decide +kernel
theorem dX8_sweep_62 : decode cX8_sweep 62 = .ok (.aload_n 0, 1) := by decide +kernel
theorem dX8_sweep_63 : decode cX8_sweep 63 = .ok (.getfield 37, 3) := by decide +kernel
theorem dX8_sweep_66 : decode cX8_sweep 66 = .ok (.iconst 4, 1) := by decide +kernel
theorem dX8_sweep_67 : decode cX8_sweep 67 = .ok (.aload_n 0, 1) := by decide +kernel
theorem dX8_sweep_68 : decode cX8_sweep 68 = .ok (.getfield 126, 3) := by decide +kernel
theorem dX8_sweep_71 : decode cX8_sweep 71 = .ok (.imul, 1) := by decide +kernel
theorem dX8_sweep_72 : decode cX8_sweep 72 = .ok (.iload_n 1, 1) := by decide +kernel
theorem dX8_sweep_73 : decode cX8_sweep 73 = .ok (.iastore, 1) := by decide +kernel
theorem dX8_sweep_74 : decode cX8_sweep 74 = .ok (.aload_n 0, 1) := by decide +kernel
theorem dX8_sweep_75 : decode cX8_sweep 75 = .ok (.getfield 37, 3) := by decide +kernel
theorem dX8_sweep_78 : decode cX8_sweep 78 = .ok (.iconst 4, 1) := by decide +kernel
theorem dX8_sweep_79 : decode cX8_sweep 79 = .ok (.aload_n 0, 1) := by decide +kernel
theorem dX8_sweep_80 : decode cX8_sweep 80 = .ok (.getfield 126, 3) := by decide +kernel
theorem dX8_sweep_83 : decode cX8_sweep 83 = .ok (.imul, 1) := by decide +kernel
theorem dX8_sweep_84 : decode cX8_sweep 84 = .ok (.iconst 1, 1) := by decide +kernel
theorem dX8_sweep_85 : decode cX8_sweep 85 = .ok (.iadd, 1) := by decide +kernel
theorem dX8_sweep_86 : decode cX8_sweep 86 = .ok (.aload_n 0, 1) := by decide +kernel
theorem dX8_sweep_87 : decode cX8_sweep 87 = .ok (.getfield 86, 3) := by decide +kernel
theorem dX8_sweep_90 : decode cX8_sweep 90 = .ok (.iastore, 1) := by decide +kernel
theorem dX8_sweep_91 : decode cX8_sweep 91 = .ok (.aload_n 0, 1) := by decide +kernel
theorem dX8_sweep_92 : decode cX8_sweep 92 = .ok (.getfield 37, 3) := by decide +kernel
theorem dX8_sweep_95 : decode cX8_sweep 95 = .ok (.iconst 4, 1) := by decide +kernel
theorem dX8_sweep_96 : decode cX8_sweep 96 = .ok (.aload_n 0, 1) := by decide +kernel
theorem dX8_sweep_97 : decode cX8_sweep 97 = .ok (.getfield 126, 3) := by decide +kernel
theorem dX8_sweep_100 : decode cX8_sweep 100 = .ok (.imul, 1) := by decide +kernel
theorem dX8_sweep_101 : decode cX8_sweep 101 = .ok (.iconst 2, 1) := by decide +kernel
theorem dX8_sweep_102 : decode cX8_sweep 102 = .ok (.iadd, 1) := by decide +kernel
theorem dX8_sweep_103 : decode cX8_sweep 103 = .ok (.iload_n 2, 1) := by decide +kernel
theorem dX8_sweep_104 : decode cX8_sweep 104 = .ok (.iastore, 1) := by decide +kernel
theorem dX8_sweep_105 : decode cX8_sweep 105 = .ok (.aload_n 0, 1) := by decide +kernel
theorem dX8_sweep_106 : decode cX8_sweep 106 = .ok (.getfield 37, 3) := by decide +kernel
theorem dX8_sweep_109 : decode cX8_sweep 109 = .ok (.iconst 4, 1) := by decide +kernel
theorem dX8_sweep_110 : decode cX8_sweep 110 = .ok (.aload_n 0, 1) := by decide +kernel
theorem dX8_sweep_111 : decode cX8_sweep 111 = .ok (.getfield 126, 3) := by decide +kernel
theorem dX8_sweep_114 : decode cX8_sweep 114 = .ok (.imul, 1) := by decide +kernel
theorem dX8_sweep_115 : decode cX8_sweep 115 = .ok (.iconst 3, 1) := by decide +kernel
theorem dX8_sweep_116 : decode cX8_sweep 116 = .ok (.iadd, 1) := by decide +kernel
theorem dX8_sweep_117 : decode cX8_sweep 117 = .ok (.iload_n 3, 1) := by decide +kernel
theorem dX8_sweep_118 : decode cX8_sweep 118 = .ok (.iastore, 1) := by decide +kernel
theorem dX8_sweep_119 : decode cX8_sweep 119 = .ok (.aload_n 0, 1) := by decide +kernel
theorem dX8_sweep_120 : decode cX8_sweep 120 = .ok (.dup, 1) := by decide +kernel
theorem dX8_sweep_121 : decode cX8_sweep 121 = .ok (.getfield 126, 3) := by decide +kernel
theorem dX8_sweep_124 : decode cX8_sweep 124 = .ok (.iconst 1, 1) := by decide +kernel
theorem dX8_sweep_125 : decode cX8_sweep 125 = .ok (.iadd, 1) := by decide +kernel
theorem dX8_sweep_126 : decode cX8_sweep 126 = .ok (.putfield 126, 3) := by decide +kernel
theorem dX8_sweep_129 : decode cX8_sweep 129 = .ok (.aload_n 0, 1) := by decide +kernel
theorem dX8_sweep_130 : decode cX8_sweep 130 = .ok (.getfield 28, 3) := by decide +kernel
theorem dX8_sweep_133 : decode cX8_sweep 133 = .ok (.bipush 11, 2) := by decide +kernel
theorem dX8_sweep_135 : decode cX8_sweep 135 = .ok (.iload_n 1, 1) := by decide +kernel
theorem dX8_sweep_136 : decode cX8_sweep 136 = .ok (.imul, 1) := by decide +kernel
theorem dX8_sweep_137 : decode cX8_sweep 137 = .ok (.bipush 9, 2) := by decide +kernel
theorem dX8_sweep_139 : decode cX8_sweep 139 = .ok (.iadd, 1) := by decide +kernel
theorem dX8_sweep_140 : decode cX8_sweep 140 = .ok (.aload_n 0, 1) := by decide +kernel
theorem dX8_sweep_141 : decode cX8_sweep 141 = .ok (.getfield 86, 3) := by decide +kernel
theorem dX8_sweep_144 : decode cX8_sweep 144 = .ok (.iastore, 1) := by decide +kernel
theorem dX8_sweep_145 : decode cX8_sweep 145 = .ok (.aload_n 0, 1) := by decide +kernel
theorem dX8_sweep_146 : decode cX8_sweep 146 = .ok (.getfield 28, 3) := by decide +kernel
theorem dX8_sweep_149 : decode cX8_sweep 149 = .ok (.bipush 11, 2) := by decide +kernel
theorem dX8_sweep_151 : decode cX8_sweep 151 = .ok (.iload_n 1, 1) := by decide +kernel
theorem dX8_sweep_152 : decode cX8_sweep 152 = .ok (.imul, 1) := by decide +kernel
theorem dX8_sweep_153 : decode cX8_sweep 153 = .ok (.bipush 10, 2) := by decide +kernel
theorem dX8_sweep_155 : decode cX8_sweep 155 = .ok (.iadd, 1) := by decide +kernel
theorem dX8_sweep_156 : decode cX8_sweep 156 = .ok (.iconst 0, 1) := by decide +kernel
theorem dX8_sweep_157 : decode cX8_sweep 157 = .ok (.iastore, 1) := by decide +kernel
theorem dX8_sweep_158 : decode cX8_sweep 158 = .ok (.iload_n 3, 1) := by decide +kernel
theorem dX8_sweep_159 : decode cX8_sweep 159 = .ok (.ireturn, 1) := by decide +kernel
theorem dX8_refuse_0 : decode cX8_refuse 0 = .ok (.aload_n 0, 1) := by decide +kernel
theorem dX8_refuse_1 : decode cX8_refuse 1 = .ok (.iconst 0, 1) := by decide +kernel
theorem dX8_refuse_2 : decode cX8_refuse 2 = .ok (.putfield 57, 3) := by decide +kernel
theorem dX8_refuse_5 : decode cX8_refuse 5 = .ok (.aload_n 0, 1) := by decide +kernel
theorem dX8_refuse_6 : decode cX8_refuse 6 = .ok (.iload_n 1, 1) := by decide +kernel
theorem dX8_refuse_7 : decode cX8_refuse 7 = .ok (.invokevirtual 96, 3) := by decide +kernel
theorem dX8_refuse_10 : decode cX8_refuse 10 = .ok (.ifCond .ne 5, 3) := by decide +kernel
theorem dX8_refuse_13 : decode cX8_refuse 13 = .ok (.iconst (-1), 1) := by decide +kernel
theorem dX8_refuse_14 : decode cX8_refuse 14 = .ok (.ireturn, 1) := by decide +kernel
theorem dX8_refuse_15 : decode cX8_refuse 15 = .ok (.aload_n 0, 1) := by decide +kernel
theorem dX8_refuse_16 : decode cX8_refuse 16 = .ok (.iload_n 1, 1) := by decide +kernel
theorem dX8_refuse_17 : decode cX8_refuse 17 = .ok (.invokevirtual 116, 3) := by decide +kernel
theorem dX8_refuse_20 : decode cX8_refuse 20 = .ok (.ifCond .eq 6, 3) := by decide +kernel
theorem dX8_refuse_23 : decode cX8_refuse 23 = .ok (.bipush (-2), 2) := by decide +kernel
theorem dX8_refuse_25 : decode cX8_refuse 25 = .ok (.ireturn, 1) := by decide +kernel
theorem dX8_refuse_26 : decode cX8_refuse 26 = .ok (.aload_n 0, 1) := by decide +kernel
theorem dX8_refuse_27 : decode cX8_refuse 27 = .ok (.getfield 28, 3) := by decide +kernel
theorem dX8_refuse_30 : decode cX8_refuse 30 = .ok (.bipush 11, 2) := by decide +kernel
theorem dX8_refuse_32 : decode cX8_refuse 32 = .ok (.iload_n 1, 1) := by decide +kernel
theorem dX8_refuse_33 : decode cX8_refuse 33 = .ok (.imul, 1) := by decide +kernel
theorem dX8_refuse_34 : decode cX8_refuse 34 = .ok (.bipush 10, 2) := by decide +kernel
theorem dX8_refuse_36 : decode cX8_refuse 36 = .ok (.iadd, 1) := by decide +kernel
theorem dX8_refuse_37 : decode cX8_refuse 37 = .ok (.dup2, 1) := by decide +kernel
theorem dX8_refuse_38 : decode cX8_refuse 38 = .ok (.iaload, 1) := by decide +kernel
theorem dX8_refuse_39 : decode cX8_refuse 39 = .ok (.iconst 1, 1) := by decide +kernel
theorem dX8_refuse_40 : decode cX8_refuse 40 = .ok (.iadd, 1) := by decide +kernel
theorem dX8_refuse_41 : decode cX8_refuse 41 = .ok (.iastore, 1) := by decide +kernel
theorem dX8_refuse_42 : decode cX8_refuse 42 = .ok (.aload_n 0, 1) := by decide +kernel
theorem dX8_refuse_43 : decode cX8_refuse 43 = .ok (.iload_n 1, 1) := by decide +kernel
theorem dX8_refuse_44 : decode cX8_refuse 44 = .ok (.bipush 10, 2) := by decide +kernel
theorem dX8_refuse_46 : decode cX8_refuse 46 = .ok (.invokevirtual 99, 3) := by decide +kernel
theorem dX8_refuse_49 : decode cX8_refuse 49 = .ok (.ireturn, 1) := by decide +kernel
theorem dX8_look_0 : decode cX8_look 0 = .ok (.aload_n 0, 1) := by decide +kernel
theorem dX8_look_1 : decode cX8_look 1 = .ok (.iconst 0, 1) := by decide +kernel
theorem dX8_look_2 : decode cX8_look 2 = .ok (.putfield 57, 3) := by decide +kernel
theorem dX8_look_5 : decode cX8_look 5 = .ok (.aload_n 0, 1) := by decide +kernel
theorem dX8_look_6 : decode cX8_look 6 = .ok (.iload_n 1, 1) := by decide +kernel
theorem dX8_look_7 : decode cX8_look 7 = .ok (.invokevirtual 96, 3) := by decide +kernel
theorem dX8_look_10 : decode cX8_look 10 = .ok (.ifCond .eq 15, 3) := by decide +kernel
theorem dX8_look_13 : decode cX8_look 13 = .ok (.iload_n 2, 1) := by decide +kernel
theorem dX8_look_14 : decode cX8_look 14 = .ok (.iconst 0, 1) := by decide +kernel
theorem dX8_look_15 : decode cX8_look 15 = .ok (.aload_n 0, 1) := by decide +kernel
theorem dX8_look_16 : decode cX8_look 16 = .ok (.getfield 86, 3) := by decide +kernel
theorem dX8_look_19 : decode cX8_look 19 = .ok (.invokestatic 60, 3) := by decide +kernel
theorem dX8_look_22 : decode cX8_look 22 = .ok (.ifCond .ne 5, 3) := by decide +kernel
theorem dX8_look_25 : decode cX8_look 25 = .ok (.iconst (-1), 1) := by decide +kernel
theorem dX8_look_26 : decode cX8_look 26 = .ok (.ireturn, 1) := by decide +kernel
theorem dX8_look_27 : decode cX8_look 27 = .ok (.aload_n 0, 1) := by decide +kernel
theorem dX8_look_28 : decode cX8_look 28 = .ok (.iload_n 1, 1) := by decide +kernel
theorem dX8_look_29 : decode cX8_look 29 = .ok (.bipush 8, 2) := by decide +kernel
theorem dX8_look_31 : decode cX8_look 31 = .ok (.invokevirtual 99, 3) := by decide +kernel
theorem dX8_look_34 : decode cX8_look 34 = .ok (.iload_n 2, 1) := by decide +kernel
theorem dX8_look_35 : decode cX8_look 35 = .ok (.if_icmp .le 6, 3) := by decide +kernel
theorem dX8_look_38 : decode cX8_look 38 = .ok (.bipush (-2), 2) := by decide +kernel
theorem dX8_look_40 : decode cX8_look 40 = .ok (.ireturn, 1) := by decide +kernel
theorem dX8_look_41 : decode cX8_look 41 = .ok (.aload_n 0, 1) := by decide +kernel
theorem dX8_look_42 : decode cX8_look 42 = .ok (.getfield 110, 3) := by decide +kernel
theorem dX8_look_45 : decode cX8_look 45 = .ok (.bipush 30, 2) := by decide +kernel
theorem dX8_look_47 : decode cX8_look 47 = .ok (.if_icmp .ne 6, 3) := by decide +kernel
theorem dX8_look_50 : decode cX8_look 50 = .ok (.bipush (-3), 2) := by decide +kernel
theorem dX8_look_52 : decode cX8_look 52 = .ok (.ireturn, 1) := by decide +kernel
theorem dX8_look_53 : decode cX8_look 53 = .ok (.aload_n 0, 1) := by decide +kernel
theorem dX8_look_54 : decode cX8_look 54 = .ok (.getfield 31, 3) := by decide +kernel
theorem dX8_look_57 : decode cX8_look 57 = .ok (.iconst 4, 1) := by decide +kernel
theorem dX8_look_58 : decode cX8_look 58 = .ok (.aload_n 0, 1) := by decide +kernel
theorem dX8_look_59 : decode cX8_look 59 = .ok (.getfield 110, 3) := by decide +kernel
theorem dX8_look_62 : decode cX8_look 62 = .ok (.imul, 1) := by decide +kernel
theorem dX8_look_63 : decode cX8_look 63 = .ok (.iload_n 1, 1) := by decide +kernel
theorem dX8_look_64 : decode cX8_look 64 = .ok (.iastore, 1) := by decide +kernel
theorem dX8_look_65 : decode cX8_look 65 = .ok (.aload_n 0, 1) := by decide +kernel
theorem dX8_look_66 : decode cX8_look 66 = .ok (.getfield 31, 3) := by decide +kernel
theorem dX8_look_69 : decode cX8_look 69 = .ok (.iconst 4, 1) := by decide +kernel
theorem dX8_look_70 : decode cX8_look 70 = .ok (.aload_n 0, 1) := by decide +kernel
theorem dX8_look_71 : decode cX8_look 71 = .ok (.getfield 110, 3) := by decide +kernel
theorem dX8_look_74 : decode cX8_look 74 = .ok (.imul, 1) := by decide +kernel
theorem dX8_look_75 : decode cX8_look 75 = .ok (.iconst 1, 1) := by decide +kernel
theorem dX8_look_76 : decode cX8_look 76 = .ok (.iadd, 1) := by decide +kernel
theorem dX8_look_77 : decode cX8_look 77 = .ok (.iload_n 2, 1) := by decide +kernel
theorem dX8_look_78 : decode cX8_look 78 = .ok (.iastore, 1) := by decide +kernel
theorem dX8_look_79 : decode cX8_look 79 = .ok (.aload_n 0, 1) := by decide +kernel
theorem dX8_look_80 : decode cX8_look 80 = .ok (.getfield 31, 3) := by decide +kernel
theorem dX8_look_83 : decode cX8_look 83 = .ok (.iconst 4, 1) := by decide +kernel
theorem dX8_look_84 : decode cX8_look 84 = .ok (.aload_n 0, 1) := by decide +kernel
theorem dX8_look_85 : decode cX8_look 85 = .ok (.getfield 110, 3) := by decide +kernel
theorem dX8_look_88 : decode cX8_look 88 = .ok (.imul, 1) := by decide +kernel
theorem dX8_look_89 : decode cX8_look 89 = .ok (.iconst 2, 1) := by decide +kernel
theorem dX8_look_90 : decode cX8_look 90 = .ok (.iadd, 1) := by decide +kernel
theorem dX8_look_91 : decode cX8_look 91 = .ok (.iload_n 3, 1) := by decide +kernel
theorem dX8_look_92 : decode cX8_look 92 = .ok (.ifCond .eq 7, 3) := by decide +kernel
theorem dX8_look_95 : decode cX8_look 95 = .ok (.iconst 1, 1) := by decide +kernel
theorem dX8_look_96 : decode cX8_look 96 = .ok (.goto 4, 3) := by decide +kernel
theorem dX8_look_99 : decode cX8_look 99 = .ok (.iconst 0, 1) := by decide +kernel
theorem dX8_look_100 : decode cX8_look 100 = .ok (.iastore, 1) := by decide +kernel
theorem dX8_look_101 : decode cX8_look 101 = .ok (.aload_n 0, 1) := by decide +kernel
theorem dX8_look_102 : decode cX8_look 102 = .ok (.getfield 31, 3) := by decide +kernel
theorem dX8_look_105 : decode cX8_look 105 = .ok (.iconst 4, 1) := by decide +kernel
theorem dX8_look_106 : decode cX8_look 106 = .ok (.aload_n 0, 1) := by decide +kernel
theorem dX8_look_107 : decode cX8_look 107 = .ok (.getfield 110, 3) := by decide +kernel
theorem dX8_look_110 : decode cX8_look 110 = .ok (.imul, 1) := by decide +kernel
theorem dX8_look_111 : decode cX8_look 111 = .ok (.iconst 3, 1) := by decide +kernel
theorem dX8_look_112 : decode cX8_look 112 = .ok (.iadd, 1) := by decide +kernel
theorem dX8_look_113 : decode cX8_look 113 = .ok (.aload_n 0, 1) := by decide +kernel
theorem dX8_look_114 : decode cX8_look 114 = .ok (.getfield 86, 3) := by decide +kernel
theorem dX8_look_117 : decode cX8_look 117 = .ok (.iastore, 1) := by decide +kernel
theorem dX8_look_118 : decode cX8_look 118 = .ok (.aload_n 0, 1) := by decide +kernel
theorem dX8_look_119 : decode cX8_look 119 = .ok (.dup, 1) := by decide +kernel
theorem dX8_look_120 : decode cX8_look 120 = .ok (.getfield 110, 3) := by decide +kernel
theorem dX8_look_123 : decode cX8_look 123 = .ok (.iconst 1, 1) := by decide +kernel
theorem dX8_look_124 : decode cX8_look 124 = .ok (.iadd, 1) := by decide +kernel
theorem dX8_look_125 : decode cX8_look 125 = .ok (.putfield 110, 3) := by decide +kernel
theorem dX8_look_128 : decode cX8_look 128 = .ok (.aload_n 0, 1) := by decide +kernel
theorem dX8_look_129 : decode cX8_look 129 = .ok (.getfield 28, 3) := by decide +kernel
theorem dX8_look_132 : decode cX8_look 132 = .ok (.bipush 11, 2) := by decide +kernel
theorem dX8_look_134 : decode cX8_look 134 = .ok (.iload_n 1, 1) := by decide +kernel
theorem dX8_look_135 : decode cX8_look 135 = .ok (.imul, 1) := by decide +kernel
theorem dX8_look_136 : decode cX8_look 136 = .ok (.bipush 10, 2) := by decide +kernel
theorem dX8_look_138 : decode cX8_look 138 = .ok (.iadd, 1) := by decide +kernel
theorem dX8_look_139 : decode cX8_look 139 = .ok (.iload_n 3, 1) := by decide +kernel
theorem dX8_look_140 : decode cX8_look 140 = .ok (.ifCond .eq 7, 3) := by decide +kernel
theorem dX8_look_143 : decode cX8_look 143 = .ok (.iconst 0, 1) := by decide +kernel
theorem dX8_look_144 : decode cX8_look 144 = .ok (.goto 10, 3) := by decide +kernel
theorem dX8_look_147 : decode cX8_look 147 = .ok (.aload_n 0, 1) := by decide +kernel
theorem dX8_look_148 : decode cX8_look 148 = .ok (.iload_n 1, 1) := by decide +kernel
theorem dX8_look_149 : decode cX8_look 149 = .ok (.bipush 10, 2) := by decide +kernel
theorem dX8_look_151 : decode cX8_look 151 = .ok (.invokevirtual 99, 3) := by decide +kernel
theorem dX8_look_154 : decode cX8_look 154 = .ok (.iastore, 1) := by decide +kernel
theorem dX8_look_155 : decode cX8_look 155 = .ok (.aload_n 0, 1) := by decide +kernel
theorem dX8_look_156 : decode cX8_look 156 = .ok (.getfield 110, 3) := by decide +kernel
theorem dX8_look_159 : decode cX8_look 159 = .ok (.iconst 1, 1) := by decide +kernel
theorem dX8_look_160 : decode cX8_look 160 = .ok (.isub, 1) := by decide +kernel
theorem dX8_look_161 : decode cX8_look 161 = .ok (.ireturn, 1) := by decide +kernel
theorem dX8_known_0 : decode cX8_known 0 = .ok (.aload_n 0, 1) := by decide +kernel
theorem dX8_known_1 : decode cX8_known 1 = .ok (.iconst 0, 1) := by decide +kernel
theorem dX8_known_2 : decode cX8_known 2 = .ok (.putfield 57, 3) := by decide +kernel
theorem dX8_known_5 : decode cX8_known 5 = .ok (.aload_n 0, 1) := by decide +kernel
theorem dX8_known_6 : decode cX8_known 6 = .ok (.iload_n 1, 1) := by decide +kernel
theorem dX8_known_7 : decode cX8_known 7 = .ok (.invokevirtual 96, 3) := by decide +kernel
theorem dX8_known_10 : decode cX8_known 10 = .ok (.ifCond .eq 24, 3) := by decide +kernel
theorem dX8_known_13 : decode cX8_known 13 = .ok (.iload_n 2, 1) := by decide +kernel
theorem dX8_known_14 : decode cX8_known 14 = .ok (.iconst 0, 1) := by decide +kernel
theorem dX8_known_15 : decode cX8_known 15 = .ok (.aload_n 0, 1) := by decide +kernel
theorem dX8_known_16 : decode cX8_known 16 = .ok (.getfield 86, 3) := by decide +kernel
theorem dX8_known_19 : decode cX8_known 19 = .ok (.invokestatic 60, 3) := by decide +kernel
theorem dX8_known_22 : decode cX8_known 22 = .ok (.ifCond .eq 12, 3) := by decide +kernel
theorem dX8_known_25 : decode cX8_known 25 = .ok (.aload_n 0, 1) := by decide +kernel
theorem dX8_known_26 : decode cX8_known 26 = .ok (.iload_n 1, 1) := by decide +kernel
theorem dX8_known_27 : decode cX8_known 27 = .ok (.iload_n 2, 1) := by decide +kernel
theorem dX8_known_28 : decode cX8_known 28 = .ok (.invokevirtual 113, 3) := by decide +kernel
theorem dX8_known_31 : decode cX8_known 31 = .ok (.goto 4, 3) := by decide +kernel
theorem dX8_known_34 : decode cX8_known 34 = .ok (.iconst (-1), 1) := by decide +kernel
theorem dX8_known_35 : decode cX8_known 35 = .ok (.ireturn, 1) := by decide +kernel
theorem dX8_fire_0 : decode cX8_fire 0 = .ok (.aload_n 0, 1) := by decide +kernel
theorem dX8_fire_1 : decode cX8_fire 1 = .ok (.iconst 0, 1) := by decide +kernel
theorem dX8_fire_2 : decode cX8_fire 2 = .ok (.putfield 57, 3) := by decide +kernel
theorem dX8_fire_5 : decode cX8_fire 5 = .ok (.aload_n 0, 1) := by decide +kernel
theorem dX8_fire_6 : decode cX8_fire 6 = .ok (.iload_n 1, 1) := by decide +kernel
theorem dX8_fire_7 : decode cX8_fire 7 = .ok (.invokevirtual 96, 3) := by decide +kernel
theorem dX8_fire_10 : decode cX8_fire 10 = .ok (.ifCond .eq 15, 3) := by decide +kernel
theorem dX8_fire_13 : decode cX8_fire 13 = .ok (.iload_n 2, 1) := by decide +kernel
theorem dX8_fire_14 : decode cX8_fire 14 = .ok (.iconst 0, 1) := by decide +kernel
theorem dX8_fire_15 : decode cX8_fire 15 = .ok (.aload_n 0, 1) := by decide +kernel
theorem dX8_fire_16 : decode cX8_fire 16 = .ok (.getfield 86, 3) := by decide +kernel
theorem dX8_fire_19 : decode cX8_fire 19 = .ok (.invokestatic 60, 3) := by decide +kernel
theorem dX8_fire_22 : decode cX8_fire 22 = .ok (.ifCond .ne 5, 3) := by decide +kernel
theorem dX8_fire_25 : decode cX8_fire 25 = .ok (.iconst (-1), 1) := by decide +kernel
theorem dX8_fire_26 : decode cX8_fire 26 = .ok (.ireturn, 1) := by decide +kernel
theorem dX8_fire_27 : decode cX8_fire 27 = .ok (.aload_n 0, 1) := by decide +kernel
theorem dX8_fire_28 : decode cX8_fire 28 = .ok (.iload_n 1, 1) := by decide +kernel
theorem dX8_fire_29 : decode cX8_fire 29 = .ok (.bipush 8, 2) := by decide +kernel
theorem dX8_fire_31 : decode cX8_fire 31 = .ok (.invokevirtual 99, 3) := by decide +kernel
theorem dX8_fire_34 : decode cX8_fire 34 = .ok (.iload_n 2, 1) := by decide +kernel
theorem dX8_fire_35 : decode cX8_fire 35 = .ok (.if_icmp .le 6, 3) := by decide +kernel
theorem dX8_fire_38 : decode cX8_fire 38 = .ok (.bipush (-2), 2) := by decide +kernel
theorem dX8_fire_40 : decode cX8_fire 40 = .ok (.ireturn, 1) := by decide +kernel
theorem dX8_fire_41 : decode cX8_fire 41 = .ok (.aload_n 0, 1) := by decide +kernel
theorem dX8_fire_42 : decode cX8_fire 42 = .ok (.getfield 129, 3) := by decide +kernel
theorem dX8_fire_45 : decode cX8_fire 45 = .ok (.bipush 10, 2) := by decide +kernel
theorem dX8_fire_47 : decode cX8_fire 47 = .ok (.if_icmp .ne 6, 3) := by decide +kernel
theorem dX8_fire_50 : decode cX8_fire 50 = .ok (.bipush (-3), 2) := by decide +kernel
theorem dX8_fire_52 : decode cX8_fire 52 = .ok (.ireturn, 1) := by decide +kernel
theorem dX8_fire_53 : decode cX8_fire 53 = .ok (.aload_n 0, 1) := by decide +kernel
theorem dX8_fire_54 : decode cX8_fire 54 = .ok (.getfield 34, 3) := by decide +kernel
theorem dX8_fire_57 : decode cX8_fire 57 = .ok (.iconst 2, 1) := by decide +kernel
theorem dX8_fire_58 : decode cX8_fire 58 = .ok (.aload_n 0, 1) := by decide +kernel
theorem dX8_fire_59 : decode cX8_fire 59 = .ok (.getfield 129, 3) := by decide +kernel
theorem dX8_fire_62 : decode cX8_fire 62 = .ok (.imul, 1) := by decide +kernel
theorem dX8_fire_63 : decode cX8_fire 63 = .ok (.iload_n 1, 1) := by decide +kernel
theorem dX8_fire_64 : decode cX8_fire 64 = .ok (.iastore, 1) := by decide +kernel
theorem dX8_fire_65 : decode cX8_fire 65 = .ok (.aload_n 0, 1) := by decide +kernel
theorem dX8_fire_66 : decode cX8_fire 66 = .ok (.getfield 34, 3) := by decide +kernel
theorem dX8_fire_69 : decode cX8_fire 69 = .ok (.iconst 2, 1) := by decide +kernel
theorem dX8_fire_70 : decode cX8_fire 70 = .ok (.aload_n 0, 1) := by decide +kernel
theorem dX8_fire_71 : decode cX8_fire 71 = .ok (.getfield 129, 3) := by decide +kernel
theorem dX8_fire_74 : decode cX8_fire 74 = .ok (.imul, 1) := by decide +kernel
theorem dX8_fire_75 : decode cX8_fire 75 = .ok (.iconst 1, 1) := by decide +kernel
theorem dX8_fire_76 : decode cX8_fire 76 = .ok (.iadd, 1) := by decide +kernel
theorem dX8_fire_77 : decode cX8_fire 77 = .ok (.iload_n 2, 1) := by decide +kernel
theorem dX8_fire_78 : decode cX8_fire 78 = .ok (.iastore, 1) := by decide +kernel
theorem dX8_fire_79 : decode cX8_fire 79 = .ok (.aload_n 0, 1) := by decide +kernel
theorem dX8_fire_80 : decode cX8_fire 80 = .ok (.dup, 1) := by decide +kernel
theorem dX8_fire_81 : decode cX8_fire 81 = .ok (.getfield 129, 3) := by decide +kernel
theorem dX8_fire_84 : decode cX8_fire 84 = .ok (.iconst 1, 1) := by decide +kernel
theorem dX8_fire_85 : decode cX8_fire 85 = .ok (.iadd, 1) := by decide +kernel
theorem dX8_fire_86 : decode cX8_fire 86 = .ok (.putfield 129, 3) := by decide +kernel
theorem dX8_fire_89 : decode cX8_fire 89 = .ok (.aload_n 0, 1) := by decide +kernel
theorem dX8_fire_90 : decode cX8_fire 90 = .ok (.getfield 129, 3) := by decide +kernel
theorem dX8_fire_93 : decode cX8_fire 93 = .ok (.iconst 1, 1) := by decide +kernel
theorem dX8_fire_94 : decode cX8_fire 94 = .ok (.isub, 1) := by decide +kernel
theorem dX8_fire_95 : decode cX8_fire 95 = .ok (.ireturn, 1) := by decide +kernel
theorem dX8_back_0 : decode cX8_back 0 = .ok (.aload_n 0, 1) := by decide +kernel
theorem dX8_back_1 : decode cX8_back 1 = .ok (.iconst 0, 1) := by decide +kernel
theorem dX8_back_2 : decode cX8_back 2 = .ok (.putfield 57, 3) := by decide +kernel
theorem dX8_back_5 : decode cX8_back 5 = .ok (.iload_n 1, 1) := by decide +kernel
theorem dX8_back_6 : decode cX8_back 6 = .ok (.iconst 0, 1) := by decide +kernel
theorem dX8_back_7 : decode cX8_back 7 = .ok (.aload_n 0, 1) := by decide +kernel
theorem dX8_back_8 : decode cX8_back 8 = .ok (.getfield 129, 3) := by decide +kernel
theorem dX8_back_11 : decode cX8_back 11 = .ok (.iconst 1, 1) := by decide +kernel
theorem dX8_back_12 : decode cX8_back 12 = .ok (.isub, 1) := by decide +kernel
theorem dX8_back_13 : decode cX8_back 13 = .ok (.invokestatic 60, 3) := by decide +kernel
theorem dX8_back_16 : decode cX8_back 16 = .ok (.ifCond .eq 12, 3) := by decide +kernel
theorem dX8_back_19 : decode cX8_back 19 = .ok (.iload_n 2, 1) := by decide +kernel
theorem dX8_back_20 : decode cX8_back 20 = .ok (.iconst 0, 1) := by decide +kernel
theorem dX8_back_21 : decode cX8_back 21 = .ok (.iconst 5, 1) := by decide +kernel
theorem dX8_back_22 : decode cX8_back 22 = .ok (.invokestatic 60, 3) := by decide +kernel
theorem dX8_back_25 : decode cX8_back 25 = .ok (.ifCond .ne 5, 3) := by decide +kernel
theorem dX8_back_28 : decode cX8_back 28 = .ok (.iconst (-1), 1) := by decide +kernel
theorem dX8_back_29 : decode cX8_back 29 = .ok (.ireturn, 1) := by decide +kernel
theorem dX8_back_30 : decode cX8_back 30 = .ok (.aload_n 0, 1) := by decide +kernel
theorem dX8_back_31 : decode cX8_back 31 = .ok (.getfield 34, 3) := by decide +kernel
theorem dX8_back_34 : decode cX8_back 34 = .ok (.iconst 2, 1) := by decide +kernel
theorem dX8_back_35 : decode cX8_back 35 = .ok (.iload_n 1, 1) := by decide +kernel
theorem dX8_back_36 : decode cX8_back 36 = .ok (.imul, 1) := by decide +kernel
theorem dX8_back_37 : decode cX8_back 37 = .ok (.iaload, 1) := by decide +kernel
theorem dX8_back_38 : decode cX8_back 38 = .ok (.istore_n 3, 1) := by decide +kernel
theorem dX8_back_39 : decode cX8_back 39 = .ok (.aload_n 0, 1) := by decide +kernel
theorem dX8_back_40 : decode cX8_back 40 = .ok (.getfield 34, 3) := by decide +kernel
theorem dX8_back_43 : decode cX8_back 43 = .ok (.iconst 2, 1) := by decide +kernel
theorem dX8_back_44 : decode cX8_back 44 = .ok (.iload_n 1, 1) := by decide +kernel
theorem dX8_back_45 : decode cX8_back 45 = .ok (.imul, 1) := by decide +kernel
theorem dX8_back_46 : decode cX8_back 46 = .ok (.iconst 1, 1) := by decide +kernel
theorem dX8_back_47 : decode cX8_back 47 = .ok (.iadd, 1) := by decide +kernel
theorem dX8_back_48 : decode cX8_back 48 = .ok (.iaload, 1) := by decide +kernel
theorem dX8_back_49 : decode cX8_back 49 = .ok (.istore 4, 2) := by decide +kernel
theorem dX8_back_51 : decode cX8_back 51 = .ok (.aload_n 0, 1) := by decide +kernel
theorem dX8_back_52 : decode cX8_back 52 = .ok (.iload_n 3, 1) := by decide +kernel
theorem dX8_back_53 : decode cX8_back 53 = .ok (.bipush 8, 2) := by decide +kernel
theorem dX8_back_55 : decode cX8_back 55 = .ok (.invokevirtual 99, 3) := by decide +kernel
theorem dX8_back_58 : decode cX8_back 58 = .ok (.istore 5, 2) := by decide +kernel
theorem dX8_back_60 : decode cX8_back 60 = .ok (.bipush (-9), 2) := by decide +kernel
theorem dX8_back_62 : decode cX8_back 62 = .ok (.istore 6, 2) := by decide +kernel
theorem dX8_back_64 : decode cX8_back 64 = .ok (.iconst 0, 1) := by decide +kernel
theorem dX8_back_65 : decode cX8_back 65 = .ok (.istore 7, 2) := by decide +kernel
theorem dX8_back_67 : decode cX8_back 67 = .ok (.iload 7, 2) := by decide +kernel
theorem dX8_back_69 : decode cX8_back 69 = .ok (.aload_n 0, 1) := by decide +kernel
theorem dX8_back_70 : decode cX8_back 70 = .ok (.getfield 126, 3) := by decide +kernel
theorem dX8_back_73 : decode cX8_back 73 = .ok (.if_icmp .ge 64, 3) := by decide +kernel
theorem dX8_back_76 : decode cX8_back 76 = .ok (.aload_n 0, 1) := by decide +kernel
theorem dX8_back_77 : decode cX8_back 77 = .ok (.getfield 37, 3) := by decide +kernel
theorem dX8_back_80 : decode cX8_back 80 = .ok (.iconst 4, 1) := by decide +kernel
theorem dX8_back_81 : decode cX8_back 81 = .ok (.iload 7, 2) := by decide +kernel
theorem dX8_back_83 : decode cX8_back 83 = .ok (.imul, 1) := by decide +kernel
theorem dX8_back_84 : decode cX8_back 84 = .ok (.iaload, 1) := by decide +kernel
theorem dX8_back_85 : decode cX8_back 85 = .ok (.iload_n 3, 1) := by decide +kernel
theorem dX8_back_86 : decode cX8_back 86 = .ok (.if_icmp .ne 45, 3) := by decide +kernel
theorem dX8_back_89 : decode cX8_back 89 = .ok (.aload_n 0, 1) := by decide +kernel
theorem dX8_back_90 : decode cX8_back 90 = .ok (.getfield 37, 3) := by decide +kernel
theorem dX8_back_93 : decode cX8_back 93 = .ok (.iconst 4, 1) := by decide +kernel
theorem dX8_back_94 : decode cX8_back 94 = .ok (.iload 7, 2) := by decide +kernel
theorem dX8_back_96 : decode cX8_back 96 = .ok (.imul, 1) := by decide +kernel
theorem dX8_back_97 : decode cX8_back 97 = .ok (.iconst 1, 1) := by decide +kernel
theorem dX8_back_98 : decode cX8_back 98 = .ok (.iadd, 1) := by decide +kernel
theorem dX8_back_99 : decode cX8_back 99 = .ok (.iaload, 1) := by decide +kernel
theorem dX8_back_100 : decode cX8_back 100 = .ok (.iload 4, 2) := by decide +kernel
theorem dX8_back_102 : decode cX8_back 102 = .ok (.if_icmp .gt 29, 3) := by decide +kernel
theorem dX8_back_105 : decode cX8_back 105 = .ok (.aload_n 0, 1) := by decide +kernel
theorem dX8_back_106 : decode cX8_back 106 = .ok (.getfield 37, 3) := by decide +kernel
theorem dX8_back_109 : decode cX8_back 109 = .ok (.iconst 4, 1) := by decide +kernel
theorem dX8_back_110 : decode cX8_back 110 = .ok (.iload 7, 2) := by decide +kernel
theorem dX8_back_112 : decode cX8_back 112 = .ok (.imul, 1) := by decide +kernel
theorem dX8_back_113 : decode cX8_back 113 = .ok (.iconst 1, 1) := by decide +kernel
theorem dX8_back_114 : decode cX8_back 114 = .ok (.iadd, 1) := by decide +kernel
theorem dX8_back_115 : decode cX8_back 115 = .ok (.iaload, 1) := by decide +kernel
theorem dX8_back_116 : decode cX8_back 116 = .ok (.istore 5, 2) := by decide +kernel
theorem dX8_back_118 : decode cX8_back 118 = .ok (.aload_n 0, 1) := by decide +kernel
theorem dX8_back_119 : decode cX8_back 119 = .ok (.getfield 37, 3) := by decide +kernel
theorem dX8_back_122 : decode cX8_back 122 = .ok (.iconst 4, 1) := by decide +kernel
theorem dX8_back_123 : decode cX8_back 123 = .ok (.iload 7, 2) := by decide +kernel
theorem dX8_back_125 : decode cX8_back 125 = .ok (.imul, 1) := by decide +kernel
theorem dX8_back_126 : decode cX8_back 126 = .ok (.iconst 2, 1) := by decide +kernel
theorem dX8_back_127 : decode cX8_back 127 = .ok (.iadd, 1) := by decide +kernel
theorem dX8_back_128 : decode cX8_back 128 = .ok (.iaload, 1) := by decide +kernel
theorem dX8_back_129 : decode cX8_back 129 = .ok (.istore 6, 2) := by decide +kernel
theorem dX8_back_131 : decode cX8_back 131 = .ok (.iinc 7 1, 3) := by decide +kernel
theorem dX8_back_134 : decode cX8_back 134 = .ok (.goto (-67), 3) := by decide +kernel
theorem dX8_back_137 : decode cX8_back 137 = .ok (.iload_n 2, 1) := by decide +kernel
theorem dX8_back_138 : decode cX8_back 138 = .ok (.tableswitch 63 0 4 #[34, 36, 39, 42, 45], 34) := by decide +kernel
theorem dX8_back_172 : decode cX8_back 172 = .ok (.iload_n 3, 1) := by decide +kernel
theorem dX8_back_173 : decode cX8_back 173 = .ok (.ireturn, 1) := by decide +kernel
theorem dX8_back_174 : decode cX8_back 174 = .ok (.iload 4, 2) := by decide +kernel
theorem dX8_back_176 : decode cX8_back 176 = .ok (.ireturn, 1) := by decide +kernel
theorem dX8_back_177 : decode cX8_back 177 = .ok (.iload 5, 2) := by decide +kernel
theorem dX8_back_179 : decode cX8_back 179 = .ok (.ireturn, 1) := by decide +kernel
theorem dX8_back_180 : decode cX8_back 180 = .ok (.iload 6, 2) := by decide +kernel
theorem dX8_back_182 : decode cX8_back 182 = .ok (.ireturn, 1) := by decide +kernel
theorem dX8_back_183 : decode cX8_back 183 = .ok (.aload_n 0, 1) := by decide +kernel
theorem dX8_back_184 : decode cX8_back 184 = .ok (.iload_n 3, 1) := by decide +kernel
theorem dX8_back_185 : decode cX8_back 185 = .ok (.iload 5, 2) := by decide +kernel
theorem dX8_back_187 : decode cX8_back 187 = .ok (.invokevirtual 123, 3) := by decide +kernel
theorem dX8_back_190 : decode cX8_back 190 = .ok (.iload 4, 2) := by decide +kernel
theorem dX8_back_192 : decode cX8_back 192 = .ok (.if_icmp .ge 7, 3) := by decide +kernel
theorem dX8_back_195 : decode cX8_back 195 = .ok (.iconst 1, 1) := by decide +kernel
theorem dX8_back_196 : decode cX8_back 196 = .ok (.goto 4, 3) := by decide +kernel
theorem dX8_back_199 : decode cX8_back 199 = .ok (.iconst 0, 1) := by decide +kernel
theorem dX8_back_200 : decode cX8_back 200 = .ok (.ireturn, 1) := by decide +kernel
theorem dX8_back_201 : decode cX8_back 201 = .ok (.aload_n 0, 1) := by decide +kernel
theorem dX8_back_202 : decode cX8_back 202 = .ok (.iload_n 3, 1) := by decide +kernel
theorem dX8_back_203 : decode cX8_back 203 = .ok (.iload 4, 2) := by decide +kernel
theorem dX8_back_205 : decode cX8_back 205 = .ok (.invokevirtual 113, 3) := by decide +kernel
theorem dX8_back_208 : decode cX8_back 208 = .ok (.ireturn, 1) := by decide +kernel
theorem dX8_isHand_0 : decode cX8_isHand 0 = .ok (.iload_n 0, 1) := by decide +kernel
theorem dX8_isHand_1 : decode cX8_isHand 1 = .ok (.iconst 0, 1) := by decide +kernel
theorem dX8_isHand_2 : decode cX8_isHand 2 = .ok (.iconst 3, 1) := by decide +kernel
theorem dX8_isHand_3 : decode cX8_isHand 3 = .ok (.invokestatic 60, 3) := by decide +kernel
theorem dX8_isHand_6 : decode cX8_isHand 6 = .ok (.ireturn, 1) := by decide +kernel
theorem dX8_rate_0 : decode cX8_rate 0 = .ok (.aload_n 0, 1) := by decide +kernel
theorem dX8_rate_1 : decode cX8_rate 1 = .ok (.iconst 0, 1) := by decide +kernel
theorem dX8_rate_2 : decode cX8_rate 2 = .ok (.putfield 57, 3) := by decide +kernel
theorem dX8_rate_5 : decode cX8_rate 5 = .ok (.iload_n 1, 1) := by decide +kernel
theorem dX8_rate_6 : decode cX8_rate 6 = .ok (.iconst 1, 1) := by decide +kernel
theorem dX8_rate_7 : decode cX8_rate 7 = .ok (.bipush 9, 2) := by decide +kernel
theorem dX8_rate_9 : decode cX8_rate 9 = .ok (.invokestatic 60, 3) := by decide +kernel
theorem dX8_rate_12 : decode cX8_rate 12 = .ok (.ifCond .ne 5, 3) := by decide +kernel
theorem dX8_rate_15 : decode cX8_rate 15 = .ok (.iconst (-1), 1) := by decide +kernel
theorem dX8_rate_16 : decode cX8_rate 16 = .ok (.ireturn, 1) := by decide +kernel
theorem dX8_rate_17 : decode cX8_rate 17 = .ok (.aload_n 0, 1) := by decide +kernel
theorem dX8_rate_18 : decode cX8_rate 18 = .ok (.getfield 40, 3) := by decide +kernel
theorem dX8_rate_21 : decode cX8_rate 21 = .ok (.istore_n 2, 1) := by decide +kernel
theorem dX8_rate_22 : decode cX8_rate 22 = .ok (.aload_n 0, 1) := by decide +kernel
theorem dX8_rate_23 : decode cX8_rate 23 = .ok (.iload_n 1, 1) := by decide +kernel
theorem dX8_rate_24 : decode cX8_rate 24 = .ok (.putfield 40, 3) := by decide +kernel
theorem dX8_rate_27 : decode cX8_rate 27 = .ok (.iload_n 2, 1) := by decide +kernel
theorem dX8_rate_28 : decode cX8_rate 28 = .ok (.ireturn, 1) := by decide +kernel
theorem dX8_ill_0 : decode cX8_ill 0 = .ok (.aload_n 0, 1) := by decide +kernel
theorem dX8_ill_1 : decode cX8_ill 1 = .ok (.iconst 0, 1) := by decide +kernel
theorem dX8_ill_2 : decode cX8_ill 2 = .ok (.putfield 57, 3) := by decide +kernel
theorem dX8_ill_5 : decode cX8_ill 5 = .ok (.iload_n 1, 1) := by decide +kernel
theorem dX8_ill_6 : decode cX8_ill 6 = .ok (.invokestatic 132, 3) := by decide +kernel
theorem dX8_ill_9 : decode cX8_ill 9 = .ok (.ifCond .ne 5, 3) := by decide +kernel
theorem dX8_ill_12 : decode cX8_ill 12 = .ok (.iconst (-1), 1) := by decide +kernel
theorem dX8_ill_13 : decode cX8_ill 13 = .ok (.ireturn, 1) := by decide +kernel
theorem dX8_ill_14 : decode cX8_ill 14 = .ok (.aload_n 0, 1) := by decide +kernel
theorem dX8_ill_15 : decode cX8_ill 15 = .ok (.getfield 44, 3) := by decide +kernel
theorem dX8_ill_18 : decode cX8_ill 18 = .ok (.iload_n 1, 1) := by decide +kernel
theorem dX8_ill_19 : decode cX8_ill 19 = .ok (.baload, 1) := by decide +kernel
theorem dX8_ill_20 : decode cX8_ill 20 = .ok (.ifCond .eq 7, 3) := by decide +kernel
theorem dX8_ill_23 : decode cX8_ill 23 = .ok (.iconst 1, 1) := by decide +kernel
theorem dX8_ill_24 : decode cX8_ill 24 = .ok (.goto 4, 3) := by decide +kernel
theorem dX8_ill_27 : decode cX8_ill 27 = .ok (.iconst 0, 1) := by decide +kernel
theorem dX8_ill_28 : decode cX8_ill 28 = .ok (.istore_n 3, 1) := by decide +kernel
theorem dX8_ill_29 : decode cX8_ill 29 = .ok (.aload_n 0, 1) := by decide +kernel
theorem dX8_ill_30 : decode cX8_ill 30 = .ok (.getfield 44, 3) := by decide +kernel
theorem dX8_ill_33 : decode cX8_ill 33 = .ok (.iload_n 1, 1) := by decide +kernel
theorem dX8_ill_34 : decode cX8_ill 34 = .ok (.iload_n 2, 1) := by decide +kernel
theorem dX8_ill_35 : decode cX8_ill 35 = .ok (.bastore, 1) := by decide +kernel
theorem dX8_ill_36 : decode cX8_ill 36 = .ok (.iload_n 3, 1) := by decide +kernel
theorem dX8_ill_37 : decode cX8_ill 37 = .ok (.ireturn, 1) := by decide +kernel
theorem dX8_fees_0 : decode cX8_fees 0 = .ok (.aload_n 0, 1) := by decide +kernel
theorem dX8_fees_1 : decode cX8_fees 1 = .ok (.iconst 0, 1) := by decide +kernel
theorem dX8_fees_2 : decode cX8_fees 2 = .ok (.putfield 57, 3) := by decide +kernel
theorem dX8_fees_5 : decode cX8_fees 5 = .ok (.iload_n 1, 1) := by decide +kernel
theorem dX8_fees_6 : decode cX8_fees 6 = .ok (.invokestatic 132, 3) := by decide +kernel
theorem dX8_fees_9 : decode cX8_fees 9 = .ok (.ifCond .eq 12, 3) := by decide +kernel
theorem dX8_fees_12 : decode cX8_fees 12 = .ok (.iload_n 2, 1) := by decide +kernel
theorem dX8_fees_13 : decode cX8_fees 13 = .ok (.iconst 0, 1) := by decide +kernel
theorem dX8_fees_14 : decode cX8_fees 14 = .ok (.iconst 1, 1) := by decide +kernel
theorem dX8_fees_15 : decode cX8_fees 15 = .ok (.invokestatic 60, 3) := by decide +kernel
theorem dX8_fees_18 : decode cX8_fees 18 = .ok (.ifCond .ne 5, 3) := by decide +kernel
theorem dX8_fees_21 : decode cX8_fees 21 = .ok (.iconst (-1), 1) := by decide +kernel
theorem dX8_fees_22 : decode cX8_fees 22 = .ok (.ireturn, 1) := by decide +kernel
theorem dX8_fees_23 : decode cX8_fees 23 = .ok (.iconst 0, 1) := by decide +kernel
theorem dX8_fees_24 : decode cX8_fees 24 = .ok (.istore_n 3, 1) := by decide +kernel
theorem dX8_fees_25 : decode cX8_fees 25 = .ok (.iconst 0, 1) := by decide +kernel
theorem dX8_fees_26 : decode cX8_fees 26 = .ok (.istore 4, 2) := by decide +kernel
theorem dX8_fees_28 : decode cX8_fees 28 = .ok (.iload 4, 2) := by decide +kernel
theorem dX8_fees_30 : decode cX8_fees 30 = .ok (.aload_n 0, 1) := by decide +kernel
theorem dX8_fees_31 : decode cX8_fees 31 = .ok (.getfield 126, 3) := by decide +kernel
theorem dX8_fees_34 : decode cX8_fees 34 = .ok (.if_icmp .ge 50, 3) := by decide +kernel
theorem dX8_fees_37 : decode cX8_fees 37 = .ok (.iload_n 3, 1) := by decide +kernel
theorem dX8_fees_38 : decode cX8_fees 38 = .ok (.aload_n 0, 1) := by decide +kernel
theorem dX8_fees_39 : decode cX8_fees 39 = .ok (.getfield 37, 3) := by decide +kernel
theorem dX8_fees_42 : decode cX8_fees 42 = .ok (.iconst 4, 1) := by decide +kernel
theorem dX8_fees_43 : decode cX8_fees 43 = .ok (.iload 4, 2) := by decide +kernel
theorem dX8_fees_45 : decode cX8_fees 45 = .ok (.imul, 1) := by decide +kernel
theorem dX8_fees_46 : decode cX8_fees 46 = .ok (.iconst 2, 1) := by decide +kernel
theorem dX8_fees_47 : decode cX8_fees 47 = .ok (.iadd, 1) := by decide +kernel
theorem dX8_fees_48 : decode cX8_fees 48 = .ok (.iaload, 1) := by decide +kernel
theorem dX8_fees_49 : decode cX8_fees 49 = .ok (.iload_n 1, 1) := by decide +kernel
theorem dX8_fees_50 : decode cX8_fees 50 = .ok (.if_icmp .eq 7, 3) := by decide +kernel
theorem dX8_fees_53 : decode cX8_fees 53 = .ok (.iconst 0, 1) := by decide +kernel
theorem dX8_fees_54 : decode cX8_fees 54 = .ok (.goto 22, 3) := by decide +kernel
theorem dX8_fees_57 : decode cX8_fees 57 = .ok (.iload_n 2, 1) := by decide +kernel
theorem dX8_fees_58 : decode cX8_fees 58 = .ok (.ifCond .ne 17, 3) := by decide +kernel
theorem dX8_fees_61 : decode cX8_fees 61 = .ok (.aload_n 0, 1) := by decide +kernel
theorem dX8_fees_62 : decode cX8_fees 62 = .ok (.getfield 37, 3) := by decide +kernel
theorem dX8_fees_65 : decode cX8_fees 65 = .ok (.iconst 4, 1) := by decide +kernel
theorem dX8_fees_66 : decode cX8_fees 66 = .ok (.iload 4, 2) := by decide +kernel
theorem dX8_fees_68 : decode cX8_fees 68 = .ok (.imul, 1) := by decide +kernel
theorem dX8_fees_69 : decode cX8_fees 69 = .ok (.iconst 3, 1) := by decide +kernel
theorem dX8_fees_70 : decode cX8_fees 70 = .ok (.iadd, 1) := by decide +kernel
theorem dX8_fees_71 : decode cX8_fees 71 = .ok (.iaload, 1) := by decide +kernel
theorem dX8_fees_72 : decode cX8_fees 72 = .ok (.goto 4, 3) := by decide +kernel
theorem dX8_fees_75 : decode cX8_fees 75 = .ok (.iconst 1, 1) := by decide +kernel
theorem dX8_fees_76 : decode cX8_fees 76 = .ok (.iadd, 1) := by decide +kernel
theorem dX8_fees_77 : decode cX8_fees 77 = .ok (.istore_n 3, 1) := by decide +kernel
theorem dX8_fees_78 : decode cX8_fees 78 = .ok (.iinc 4 1, 3) := by decide +kernel
theorem dX8_fees_81 : decode cX8_fees 81 = .ok (.goto (-53), 3) := by decide +kernel
theorem dX8_fees_84 : decode cX8_fees 84 = .ok (.iload_n 3, 1) := by decide +kernel
theorem dX8_fees_85 : decode cX8_fees 85 = .ok (.ireturn, 1) := by decide +kernel
theorem dX8_wayOf_0 : decode cX8_wayOf 0 = .ok (.iconst 0, 1) := by decide +kernel
theorem dX8_wayOf_1 : decode cX8_wayOf 1 = .ok (.istore_n 2, 1) := by decide +kernel
theorem dX8_wayOf_2 : decode cX8_wayOf 2 = .ok (.iconst 0, 1) := by decide +kernel
theorem dX8_wayOf_3 : decode cX8_wayOf 3 = .ok (.istore_n 3, 1) := by decide +kernel
theorem dX8_wayOf_4 : decode cX8_wayOf 4 = .ok (.iconst 0, 1) := by decide +kernel
theorem dX8_wayOf_5 : decode cX8_wayOf 5 = .ok (.istore 4, 2) := by decide +kernel
theorem dX8_wayOf_7 : decode cX8_wayOf 7 = .ok (.iconst 0, 1) := by decide +kernel
theorem dX8_wayOf_8 : decode cX8_wayOf 8 = .ok (.istore 5, 2) := by decide +kernel
theorem dX8_wayOf_10 : decode cX8_wayOf 10 = .ok (.iload 5, 2) := by decide +kernel
theorem dX8_wayOf_12 : decode cX8_wayOf 12 = .ok (.iload_n 1, 1) := by decide +kernel
theorem dX8_wayOf_13 : decode cX8_wayOf 13 = .ok (.if_icmp .gt 118, 3) := by decide +kernel
theorem dX8_wayOf_16 : decode cX8_wayOf 16 = .ok (.iload 5, 2) := by decide +kernel
theorem dX8_wayOf_18 : decode cX8_wayOf 18 = .ok (.iload_n 1, 1) := by decide +kernel
theorem dX8_wayOf_19 : decode cX8_wayOf 19 = .ok (.if_icmp .ne 7, 3) := by decide +kernel
theorem dX8_wayOf_22 : decode cX8_wayOf 22 = .ok (.iconst 0, 1) := by decide +kernel
theorem dX8_wayOf_23 : decode cX8_wayOf 23 = .ok (.goto 20, 3) := by decide +kernel
theorem dX8_wayOf_26 : decode cX8_wayOf 26 = .ok (.aload_n 0, 1) := by decide +kernel
theorem dX8_wayOf_27 : decode cX8_wayOf 27 = .ok (.aload_n 0, 1) := by decide +kernel
theorem dX8_wayOf_28 : decode cX8_wayOf 28 = .ok (.getfield 51, 3) := by decide +kernel
theorem dX8_wayOf_31 : decode cX8_wayOf 31 = .ok (.aload_n 0, 1) := by decide +kernel
theorem dX8_wayOf_32 : decode cX8_wayOf 32 = .ok (.getfield 54, 3) := by decide +kernel
theorem dX8_wayOf_35 : decode cX8_wayOf 35 = .ok (.iload 5, 2) := by decide +kernel
theorem dX8_wayOf_37 : decode cX8_wayOf 37 = .ok (.iaload, 1) := by decide +kernel
theorem dX8_wayOf_38 : decode cX8_wayOf 38 = .ok (.iaload, 1) := by decide +kernel
theorem dX8_wayOf_39 : decode cX8_wayOf 39 = .ok (.iconst 5, 1) := by decide +kernel
theorem dX8_wayOf_40 : decode cX8_wayOf 40 = .ok (.invokevirtual 99, 3) := by decide +kernel
theorem dX8_wayOf_43 : decode cX8_wayOf 43 = .ok (.istore 6, 2) := by decide +kernel
theorem dX8_wayOf_45 : decode cX8_wayOf 45 = .ok (.iload 5, 2) := by decide +kernel
theorem dX8_wayOf_47 : decode cX8_wayOf 47 = .ok (.iload_n 1, 1) := by decide +kernel
theorem dX8_wayOf_48 : decode cX8_wayOf 48 = .ok (.if_icmp .ne 7, 3) := by decide +kernel
theorem dX8_wayOf_51 : decode cX8_wayOf 51 = .ok (.iconst 0, 1) := by decide +kernel
theorem dX8_wayOf_52 : decode cX8_wayOf 52 = .ok (.goto 21, 3) := by decide +kernel
theorem dX8_wayOf_55 : decode cX8_wayOf 55 = .ok (.aload_n 0, 1) := by decide +kernel
theorem dX8_wayOf_56 : decode cX8_wayOf 56 = .ok (.aload_n 0, 1) := by decide +kernel
theorem dX8_wayOf_57 : decode cX8_wayOf 57 = .ok (.getfield 51, 3) := by decide +kernel
theorem dX8_wayOf_60 : decode cX8_wayOf 60 = .ok (.aload_n 0, 1) := by decide +kernel
theorem dX8_wayOf_61 : decode cX8_wayOf 61 = .ok (.getfield 54, 3) := by decide +kernel
theorem dX8_wayOf_64 : decode cX8_wayOf 64 = .ok (.iload 5, 2) := by decide +kernel
theorem dX8_wayOf_66 : decode cX8_wayOf 66 = .ok (.iaload, 1) := by decide +kernel
theorem dX8_wayOf_67 : decode cX8_wayOf 67 = .ok (.iaload, 1) := by decide +kernel
theorem dX8_wayOf_68 : decode cX8_wayOf 68 = .ok (.bipush 6, 2) := by decide +kernel
theorem dX8_wayOf_70 : decode cX8_wayOf 70 = .ok (.invokevirtual 99, 3) := by decide +kernel
theorem dX8_wayOf_73 : decode cX8_wayOf 73 = .ok (.istore 7, 2) := by decide +kernel
theorem dX8_wayOf_75 : decode cX8_wayOf 75 = .ok (.iload 4, 2) := by decide +kernel
theorem dX8_wayOf_77 : decode cX8_wayOf 77 = .ok (.iload 6, 2) := by decide +kernel
theorem dX8_wayOf_79 : decode cX8_wayOf 79 = .ok (.iload_n 2, 1) := by decide +kernel
theorem dX8_wayOf_80 : decode cX8_wayOf 80 = .ok (.if_icmp .ge 10, 3) := by decide +kernel
theorem dX8_wayOf_83 : decode cX8_wayOf 83 = .ok (.iload_n 2, 1) := by decide +kernel
theorem dX8_wayOf_84 : decode cX8_wayOf 84 = .ok (.iload 6, 2) := by decide +kernel
theorem dX8_wayOf_86 : decode cX8_wayOf 86 = .ok (.isub, 1) := by decide +kernel
theorem dX8_wayOf_87 : decode cX8_wayOf 87 = .ok (.goto 7, 3) := by decide +kernel
theorem dX8_wayOf_90 : decode cX8_wayOf 90 = .ok (.iload 6, 2) := by decide +kernel
theorem dX8_wayOf_92 : decode cX8_wayOf 92 = .ok (.iload_n 2, 1) := by decide +kernel
theorem dX8_wayOf_93 : decode cX8_wayOf 93 = .ok (.isub, 1) := by decide +kernel
theorem dX8_wayOf_94 : decode cX8_wayOf 94 = .ok (.iadd, 1) := by decide +kernel
theorem dX8_wayOf_95 : decode cX8_wayOf 95 = .ok (.istore 4, 2) := by decide +kernel
theorem dX8_wayOf_97 : decode cX8_wayOf 97 = .ok (.iload 4, 2) := by decide +kernel
theorem dX8_wayOf_99 : decode cX8_wayOf 99 = .ok (.iload 7, 2) := by decide +kernel
theorem dX8_wayOf_101 : decode cX8_wayOf 101 = .ok (.iload_n 3, 1) := by decide +kernel
theorem dX8_wayOf_102 : decode cX8_wayOf 102 = .ok (.if_icmp .ge 10, 3) := by decide +kernel
theorem dX8_wayOf_105 : decode cX8_wayOf 105 = .ok (.iload_n 3, 1) := by decide +kernel
theorem dX8_wayOf_106 : decode cX8_wayOf 106 = .ok (.iload 7, 2) := by decide +kernel
theorem dX8_wayOf_108 : decode cX8_wayOf 108 = .ok (.isub, 1) := by decide +kernel
theorem dX8_wayOf_109 : decode cX8_wayOf 109 = .ok (.goto 7, 3) := by decide +kernel
theorem dX8_wayOf_112 : decode cX8_wayOf 112 = .ok (.iload 7, 2) := by decide +kernel
theorem dX8_wayOf_114 : decode cX8_wayOf 114 = .ok (.iload_n 3, 1) := by decide +kernel
theorem dX8_wayOf_115 : decode cX8_wayOf 115 = .ok (.isub, 1) := by decide +kernel
theorem dX8_wayOf_116 : decode cX8_wayOf 116 = .ok (.iadd, 1) := by decide +kernel
theorem dX8_wayOf_117 : decode cX8_wayOf 117 = .ok (.istore 4, 2) := by decide +kernel
theorem dX8_wayOf_119 : decode cX8_wayOf 119 = .ok (.iload 6, 2) := by decide +kernel
theorem dX8_wayOf_121 : decode cX8_wayOf 121 = .ok (.istore_n 2, 1) := by decide +kernel
theorem dX8_wayOf_122 : decode cX8_wayOf 122 = .ok (.iload 7, 2) := by decide +kernel
theorem dX8_wayOf_124 : decode cX8_wayOf 124 = .ok (.istore_n 3, 1) := by decide +kernel
theorem dX8_wayOf_125 : decode cX8_wayOf 125 = .ok (.iinc 5 1, 3) := by decide +kernel
theorem dX8_wayOf_128 : decode cX8_wayOf 128 = .ok (.goto (-118), 3) := by decide +kernel
theorem dX8_wayOf_131 : decode cX8_wayOf 131 = .ok (.iload 4, 2) := by decide +kernel
theorem dX8_wayOf_133 : decode cX8_wayOf 133 = .ok (.ireturn, 1) := by decide +kernel
theorem dX8_goesOn_0 : decode cX8_goesOn 0 = .ok (.iload_n 1, 1) := by decide +kernel
theorem dX8_goesOn_1 : decode cX8_goesOn 1 = .ok (.iconst 2, 1) := by decide +kernel
theorem dX8_goesOn_2 : decode cX8_goesOn 2 = .ok (.isub, 1) := by decide +kernel
theorem dX8_goesOn_3 : decode cX8_goesOn 3 = .ok (.istore_n 2, 1) := by decide +kernel
theorem dX8_goesOn_4 : decode cX8_goesOn 4 = .ok (.iload_n 2, 1) := by decide +kernel
theorem dX8_goesOn_5 : decode cX8_goesOn 5 = .ok (.ifCond .lt 26, 3) := by decide +kernel
theorem dX8_goesOn_8 : decode cX8_goesOn 8 = .ok (.aload_n 0, 1) := by decide +kernel
theorem dX8_goesOn_9 : decode cX8_goesOn 9 = .ok (.getfield 54, 3) := by decide +kernel
theorem dX8_goesOn_12 : decode cX8_goesOn 12 = .ok (.iload_n 2, 1) := by decide +kernel
theorem dX8_goesOn_13 : decode cX8_goesOn 13 = .ok (.iaload, 1) := by decide +kernel
theorem dX8_goesOn_14 : decode cX8_goesOn 14 = .ok (.aload_n 0, 1) := by decide +kernel
theorem dX8_goesOn_15 : decode cX8_goesOn 15 = .ok (.getfield 54, 3) := by decide +kernel
theorem dX8_goesOn_18 : decode cX8_goesOn 18 = .ok (.iload_n 2, 1) := by decide +kernel
theorem dX8_goesOn_19 : decode cX8_goesOn 19 = .ok (.iconst 1, 1) := by decide +kernel
theorem dX8_goesOn_20 : decode cX8_goesOn 20 = .ok (.iadd, 1) := by decide +kernel
theorem dX8_goesOn_21 : decode cX8_goesOn 21 = .ok (.iaload, 1) := by decide +kernel
theorem dX8_goesOn_22 : decode cX8_goesOn 22 = .ok (.if_icmp .le 9, 3) := by decide +kernel
theorem dX8_goesOn_25 : decode cX8_goesOn 25 = .ok (.iinc 2 (-1), 3) := by decide +kernel
theorem dX8_goesOn_28 : decode cX8_goesOn 28 = .ok (.goto (-24), 3) := by decide +kernel
theorem dX8_goesOn_31 : decode cX8_goesOn 31 = .ok (.iload_n 2, 1) := by decide +kernel
theorem dX8_goesOn_32 : decode cX8_goesOn 32 = .ok (.ifCond .ge 5, 3) := by decide +kernel
theorem dX8_goesOn_35 : decode cX8_goesOn 35 = .ok (.iconst 0, 1) := by decide +kernel
theorem dX8_goesOn_36 : decode cX8_goesOn 36 = .ok (.ireturn, 1) := by decide +kernel
theorem dX8_goesOn_37 : decode cX8_goesOn 37 = .ok (.iload_n 1, 1) := by decide +kernel
theorem dX8_goesOn_38 : decode cX8_goesOn 38 = .ok (.iconst 1, 1) := by decide +kernel
theorem dX8_goesOn_39 : decode cX8_goesOn 39 = .ok (.isub, 1) := by decide +kernel
theorem dX8_goesOn_40 : decode cX8_goesOn 40 = .ok (.istore_n 3, 1) := by decide +kernel
theorem dX8_goesOn_41 : decode cX8_goesOn 41 = .ok (.aload_n 0, 1) := by decide +kernel
theorem dX8_goesOn_42 : decode cX8_goesOn 42 = .ok (.getfield 54, 3) := by decide +kernel
theorem dX8_goesOn_45 : decode cX8_goesOn 45 = .ok (.iload_n 3, 1) := by decide +kernel
theorem dX8_goesOn_46 : decode cX8_goesOn 46 = .ok (.iaload, 1) := by decide +kernel
theorem dX8_goesOn_47 : decode cX8_goesOn 47 = .ok (.aload_n 0, 1) := by decide +kernel
theorem dX8_goesOn_48 : decode cX8_goesOn 48 = .ok (.getfield 54, 3) := by decide +kernel
theorem dX8_goesOn_51 : decode cX8_goesOn 51 = .ok (.iload_n 2, 1) := by decide +kernel
theorem dX8_goesOn_52 : decode cX8_goesOn 52 = .ok (.iaload, 1) := by decide +kernel
theorem dX8_goesOn_53 : decode cX8_goesOn 53 = .ok (.if_icmp .ge 9, 3) := by decide +kernel
theorem dX8_goesOn_56 : decode cX8_goesOn 56 = .ok (.iinc 3 (-1), 3) := by decide +kernel
theorem dX8_goesOn_59 : decode cX8_goesOn 59 = .ok (.goto (-18), 3) := by decide +kernel
theorem dX8_goesOn_62 : decode cX8_goesOn 62 = .ok (.aload_n 0, 1) := by decide +kernel
theorem dX8_goesOn_63 : decode cX8_goesOn 63 = .ok (.getfield 54, 3) := by decide +kernel
theorem dX8_goesOn_66 : decode cX8_goesOn 66 = .ok (.iload_n 2, 1) := by decide +kernel
theorem dX8_goesOn_67 : decode cX8_goesOn 67 = .ok (.iaload, 1) := by decide +kernel
theorem dX8_goesOn_68 : decode cX8_goesOn 68 = .ok (.istore 4, 2) := by decide +kernel
theorem dX8_goesOn_70 : decode cX8_goesOn 70 = .ok (.aload_n 0, 1) := by decide +kernel
theorem dX8_goesOn_71 : decode cX8_goesOn 71 = .ok (.getfield 54, 3) := by decide +kernel
theorem dX8_goesOn_74 : decode cX8_goesOn 74 = .ok (.iload_n 2, 1) := by decide +kernel
theorem dX8_goesOn_75 : decode cX8_goesOn 75 = .ok (.aload_n 0, 1) := by decide +kernel
theorem dX8_goesOn_76 : decode cX8_goesOn 76 = .ok (.getfield 54, 3) := by decide +kernel
theorem dX8_goesOn_79 : decode cX8_goesOn 79 = .ok (.iload_n 3, 1) := by decide +kernel
theorem dX8_goesOn_80 : decode cX8_goesOn 80 = .ok (.iaload, 1) := by decide +kernel
theorem dX8_goesOn_81 : decode cX8_goesOn 81 = .ok (.iastore, 1) := by decide +kernel
theorem dX8_goesOn_82 : decode cX8_goesOn 82 = .ok (.aload_n 0, 1) := by decide +kernel
theorem dX8_goesOn_83 : decode cX8_goesOn 83 = .ok (.getfield 54, 3) := by decide +kernel
theorem dX8_goesOn_86 : decode cX8_goesOn 86 = .ok (.iload_n 3, 1) := by decide +kernel
theorem dX8_goesOn_87 : decode cX8_goesOn 87 = .ok (.iload 4, 2) := by decide +kernel
theorem dX8_goesOn_89 : decode cX8_goesOn 89 = .ok (.iastore, 1) := by decide +kernel
theorem dX8_goesOn_90 : decode cX8_goesOn 90 = .ok (.iload_n 2, 1) := by decide +kernel
theorem dX8_goesOn_91 : decode cX8_goesOn 91 = .ok (.iconst 1, 1) := by decide +kernel
theorem dX8_goesOn_92 : decode cX8_goesOn 92 = .ok (.iadd, 1) := by decide +kernel
theorem dX8_goesOn_93 : decode cX8_goesOn 93 = .ok (.istore 5, 2) := by decide +kernel
theorem dX8_goesOn_95 : decode cX8_goesOn 95 = .ok (.iload_n 1, 1) := by decide +kernel
theorem dX8_goesOn_96 : decode cX8_goesOn 96 = .ok (.iconst 1, 1) := by decide +kernel
theorem dX8_goesOn_97 : decode cX8_goesOn 97 = .ok (.isub, 1) := by decide +kernel
theorem dX8_goesOn_98 : decode cX8_goesOn 98 = .ok (.istore 6, 2) := by decide +kernel
theorem dX8_goesOn_100 : decode cX8_goesOn 100 = .ok (.iload 5, 2) := by decide +kernel
theorem dX8_goesOn_102 : decode cX8_goesOn 102 = .ok (.iload 6, 2) := by decide +kernel
theorem dX8_goesOn_104 : decode cX8_goesOn 104 = .ok (.if_icmp .ge 44, 3) := by decide +kernel
theorem dX8_goesOn_107 : decode cX8_goesOn 107 = .ok (.aload_n 0, 1) := by decide +kernel
theorem dX8_goesOn_108 : decode cX8_goesOn 108 = .ok (.getfield 54, 3) := by decide +kernel
theorem dX8_goesOn_111 : decode cX8_goesOn 111 = .ok (.iload 5, 2) := by decide +kernel
theorem dX8_goesOn_113 : decode cX8_goesOn 113 = .ok (.iaload, 1) := by decide +kernel
theorem dX8_goesOn_114 : decode cX8_goesOn 114 = .ok (.istore 4, 2) := by decide +kernel
theorem dX8_goesOn_116 : decode cX8_goesOn 116 = .ok (.aload_n 0, 1) := by decide +kernel
theorem dX8_goesOn_117 : decode cX8_goesOn 117 = .ok (.getfield 54, 3) := by decide +kernel
theorem dX8_goesOn_120 : decode cX8_goesOn 120 = .ok (.iload 5, 2) := by decide +kernel
theorem dX8_goesOn_122 : decode cX8_goesOn 122 = .ok (.aload_n 0, 1) := by decide +kernel
theorem dX8_goesOn_123 : decode cX8_goesOn 123 = .ok (.getfield 54, 3) := by decide +kernel
theorem dX8_goesOn_126 : decode cX8_goesOn 126 = .ok (.iload 6, 2) := by decide +kernel
theorem dX8_goesOn_128 : decode cX8_goesOn 128 = .ok (.iaload, 1) := by decide +kernel
theorem dX8_goesOn_129 : decode cX8_goesOn 129 = .ok (.iastore, 1) := by decide +kernel
theorem dX8_goesOn_130 : decode cX8_goesOn 130 = .ok (.aload_n 0, 1) := by decide +kernel
theorem dX8_goesOn_131 : decode cX8_goesOn 131 = .ok (.getfield 54, 3) := by decide +kernel
theorem dX8_goesOn_134 : decode cX8_goesOn 134 = .ok (.iload 6, 2) := by decide +kernel
theorem dX8_goesOn_136 : decode cX8_goesOn 136 = .ok (.iload 4, 2) := by decide +kernel
theorem dX8_goesOn_138 : decode cX8_goesOn 138 = .ok (.iastore, 1) := by decide +kernel
theorem dX8_goesOn_139 : decode cX8_goesOn 139 = .ok (.iinc 5 1, 3) := by decide +kernel
theorem dX8_goesOn_142 : decode cX8_goesOn 142 = .ok (.iinc 6 (-1), 3) := by decide +kernel
theorem dX8_goesOn_145 : decode cX8_goesOn 145 = .ok (.goto (-45), 3) := by decide +kernel
theorem dX8_goesOn_148 : decode cX8_goesOn 148 = .ok (.iconst 1, 1) := by decide +kernel
theorem dX8_goesOn_149 : decode cX8_goesOn 149 = .ok (.ireturn, 1) := by decide +kernel
theorem dX8_round_0 : decode cX8_round 0 = .ok (.aload_n 0, 1) := by decide +kernel
theorem dX8_round_1 : decode cX8_round 1 = .ok (.iconst 0, 1) := by decide +kernel
theorem dX8_round_2 : decode cX8_round 2 = .ok (.putfield 57, 3) := by decide +kernel
theorem dX8_round_5 : decode cX8_round 5 = .ok (.iload_n 1, 1) := by decide +kernel
theorem dX8_round_6 : decode cX8_round 6 = .ok (.invokestatic 132, 3) := by decide +kernel
theorem dX8_round_9 : decode cX8_round 9 = .ok (.ifCond .eq 24, 3) := by decide +kernel
theorem dX8_round_12 : decode cX8_round 12 = .ok (.iload_n 2, 1) := by decide +kernel
theorem dX8_round_13 : decode cX8_round 13 = .ok (.iconst 1, 1) := by decide +kernel
theorem dX8_round_14 : decode cX8_round 14 = .ok (.bipush 6, 2) := by decide +kernel
theorem dX8_round_16 : decode cX8_round 16 = .ok (.invokestatic 60, 3) := by decide +kernel
theorem dX8_round_19 : decode cX8_round 19 = .ok (.ifCond .eq 14, 3) := by decide +kernel
theorem dX8_round_22 : decode cX8_round 22 = .ok (.iload_n 3, 1) := by decide +kernel
theorem dX8_round_23 : decode cX8_round 23 = .ok (.iconst 0, 1) := by decide +kernel
theorem dX8_round_24 : decode cX8_round 24 = .ok (.sipush 800, 3) := by decide +kernel
theorem dX8_round_27 : decode cX8_round 27 = .ok (.invokestatic 60, 3) := by decide +kernel
theorem dX8_round_30 : decode cX8_round 30 = .ok (.ifCond .ne 5, 3) := by decide +kernel
theorem dX8_round_33 : decode cX8_round 33 = .ok (.iconst (-1), 1) := by decide +kernel
theorem dX8_round_34 : decode cX8_round 34 = .ok (.ireturn, 1) := by decide +kernel
theorem dX8_round_35 : decode cX8_round 35 = .ok (.iconst 0, 1) := by decide +kernel
theorem dX8_round_36 : decode cX8_round 36 = .ok (.istore 4, 2) := by decide +kernel
theorem dX8_round_38 : decode cX8_round 38 = .ok (.iconst (-1), 1) := by decide +kernel
theorem dX8_round_39 : decode cX8_round 39 = .ok (.istore 5, 2) := by decide +kernel
theorem dX8_round_41 : decode cX8_round 41 = .ok (.iconst 0, 1) := by decide +kernel
theorem dX8_round_42 : decode cX8_round 42 = .ok (.istore 6, 2) := by decide +kernel
theorem dX8_round_44 : decode cX8_round 44 = .ok (.iload 6, 2) := by decide +kernel
theorem dX8_round_46 : decode cX8_round 46 = .ok (.iload_n 2, 1) := by decide +kernel
theorem dX8_round_47 : decode cX8_round 47 = .ok (.if_icmp .ge 181, 3) := by decide +kernel
theorem dX8_round_50 : decode cX8_round 50 = .ok (.bipush (-9), 2) := by decide +kernel
theorem dX8_round_52 : decode cX8_round 52 = .ok (.istore 7, 2) := by decide +kernel
theorem dX8_round_54 : decode cX8_round 54 = .ok (.iconst 0, 1) := by decide +kernel
theorem dX8_round_55 : decode cX8_round 55 = .ok (.istore 8, 2) := by decide +kernel
theorem dX8_round_57 : decode cX8_round 57 = .ok (.iconst 0, 1) := by decide +kernel
theorem dX8_round_58 : decode cX8_round 58 = .ok (.istore 9, 2) := by decide +kernel
theorem dX8_round_60 : decode cX8_round 60 = .ok (.iload 9, 2) := by decide +kernel
theorem dX8_round_62 : decode cX8_round 62 = .ok (.aload_n 0, 1) := by decide +kernel
theorem dX8_round_63 : decode cX8_round 63 = .ok (.getfield 93, 3) := by decide +kernel
theorem dX8_round_66 : decode cX8_round 66 = .ok (.if_icmp .ge 88, 3) := by decide +kernel
theorem dX8_round_69 : decode cX8_round 69 = .ok (.bipush 12, 2) := by decide +kernel
theorem dX8_round_71 : decode cX8_round 71 = .ok (.aload_n 0, 1) := by decide +kernel
theorem dX8_round_72 : decode cX8_round 72 = .ok (.iload 9, 2) := by decide +kernel
theorem dX8_round_74 : decode cX8_round 74 = .ok (.aload_n 0, 1) := by decide +kernel
theorem dX8_round_75 : decode cX8_round 75 = .ok (.iload 9, 2) := by decide +kernel
theorem dX8_round_77 : decode cX8_round 77 = .ok (.bipush 9, 2) := by decide +kernel
theorem dX8_round_79 : decode cX8_round 79 = .ok (.invokevirtual 99, 3) := by decide +kernel
theorem dX8_round_82 : decode cX8_round 82 = .ok (.invokevirtual 123, 3) := by decide +kernel
theorem dX8_round_85 : decode cX8_round 85 = .ok (.imul, 1) := by decide +kernel
theorem dX8_round_86 : decode cX8_round 86 = .ok (.iload 9, 2) := by decide +kernel
theorem dX8_round_88 : decode cX8_round 88 = .ok (.iadd, 1) := by decide +kernel
theorem dX8_round_89 : decode cX8_round 89 = .ok (.istore 10, 2) := by decide +kernel
theorem dX8_round_91 : decode cX8_round 91 = .ok (.iload 10, 2) := by decide +kernel
theorem dX8_round_93 : decode cX8_round 93 = .ok (.iload 5, 2) := by decide +kernel
theorem dX8_round_95 : decode cX8_round 95 = .ok (.if_icmp .le 53, 3) := by decide +kernel
theorem dX8_round_98 : decode cX8_round 98 = .ok (.iload 10, 2) := by decide +kernel
theorem dX8_round_100 : decode cX8_round 100 = .ok (.bipush 12, 2) := by decide +kernel
theorem dX8_round_102 : decode cX8_round 102 = .ok (.idiv, 1) := by decide +kernel
theorem dX8_round_103 : decode cX8_round 103 = .ok (.iload_n 3, 1) := by decide +kernel
theorem dX8_round_104 : decode cX8_round 104 = .ok (.if_icmp .gt 44, 3) := by decide +kernel
theorem dX8_round_107 : decode cX8_round 107 = .ok (.aload_n 0, 1) := by decide +kernel
theorem dX8_round_108 : decode cX8_round 108 = .ok (.iload 9, 2) := by decide +kernel
theorem dX8_round_110 : decode cX8_round 110 = .ok (.invokevirtual 116, 3) := by decide +kernel
theorem dX8_round_113 : decode cX8_round 113 = .ok (.ifCond .ne 35, 3) := by decide +kernel
theorem dX8_round_116 : decode cX8_round 116 = .ok (.aload_n 0, 1) := by decide +kernel
theorem dX8_round_117 : decode cX8_round 117 = .ok (.iload 9, 2) := by decide +kernel
theorem dX8_round_119 : decode cX8_round 119 = .ok (.invokevirtual 119, 3) := by decide +kernel
theorem dX8_round_122 : decode cX8_round 122 = .ok (.iload_n 1, 1) := by decide +kernel
theorem dX8_round_123 : decode cX8_round 123 = .ok (.if_icmp .ne 25, 3) := by decide +kernel
theorem dX8_round_126 : decode cX8_round 126 = .ok (.iload 7, 2) := by decide +kernel
theorem dX8_round_128 : decode cX8_round 128 = .ok (.bipush (-9), 2) := by decide +kernel
theorem dX8_round_130 : decode cX8_round 130 = .ok (.if_icmp .eq 10, 3) := by decide +kernel
theorem dX8_round_133 : decode cX8_round 133 = .ok (.iload 10, 2) := by decide +kernel
theorem dX8_round_135 : decode cX8_round 135 = .ok (.iload 8, 2) := by decide +kernel
theorem dX8_round_137 : decode cX8_round 137 = .ok (.if_icmp .ge 11, 3) := by decide +kernel
theorem dX8_round_140 : decode cX8_round 140 = .ok (.iload 9, 2) := by decide +kernel
theorem dX8_round_142 : decode cX8_round 142 = .ok (.istore 7, 2) := by decide +kernel
theorem dX8_round_144 : decode cX8_round 144 = .ok (.iload 10, 2) := by decide +kernel
theorem dX8_round_146 : decode cX8_round 146 = .ok (.istore 8, 2) := by decide +kernel
theorem dX8_round_148 : decode cX8_round 148 = .ok (.iinc 9 1, 3) := by decide +kernel
theorem dX8_round_151 : decode cX8_round 151 = .ok (.goto (-91), 3) := by decide +kernel
theorem dX8_round_154 : decode cX8_round 154 = .ok (.iload 7, 2) := by decide +kernel
theorem dX8_round_156 : decode cX8_round 156 = .ok (.bipush (-9), 2) := by decide +kernel
theorem dX8_round_158 : decode cX8_round 158 = .ok (.if_icmp .eq 64, 3) := by decide +kernel
theorem dX8_round_161 : decode cX8_round 161 = .ok (.iload 4, 2) := by decide +kernel
theorem dX8_round_163 : decode cX8_round 163 = .ok (.istore 9, 2) := by decide +kernel
theorem dX8_round_165 : decode cX8_round 165 = .ok (.iload 9, 2) := by decide +kernel
theorem dX8_round_167 : decode cX8_round 167 = .ok (.ifCond .le 39, 3) := by decide +kernel
theorem dX8_round_170 : decode cX8_round 170 = .ok (.aload_n 0, 1) := by decide +kernel
theorem dX8_round_171 : decode cX8_round 171 = .ok (.getfield 51, 3) := by decide +kernel
theorem dX8_round_174 : decode cX8_round 174 = .ok (.iload 9, 2) := by decide +kernel
theorem dX8_round_176 : decode cX8_round 176 = .ok (.iconst 1, 1) := by decide +kernel
theorem dX8_round_177 : decode cX8_round 177 = .ok (.isub, 1) := by decide +kernel
theorem dX8_round_178 : decode cX8_round 178 = .ok (.iaload, 1) := by decide +kernel
theorem dX8_round_179 : decode cX8_round 179 = .ok (.iload 7, 2) := by decide +kernel
theorem dX8_round_181 : decode cX8_round 181 = .ok (.if_icmp .le 25, 3) := by decide +kernel
theorem dX8_round_184 : decode cX8_round 184 = .ok (.aload_n 0, 1) := by decide +kernel
theorem dX8_round_185 : decode cX8_round 185 = .ok (.getfield 51, 3) := by decide +kernel
theorem dX8_round_188 : decode cX8_round 188 = .ok (.iload 9, 2) := by decide +kernel
theorem dX8_round_190 : decode cX8_round 190 = .ok (.aload_n 0, 1) := by decide +kernel
theorem dX8_round_191 : decode cX8_round 191 = .ok (.getfield 51, 3) := by decide +kernel
theorem dX8_round_194 : decode cX8_round 194 = .ok (.iload 9, 2) := by decide +kernel
theorem dX8_round_196 : decode cX8_round 196 = .ok (.iconst 1, 1) := by decide +kernel
theorem dX8_round_197 : decode cX8_round 197 = .ok (.isub, 1) := by decide +kernel
theorem dX8_round_198 : decode cX8_round 198 = .ok (.iaload, 1) := by decide +kernel
theorem dX8_round_199 : decode cX8_round 199 = .ok (.iastore, 1) := by decide +kernel
theorem dX8_round_200 : decode cX8_round 200 = .ok (.iinc 9 (-1), 3) := by decide +kernel
theorem dX8_round_203 : decode cX8_round 203 = .ok (.goto (-38), 3) := by decide +kernel
theorem dX8_round_206 : decode cX8_round 206 = .ok (.aload_n 0, 1) := by decide +kernel
theorem dX8_round_207 : decode cX8_round 207 = .ok (.getfield 51, 3) := by decide +kernel
theorem dX8_round_210 : decode cX8_round 210 = .ok (.iload 9, 2) := by decide +kernel
theorem dX8_round_212 : decode cX8_round 212 = .ok (.iload 7, 2) := by decide +kernel
theorem dX8_round_214 : decode cX8_round 214 = .ok (.iastore, 1) := by decide +kernel
theorem dX8_round_215 : decode cX8_round 215 = .ok (.iinc 4 1, 3) := by decide +kernel
theorem dX8_round_218 : decode cX8_round 218 = .ok (.iload 8, 2) := by decide +kernel
theorem dX8_round_220 : decode cX8_round 220 = .ok (.istore 5, 2) := by decide +kernel
theorem dX8_round_222 : decode cX8_round 222 = .ok (.iinc 6 1, 3) := by decide +kernel
theorem dX8_round_225 : decode cX8_round 225 = .ok (.goto (-181), 3) := by decide +kernel
theorem dX8_round_228 : decode cX8_round 228 = .ok (.iconst 0, 1) := by decide +kernel
theorem dX8_round_229 : decode cX8_round 229 = .ok (.istore 6, 2) := by decide +kernel
theorem dX8_round_231 : decode cX8_round 231 = .ok (.iload 6, 2) := by decide +kernel
theorem dX8_round_233 : decode cX8_round 233 = .ok (.iload 4, 2) := by decide +kernel
theorem dX8_round_235 : decode cX8_round 235 = .ok (.if_icmp .ge 18, 3) := by decide +kernel
theorem dX8_round_238 : decode cX8_round 238 = .ok (.aload_n 0, 1) := by decide +kernel
theorem dX8_round_239 : decode cX8_round 239 = .ok (.getfield 54, 3) := by decide +kernel
theorem dX8_round_242 : decode cX8_round 242 = .ok (.iload 6, 2) := by decide +kernel
theorem dX8_round_244 : decode cX8_round 244 = .ok (.iload 6, 2) := by decide +kernel
theorem dX8_round_246 : decode cX8_round 246 = .ok (.iastore, 1) := by decide +kernel
theorem dX8_round_247 : decode cX8_round 247 = .ok (.iinc 6 1, 3) := by decide +kernel
theorem dX8_round_250 : decode cX8_round 250 = .ok (.goto (-19), 3) := by decide +kernel
theorem dX8_round_253 : decode cX8_round 253 = .ok (.aload_n 0, 1) := by decide +kernel
theorem dX8_round_254 : decode cX8_round 254 = .ok (.iload 4, 2) := by decide +kernel
theorem dX8_round_256 : decode cX8_round 256 = .ok (.putfield 135, 3) := by decide +kernel
theorem dX8_round_259 : decode cX8_round 259 = .ok (.aload_n 0, 1) := by decide +kernel
theorem dX8_round_260 : decode cX8_round 260 = .ok (.ldc 138, 2) := by decide +kernel
theorem dX8_round_262 : decode cX8_round 262 = .ok (.putfield 139, 3) := by decide +kernel
theorem dX8_round_265 : decode cX8_round 265 = .ok (.iconst 1, 1) := by decide +kernel
theorem dX8_round_266 : decode cX8_round 266 = .ok (.istore 6, 2) := by decide +kernel
theorem dX8_round_268 : decode cX8_round 268 = .ok (.iload 6, 2) := by decide +kernel
theorem dX8_round_270 : decode cX8_round 270 = .ok (.ifCond .eq 72, 3) := by decide +kernel
theorem dX8_round_273 : decode cX8_round 273 = .ok (.aload_n 0, 1) := by decide +kernel
theorem dX8_round_274 : decode cX8_round 274 = .ok (.iload 4, 2) := by decide +kernel
theorem dX8_round_276 : decode cX8_round 276 = .ok (.invokevirtual 142, 3) := by decide +kernel
theorem dX8_round_279 : decode cX8_round 279 = .ok (.istore 7, 2) := by decide +kernel
theorem dX8_round_281 : decode cX8_round 281 = .ok (.iload 7, 2) := by decide +kernel
theorem dX8_round_283 : decode cX8_round 283 = .ok (.aload_n 0, 1) := by decide +kernel
theorem dX8_round_284 : decode cX8_round 284 = .ok (.getfield 139, 3) := by decide +kernel
theorem dX8_round_287 : decode cX8_round 287 = .ok (.if_icmp .ge 44, 3) := by decide +kernel
theorem dX8_round_290 : decode cX8_round 290 = .ok (.aload_n 0, 1) := by decide +kernel
theorem dX8_round_291 : decode cX8_round 291 = .ok (.iload 7, 2) := by decide +kernel
theorem dX8_round_293 : decode cX8_round 293 = .ok (.putfield 139, 3) := by decide +kernel
theorem dX8_round_296 : decode cX8_round 296 = .ok (.iconst 0, 1) := by decide +kernel
theorem dX8_round_297 : decode cX8_round 297 = .ok (.istore 8, 2) := by decide +kernel
theorem dX8_round_299 : decode cX8_round 299 = .ok (.iload 8, 2) := by decide +kernel
theorem dX8_round_301 : decode cX8_round 301 = .ok (.iload 4, 2) := by decide +kernel
theorem dX8_round_303 : decode cX8_round 303 = .ok (.if_icmp .ge 28, 3) := by decide +kernel
theorem dX8_round_306 : decode cX8_round 306 = .ok (.aload_n 0, 1) := by decide +kernel
theorem dX8_round_307 : decode cX8_round 307 = .ok (.getfield 48, 3) := by decide +kernel
theorem dX8_round_310 : decode cX8_round 310 = .ok (.iload 8, 2) := by decide +kernel
theorem dX8_round_312 : decode cX8_round 312 = .ok (.aload_n 0, 1) := by decide +kernel
theorem dX8_round_313 : decode cX8_round 313 = .ok (.getfield 51, 3) := by decide +kernel
theorem dX8_round_316 : decode cX8_round 316 = .ok (.aload_n 0, 1) := by decide +kernel
theorem dX8_round_317 : decode cX8_round 317 = .ok (.getfield 54, 3) := by decide +kernel
theorem dX8_round_320 : decode cX8_round 320 = .ok (.iload 8, 2) := by decide +kernel
theorem dX8_round_322 : decode cX8_round 322 = .ok (.iaload, 1) := by decide +kernel
theorem dX8_round_323 : decode cX8_round 323 = .ok (.iaload, 1) := by decide +kernel
theorem dX8_round_324 : decode cX8_round 324 = .ok (.iastore, 1) := by decide +kernel
theorem dX8_round_325 : decode cX8_round 325 = .ok (.iinc 8 1, 3) := by decide +kernel
theorem dX8_round_328 : decode cX8_round 328 = .ok (.goto (-29), 3) := by decide +kernel
theorem dX8_round_331 : decode cX8_round 331 = .ok (.aload_n 0, 1) := by decide +kernel
theorem dX8_round_332 : decode cX8_round 332 = .ok (.iload 4, 2) := by decide +kernel
theorem dX8_round_334 : decode cX8_round 334 = .ok (.invokevirtual 145, 3) := by decide +kernel
theorem dX8_round_337 : decode cX8_round 337 = .ok (.istore 6, 2) := by decide +kernel
theorem dX8_round_339 : decode cX8_round 339 = .ok (.goto (-71), 3) := by decide +kernel
theorem dX8_round_342 : decode cX8_round 342 = .ok (.iload 4, 2) := by decide +kernel
theorem dX8_round_344 : decode cX8_round 344 = .ok (.ireturn, 1) := by decide +kernel
theorem dX8_at_0 : decode cX8_at 0 = .ok (.aload_n 0, 1) := by decide +kernel
theorem dX8_at_1 : decode cX8_at 1 = .ok (.iconst 0, 1) := by decide +kernel
theorem dX8_at_2 : decode cX8_at 2 = .ok (.putfield 57, 3) := by decide +kernel
theorem dX8_at_5 : decode cX8_at 5 = .ok (.iload_n 1, 1) := by decide +kernel
theorem dX8_at_6 : decode cX8_at 6 = .ok (.iconst 0, 1) := by decide +kernel
theorem dX8_at_7 : decode cX8_at 7 = .ok (.bipush 6, 2) := by decide +kernel
theorem dX8_at_9 : decode cX8_at 9 = .ok (.invokestatic 60, 3) := by decide +kernel
theorem dX8_at_12 : decode cX8_at 12 = .ok (.ifCond .ne 5, 3) := by decide +kernel
theorem dX8_at_15 : decode cX8_at 15 = .ok (.iconst (-1), 1) := by decide +kernel
theorem dX8_at_16 : decode cX8_at 16 = .ok (.ireturn, 1) := by decide +kernel
theorem dX8_at_17 : decode cX8_at 17 = .ok (.iload_n 1, 1) := by decide +kernel
theorem dX8_at_18 : decode cX8_at 18 = .ok (.bipush 6, 2) := by decide +kernel
theorem dX8_at_20 : decode cX8_at 20 = .ok (.if_icmp .ne 10, 3) := by decide +kernel
theorem dX8_at_23 : decode cX8_at 23 = .ok (.aload_n 0, 1) := by decide +kernel
theorem dX8_at_24 : decode cX8_at 24 = .ok (.getfield 139, 3) := by decide +kernel
theorem dX8_at_27 : decode cX8_at 27 = .ok (.goto 22, 3) := by decide +kernel
theorem dX8_at_30 : decode cX8_at 30 = .ok (.iload_n 1, 1) := by decide +kernel
theorem dX8_at_31 : decode cX8_at 31 = .ok (.aload_n 0, 1) := by decide +kernel
theorem dX8_at_32 : decode cX8_at 32 = .ok (.getfield 135, 3) := by decide +kernel
theorem dX8_at_35 : decode cX8_at 35 = .ok (.if_icmp .ge 12, 3) := by decide +kernel
theorem dX8_at_38 : decode cX8_at 38 = .ok (.aload_n 0, 1) := by decide +kernel
theorem dX8_at_39 : decode cX8_at 39 = .ok (.getfield 48, 3) := by decide +kernel
theorem dX8_at_42 : decode cX8_at 42 = .ok (.iload_n 1, 1) := by decide +kernel
theorem dX8_at_43 : decode cX8_at 43 = .ok (.iaload, 1) := by decide +kernel
theorem dX8_at_44 : decode cX8_at 44 = .ok (.goto 5, 3) := by decide +kernel
theorem dX8_at_47 : decode cX8_at 47 = .ok (.bipush (-9), 2) := by decide +kernel
theorem dX8_at_49 : decode cX8_at 49 = .ok (.ireturn, 1) := by decide +kernel
theorem dX8_count_0 : decode cX8_count 0 = .ok (.aload_n 0, 1) := by decide +kernel
theorem dX8_count_1 : decode cX8_count 1 = .ok (.iconst 0, 1) := by decide +kernel
theorem dX8_count_2 : decode cX8_count 2 = .ok (.putfield 57, 3) := by decide +kernel
theorem dX8_count_5 : decode cX8_count 5 = .ok (.iload_n 1, 1) := by decide +kernel
theorem dX8_count_6 : decode cX8_count 6 = .ok (.tableswitch 77 0 6 #[42, 47, 52, 57, 62, 67, 72], 42) := by decide +kernel
theorem dX8_count_48 : decode cX8_count 48 = .ok (.aload_n 0, 1) := by decide +kernel
theorem dX8_count_49 : decode cX8_count 49 = .ok (.getfield 93, 3) := by decide +kernel
theorem dX8_count_52 : decode cX8_count 52 = .ok (.ireturn, 1) := by decide +kernel
theorem dX8_count_53 : decode cX8_count 53 = .ok (.aload_n 0, 1) := by decide +kernel
theorem dX8_count_54 : decode cX8_count 54 = .ok (.getfield 86, 3) := by decide +kernel
theorem dX8_count_57 : decode cX8_count 57 = .ok (.ireturn, 1) := by decide +kernel
theorem dX8_count_58 : decode cX8_count 58 = .ok (.aload_n 0, 1) := by decide +kernel
theorem dX8_count_59 : decode cX8_count 59 = .ok (.getfield 64, 3) := by decide +kernel
theorem dX8_count_62 : decode cX8_count 62 = .ok (.ireturn, 1) := by decide +kernel
theorem dX8_count_63 : decode cX8_count 63 = .ok (.aload_n 0, 1) := by decide +kernel
theorem dX8_count_64 : decode cX8_count 64 = .ok (.getfield 69, 3) := by decide +kernel
theorem dX8_count_67 : decode cX8_count 67 = .ok (.ireturn, 1) := by decide +kernel
theorem dX8_count_68 : decode cX8_count 68 = .ok (.aload_n 0, 1) := by decide +kernel
theorem dX8_count_69 : decode cX8_count 69 = .ok (.getfield 110, 3) := by decide +kernel
theorem dX8_count_72 : decode cX8_count 72 = .ok (.ireturn, 1) := by decide +kernel
theorem dX8_count_73 : decode cX8_count 73 = .ok (.aload_n 0, 1) := by decide +kernel
theorem dX8_count_74 : decode cX8_count 74 = .ok (.getfield 129, 3) := by decide +kernel
theorem dX8_count_77 : decode cX8_count 77 = .ok (.ireturn, 1) := by decide +kernel
theorem dX8_count_78 : decode cX8_count 78 = .ok (.aload_n 0, 1) := by decide +kernel
theorem dX8_count_79 : decode cX8_count 79 = .ok (.getfield 126, 3) := by decide +kernel
theorem dX8_count_82 : decode cX8_count 82 = .ok (.ireturn, 1) := by decide +kernel
theorem dX8_count_83 : decode cX8_count 83 = .ok (.iconst (-1), 1) := by decide +kernel
theorem dX8_count_84 : decode cX8_count 84 = .ok (.ireturn, 1) := by decide +kernel
theorem dX8_trace_0 : decode cX8_trace 0 = .ok (.aload_n 0, 1) := by decide +kernel
theorem dX8_trace_1 : decode cX8_trace 1 = .ok (.iconst 0, 1) := by decide +kernel
theorem dX8_trace_2 : decode cX8_trace 2 = .ok (.putfield 57, 3) := by decide +kernel
theorem dX8_trace_5 : decode cX8_trace 5 = .ok (.aload_n 0, 1) := by decide +kernel
theorem dX8_trace_6 : decode cX8_trace 6 = .ok (.getfield 102, 3) := by decide +kernel
theorem dX8_trace_9 : decode cX8_trace 9 = .ok (.lreturn, 1) := by decide +kernel
