theorem dX0_init_0 : decode cX0_init 0 = .ok (.aload_n 0, 1) := by decide +kernel
theorem dX0_init_1 : decode cX0_init 1 = .ok (.invokespecial 3, 3) := by decide +kernel
theorem dX0_init_4 : decode cX0_init 4 = .ok (.aload_n 0, 1) := by decide +kernel
theorem dX0_init_5 : decode cX0_init 5 = .ok (.bipush 60, 2) := by decide +kernel
theorem dX0_init_7 : decode cX0_init 7 = .ok (.newarray .int, 2) := by decide +kernel
theorem dX0_init_9 : decode cX0_init 9 = .ok (.putfield 11, 3) := by decide +kernel
theorem dX0_init_12 : decode cX0_init 12 = .ok (.aload_n 0, 1) := by decide +kernel
theorem dX0_init_13 : decode cX0_init 13 = .ok (.iconst 0, 1) := by decide +kernel
theorem dX0_init_14 : decode cX0_init 14 = .ok (.putfield 15, 3) := by decide +kernel
theorem dX0_init_17 : decode cX0_init 17 = .ok (.aload_n 0, 1) := by decide +kernel
theorem dX0_init_18 : decode cX0_init 18 = .ok (.bipush 30, 2) := by decide +kernel
theorem dX0_init_20 : decode cX0_init 20 = .ok (.newarray .int, 2) := by decide +kernel
theorem dX0_init_22 : decode cX0_init 22 = .ok (.putfield 19, 3) := by decide +kernel
theorem dX0_init_25 : decode cX0_init 25 = .ok (.aload_n 0, 1) := by decide +kernel
theorem dX0_init_26 : decode cX0_init 26 = .ok (.bipush 30, 2) := by decide +kernel
theorem dX0_init_28 : decode cX0_init 28 = .ok (.newarray .int, 2) := by decide +kernel
theorem dX0_init_30 : decode cX0_init 30 = .ok (.putfield 22, 3) := by decide +kernel
theorem dX0_init_33 : decode cX0_init 33 = .ok (.aload_n 0, 1) := by decide +kernel
theorem dX0_init_34 : decode cX0_init 34 = .ok (.bipush 30, 2) := by decide +kernel
theorem dX0_init_36 : decode cX0_init 36 = .ok (.newarray .int, 2) := by decide +kernel
theorem dX0_init_38 : decode cX0_init 38 = .ok (.putfield 25, 3) := by decide +kernel
theorem dX0_init_41 : decode cX0_init 41 = .ok (.aload_n 0, 1) := by decide +kernel
theorem dX0_init_42 : decode cX0_init 42 = .ok (.iconst 0, 1) := by decide +kernel
theorem dX0_init_43 : decode cX0_init 43 = .ok (.putfield 28, 3) := by decide +kernel
theorem dX0_init_46 : decode cX0_init 46 = .ok (.aload_n 0, 1) := by decide +kernel
theorem dX0_init_47 : decode cX0_init 47 = .ok (.iconst 0, 1) := by decide +kernel
theorem dX0_init_48 : decode cX0_init 48 = .ok (.putfield 31, 3) := by decide +kernel
theorem dX0_init_51 : decode cX0_init 51 = .ok (.aload_n 0, 1) := by decide +kernel
theorem dX0_init_52 : decode cX0_init 52 = .ok (.iconst 0, 1) := by decide +kernel
theorem dX0_init_53 : decode cX0_init 53 = .ok (.putfield 34, 3) := by decide +kernel
theorem dX0_init_56 : decode cX0_init 56 = .ok (.aload_n 0, 1) := by decide +kernel
theorem dX0_init_57 : decode cX0_init 57 = .ok (.iconst 0, 1) := by decide +kernel
theorem dX0_init_58 : decode cX0_init 58 = .ok (.putfield 37, 3) := by decide +kernel
theorem dX0_init_61 : decode cX0_init 61 = .ok (.return_, 1) := by decide +kernel
theorem dX0_hasRoomFor_0 : decode cX0_hasRoomFor 0 = .ok (.aload_n 0, 1) := by decide +kernel
theorem dX0_hasRoomFor_1 : decode cX0_hasRoomFor 1 = .ok (.getfield 15, 3) := by decide +kernel
theorem dX0_hasRoomFor_4 : decode cX0_hasRoomFor 4 = .ok (.iload_n 1, 1) := by decide +kernel
theorem dX0_hasRoomFor_5 : decode cX0_hasRoomFor 5 = .ok (.iadd, 1) := by decide +kernel
theorem dX0_hasRoomFor_6 : decode cX0_hasRoomFor 6 = .ok (.bipush 60, 2) := by decide +kernel
theorem dX0_hasRoomFor_8 : decode cX0_hasRoomFor 8 = .ok (.if_icmp .gt 7, 3) := by decide +kernel
theorem dX0_hasRoomFor_11 : decode cX0_hasRoomFor 11 = .ok (.iconst 1, 1) := by decide +kernel
theorem dX0_hasRoomFor_12 : decode cX0_hasRoomFor 12 = .ok (.goto 4, 3) := by decide +kernel
theorem dX0_hasRoomFor_15 : decode cX0_hasRoomFor 15 = .ok (.iconst 0, 1) := by decide +kernel
theorem dX0_hasRoomFor_16 : decode cX0_hasRoomFor 16 = .ok (.ireturn, 1) := by decide +kernel
theorem dX0_append_0 : decode cX0_append 0 = .ok (.iload_n 3, 1) := by decide +kernel
theorem dX0_append_1 : decode cX0_append 1 = .ok (.iconst 1, 1) := by decide +kernel
theorem dX0_append_2 : decode cX0_append 2 = .ok (.isub, 1) := by decide +kernel
theorem dX0_append_3 : decode cX0_append 3 = .ok (.istore 4, 2) := by decide +kernel
theorem dX0_append_5 : decode cX0_append 5 = .ok (.iload 4, 2) := by decide +kernel
theorem dX0_append_7 : decode cX0_append 7 = .ok (.ifCond .lt 49, 3) := by decide +kernel
theorem dX0_append_10 : decode cX0_append 10 = .ok (.aload_n 0, 1) := by decide +kernel
theorem dX0_append_11 : decode cX0_append 11 = .ok (.getfield 15, 3) := by decide +kernel
theorem dX0_append_14 : decode cX0_append 14 = .ok (.bipush 60, 2) := by decide +kernel
theorem dX0_append_16 : decode cX0_append 16 = .ok (.if_icmp .ge 40, 3) := by decide +kernel
theorem dX0_append_19 : decode cX0_append 19 = .ok (.aload_n 0, 1) := by decide +kernel
theorem dX0_append_20 : decode cX0_append 20 = .ok (.getfield 11, 3) := by decide +kernel
theorem dX0_append_23 : decode cX0_append 23 = .ok (.aload_n 0, 1) := by decide +kernel
theorem dX0_append_24 : decode cX0_append 24 = .ok (.getfield 15, 3) := by decide +kernel
theorem dX0_append_27 : decode cX0_append 27 = .ok (.lload_n 1, 1) := by decide +kernel
theorem dX0_append_28 : decode cX0_append 28 = .ok (.bipush 8, 2) := by decide +kernel
theorem dX0_append_30 : decode cX0_append 30 = .ok (.iload 4, 2) := by decide +kernel
theorem dX0_append_32 : decode cX0_append 32 = .ok (.imul, 1) := by decide +kernel
theorem dX0_append_33 : decode cX0_append 33 = .ok (.lushr, 1) := by decide +kernel
theorem dX0_append_34 : decode cX0_append 34 = .ok (.l2i, 1) := by decide +kernel
theorem dX0_append_35 : decode cX0_append 35 = .ok (.sipush 255, 3) := by decide +kernel
theorem dX0_append_38 : decode cX0_append 38 = .ok (.iand, 1) := by decide +kernel
theorem dX0_append_39 : decode cX0_append 39 = .ok (.iastore, 1) := by decide +kernel
theorem dX0_append_40 : decode cX0_append 40 = .ok (.aload_n 0, 1) := by decide +kernel
theorem dX0_append_41 : decode cX0_append 41 = .ok (.dup, 1) := by decide +kernel
theorem dX0_append_42 : decode cX0_append 42 = .ok (.getfield 15, 3) := by decide +kernel
theorem dX0_append_45 : decode cX0_append 45 = .ok (.iconst 1, 1) := by decide +kernel
theorem dX0_append_46 : decode cX0_append 46 = .ok (.iadd, 1) := by decide +kernel
theorem dX0_append_47 : decode cX0_append 47 = .ok (.putfield 15, 3) := by decide +kernel
theorem dX0_append_50 : decode cX0_append 50 = .ok (.iinc 4 (-1), 3) := by decide +kernel
theorem dX0_append_53 : decode cX0_append 53 = .ok (.goto (-48), 3) := by decide +kernel
theorem dX0_append_56 : decode cX0_append 56 = .ok (.return_, 1) := by decide +kernel
theorem dX0_empty_0 : decode cX0_empty 0 = .ok (.aload_n 0, 1) := by decide +kernel
theorem dX0_empty_1 : decode cX0_empty 1 = .ok (.getfield 15, 3) := by decide +kernel
theorem dX0_empty_4 : decode cX0_empty 4 = .ok (.istore_n 1, 1) := by decide +kernel
theorem dX0_empty_5 : decode cX0_empty 5 = .ok (.aload_n 0, 1) := by decide +kernel
theorem dX0_empty_6 : decode cX0_empty 6 = .ok (.iconst 0, 1) := by decide +kernel
theorem dX0_empty_7 : decode cX0_empty 7 = .ok (.putfield 15, 3) := by decide +kernel
theorem dX0_empty_10 : decode cX0_empty 10 = .ok (.iload_n 1, 1) := by decide +kernel
theorem dX0_empty_11 : decode cX0_empty 11 = .ok (.ireturn, 1) := by decide +kernel
theorem dX0_readItems_0 : decode cX0_readItems 0 = .ok (.aload_n 0, 1) := by decide +kernel
theorem dX0_readItems_1 : decode cX0_readItems 1 = .ok (.iconst 0, 1) := by decide +kernel
theorem dX0_readItems_2 : decode cX0_readItems 2 = .ok (.putfield 28, 3) := by decide +kernel
theorem dX0_readItems_5 : decode cX0_readItems 5 = .ok (.aload_n 0, 1) := by decide +kernel
theorem dX0_readItems_6 : decode cX0_readItems 6 = .ok (.iconst 0, 1) := by decide +kernel
theorem dX0_readItems_7 : decode cX0_readItems 7 = .ok (.putfield 31, 3) := by decide +kernel
theorem dX0_readItems_10 : decode cX0_readItems 10 = .ok (.aload_n 0, 1) := by decide +kernel
theorem dX0_readItems_11 : decode cX0_readItems 11 = .ok (.iconst 0, 1) := by decide +kernel
theorem dX0_readItems_12 : decode cX0_readItems 12 = .ok (.putfield 37, 3) := by decide +kernel
theorem dX0_readItems_15 : decode cX0_readItems 15 = .ok (.iconst 0, 1) := by decide +kernel
theorem dX0_readItems_16 : decode cX0_readItems 16 = .ok (.istore_n 1, 1) := by decide +kernel
theorem dX0_readItems_17 : decode cX0_readItems 17 = .ok (.iload_n 1, 1) := by decide +kernel
theorem dX0_readItems_18 : decode cX0_readItems 18 = .ok (.bipush 60, 2) := by decide +kernel
theorem dX0_readItems_20 : decode cX0_readItems 20 = .ok (.if_icmp .ge 41, 3) := by decide +kernel
theorem dX0_readItems_23 : decode cX0_readItems 23 = .ok (.aload_n 0, 1) := by decide +kernel
theorem dX0_readItems_24 : decode cX0_readItems 24 = .ok (.getfield 31, 3) := by decide +kernel
theorem dX0_readItems_27 : decode cX0_readItems 27 = .ok (.aload_n 0, 1) := by decide +kernel
theorem dX0_readItems_28 : decode cX0_readItems 28 = .ok (.getfield 15, 3) := by decide +kernel
theorem dX0_readItems_31 : decode cX0_readItems 31 = .ok (.if_icmp .ge 30, 3) := by decide +kernel
theorem dX0_readItems_34 : decode cX0_readItems 34 = .ok (.aload_n 0, 1) := by decide +kernel
theorem dX0_readItems_35 : decode cX0_readItems 35 = .ok (.aload_n 0, 1) := by decide +kernel
theorem dX0_readItems_36 : decode cX0_readItems 36 = .ok (.getfield 11, 3) := by decide +kernel
theorem dX0_readItems_39 : decode cX0_readItems 39 = .ok (.aload_n 0, 1) := by decide +kernel
theorem dX0_readItems_40 : decode cX0_readItems 40 = .ok (.getfield 31, 3) := by decide +kernel
theorem dX0_readItems_43 : decode cX0_readItems 43 = .ok (.iaload, 1) := by decide +kernel
theorem dX0_readItems_44 : decode cX0_readItems 44 = .ok (.invokevirtual 40, 3) := by decide +kernel
theorem dX0_readItems_47 : decode cX0_readItems 47 = .ok (.ifCond .ne 8, 3) := by decide +kernel
theorem dX0_readItems_50 : decode cX0_readItems 50 = .ok (.aload_n 0, 1) := by decide +kernel
theorem dX0_readItems_51 : decode cX0_readItems 51 = .ok (.getfield 31, 3) := by decide +kernel
theorem dX0_readItems_54 : decode cX0_readItems 54 = .ok (.ireturn, 1) := by decide +kernel
theorem dX0_readItems_55 : decode cX0_readItems 55 = .ok (.iinc 1 1, 3) := by decide +kernel
theorem dX0_readItems_58 : decode cX0_readItems 58 = .ok (.goto (-41), 3) := by decide +kernel
theorem dX0_readItems_61 : decode cX0_readItems 61 = .ok (.bipush (-9), 2) := by decide +kernel
theorem dX0_readItems_63 : decode cX0_readItems 63 = .ok (.ireturn, 1) := by decide +kernel
theorem dX0_readStep_0 : decode cX0_readStep 0 = .ok (.iload_n 1, 1) := by decide +kernel
theorem dX0_readStep_1 : decode cX0_readStep 1 = .ok (.lookupswitch 86 #[(32, 51), (64, 63), (99, 80), (103, 68), (119, 74)], 51) := by decide +kernel
theorem dX0_readStep_52 : decode cX0_readStep 52 = .ok (.aload_n 0, 1) := by decide +kernel
theorem dX0_readStep_53 : decode cX0_readStep 53 = .ok (.dup, 1) := by decide +kernel
theorem dX0_readStep_54 : decode cX0_readStep 54 = .ok (.getfield 31, 3) := by decide +kernel
theorem dX0_readStep_57 : decode cX0_readStep 57 = .ok (.iconst 1, 1) := by decide +kernel
theorem dX0_readStep_58 : decode cX0_readStep 58 = .ok (.iadd, 1) := by decide +kernel
theorem dX0_readStep_59 : decode cX0_readStep 59 = .ok (.putfield 31, 3) := by decide +kernel
theorem dX0_readStep_62 : decode cX0_readStep 62 = .ok (.iconst 1, 1) := by decide +kernel
theorem dX0_readStep_63 : decode cX0_readStep 63 = .ok (.ireturn, 1) := by decide +kernel
theorem dX0_readStep_64 : decode cX0_readStep 64 = .ok (.aload_n 0, 1) := by decide +kernel
theorem dX0_readStep_65 : decode cX0_readStep 65 = .ok (.invokevirtual 44, 3) := by decide +kernel
theorem dX0_readStep_68 : decode cX0_readStep 68 = .ok (.ireturn, 1) := by decide +kernel
theorem dX0_readStep_69 : decode cX0_readStep 69 = .ok (.aload_n 0, 1) := by decide +kernel
theorem dX0_readStep_70 : decode cX0_readStep 70 = .ok (.iconst 0, 1) := by decide +kernel
theorem dX0_readStep_71 : decode cX0_readStep 71 = .ok (.invokevirtual 48, 3) := by decide +kernel
theorem dX0_readStep_74 : decode cX0_readStep 74 = .ok (.ireturn, 1) := by decide +kernel
theorem dX0_readStep_75 : decode cX0_readStep 75 = .ok (.aload_n 0, 1) := by decide +kernel
theorem dX0_readStep_76 : decode cX0_readStep 76 = .ok (.iconst 1, 1) := by decide +kernel
theorem dX0_readStep_77 : decode cX0_readStep 77 = .ok (.invokevirtual 48, 3) := by decide +kernel
theorem dX0_readStep_80 : decode cX0_readStep 80 = .ok (.ireturn, 1) := by decide +kernel
theorem dX0_readStep_81 : decode cX0_readStep 81 = .ok (.aload_n 0, 1) := by decide +kernel
theorem dX0_readStep_82 : decode cX0_readStep 82 = .ok (.iconst 2, 1) := by decide +kernel
theorem dX0_readStep_83 : decode cX0_readStep 83 = .ok (.invokevirtual 48, 3) := by decide +kernel
theorem dX0_readStep_86 : decode cX0_readStep 86 = .ok (.ireturn, 1) := by decide +kernel
theorem dX0_readStep_87 : decode cX0_readStep 87 = .ok (.iconst 0, 1) := by decide +kernel
theorem dX0_readStep_88 : decode cX0_readStep 88 = .ok (.ireturn, 1) := by decide +kernel
theorem dX0_readFrom_0 : decode cX0_readFrom 0 = .ok (.aload_n 0, 1) := by decide +kernel
theorem dX0_readFrom_1 : decode cX0_readFrom 1 = .ok (.iconst 0, 1) := by decide +kernel
theorem dX0_readFrom_2 : decode cX0_readFrom 2 = .ok (.sipush 500, 3) := by decide +kernel
theorem dX0_readFrom_5 : decode cX0_readFrom 5 = .ok (.invokevirtual 51, 3) := by decide +kernel
theorem dX0_readFrom_8 : decode cX0_readFrom 8 = .ok (.ifCond .ne 5, 3) := by decide +kernel
theorem dX0_readFrom_11 : decode cX0_readFrom 11 = .ok (.iconst 0, 1) := by decide +kernel
theorem dX0_readFrom_12 : decode cX0_readFrom 12 = .ok (.ireturn, 1) := by decide +kernel
theorem dX0_readFrom_13 : decode cX0_readFrom 13 = .ok (.aload_n 0, 1) := by decide +kernel
theorem dX0_readFrom_14 : decode cX0_readFrom 14 = .ok (.aload_n 0, 1) := by decide +kernel
theorem dX0_readFrom_15 : decode cX0_readFrom 15 = .ok (.getfield 34, 3) := by decide +kernel
theorem dX0_readFrom_18 : decode cX0_readFrom 18 = .ok (.putfield 37, 3) := by decide +kernel
theorem dX0_readFrom_21 : decode cX0_readFrom 21 = .ok (.iconst 1, 1) := by decide +kernel
theorem dX0_readFrom_22 : decode cX0_readFrom 22 = .ok (.ireturn, 1) := by decide +kernel
theorem dX0_readSpan_0 : decode cX0_readSpan 0 = .ok (.aload_n 0, 1) := by decide +kernel
theorem dX0_readSpan_1 : decode cX0_readSpan 1 = .ok (.iconst 1, 1) := by decide +kernel
theorem dX0_readSpan_2 : decode cX0_readSpan 2 = .ok (.sipush 200, 3) := by decide +kernel
theorem dX0_readSpan_5 : decode cX0_readSpan 5 = .ok (.invokevirtual 51, 3) := by decide +kernel
theorem dX0_readSpan_8 : decode cX0_readSpan 8 = .ok (.ifCond .ne 5, 3) := by decide +kernel
theorem dX0_readSpan_11 : decode cX0_readSpan 11 = .ok (.iconst 0, 1) := by decide +kernel
theorem dX0_readSpan_12 : decode cX0_readSpan 12 = .ok (.ireturn, 1) := by decide +kernel
theorem dX0_readSpan_13 : decode cX0_readSpan 13 = .ok (.aload_n 0, 1) := by decide +kernel
theorem dX0_readSpan_14 : decode cX0_readSpan 14 = .ok (.getfield 28, 3) := by decide +kernel
theorem dX0_readSpan_17 : decode cX0_readSpan 17 = .ok (.bipush 30, 2) := by decide +kernel
theorem dX0_readSpan_19 : decode cX0_readSpan 19 = .ok (.if_icmp .ge 49, 3) := by decide +kernel
theorem dX0_readSpan_22 : decode cX0_readSpan 22 = .ok (.aload_n 0, 1) := by decide +kernel
theorem dX0_readSpan_23 : decode cX0_readSpan 23 = .ok (.getfield 19, 3) := by decide +kernel
theorem dX0_readSpan_26 : decode cX0_readSpan 26 = .ok (.aload_n 0, 1) := by decide +kernel
theorem dX0_readSpan_27 : decode cX0_readSpan 27 = .ok (.getfield 28, 3) := by decide +kernel
theorem dX0_readSpan_30 : decode cX0_readSpan 30 = .ok (.iload_n 1, 1) := by decide +kernel
theorem dX0_readSpan_31 : decode cX0_readSpan 31 = .ok (.iastore, 1) := by decide +kernel
theorem dX0_readSpan_32 : decode cX0_readSpan 32 = .ok (.aload_n 0, 1) := by decide +kernel
theorem dX0_readSpan_33 : decode cX0_readSpan 33 = .ok (.getfield 22, 3) := by decide +kernel
theorem dX0_readSpan_36 : decode cX0_readSpan 36 = .ok (.aload_n 0, 1) := by decide +kernel
theorem dX0_readSpan_37 : decode cX0_readSpan 37 = .ok (.getfield 28, 3) := by decide +kernel
theorem dX0_readSpan_40 : decode cX0_readSpan 40 = .ok (.aload_n 0, 1) := by decide +kernel
theorem dX0_readSpan_41 : decode cX0_readSpan 41 = .ok (.getfield 34, 3) := by decide +kernel
theorem dX0_readSpan_44 : decode cX0_readSpan 44 = .ok (.iastore, 1) := by decide +kernel
theorem dX0_readSpan_45 : decode cX0_readSpan 45 = .ok (.aload_n 0, 1) := by decide +kernel
theorem dX0_readSpan_46 : decode cX0_readSpan 46 = .ok (.getfield 25, 3) := by decide +kernel
theorem dX0_readSpan_49 : decode cX0_readSpan 49 = .ok (.aload_n 0, 1) := by decide +kernel
theorem dX0_readSpan_50 : decode cX0_readSpan 50 = .ok (.getfield 28, 3) := by decide +kernel
theorem dX0_readSpan_53 : decode cX0_readSpan 53 = .ok (.aload_n 0, 1) := by decide +kernel
theorem dX0_readSpan_54 : decode cX0_readSpan 54 = .ok (.getfield 37, 3) := by decide +kernel
theorem dX0_readSpan_57 : decode cX0_readSpan 57 = .ok (.iastore, 1) := by decide +kernel
theorem dX0_readSpan_58 : decode cX0_readSpan 58 = .ok (.aload_n 0, 1) := by decide +kernel
theorem dX0_readSpan_59 : decode cX0_readSpan 59 = .ok (.dup, 1) := by decide +kernel
theorem dX0_readSpan_60 : decode cX0_readSpan 60 = .ok (.getfield 28, 3) := by decide +kernel
theorem dX0_readSpan_63 : decode cX0_readSpan 63 = .ok (.iconst 1, 1) := by decide +kernel
theorem dX0_readSpan_64 : decode cX0_readSpan 64 = .ok (.iadd, 1) := by decide +kernel
theorem dX0_readSpan_65 : decode cX0_readSpan 65 = .ok (.putfield 28, 3) := by decide +kernel
theorem dX0_readSpan_68 : decode cX0_readSpan 68 = .ok (.iconst 1, 1) := by decide +kernel
theorem dX0_readSpan_69 : decode cX0_readSpan 69 = .ok (.ireturn, 1) := by decide +kernel
theorem dX0_readNumber_0 : decode cX0_readNumber 0 = .ok (.aload_n 0, 1) := by decide +kernel
theorem dX0_readNumber_1 : decode cX0_readNumber 1 = .ok (.dup, 1) := by decide +kernel
theorem dX0_readNumber_2 : decode cX0_readNumber 2 = .ok (.getfield 31, 3) := by decide +kernel
theorem dX0_readNumber_5 : decode cX0_readNumber 5 = .ok (.iconst 1, 1) := by decide +kernel
theorem dX0_readNumber_6 : decode cX0_readNumber 6 = .ok (.iadd, 1) := by decide +kernel
theorem dX0_readNumber_7 : decode cX0_readNumber 7 = .ok (.putfield 31, 3) := by decide +kernel
theorem dX0_readNumber_10 : decode cX0_readNumber 10 = .ok (.aload_n 0, 1) := by decide +kernel
theorem dX0_readNumber_11 : decode cX0_readNumber 11 = .ok (.aload_n 0, 1) := by decide +kernel
theorem dX0_readNumber_12 : decode cX0_readNumber 12 = .ok (.invokevirtual 55, 3) := by decide +kernel
theorem dX0_readNumber_15 : decode cX0_readNumber 15 = .ok (.putfield 34, 3) := by decide +kernel
theorem dX0_readNumber_18 : decode cX0_readNumber 18 = .ok (.aload_n 0, 1) := by decide +kernel
theorem dX0_readNumber_19 : decode cX0_readNumber 19 = .ok (.getfield 34, 3) := by decide +kernel
theorem dX0_readNumber_22 : decode cX0_readNumber 22 = .ok (.iload_n 1, 1) := by decide +kernel
theorem dX0_readNumber_23 : decode cX0_readNumber 23 = .ok (.if_icmp .ge 5, 3) := by decide +kernel
theorem dX0_readNumber_26 : decode cX0_readNumber 26 = .ok (.iconst 0, 1) := by decide +kernel
theorem dX0_readNumber_27 : decode cX0_readNumber 27 = .ok (.ireturn, 1) := by decide +kernel
theorem dX0_readNumber_28 : decode cX0_readNumber 28 = .ok (.aload_n 0, 1) := by decide +kernel
theorem dX0_readNumber_29 : decode cX0_readNumber 29 = .ok (.dup, 1) := by decide +kernel
theorem dX0_readNumber_30 : decode cX0_readNumber 30 = .ok (.getfield 31, 3) := by decide +kernel
theorem dX0_readNumber_33 : decode cX0_readNumber 33 = .ok (.iconst 1, 1) := by decide +kernel
theorem dX0_readNumber_34 : decode cX0_readNumber 34 = .ok (.iadd, 1) := by decide +kernel
theorem dX0_readNumber_35 : decode cX0_readNumber 35 = .ok (.putfield 31, 3) := by decide +kernel
theorem dX0_readNumber_38 : decode cX0_readNumber 38 = .ok (.aload_n 0, 1) := by decide +kernel
theorem dX0_readNumber_39 : decode cX0_readNumber 39 = .ok (.getfield 34, 3) := by decide +kernel
theorem dX0_readNumber_42 : decode cX0_readNumber 42 = .ok (.ifCond .le 66, 3) := by decide +kernel
theorem dX0_readNumber_45 : decode cX0_readNumber 45 = .ok (.aload_n 0, 1) := by decide +kernel
theorem dX0_readNumber_46 : decode cX0_readNumber 46 = .ok (.getfield 31, 3) := by decide +kernel
theorem dX0_readNumber_49 : decode cX0_readNumber 49 = .ok (.aload_n 0, 1) := by decide +kernel
theorem dX0_readNumber_50 : decode cX0_readNumber 50 = .ok (.getfield 15, 3) := by decide +kernel
theorem dX0_readNumber_53 : decode cX0_readNumber 53 = .ok (.if_icmp .ge 55, 3) := by decide +kernel
theorem dX0_readNumber_56 : decode cX0_readNumber 56 = .ok (.aload_n 0, 1) := by decide +kernel
theorem dX0_readNumber_57 : decode cX0_readNumber 57 = .ok (.invokevirtual 55, 3) := by decide +kernel
theorem dX0_readNumber_60 : decode cX0_readNumber 60 = .ok (.istore_n 3, 1) := by decide +kernel
theorem dX0_readNumber_61 : decode cX0_readNumber 61 = .ok (.iload_n 3, 1) := by decide +kernel
theorem dX0_readNumber_62 : decode cX0_readNumber 62 = .ok (.ifCond .ge 5, 3) := by decide +kernel
theorem dX0_readNumber_65 : decode cX0_readNumber 65 = .ok (.iconst 1, 1) := by decide +kernel
theorem dX0_readNumber_66 : decode cX0_readNumber 66 = .ok (.ireturn, 1) := by decide +kernel
theorem dX0_readNumber_67 : decode cX0_readNumber 67 = .ok (.aload_n 0, 1) := by decide +kernel
theorem dX0_readNumber_68 : decode cX0_readNumber 68 = .ok (.getfield 34, 3) := by decide +kernel
theorem dX0_readNumber_71 : decode cX0_readNumber 71 = .ok (.bipush 10, 2) := by decide +kernel
theorem dX0_readNumber_73 : decode cX0_readNumber 73 = .ok (.imul, 1) := by decide +kernel
theorem dX0_readNumber_74 : decode cX0_readNumber 74 = .ok (.iload_n 3, 1) := by decide +kernel
theorem dX0_readNumber_75 : decode cX0_readNumber 75 = .ok (.iadd, 1) := by decide +kernel
theorem dX0_readNumber_76 : decode cX0_readNumber 76 = .ok (.iload_n 2, 1) := by decide +kernel
theorem dX0_readNumber_77 : decode cX0_readNumber 77 = .ok (.if_icmp .le 5, 3) := by decide +kernel
theorem dX0_readNumber_80 : decode cX0_readNumber 80 = .ok (.iconst 0, 1) := by decide +kernel
theorem dX0_readNumber_81 : decode cX0_readNumber 81 = .ok (.ireturn, 1) := by decide +kernel
theorem dX0_readNumber_82 : decode cX0_readNumber 82 = .ok (.aload_n 0, 1) := by decide +kernel
theorem dX0_readNumber_83 : decode cX0_readNumber 83 = .ok (.aload_n 0, 1) := by decide +kernel
theorem dX0_readNumber_84 : decode cX0_readNumber 84 = .ok (.getfield 34, 3) := by decide +kernel
theorem dX0_readNumber_87 : decode cX0_readNumber 87 = .ok (.bipush 10, 2) := by decide +kernel
theorem dX0_readNumber_89 : decode cX0_readNumber 89 = .ok (.imul, 1) := by decide +kernel
theorem dX0_readNumber_90 : decode cX0_readNumber 90 = .ok (.iload_n 3, 1) := by decide +kernel
theorem dX0_readNumber_91 : decode cX0_readNumber 91 = .ok (.iadd, 1) := by decide +kernel
theorem dX0_readNumber_92 : decode cX0_readNumber 92 = .ok (.putfield 34, 3) := by decide +kernel
theorem dX0_readNumber_95 : decode cX0_readNumber 95 = .ok (.aload_n 0, 1) := by decide +kernel
theorem dX0_readNumber_96 : decode cX0_readNumber 96 = .ok (.dup, 1) := by decide +kernel
theorem dX0_readNumber_97 : decode cX0_readNumber 97 = .ok (.getfield 31, 3) := by decide +kernel
theorem dX0_readNumber_100 : decode cX0_readNumber 100 = .ok (.iconst 1, 1) := by decide +kernel
theorem dX0_readNumber_101 : decode cX0_readNumber 101 = .ok (.iadd, 1) := by decide +kernel
theorem dX0_readNumber_102 : decode cX0_readNumber 102 = .ok (.putfield 31, 3) := by decide +kernel
theorem dX0_readNumber_105 : decode cX0_readNumber 105 = .ok (.goto (-67), 3) := by decide +kernel
theorem dX0_readNumber_108 : decode cX0_readNumber 108 = .ok (.iconst 1, 1) := by decide +kernel
theorem dX0_readNumber_109 : decode cX0_readNumber 109 = .ok (.ireturn, 1) := by decide +kernel
theorem dX0_digitAtPlace_0 : decode cX0_digitAtPlace 0 = .ok (.aload_n 0, 1) := by decide +kernel
theorem dX0_digitAtPlace_1 : decode cX0_digitAtPlace 1 = .ok (.getfield 31, 3) := by decide +kernel
theorem dX0_digitAtPlace_4 : decode cX0_digitAtPlace 4 = .ok (.aload_n 0, 1) := by decide +kernel
theorem dX0_digitAtPlace_5 : decode cX0_digitAtPlace 5 = .ok (.getfield 15, 3) := by decide +kernel
theorem dX0_digitAtPlace_8 : decode cX0_digitAtPlace 8 = .ok (.if_icmp .lt 5, 3) := by decide +kernel
theorem dX0_digitAtPlace_11 : decode cX0_digitAtPlace 11 = .ok (.iconst (-1), 1) := by decide +kernel
theorem dX0_digitAtPlace_12 : decode cX0_digitAtPlace 12 = .ok (.ireturn, 1) := by decide +kernel
theorem dX0_digitAtPlace_13 : decode cX0_digitAtPlace 13 = .ok (.aload_n 0, 1) := by decide +kernel
theorem dX0_digitAtPlace_14 : decode cX0_digitAtPlace 14 = .ok (.getfield 11, 3) := by decide +kernel
theorem dX0_digitAtPlace_17 : decode cX0_digitAtPlace 17 = .ok (.aload_n 0, 1) := by decide +kernel
theorem dX0_digitAtPlace_18 : decode cX0_digitAtPlace 18 = .ok (.getfield 31, 3) := by decide +kernel
theorem dX0_digitAtPlace_21 : decode cX0_digitAtPlace 21 = .ok (.iaload, 1) := by decide +kernel
theorem dX0_digitAtPlace_22 : decode cX0_digitAtPlace 22 = .ok (.bipush 48, 2) := by decide +kernel
theorem dX0_digitAtPlace_24 : decode cX0_digitAtPlace 24 = .ok (.isub, 1) := by decide +kernel
theorem dX0_digitAtPlace_25 : decode cX0_digitAtPlace 25 = .ok (.istore_n 1, 1) := by decide +kernel
theorem dX0_digitAtPlace_26 : decode cX0_digitAtPlace 26 = .ok (.iload_n 1, 1) := by decide +kernel
theorem dX0_digitAtPlace_27 : decode cX0_digitAtPlace 27 = .ok (.bipush 9, 2) := by decide +kernel
theorem dX0_digitAtPlace_29 : decode cX0_digitAtPlace 29 = .ok (.if_icmp .gt 7, 3) := by decide +kernel
theorem dX0_digitAtPlace_32 : decode cX0_digitAtPlace 32 = .ok (.iload_n 1, 1) := by decide +kernel
theorem dX0_digitAtPlace_33 : decode cX0_digitAtPlace 33 = .ok (.goto 4, 3) := by decide +kernel
theorem dX0_digitAtPlace_36 : decode cX0_digitAtPlace 36 = .ok (.iconst (-1), 1) := by decide +kernel
theorem dX0_digitAtPlace_37 : decode cX0_digitAtPlace 37 = .ok (.ireturn, 1) := by decide +kernel
theorem dX1_init_0 : decode cX1_init 0 = .ok (.aload_n 0, 1) := by decide +kernel
theorem dX1_init_1 : decode cX1_init 1 = .ok (.invokespecial 1, 3) := by decide +kernel
theorem dX1_init_4 : decode cX1_init 4 = .ok (.aload_n 0, 1) := by decide +kernel
theorem dX1_init_5 : decode cX1_init 5 = .ok (.bipush 10, 2) := by decide +kernel
theorem dX1_init_7 : decode cX1_init 7 = .ok (.newarray .int, 2) := by decide +kernel
theorem dX1_init_9 : decode cX1_init 9 = .ok (.putfield 9, 3) := by decide +kernel
theorem dX1_init_12 : decode cX1_init 12 = .ok (.aload_n 0, 1) := by decide +kernel
theorem dX1_init_13 : decode cX1_init 13 = .ok (.bipush 10, 2) := by decide +kernel
theorem dX1_init_15 : decode cX1_init 15 = .ok (.newarray .int, 2) := by decide +kernel
theorem dX1_init_17 : decode cX1_init 17 = .ok (.putfield 13, 3) := by decide +kernel
theorem dX1_init_20 : decode cX1_init 20 = .ok (.aload_n 0, 1) := by decide +kernel
theorem dX1_init_21 : decode cX1_init 21 = .ok (.iconst 0, 1) := by decide +kernel
theorem dX1_init_22 : decode cX1_init 22 = .ok (.putfield 16, 3) := by decide +kernel
theorem dX1_init_25 : decode cX1_init 25 = .ok (.return_, 1) := by decide +kernel
theorem dX1_has_0 : decode cX1_has 0 = .ok (.iload_n 1, 1) := by decide +kernel
theorem dX1_has_1 : decode cX1_has 1 = .ok (.ifCond .lt 15, 3) := by decide +kernel
theorem dX1_has_4 : decode cX1_has 4 = .ok (.iload_n 1, 1) := by decide +kernel
theorem dX1_has_5 : decode cX1_has 5 = .ok (.aload_n 0, 1) := by decide +kernel
theorem dX1_has_6 : decode cX1_has 6 = .ok (.getfield 16, 3) := by decide +kernel
theorem dX1_has_9 : decode cX1_has 9 = .ok (.if_icmp .ge 7, 3) := by decide +kernel
theorem dX1_has_12 : decode cX1_has 12 = .ok (.iconst 1, 1) := by decide +kernel
theorem dX1_has_13 : decode cX1_has 13 = .ok (.goto 4, 3) := by decide +kernel
theorem dX1_has_16 : decode cX1_has 16 = .ok (.iconst 0, 1) := by decide +kernel
theorem dX1_has_17 : decode cX1_has 17 = .ok (.ireturn, 1) := by decide +kernel
theorem dX1_isFull_0 : decode cX1_isFull 0 = .ok (.aload_n 0, 1) := by decide +kernel
theorem dX1_isFull_1 : decode cX1_isFull 1 = .ok (.getfield 16, 3) := by decide +kernel
theorem dX1_isFull_4 : decode cX1_isFull 4 = .ok (.bipush 10, 2) := by decide +kernel
theorem dX1_isFull_6 : decode cX1_isFull 6 = .ok (.if_icmp .lt 7, 3) := by decide +kernel
theorem dX1_isFull_9 : decode cX1_isFull 9 = .ok (.iconst 1, 1) := by decide +kernel
theorem dX1_isFull_10 : decode cX1_isFull 10 = .ok (.goto 4, 3) := by decide +kernel
theorem dX1_isFull_13 : decode cX1_isFull 13 = .ok (.iconst 0, 1) := by decide +kernel
theorem dX1_isFull_14 : decode cX1_isFull 14 = .ok (.ireturn, 1) := by decide +kernel
theorem dX1_add_0 : decode cX1_add 0 = .ok (.aload_n 0, 1) := by decide +kernel
theorem dX1_add_1 : decode cX1_add 1 = .ok (.getfield 9, 3) := by decide +kernel
theorem dX1_add_4 : decode cX1_add 4 = .ok (.aload_n 0, 1) := by decide +kernel
theorem dX1_add_5 : decode cX1_add 5 = .ok (.getfield 16, 3) := by decide +kernel
theorem dX1_add_8 : decode cX1_add 8 = .ok (.iload_n 1, 1) := by decide +kernel
theorem dX1_add_9 : decode cX1_add 9 = .ok (.iastore, 1) := by decide +kernel
theorem dX1_add_10 : decode cX1_add 10 = .ok (.aload_n 0, 1) := by decide +kernel
theorem dX1_add_11 : decode cX1_add 11 = .ok (.getfield 13, 3) := by decide +kernel
theorem dX1_add_14 : decode cX1_add 14 = .ok (.aload_n 0, 1) := by decide +kernel
theorem dX1_add_15 : decode cX1_add 15 = .ok (.getfield 16, 3) := by decide +kernel
theorem dX1_add_18 : decode cX1_add 18 = .ok (.iload_n 2, 1) := by decide +kernel
theorem dX1_add_19 : decode cX1_add 19 = .ok (.iastore, 1) := by decide +kernel
theorem dX1_add_20 : decode cX1_add 20 = .ok (.aload_n 0, 1) := by decide +kernel
theorem dX1_add_21 : decode cX1_add 21 = .ok (.dup, 1) := by decide +kernel
theorem dX1_add_22 : decode cX1_add 22 = .ok (.getfield 16, 3) := by decide +kernel
theorem dX1_add_25 : decode cX1_add 25 = .ok (.iconst 1, 1) := by decide +kernel
theorem dX1_add_26 : decode cX1_add 26 = .ok (.iadd, 1) := by decide +kernel
theorem dX1_add_27 : decode cX1_add 27 = .ok (.putfield 16, 3) := by decide +kernel
theorem dX1_add_30 : decode cX1_add 30 = .ok (.aload_n 0, 1) := by decide +kernel
theorem dX1_add_31 : decode cX1_add 31 = .ok (.getfield 16, 3) := by decide +kernel
theorem dX1_add_34 : decode cX1_add 34 = .ok (.iconst 1, 1) := by decide +kernel
theorem dX1_add_35 : decode cX1_add 35 = .ok (.isub, 1) := by decide +kernel
theorem dX1_add_36 : decode cX1_add 36 = .ok (.ireturn, 1) := by decide +kernel
theorem dX2_init_0 : decode cX2_init 0 = .ok (.aload_n 0, 1) := by decide +kernel
theorem dX2_init_1 : decode cX2_init 1 = .ok (.invokespecial 3, 3) := by decide +kernel
theorem dX2_init_4 : decode cX2_init 4 = .ok (.aload_n 0, 1) := by decide +kernel
theorem dX2_init_5 : decode cX2_init 5 = .ok (.bipush 12, 2) := by decide +kernel
theorem dX2_init_7 : decode cX2_init 7 = .ok (.newarray .int, 2) := by decide +kernel
theorem dX2_init_9 : decode cX2_init 9 = .ok (.putfield 11, 3) := by decide +kernel
theorem dX2_init_12 : decode cX2_init 12 = .ok (.aload_n 0, 1) := by decide +kernel
theorem dX2_init_13 : decode cX2_init 13 = .ok (.bipush 12, 2) := by decide +kernel
theorem dX2_init_15 : decode cX2_init 15 = .ok (.newarray .int, 2) := by decide +kernel
theorem dX2_init_17 : decode cX2_init 17 = .ok (.putfield 15, 3) := by decide +kernel
theorem dX2_init_20 : decode cX2_init 20 = .ok (.aload_n 0, 1) := by decide +kernel
theorem dX2_init_21 : decode cX2_init 21 = .ok (.bipush 12, 2) := by decide +kernel
theorem dX2_init_23 : decode cX2_init 23 = .ok (.newarray .int, 2) := by decide +kernel
theorem dX2_init_25 : decode cX2_init 25 = .ok (.putfield 18, 3) := by decide +kernel
theorem dX2_init_28 : decode cX2_init 28 = .ok (.aload_n 0, 1) := by decide +kernel
theorem dX2_init_29 : decode cX2_init 29 = .ok (.bipush 12, 2) := by decide +kernel
theorem dX2_init_31 : decode cX2_init 31 = .ok (.newarray .int, 2) := by decide +kernel
theorem dX2_init_33 : decode cX2_init 33 = .ok (.putfield 21, 3) := by decide +kernel
theorem dX2_init_36 : decode cX2_init 36 = .ok (.aload_n 0, 1) := by decide +kernel
theorem dX2_init_37 : decode cX2_init 37 = .ok (.bipush 12, 2) := by decide +kernel
theorem dX2_init_39 : decode cX2_init 39 = .ok (.newarray .int, 2) := by decide +kernel
theorem dX2_init_41 : decode cX2_init 41 = .ok (.putfield 24, 3) := by decide +kernel
theorem dX2_init_44 : decode cX2_init 44 = .ok (.aload_n 0, 1) := by decide +kernel
theorem dX2_init_45 : decode cX2_init 45 = .ok (.bipush 12, 2) := by decide +kernel
theorem dX2_init_47 : decode cX2_init 47 = .ok (.newarray .int, 2) := by decide +kernel
theorem dX2_init_49 : decode cX2_init 49 = .ok (.putfield 27, 3) := by decide +kernel
theorem dX2_init_52 : decode cX2_init 52 = .ok (.aload_n 0, 1) := by decide +kernel
theorem dX2_init_53 : decode cX2_init 53 = .ok (.bipush 12, 2) := by decide +kernel
theorem dX2_init_55 : decode cX2_init 55 = .ok (.newarray .int, 2) := by decide +kernel
theorem dX2_init_57 : decode cX2_init 57 = .ok (.putfield 30, 3) := by decide +kernel
theorem dX2_init_60 : decode cX2_init 60 = .ok (.aload_n 0, 1) := by decide +kernel
theorem dX2_init_61 : decode cX2_init 61 = .ok (.bipush 12, 2) := by decide +kernel
theorem dX2_init_63 : decode cX2_init 63 = .ok (.newarray .int, 2) := by decide +kernel
theorem dX2_init_65 : decode cX2_init 65 = .ok (.putfield 33, 3) := by decide +kernel
theorem dX2_init_68 : decode cX2_init 68 = .ok (.aload_n 0, 1) := by decide +kernel
theorem dX2_init_69 : decode cX2_init 69 = .ok (.bipush 12, 2) := by decide +kernel
theorem dX2_init_71 : decode cX2_init 71 = .ok (.newarray .int, 2) := by decide +kernel
theorem dX2_init_73 : decode cX2_init 73 = .ok (.putfield 36, 3) := by decide +kernel
theorem dX2_init_76 : decode cX2_init 76 = .ok (.aload_n 0, 1) := by decide +kernel
theorem dX2_init_77 : decode cX2_init 77 = .ok (.bipush 12, 2) := by decide +kernel
theorem dX2_init_79 : decode cX2_init 79 = .ok (.newarray .int, 2) := by decide +kernel
theorem dX2_init_81 : decode cX2_init 81 = .ok (.putfield 39, 3) := by decide +kernel
theorem dX2_init_84 : decode cX2_init 84 = .ok (.aload_n 0, 1) := by decide +kernel
theorem dX2_init_85 : decode cX2_init 85 = .ok (.bipush 12, 2) := by decide +kernel
theorem dX2_init_87 : decode cX2_init 87 = .ok (.newarray .int, 2) := by decide +kernel
theorem dX2_init_89 : decode cX2_init 89 = .ok (.putfield 42, 3) := by decide +kernel
theorem dX2_init_92 : decode cX2_init 92 = .ok (.aload_n 0, 1) := by decide +kernel
theorem dX2_init_93 : decode cX2_init 93 = .ok (.iconst 0, 1) := by decide +kernel
theorem dX2_init_94 : decode cX2_init 94 = .ok (.putfield 45, 3) := by decide +kernel
theorem dX2_init_97 : decode cX2_init 97 = .ok (.return_, 1) := by decide +kernel
theorem dX2_has_0 : decode cX2_has 0 = .ok (.iload_n 1, 1) := by decide +kernel
theorem dX2_has_1 : decode cX2_has 1 = .ok (.ifCond .lt 15, 3) := by decide +kernel
theorem dX2_has_4 : decode cX2_has 4 = .ok (.iload_n 1, 1) := by decide +kernel
theorem dX2_has_5 : decode cX2_has 5 = .ok (.aload_n 0, 1) := by decide +kernel
theorem dX2_has_6 : decode cX2_has 6 = .ok (.getfield 45, 3) := by decide +kernel
theorem dX2_has_9 : decode cX2_has 9 = .ok (.if_icmp .ge 7, 3) := by decide +kernel
theorem dX2_has_12 : decode cX2_has 12 = .ok (.iconst 1, 1) := by decide +kernel
theorem dX2_has_13 : decode cX2_has 13 = .ok (.goto 4, 3) := by decide +kernel
theorem dX2_has_16 : decode cX2_has 16 = .ok (.iconst 0, 1) := by decide +kernel
theorem dX2_has_17 : decode cX2_has 17 = .ok (.ireturn, 1) := by decide +kernel
theorem dX2_isFull_0 : decode cX2_isFull 0 = .ok (.aload_n 0, 1) := by decide +kernel
theorem dX2_isFull_1 : decode cX2_isFull 1 = .ok (.getfield 45, 3) := by decide +kernel
theorem dX2_isFull_4 : decode cX2_isFull 4 = .ok (.bipush 12, 2) := by decide +kernel
theorem dX2_isFull_6 : decode cX2_isFull 6 = .ok (.if_icmp .lt 7, 3) := by decide +kernel
theorem dX2_isFull_9 : decode cX2_isFull 9 = .ok (.iconst 1, 1) := by decide +kernel
theorem dX2_isFull_10 : decode cX2_isFull 10 = .ok (.goto 4, 3) := by decide +kernel
theorem dX2_isFull_13 : decode cX2_isFull 13 = .ok (.iconst 0, 1) := by decide +kernel
theorem dX2_isFull_14 : decode cX2_isFull 14 = .ok (.ireturn, 1) := by decide +kernel
theorem dX2_setBody_0 : decode cX2_setBody 0 = .ok (.aload_n 0, 1) := by decide +kernel
theorem dX2_setBody_1 : decode cX2_setBody 1 = .ok (.getfield 11, 3) := by decide +kernel
theorem dX2_setBody_4 : decode cX2_setBody 4 = .ok (.aload_n 0, 1) := by decide +kernel
theorem dX2_setBody_5 : decode cX2_setBody 5 = .ok (.getfield 45, 3) := by decide +kernel
theorem dX2_setBody_8 : decode cX2_setBody 8 = .ok (.iload_n 1, 1) := by decide +kernel
theorem dX2_setBody_9 : decode cX2_setBody 9 = .ok (.iastore, 1) := by decide +kernel
theorem dX2_setBody_10 : decode cX2_setBody 10 = .ok (.aload_n 0, 1) := by decide +kernel
theorem dX2_setBody_11 : decode cX2_setBody 11 = .ok (.getfield 15, 3) := by decide +kernel
theorem dX2_setBody_14 : decode cX2_setBody 14 = .ok (.aload_n 0, 1) := by decide +kernel
theorem dX2_setBody_15 : decode cX2_setBody 15 = .ok (.getfield 45, 3) := by decide +kernel
theorem dX2_setBody_18 : decode cX2_setBody 18 = .ok (.iload_n 2, 1) := by decide +kernel
theorem dX2_setBody_19 : decode cX2_setBody 19 = .ok (.iastore, 1) := by decide +kernel
theorem dX2_setBody_20 : decode cX2_setBody 20 = .ok (.aload_n 0, 1) := by decide +kernel
theorem dX2_setBody_21 : decode cX2_setBody 21 = .ok (.getfield 18, 3) := by decide +kernel
theorem dX2_setBody_24 : decode cX2_setBody 24 = .ok (.aload_n 0, 1) := by decide +kernel
theorem dX2_setBody_25 : decode cX2_setBody 25 = .ok (.getfield 45, 3) := by decide +kernel
theorem dX2_setBody_28 : decode cX2_setBody 28 = .ok (.iload_n 3, 1) := by decide +kernel
theorem dX2_setBody_29 : decode cX2_setBody 29 = .ok (.iastore, 1) := by decide +kernel
theorem dX2_setBody_30 : decode cX2_setBody 30 = .ok (.aload_n 0, 1) := by decide +kernel
theorem dX2_setBody_31 : decode cX2_setBody 31 = .ok (.getfield 21, 3) := by decide +kernel
theorem dX2_setBody_34 : decode cX2_setBody 34 = .ok (.aload_n 0, 1) := by decide +kernel
theorem dX2_setBody_35 : decode cX2_setBody 35 = .ok (.getfield 45, 3) := by decide +kernel
theorem dX2_setBody_38 : decode cX2_setBody 38 = .ok (.iload 4, 2) := by decide +kernel
theorem dX2_setBody_40 : decode cX2_setBody 40 = .ok (.iastore, 1) := by decide +kernel
theorem dX2_setBody_41 : decode cX2_setBody 41 = .ok (.aload_n 0, 1) := by decide +kernel
theorem dX2_setBody_42 : decode cX2_setBody 42 = .ok (.getfield 24, 3) := by decide +kernel
theorem dX2_setBody_45 : decode cX2_setBody 45 = .ok (.aload_n 0, 1) := by decide +kernel
theorem dX2_setBody_46 : decode cX2_setBody 46 = .ok (.getfield 45, 3) := by decide +kernel
theorem dX2_setBody_49 : decode cX2_setBody 49 = .ok (.iload 5, 2) := by decide +kernel
theorem dX2_setBody_51 : decode cX2_setBody 51 = .ok (.iastore, 1) := by decide +kernel
theorem dX2_setBody_52 : decode cX2_setBody 52 = .ok (.return_, 1) := by decide +kernel
theorem dX2_setPlace_0 : decode cX2_setPlace 0 = .ok (.aload_n 0, 1) := by decide +kernel
theorem dX2_setPlace_1 : decode cX2_setPlace 1 = .ok (.getfield 27, 3) := by decide +kernel
theorem dX2_setPlace_4 : decode cX2_setPlace 4 = .ok (.aload_n 0, 1) := by decide +kernel
theorem dX2_setPlace_5 : decode cX2_setPlace 5 = .ok (.getfield 45, 3) := by decide +kernel
theorem dX2_setPlace_8 : decode cX2_setPlace 8 = .ok (.iload_n 1, 1) := by decide +kernel
theorem dX2_setPlace_9 : decode cX2_setPlace 9 = .ok (.iastore, 1) := by decide +kernel
theorem dX2_setPlace_10 : decode cX2_setPlace 10 = .ok (.aload_n 0, 1) := by decide +kernel
theorem dX2_setPlace_11 : decode cX2_setPlace 11 = .ok (.getfield 30, 3) := by decide +kernel
theorem dX2_setPlace_14 : decode cX2_setPlace 14 = .ok (.aload_n 0, 1) := by decide +kernel
theorem dX2_setPlace_15 : decode cX2_setPlace 15 = .ok (.getfield 45, 3) := by decide +kernel
theorem dX2_setPlace_18 : decode cX2_setPlace 18 = .ok (.iload_n 2, 1) := by decide +kernel
theorem dX2_setPlace_19 : decode cX2_setPlace 19 = .ok (.iastore, 1) := by decide +kernel
theorem dX2_setPlace_20 : decode cX2_setPlace 20 = .ok (.aload_n 0, 1) := by decide +kernel
theorem dX2_setPlace_21 : decode cX2_setPlace 21 = .ok (.getfield 33, 3) := by decide +kernel
theorem dX2_setPlace_24 : decode cX2_setPlace 24 = .ok (.aload_n 0, 1) := by decide +kernel
theorem dX2_setPlace_25 : decode cX2_setPlace 25 = .ok (.getfield 45, 3) := by decide +kernel
theorem dX2_setPlace_28 : decode cX2_setPlace 28 = .ok (.iload_n 3, 1) := by decide +kernel
theorem dX2_setPlace_29 : decode cX2_setPlace 29 = .ok (.iastore, 1) := by decide +kernel
theorem dX2_setPlace_30 : decode cX2_setPlace 30 = .ok (.aload_n 0, 1) := by decide +kernel
theorem dX2_setPlace_31 : decode cX2_setPlace 31 = .ok (.getfield 36, 3) := by decide +kernel
theorem dX2_setPlace_34 : decode cX2_setPlace 34 = .ok (.aload_n 0, 1) := by decide +kernel
theorem dX2_setPlace_35 : decode cX2_setPlace 35 = .ok (.getfield 45, 3) := by decide +kernel
theorem dX2_setPlace_38 : decode cX2_setPlace 38 = .ok (.iload 4, 2) := by decide +kernel
theorem dX2_setPlace_40 : decode cX2_setPlace 40 = .ok (.iastore, 1) := by decide +kernel
theorem dX2_setPlace_41 : decode cX2_setPlace 41 = .ok (.return_, 1) := by decide +kernel
theorem dX2_add_0 : decode cX2_add 0 = .ok (.aload_n 0, 1) := by decide +kernel
theorem dX2_add_1 : decode cX2_add 1 = .ok (.getfield 39, 3) := by decide +kernel
theorem dX2_add_4 : decode cX2_add 4 = .ok (.aload_n 0, 1) := by decide +kernel
theorem dX2_add_5 : decode cX2_add 5 = .ok (.getfield 45, 3) := by decide +kernel
theorem dX2_add_8 : decode cX2_add 8 = .ok (.iconst 0, 1) := by decide +kernel
theorem dX2_add_9 : decode cX2_add 9 = .ok (.iastore, 1) := by decide +kernel
theorem dX2_add_10 : decode cX2_add 10 = .ok (.aload_n 0, 1) := by decide +kernel
theorem dX2_add_11 : decode cX2_add 11 = .ok (.dup, 1) := by decide +kernel
theorem dX2_add_12 : decode cX2_add 12 = .ok (.getfield 45, 3) := by decide +kernel
theorem dX2_add_15 : decode cX2_add 15 = .ok (.iconst 1, 1) := by decide +kernel
theorem dX2_add_16 : decode cX2_add 16 = .ok (.iadd, 1) := by decide +kernel
theorem dX2_add_17 : decode cX2_add 17 = .ok (.putfield 45, 3) := by decide +kernel
theorem dX2_add_20 : decode cX2_add 20 = .ok (.aload_n 0, 1) := by decide +kernel
theorem dX2_add_21 : decode cX2_add 21 = .ok (.getfield 45, 3) := by decide +kernel
theorem dX2_add_24 : decode cX2_add 24 = .ok (.iconst 1, 1) := by decide +kernel
theorem dX2_add_25 : decode cX2_add 25 = .ok (.isub, 1) := by decide +kernel
theorem dX2_add_26 : decode cX2_add 26 = .ok (.ireturn, 1) := by decide +kernel
theorem dX2_openPull_0 : decode cX2_openPull 0 = .ok (.aload_n 0, 1) := by decide +kernel
theorem dX2_openPull_1 : decode cX2_openPull 1 = .ok (.getfield 21, 3) := by decide +kernel
theorem dX2_openPull_4 : decode cX2_openPull 4 = .ok (.iload_n 1, 1) := by decide +kernel
theorem dX2_openPull_5 : decode cX2_openPull 5 = .ok (.iaload, 1) := by decide +kernel
theorem dX2_openPull_6 : decode cX2_openPull 6 = .ok (.istore_n 2, 1) := by decide +kernel
theorem dX2_openPull_7 : decode cX2_openPull 7 = .ok (.iload_n 2, 1) := by decide +kernel
theorem dX2_openPull_8 : decode cX2_openPull 8 = .ok (.ifCond .le 25, 3) := by decide +kernel
theorem dX2_openPull_11 : decode cX2_openPull 11 = .ok (.aload_n 0, 1) := by decide +kernel
theorem dX2_openPull_12 : decode cX2_openPull 12 = .ok (.getfield 18, 3) := by decide +kernel
theorem dX2_openPull_15 : decode cX2_openPull 15 = .ok (.iload_n 1, 1) := by decide +kernel
theorem dX2_openPull_16 : decode cX2_openPull 16 = .ok (.iaload, 1) := by decide +kernel
theorem dX2_openPull_17 : decode cX2_openPull 17 = .ok (.getstatic 49, 3) := by decide +kernel
theorem dX2_openPull_20 : decode cX2_openPull 20 = .ok (.aload_n 0, 1) := by decide +kernel
theorem dX2_openPull_21 : decode cX2_openPull 21 = .ok (.getfield 15, 3) := by decide +kernel
theorem dX2_openPull_24 : decode cX2_openPull 24 = .ok (.iload_n 1, 1) := by decide +kernel
theorem dX2_openPull_25 : decode cX2_openPull 25 = .ok (.iaload, 1) := by decide +kernel
theorem dX2_openPull_26 : decode cX2_openPull 26 = .ok (.iaload, 1) := by decide +kernel
theorem dX2_openPull_27 : decode cX2_openPull 27 = .ok (.imul, 1) := by decide +kernel
theorem dX2_openPull_28 : decode cX2_openPull 28 = .ok (.iload_n 2, 1) := by decide +kernel
theorem dX2_openPull_29 : decode cX2_openPull 29 = .ok (.idiv, 1) := by decide +kernel
theorem dX2_openPull_30 : decode cX2_openPull 30 = .ok (.goto 4, 3) := by decide +kernel
theorem dX2_openPull_33 : decode cX2_openPull 33 = .ok (.iconst 0, 1) := by decide +kernel
theorem dX2_openPull_34 : decode cX2_openPull 34 = .ok (.ireturn, 1) := by decide +kernel
theorem dX2_wayBetween_0 : decode cX2_wayBetween 0 = .ok (.aload_n 0, 1) := by decide +kernel
theorem dX2_wayBetween_1 : decode cX2_wayBetween 1 = .ok (.getfield 27, 3) := by decide +kernel
theorem dX2_wayBetween_4 : decode cX2_wayBetween 4 = .ok (.iload_n 1, 1) := by decide +kernel
theorem dX2_wayBetween_5 : decode cX2_wayBetween 5 = .ok (.iaload, 1) := by decide +kernel
theorem dX2_wayBetween_6 : decode cX2_wayBetween 6 = .ok (.aload_n 0, 1) := by decide +kernel
theorem dX2_wayBetween_7 : decode cX2_wayBetween 7 = .ok (.getfield 27, 3) := by decide +kernel
theorem dX2_wayBetween_10 : decode cX2_wayBetween 10 = .ok (.iload_n 2, 1) := by decide +kernel
theorem dX2_wayBetween_11 : decode cX2_wayBetween 11 = .ok (.iaload, 1) := by decide +kernel
theorem dX2_wayBetween_12 : decode cX2_wayBetween 12 = .ok (.isub, 1) := by decide +kernel
theorem dX2_wayBetween_13 : decode cX2_wayBetween 13 = .ok (.invokestatic 52, 3) := by decide +kernel
theorem dX2_wayBetween_16 : decode cX2_wayBetween 16 = .ok (.aload_n 0, 1) := by decide +kernel
theorem dX2_wayBetween_17 : decode cX2_wayBetween 17 = .ok (.getfield 30, 3) := by decide +kernel
theorem dX2_wayBetween_20 : decode cX2_wayBetween 20 = .ok (.iload_n 1, 1) := by decide +kernel
theorem dX2_wayBetween_21 : decode cX2_wayBetween 21 = .ok (.iaload, 1) := by decide +kernel
theorem dX2_wayBetween_22 : decode cX2_wayBetween 22 = .ok (.aload_n 0, 1) := by decide +kernel
theorem dX2_wayBetween_23 : decode cX2_wayBetween 23 = .ok (.getfield 30, 3) := by decide +kernel
theorem dX2_wayBetween_26 : decode cX2_wayBetween 26 = .ok (.iload_n 2, 1) := by decide +kernel
theorem dX2_wayBetween_27 : decode cX2_wayBetween 27 = .ok (.iaload, 1) := by decide +kernel
theorem dX2_wayBetween_28 : decode cX2_wayBetween 28 = .ok (.isub, 1) := by decide +kernel
theorem dX2_wayBetween_29 : decode cX2_wayBetween 29 = .ok (.invokestatic 52, 3) := by decide +kernel
theorem dX2_wayBetween_32 : decode cX2_wayBetween 32 = .ok (.iadd, 1) := by decide +kernel
theorem dX2_wayBetween_33 : decode cX2_wayBetween 33 = .ok (.ireturn, 1) := by decide +kernel
theorem dX2_waitingAheadOf_0 : decode cX2_waitingAheadOf 0 = .ok (.iconst 0, 1) := by decide +kernel
theorem dX2_waitingAheadOf_1 : decode cX2_waitingAheadOf 1 = .ok (.istore_n 2, 1) := by decide +kernel
theorem dX2_waitingAheadOf_2 : decode cX2_waitingAheadOf 2 = .ok (.iconst 0, 1) := by decide +kernel
theorem dX2_waitingAheadOf_3 : decode cX2_waitingAheadOf 3 = .ok (.istore_n 3, 1) := by decide +kernel
theorem dX2_waitingAheadOf_4 : decode cX2_waitingAheadOf 4 = .ok (.iload_n 3, 1) := by decide +kernel
theorem dX2_waitingAheadOf_5 : decode cX2_waitingAheadOf 5 = .ok (.aload_n 0, 1) := by decide +kernel
theorem dX2_waitingAheadOf_6 : decode cX2_waitingAheadOf 6 = .ok (.getfield 45, 3) := by decide +kernel
theorem dX2_waitingAheadOf_9 : decode cX2_waitingAheadOf 9 = .ok (.if_icmp .ge 70, 3) := by decide +kernel
theorem dX2_waitingAheadOf_12 : decode cX2_waitingAheadOf 12 = .ok (.aload_n 0, 1) := by decide +kernel
theorem dX2_waitingAheadOf_13 : decode cX2_waitingAheadOf 13 = .ok (.getfield 42, 3) := by decide +kernel
theorem dX2_waitingAheadOf_16 : decode cX2_waitingAheadOf 16 = .ok (.iload_n 3, 1) := by decide +kernel
theorem dX2_waitingAheadOf_17 : decode cX2_waitingAheadOf 17 = .ok (.iaload, 1) := by decide +kernel
theorem dX2_waitingAheadOf_18 : decode cX2_waitingAheadOf 18 = .ok (.aload_n 0, 1) := by decide +kernel
theorem dX2_waitingAheadOf_19 : decode cX2_waitingAheadOf 19 = .ok (.getfield 42, 3) := by decide +kernel
theorem dX2_waitingAheadOf_22 : decode cX2_waitingAheadOf 22 = .ok (.iload_n 1, 1) := by decide +kernel
theorem dX2_waitingAheadOf_23 : decode cX2_waitingAheadOf 23 = .ok (.iaload, 1) := by decide +kernel
theorem dX2_waitingAheadOf_24 : decode cX2_waitingAheadOf 24 = .ok (.if_icmp .lt 23, 3) := by decide +kernel
theorem dX2_waitingAheadOf_27 : decode cX2_waitingAheadOf 27 = .ok (.aload_n 0, 1) := by decide +kernel
theorem dX2_waitingAheadOf_28 : decode cX2_waitingAheadOf 28 = .ok (.getfield 42, 3) := by decide +kernel
theorem dX2_waitingAheadOf_31 : decode cX2_waitingAheadOf 31 = .ok (.iload_n 3, 1) := by decide +kernel
theorem dX2_waitingAheadOf_32 : decode cX2_waitingAheadOf 32 = .ok (.iaload, 1) := by decide +kernel
theorem dX2_waitingAheadOf_33 : decode cX2_waitingAheadOf 33 = .ok (.aload_n 0, 1) := by decide +kernel
theorem dX2_waitingAheadOf_34 : decode cX2_waitingAheadOf 34 = .ok (.getfield 42, 3) := by decide +kernel
theorem dX2_waitingAheadOf_37 : decode cX2_waitingAheadOf 37 = .ok (.iload_n 1, 1) := by decide +kernel
theorem dX2_waitingAheadOf_38 : decode cX2_waitingAheadOf 38 = .ok (.iaload, 1) := by decide +kernel
theorem dX2_waitingAheadOf_39 : decode cX2_waitingAheadOf 39 = .ok (.if_icmp .ne 12, 3) := by decide +kernel
theorem dX2_waitingAheadOf_42 : decode cX2_waitingAheadOf 42 = .ok (.iload_n 3, 1) := by decide +kernel
theorem dX2_waitingAheadOf_43 : decode cX2_waitingAheadOf 43 = .ok (.iload_n 1, 1) := by decide +kernel
theorem dX2_waitingAheadOf_44 : decode cX2_waitingAheadOf 44 = .ok (.if_icmp .ge 7, 3) := by decide +kernel
theorem dX2_waitingAheadOf_47 : decode cX2_waitingAheadOf 47 = .ok (.iconst 1, 1) := by decide +kernel
theorem dX2_waitingAheadOf_48 : decode cX2_waitingAheadOf 48 = .ok (.goto 4, 3) := by decide +kernel
theorem dX2_waitingAheadOf_51 : decode cX2_waitingAheadOf 51 = .ok (.iconst 0, 1) := by decide +kernel
theorem dX2_waitingAheadOf_52 : decode cX2_waitingAheadOf 52 = .ok (.istore 4, 2) := by decide +kernel
theorem dX2_waitingAheadOf_54 : decode cX2_waitingAheadOf 54 = .ok (.aload_n 0, 1) := by decide +kernel
theorem dX2_waitingAheadOf_55 : decode cX2_waitingAheadOf 55 = .ok (.getfield 42, 3) := by decide +kernel
theorem dX2_waitingAheadOf_58 : decode cX2_waitingAheadOf 58 = .ok (.iload_n 3, 1) := by decide +kernel
theorem dX2_waitingAheadOf_59 : decode cX2_waitingAheadOf 59 = .ok (.iaload, 1) := by decide +kernel
theorem dX2_waitingAheadOf_60 : decode cX2_waitingAheadOf 60 = .ok (.bipush (-9), 2) := by decide +kernel
theorem dX2_waitingAheadOf_62 : decode cX2_waitingAheadOf 62 = .ok (.if_icmp .eq 11, 3) := by decide +kernel
theorem dX2_waitingAheadOf_65 : decode cX2_waitingAheadOf 65 = .ok (.iload 4, 2) := by decide +kernel
theorem dX2_waitingAheadOf_67 : decode cX2_waitingAheadOf 67 = .ok (.ifCond .eq 6, 3) := by decide +kernel
theorem dX2_waitingAheadOf_70 : decode cX2_waitingAheadOf 70 = .ok (.iinc 2 1, 3) := by decide +kernel
theorem dX2_waitingAheadOf_73 : decode cX2_waitingAheadOf 73 = .ok (.iinc 3 1, 3) := by decide +kernel
theorem dX2_waitingAheadOf_76 : decode cX2_waitingAheadOf 76 = .ok (.goto (-72), 3) := by decide +kernel
theorem dX2_waitingAheadOf_79 : decode cX2_waitingAheadOf 79 = .ok (.iload_n 2, 1) := by decide +kernel
theorem dX2_waitingAheadOf_80 : decode cX2_waitingAheadOf 80 = .ok (.ireturn, 1) := by decide +kernel
theorem dX3_init_0 : decode cX3_init 0 = .ok (.aload_n 0, 1) := by decide +kernel
theorem dX3_init_1 : decode cX3_init 1 = .ok (.invokespecial 3, 3) := by decide +kernel
theorem dX3_init_4 : decode cX3_init 4 = .ok (.aload_n 0, 1) := by decide +kernel
theorem dX3_init_5 : decode cX3_init 5 = .ok (.bipush 6, 2) := by decide +kernel
theorem dX3_init_7 : decode cX3_init 7 = .ok (.newarray .int, 2) := by decide +kernel
theorem dX3_init_9 : decode cX3_init 9 = .ok (.putfield 11, 3) := by decide +kernel
theorem dX3_init_12 : decode cX3_init 12 = .ok (.aload_n 0, 1) := by decide +kernel
theorem dX3_init_13 : decode cX3_init 13 = .ok (.bipush 7, 2) := by decide +kernel
theorem dX3_init_15 : decode cX3_init 15 = .ok (.newarray .int, 2) := by decide +kernel
theorem dX3_init_17 : decode cX3_init 17 = .ok (.putfield 15, 3) := by decide +kernel
theorem dX3_init_20 : decode cX3_init 20 = .ok (.aload_n 0, 1) := by decide +kernel
theorem dX3_init_21 : decode cX3_init 21 = .ok (.sipush 180, 3) := by decide +kernel
theorem dX3_init_24 : decode cX3_init 24 = .ok (.newarray .int, 2) := by decide +kernel
theorem dX3_init_26 : decode cX3_init 26 = .ok (.putfield 20, 3) := by decide +kernel
theorem dX3_init_29 : decode cX3_init 29 = .ok (.aload_n 0, 1) := by decide +kernel
theorem dX3_init_30 : decode cX3_init 30 = .ok (.sipush 180, 3) := by decide +kernel
theorem dX3_init_33 : decode cX3_init 33 = .ok (.newarray .int, 2) := by decide +kernel
theorem dX3_init_35 : decode cX3_init 35 = .ok (.putfield 23, 3) := by decide +kernel
theorem dX3_init_38 : decode cX3_init 38 = .ok (.aload_n 0, 1) := by decide +kernel
theorem dX3_init_39 : decode cX3_init 39 = .ok (.sipush 180, 3) := by decide +kernel
theorem dX3_init_42 : decode cX3_init 42 = .ok (.newarray .int, 2) := by decide +kernel
theorem dX3_init_44 : decode cX3_init 44 = .ok (.putfield 26, 3) := by decide +kernel
theorem dX3_init_47 : decode cX3_init 47 = .ok (.aload_n 0, 1) := by decide +kernel
theorem dX3_init_48 : decode cX3_init 48 = .ok (.iconst 0, 1) := by decide +kernel
theorem dX3_init_49 : decode cX3_init 49 = .ok (.putfield 29, 3) := by decide +kernel
theorem dX3_init_52 : decode cX3_init 52 = .ok (.return_, 1) := by decide +kernel
theorem dX3_isFull_0 : decode cX3_isFull 0 = .ok (.aload_n 0, 1) := by decide +kernel
theorem dX3_isFull_1 : decode cX3_isFull 1 = .ok (.getfield 29, 3) := by decide +kernel
theorem dX3_isFull_4 : decode cX3_isFull 4 = .ok (.bipush 6, 2) := by decide +kernel
theorem dX3_isFull_6 : decode cX3_isFull 6 = .ok (.if_icmp .lt 7, 3) := by decide +kernel
theorem dX3_isFull_9 : decode cX3_isFull 9 = .ok (.iconst 1, 1) := by decide +kernel
theorem dX3_isFull_10 : decode cX3_isFull 10 = .ok (.goto 4, 3) := by decide +kernel
theorem dX3_isFull_13 : decode cX3_isFull 13 = .ok (.iconst 0, 1) := by decide +kernel
theorem dX3_isFull_14 : decode cX3_isFull 14 = .ok (.ireturn, 1) := by decide +kernel
theorem dX3_add_0 : decode cX3_add 0 = .ok (.aload_n 0, 1) := by decide +kernel
theorem dX3_add_1 : decode cX3_add 1 = .ok (.getfield 15, 3) := by decide +kernel
theorem dX3_add_4 : decode cX3_add 4 = .ok (.aload_n 0, 1) := by decide +kernel
theorem dX3_add_5 : decode cX3_add 5 = .ok (.getfield 29, 3) := by decide +kernel
theorem dX3_add_8 : decode cX3_add 8 = .ok (.iaload, 1) := by decide +kernel
theorem dX3_add_9 : decode cX3_add 9 = .ok (.istore_n 3, 1) := by decide +kernel
theorem dX3_add_10 : decode cX3_add 10 = .ok (.iconst 0, 1) := by decide +kernel
theorem dX3_add_11 : decode cX3_add 11 = .ok (.istore 4, 2) := by decide +kernel
theorem dX3_add_13 : decode cX3_add 13 = .ok (.iload 4, 2) := by decide +kernel
theorem dX3_add_15 : decode cX3_add 15 = .ok (.aload_n 1, 1) := by decide +kernel
theorem dX3_add_16 : decode cX3_add 16 = .ok (.getfield 33, 3) := by decide +kernel
theorem dX3_add_19 : decode cX3_add 19 = .ok (.if_icmp .ge 60, 3) := by decide +kernel
theorem dX3_add_22 : decode cX3_add 22 = .ok (.iload_n 3, 1) := by decide +kernel
theorem dX3_add_23 : decode cX3_add 23 = .ok (.aload_n 0, 1) := by decide +kernel
theorem dX3_add_24 : decode cX3_add 24 = .ok (.getfield 20, 3) := by decide +kernel
theorem dX3_add_27 : decode cX3_add 27 = .ok (.arraylength, 1) := by decide +kernel
theorem dX3_add_28 : decode cX3_add 28 = .ok (.if_icmp .ge 51, 3) := by decide +kernel
theorem dX3_add_31 : decode cX3_add 31 = .ok (.aload_n 0, 1) := by decide +kernel
theorem dX3_add_32 : decode cX3_add 32 = .ok (.getfield 20, 3) := by decide +kernel
theorem dX3_add_35 : decode cX3_add 35 = .ok (.iload_n 3, 1) := by decide +kernel
theorem dX3_add_36 : decode cX3_add 36 = .ok (.aload_n 1, 1) := by decide +kernel
theorem dX3_add_37 : decode cX3_add 37 = .ok (.getfield 36, 3) := by decide +kernel
theorem dX3_add_40 : decode cX3_add 40 = .ok (.iload 4, 2) := by decide +kernel
theorem dX3_add_42 : decode cX3_add 42 = .ok (.iaload, 1) := by decide +kernel
theorem dX3_add_43 : decode cX3_add 43 = .ok (.iastore, 1) := by decide +kernel
theorem dX3_add_44 : decode cX3_add 44 = .ok (.aload_n 0, 1) := by decide +kernel
theorem dX3_add_45 : decode cX3_add 45 = .ok (.getfield 23, 3) := by decide +kernel
theorem dX3_add_48 : decode cX3_add 48 = .ok (.iload_n 3, 1) := by decide +kernel
theorem dX3_add_49 : decode cX3_add 49 = .ok (.aload_n 1, 1) := by decide +kernel
theorem dX3_add_50 : decode cX3_add 50 = .ok (.getfield 37, 3) := by decide +kernel
theorem dX3_add_53 : decode cX3_add 53 = .ok (.iload 4, 2) := by decide +kernel
theorem dX3_add_55 : decode cX3_add 55 = .ok (.iaload, 1) := by decide +kernel
theorem dX3_add_56 : decode cX3_add 56 = .ok (.iastore, 1) := by decide +kernel
theorem dX3_add_57 : decode cX3_add 57 = .ok (.aload_n 0, 1) := by decide +kernel
theorem dX3_add_58 : decode cX3_add 58 = .ok (.getfield 26, 3) := by decide +kernel
theorem dX3_add_61 : decode cX3_add 61 = .ok (.iload_n 3, 1) := by decide +kernel
theorem dX3_add_62 : decode cX3_add 62 = .ok (.aload_n 1, 1) := by decide +kernel
theorem dX3_add_63 : decode cX3_add 63 = .ok (.getfield 38, 3) := by decide +kernel
theorem dX3_add_66 : decode cX3_add 66 = .ok (.iload 4, 2) := by decide +kernel
theorem dX3_add_68 : decode cX3_add 68 = .ok (.iaload, 1) := by decide +kernel
theorem dX3_add_69 : decode cX3_add 69 = .ok (.iastore, 1) := by decide +kernel
theorem dX3_add_70 : decode cX3_add 70 = .ok (.iinc 3 1, 3) := by decide +kernel
theorem dX3_add_73 : decode cX3_add 73 = .ok (.iinc 4 1, 3) := by decide +kernel
theorem dX3_add_76 : decode cX3_add 76 = .ok (.goto (-63), 3) := by decide +kernel
theorem dX3_add_79 : decode cX3_add 79 = .ok (.aload_n 0, 1) := by decide +kernel
theorem dX3_add_80 : decode cX3_add 80 = .ok (.getfield 11, 3) := by decide +kernel
theorem dX3_add_83 : decode cX3_add 83 = .ok (.aload_n 0, 1) := by decide +kernel
theorem dX3_add_84 : decode cX3_add 84 = .ok (.getfield 29, 3) := by decide +kernel
theorem dX3_add_87 : decode cX3_add 87 = .ok (.iload_n 2, 1) := by decide +kernel
theorem dX3_add_88 : decode cX3_add 88 = .ok (.iastore, 1) := by decide +kernel
theorem dX3_add_89 : decode cX3_add 89 = .ok (.aload_n 0, 1) := by decide +kernel
theorem dX3_add_90 : decode cX3_add 90 = .ok (.dup, 1) := by decide +kernel
theorem dX3_add_91 : decode cX3_add 91 = .ok (.getfield 29, 3) := by decide +kernel
theorem dX3_add_94 : decode cX3_add 94 = .ok (.iconst 1, 1) := by decide +kernel
theorem dX3_add_95 : decode cX3_add 95 = .ok (.iadd, 1) := by decide +kernel
theorem dX3_add_96 : decode cX3_add 96 = .ok (.putfield 29, 3) := by decide +kernel
theorem dX3_add_99 : decode cX3_add 99 = .ok (.aload_n 0, 1) := by decide +kernel
theorem dX3_add_100 : decode cX3_add 100 = .ok (.getfield 15, 3) := by decide +kernel
theorem dX3_add_103 : decode cX3_add 103 = .ok (.aload_n 0, 1) := by decide +kernel
theorem dX3_add_104 : decode cX3_add 104 = .ok (.getfield 29, 3) := by decide +kernel
theorem dX3_add_107 : decode cX3_add 107 = .ok (.iload_n 3, 1) := by decide +kernel
theorem dX3_add_108 : decode cX3_add 108 = .ok (.iastore, 1) := by decide +kernel
theorem dX3_add_109 : decode cX3_add 109 = .ok (.aload_n 0, 1) := by decide +kernel
theorem dX3_add_110 : decode cX3_add 110 = .ok (.getfield 29, 3) := by decide +kernel
theorem dX3_add_113 : decode cX3_add 113 = .ok (.iconst 1, 1) := by decide +kernel
theorem dX3_add_114 : decode cX3_add 114 = .ok (.isub, 1) := by decide +kernel
theorem dX3_add_115 : decode cX3_add 115 = .ok (.ireturn, 1) := by decide +kernel
theorem dX3_spanOn_0 : decode cX3_spanOn 0 = .ok (.aload_n 0, 1) := by decide +kernel
theorem dX3_spanOn_1 : decode cX3_spanOn 1 = .ok (.iload_n 2, 1) := by decide +kernel
theorem dX3_spanOn_2 : decode cX3_spanOn 2 = .ok (.invokevirtual 39, 3) := by decide +kernel
theorem dX3_spanOn_5 : decode cX3_spanOn 5 = .ok (.istore_n 3, 1) := by decide +kernel
theorem dX3_spanOn_6 : decode cX3_spanOn 6 = .ok (.iload_n 3, 1) := by decide +kernel
theorem dX3_spanOn_7 : decode cX3_spanOn 7 = .ok (.bipush (-9), 2) := by decide +kernel
theorem dX3_spanOn_9 : decode cX3_spanOn 9 = .ok (.if_icmp .ne 6, 3) := by decide +kernel
theorem dX3_spanOn_12 : decode cX3_spanOn 12 = .ok (.bipush 100, 2) := by decide +kernel
theorem dX3_spanOn_14 : decode cX3_spanOn 14 = .ok (.ireturn, 1) := by decide +kernel
theorem dX3_spanOn_15 : decode cX3_spanOn 15 = .ok (.aload_n 0, 1) := by decide +kernel
theorem dX3_spanOn_16 : decode cX3_spanOn 16 = .ok (.getfield 15, 3) := by decide +kernel
theorem dX3_spanOn_19 : decode cX3_spanOn 19 = .ok (.iload_n 3, 1) := by decide +kernel
theorem dX3_spanOn_20 : decode cX3_spanOn 20 = .ok (.iconst 1, 1) := by decide +kernel
theorem dX3_spanOn_21 : decode cX3_spanOn 21 = .ok (.iadd, 1) := by decide +kernel
theorem dX3_spanOn_22 : decode cX3_spanOn 22 = .ok (.iaload, 1) := by decide +kernel
theorem dX3_spanOn_23 : decode cX3_spanOn 23 = .ok (.iconst 1, 1) := by decide +kernel
theorem dX3_spanOn_24 : decode cX3_spanOn 24 = .ok (.isub, 1) := by decide +kernel
theorem dX3_spanOn_25 : decode cX3_spanOn 25 = .ok (.istore 4, 2) := by decide +kernel
theorem dX3_spanOn_27 : decode cX3_spanOn 27 = .ok (.iload 4, 2) := by decide +kernel
theorem dX3_spanOn_29 : decode cX3_spanOn 29 = .ok (.aload_n 0, 1) := by decide +kernel
theorem dX3_spanOn_30 : decode cX3_spanOn 30 = .ok (.getfield 15, 3) := by decide +kernel
theorem dX3_spanOn_33 : decode cX3_spanOn 33 = .ok (.iload_n 3, 1) := by decide +kernel
theorem dX3_spanOn_34 : decode cX3_spanOn 34 = .ok (.iaload, 1) := by decide +kernel
theorem dX3_spanOn_35 : decode cX3_spanOn 35 = .ok (.if_icmp .lt 39, 3) := by decide +kernel
theorem dX3_spanOn_38 : decode cX3_spanOn 38 = .ok (.aload_n 0, 1) := by decide +kernel
theorem dX3_spanOn_39 : decode cX3_spanOn 39 = .ok (.getfield 20, 3) := by decide +kernel
theorem dX3_spanOn_42 : decode cX3_spanOn 42 = .ok (.iload 4, 2) := by decide +kernel
theorem dX3_spanOn_44 : decode cX3_spanOn 44 = .ok (.iaload, 1) := by decide +kernel
theorem dX3_spanOn_45 : decode cX3_spanOn 45 = .ok (.iload_n 1, 1) := by decide +kernel
theorem dX3_spanOn_46 : decode cX3_spanOn 46 = .ok (.if_icmp .ne 22, 3) := by decide +kernel
theorem dX3_spanOn_49 : decode cX3_spanOn 49 = .ok (.aload_n 0, 1) := by decide +kernel
theorem dX3_spanOn_50 : decode cX3_spanOn 50 = .ok (.getfield 26, 3) := by decide +kernel
theorem dX3_spanOn_53 : decode cX3_spanOn 53 = .ok (.iload 4, 2) := by decide +kernel
theorem dX3_spanOn_55 : decode cX3_spanOn 55 = .ok (.iaload, 1) := by decide +kernel
theorem dX3_spanOn_56 : decode cX3_spanOn 56 = .ok (.iload_n 2, 1) := by decide +kernel
theorem dX3_spanOn_57 : decode cX3_spanOn 57 = .ok (.if_icmp .gt 11, 3) := by decide +kernel
theorem dX3_spanOn_60 : decode cX3_spanOn 60 = .ok (.aload_n 0, 1) := by decide +kernel
theorem dX3_spanOn_61 : decode cX3_spanOn 61 = .ok (.getfield 23, 3) := by decide +kernel
theorem dX3_spanOn_64 : decode cX3_spanOn 64 = .ok (.iload 4, 2) := by decide +kernel
theorem dX3_spanOn_66 : decode cX3_spanOn 66 = .ok (.iaload, 1) := by decide +kernel
theorem dX3_spanOn_67 : decode cX3_spanOn 67 = .ok (.ireturn, 1) := by decide +kernel
theorem dX3_spanOn_68 : decode cX3_spanOn 68 = .ok (.iinc 4 (-1), 3) := by decide +kernel
theorem dX3_spanOn_71 : decode cX3_spanOn 71 = .ok (.goto (-44), 3) := by decide +kernel
theorem dX3_spanOn_74 : decode cX3_spanOn 74 = .ok (.bipush 100, 2) := by decide +kernel
theorem dX3_spanOn_76 : decode cX3_spanOn 76 = .ok (.ireturn, 1) := by decide +kernel
theorem dX3_firstDue_0 : decode cX3_firstDue 0 = .ok (.iconst 1, 1) := by decide +kernel
theorem dX3_firstDue_1 : decode cX3_firstDue 1 = .ok (.istore_n 3, 1) := by decide +kernel
theorem dX3_firstDue_2 : decode cX3_firstDue 2 = .ok (.iload_n 3, 1) := by decide +kernel
theorem dX3_firstDue_3 : decode cX3_firstDue 3 = .ok (.sipush 200, 3) := by decide +kernel
theorem dX3_firstDue_6 : decode cX3_firstDue 6 = .ok (.if_icmp .ge 25, 3) := by decide +kernel
theorem dX3_firstDue_9 : decode cX3_firstDue 9 = .ok (.iload_n 3, 1) := by decide +kernel
theorem dX3_firstDue_10 : decode cX3_firstDue 10 = .ok (.aload_n 0, 1) := by decide +kernel
theorem dX3_firstDue_11 : decode cX3_firstDue 11 = .ok (.iload_n 1, 1) := by decide +kernel
theorem dX3_firstDue_12 : decode cX3_firstDue 12 = .ok (.iload_n 2, 1) := by decide +kernel
theorem dX3_firstDue_13 : decode cX3_firstDue 13 = .ok (.iload_n 3, 1) := by decide +kernel
theorem dX3_firstDue_14 : decode cX3_firstDue 14 = .ok (.iadd, 1) := by decide +kernel
theorem dX3_firstDue_15 : decode cX3_firstDue 15 = .ok (.invokevirtual 43, 3) := by decide +kernel
theorem dX3_firstDue_18 : decode cX3_firstDue 18 = .ok (.if_icmp .lt 7, 3) := by decide +kernel
theorem dX3_firstDue_21 : decode cX3_firstDue 21 = .ok (.iload_n 2, 1) := by decide +kernel
theorem dX3_firstDue_22 : decode cX3_firstDue 22 = .ok (.iload_n 3, 1) := by decide +kernel
theorem dX3_firstDue_23 : decode cX3_firstDue 23 = .ok (.iadd, 1) := by decide +kernel
theorem dX3_firstDue_24 : decode cX3_firstDue 24 = .ok (.ireturn, 1) := by decide +kernel
theorem dX3_firstDue_25 : decode cX3_firstDue 25 = .ok (.iinc 3 1, 3) := by decide +kernel
theorem dX3_firstDue_28 : decode cX3_firstDue 28 = .ok (.goto (-26), 3) := by decide +kernel
theorem dX3_firstDue_31 : decode cX3_firstDue 31 = .ok (.iload_n 2, 1) := by decide +kernel
theorem dX3_firstDue_32 : decode cX3_firstDue 32 = .ok (.sipush 200, 3) := by decide +kernel
theorem dX3_firstDue_35 : decode cX3_firstDue 35 = .ok (.iadd, 1) := by decide +kernel
theorem dX3_firstDue_36 : decode cX3_firstDue 36 = .ok (.ireturn, 1) := by decide +kernel
theorem dX3_inForce_0 : decode cX3_inForce 0 = .ok (.aload_n 0, 1) := by decide +kernel
theorem dX3_inForce_1 : decode cX3_inForce 1 = .ok (.getfield 29, 3) := by decide +kernel
theorem dX3_inForce_4 : decode cX3_inForce 4 = .ok (.iconst 1, 1) := by decide +kernel
theorem dX3_inForce_5 : decode cX3_inForce 5 = .ok (.isub, 1) := by decide +kernel
theorem dX3_inForce_6 : decode cX3_inForce 6 = .ok (.istore_n 2, 1) := by decide +kernel
theorem dX3_inForce_7 : decode cX3_inForce 7 = .ok (.iload_n 2, 1) := by decide +kernel
theorem dX3_inForce_8 : decode cX3_inForce 8 = .ok (.ifCond .lt 21, 3) := by decide +kernel
theorem dX3_inForce_11 : decode cX3_inForce 11 = .ok (.aload_n 0, 1) := by decide +kernel
theorem dX3_inForce_12 : decode cX3_inForce 12 = .ok (.getfield 11, 3) := by decide +kernel
theorem dX3_inForce_15 : decode cX3_inForce 15 = .ok (.iload_n 2, 1) := by decide +kernel
theorem dX3_inForce_16 : decode cX3_inForce 16 = .ok (.iaload, 1) := by decide +kernel
theorem dX3_inForce_17 : decode cX3_inForce 17 = .ok (.iload_n 1, 1) := by decide +kernel
theorem dX3_inForce_18 : decode cX3_inForce 18 = .ok (.if_icmp .gt 5, 3) := by decide +kernel
theorem dX3_inForce_21 : decode cX3_inForce 21 = .ok (.iload_n 2, 1) := by decide +kernel
theorem dX3_inForce_22 : decode cX3_inForce 22 = .ok (.ireturn, 1) := by decide +kernel
theorem dX3_inForce_23 : decode cX3_inForce 23 = .ok (.iinc 2 (-1), 3) := by decide +kernel
theorem dX3_inForce_26 : decode cX3_inForce 26 = .ok (.goto (-19), 3) := by decide +kernel
theorem dX3_inForce_29 : decode cX3_inForce 29 = .ok (.bipush (-9), 2) := by decide +kernel
theorem dX3_inForce_31 : decode cX3_inForce 31 = .ok (.ireturn, 1) := by decide +kernel
theorem dX4_init_0 : decode cX4_init 0 = .ok (.aload_n 0, 1) := by decide +kernel
theorem dX4_init_1 : decode cX4_init 1 = .ok (.invokespecial 3, 3) := by decide +kernel
theorem dX4_init_4 : decode cX4_init 4 = .ok (.aload_n 0, 1) := by decide +kernel
theorem dX4_init_5 : decode cX4_init 5 = .ok (.bipush 30, 2) := by decide +kernel
theorem dX4_init_7 : decode cX4_init 7 = .ok (.newarray .int, 2) := by decide +kernel
theorem dX4_init_9 : decode cX4_init 9 = .ok (.putfield 11, 3) := by decide +kernel
theorem dX4_init_12 : decode cX4_init 12 = .ok (.aload_n 0, 1) := by decide +kernel
theorem dX4_init_13 : decode cX4_init 13 = .ok (.bipush 30, 2) := by decide +kernel
theorem dX4_init_15 : decode cX4_init 15 = .ok (.newarray .int, 2) := by decide +kernel
theorem dX4_init_17 : decode cX4_init 17 = .ok (.putfield 15, 3) := by decide +kernel
theorem dX4_init_20 : decode cX4_init 20 = .ok (.aload_n 0, 1) := by decide +kernel
theorem dX4_init_21 : decode cX4_init 21 = .ok (.bipush 30, 2) := by decide +kernel
theorem dX4_init_23 : decode cX4_init 23 = .ok (.newarray .int, 2) := by decide +kernel
theorem dX4_init_25 : decode cX4_init 25 = .ok (.putfield 18, 3) := by decide +kernel
theorem dX4_init_28 : decode cX4_init 28 = .ok (.aload_n 0, 1) := by decide +kernel
theorem dX4_init_29 : decode cX4_init 29 = .ok (.bipush 30, 2) := by decide +kernel
theorem dX4_init_31 : decode cX4_init 31 = .ok (.newarray .int, 2) := by decide +kernel
theorem dX4_init_33 : decode cX4_init 33 = .ok (.putfield 21, 3) := by decide +kernel
theorem dX4_init_36 : decode cX4_init 36 = .ok (.aload_n 0, 1) := by decide +kernel
theorem dX4_init_37 : decode cX4_init 37 = .ok (.iconst 0, 1) := by decide +kernel
theorem dX4_init_38 : decode cX4_init 38 = .ok (.putfield 24, 3) := by decide +kernel
theorem dX4_init_41 : decode cX4_init 41 = .ok (.return_, 1) := by decide +kernel
theorem dX4_isFull_0 : decode cX4_isFull 0 = .ok (.aload_n 0, 1) := by decide +kernel
theorem dX4_isFull_1 : decode cX4_isFull 1 = .ok (.getfield 24, 3) := by decide +kernel
theorem dX4_isFull_4 : decode cX4_isFull 4 = .ok (.bipush 30, 2) := by decide +kernel
theorem dX4_isFull_6 : decode cX4_isFull 6 = .ok (.if_icmp .lt 7, 3) := by decide +kernel
theorem dX4_isFull_9 : decode cX4_isFull 9 = .ok (.iconst 1, 1) := by decide +kernel
theorem dX4_isFull_10 : decode cX4_isFull 10 = .ok (.goto 4, 3) := by decide +kernel
theorem dX4_isFull_13 : decode cX4_isFull 13 = .ok (.iconst 0, 1) := by decide +kernel
theorem dX4_isFull_14 : decode cX4_isFull 14 = .ok (.ireturn, 1) := by decide +kernel
theorem dX4_add_0 : decode cX4_add 0 = .ok (.aload_n 0, 1) := by decide +kernel
theorem dX4_add_1 : decode cX4_add 1 = .ok (.getfield 11, 3) := by decide +kernel
theorem dX4_add_4 : decode cX4_add 4 = .ok (.aload_n 0, 1) := by decide +kernel
theorem dX4_add_5 : decode cX4_add 5 = .ok (.getfield 24, 3) := by decide +kernel
theorem dX4_add_8 : decode cX4_add 8 = .ok (.iload_n 1, 1) := by decide +kernel
theorem dX4_add_9 : decode cX4_add 9 = .ok (.iastore, 1) := by decide +kernel
theorem dX4_add_10 : decode cX4_add 10 = .ok (.aload_n 0, 1) := by decide +kernel
theorem dX4_add_11 : decode cX4_add 11 = .ok (.getfield 15, 3) := by decide +kernel
theorem dX4_add_14 : decode cX4_add 14 = .ok (.aload_n 0, 1) := by decide +kernel
theorem dX4_add_15 : decode cX4_add 15 = .ok (.getfield 24, 3) := by decide +kernel
theorem dX4_add_18 : decode cX4_add 18 = .ok (.iload_n 2, 1) := by decide +kernel
theorem dX4_add_19 : decode cX4_add 19 = .ok (.iastore, 1) := by decide +kernel
theorem dX4_add_20 : decode cX4_add 20 = .ok (.aload_n 0, 1) := by decide +kernel
theorem dX4_add_21 : decode cX4_add 21 = .ok (.getfield 18, 3) := by decide +kernel
theorem dX4_add_24 : decode cX4_add 24 = .ok (.aload_n 0, 1) := by decide +kernel
theorem dX4_add_25 : decode cX4_add 25 = .ok (.getfield 24, 3) := by decide +kernel
theorem dX4_add_28 : decode cX4_add 28 = .ok (.iload_n 3, 1) := by decide +kernel
theorem dX4_add_29 : decode cX4_add 29 = .ok (.iastore, 1) := by decide +kernel
theorem dX4_add_30 : decode cX4_add 30 = .ok (.aload_n 0, 1) := by decide +kernel
theorem dX4_add_31 : decode cX4_add 31 = .ok (.getfield 21, 3) := by decide +kernel
theorem dX4_add_34 : decode cX4_add 34 = .ok (.aload_n 0, 1) := by decide +kernel
theorem dX4_add_35 : decode cX4_add 35 = .ok (.getfield 24, 3) := by decide +kernel
theorem dX4_add_38 : decode cX4_add 38 = .ok (.iload 4, 2) := by decide +kernel
theorem dX4_add_40 : decode cX4_add 40 = .ok (.ifCond .eq 7, 3) := by decide +kernel
theorem dX4_add_43 : decode cX4_add 43 = .ok (.iconst 1, 1) := by decide +kernel
theorem dX4_add_44 : decode cX4_add 44 = .ok (.goto 4, 3) := by decide +kernel
theorem dX4_add_47 : decode cX4_add 47 = .ok (.iconst 0, 1) := by decide +kernel
theorem dX4_add_48 : decode cX4_add 48 = .ok (.iastore, 1) := by decide +kernel
theorem dX4_add_49 : decode cX4_add 49 = .ok (.aload_n 0, 1) := by decide +kernel
theorem dX4_add_50 : decode cX4_add 50 = .ok (.dup, 1) := by decide +kernel
theorem dX4_add_51 : decode cX4_add 51 = .ok (.getfield 24, 3) := by decide +kernel
theorem dX4_add_54 : decode cX4_add 54 = .ok (.iconst 1, 1) := by decide +kernel
theorem dX4_add_55 : decode cX4_add 55 = .ok (.iadd, 1) := by decide +kernel
theorem dX4_add_56 : decode cX4_add 56 = .ok (.putfield 24, 3) := by decide +kernel
theorem dX4_add_59 : decode cX4_add 59 = .ok (.aload_n 0, 1) := by decide +kernel
theorem dX4_add_60 : decode cX4_add 60 = .ok (.getfield 24, 3) := by decide +kernel
theorem dX4_add_63 : decode cX4_add 63 = .ok (.iconst 1, 1) := by decide +kernel
theorem dX4_add_64 : decode cX4_add 64 = .ok (.isub, 1) := by decide +kernel
theorem dX4_add_65 : decode cX4_add 65 = .ok (.ireturn, 1) := by decide +kernel
theorem dX4_asKnown_0 : decode cX4_asKnown 0 = .ok (.bipush (-9), 2) := by decide +kernel
theorem dX4_asKnown_2 : decode cX4_asKnown 2 = .ok (.istore_n 3, 1) := by decide +kernel
theorem dX4_asKnown_3 : decode cX4_asKnown 3 = .ok (.iconst (-1), 1) := by decide +kernel
theorem dX4_asKnown_4 : decode cX4_asKnown 4 = .ok (.istore 4, 2) := by decide +kernel
theorem dX4_asKnown_6 : decode cX4_asKnown 6 = .ok (.iconst 0, 1) := by decide +kernel
theorem dX4_asKnown_7 : decode cX4_asKnown 7 = .ok (.istore 5, 2) := by decide +kernel
theorem dX4_asKnown_9 : decode cX4_asKnown 9 = .ok (.iload 5, 2) := by decide +kernel
theorem dX4_asKnown_11 : decode cX4_asKnown 11 = .ok (.aload_n 0, 1) := by decide +kernel
theorem dX4_asKnown_12 : decode cX4_asKnown 12 = .ok (.getfield 24, 3) := by decide +kernel
theorem dX4_asKnown_15 : decode cX4_asKnown 15 = .ok (.if_icmp .ge 83, 3) := by decide +kernel
theorem dX4_asKnown_18 : decode cX4_asKnown 18 = .ok (.aload_n 0, 1) := by decide +kernel
theorem dX4_asKnown_19 : decode cX4_asKnown 19 = .ok (.getfield 11, 3) := by decide +kernel
theorem dX4_asKnown_22 : decode cX4_asKnown 22 = .ok (.iload 5, 2) := by decide +kernel
theorem dX4_asKnown_24 : decode cX4_asKnown 24 = .ok (.iaload, 1) := by decide +kernel
theorem dX4_asKnown_25 : decode cX4_asKnown 25 = .ok (.iload_n 1, 1) := by decide +kernel
theorem dX4_asKnown_26 : decode cX4_asKnown 26 = .ok (.if_icmp .ne 29, 3) := by decide +kernel
theorem dX4_asKnown_29 : decode cX4_asKnown 29 = .ok (.aload_n 0, 1) := by decide +kernel
theorem dX4_asKnown_30 : decode cX4_asKnown 30 = .ok (.getfield 18, 3) := by decide +kernel
theorem dX4_asKnown_33 : decode cX4_asKnown 33 = .ok (.iload 5, 2) := by decide +kernel
theorem dX4_asKnown_35 : decode cX4_asKnown 35 = .ok (.iaload, 1) := by decide +kernel
theorem dX4_asKnown_36 : decode cX4_asKnown 36 = .ok (.iload_n 2, 1) := by decide +kernel
theorem dX4_asKnown_37 : decode cX4_asKnown 37 = .ok (.if_icmp .gt 18, 3) := by decide +kernel
theorem dX4_asKnown_40 : decode cX4_asKnown 40 = .ok (.aload_n 0, 1) := by decide +kernel
theorem dX4_asKnown_41 : decode cX4_asKnown 41 = .ok (.getfield 15, 3) := by decide +kernel
theorem dX4_asKnown_44 : decode cX4_asKnown 44 = .ok (.iload 5, 2) := by decide +kernel
theorem dX4_asKnown_46 : decode cX4_asKnown 46 = .ok (.iaload, 1) := by decide +kernel
theorem dX4_asKnown_47 : decode cX4_asKnown 47 = .ok (.iload_n 2, 1) := by decide +kernel
theorem dX4_asKnown_48 : decode cX4_asKnown 48 = .ok (.if_icmp .gt 7, 3) := by decide +kernel
theorem dX4_asKnown_51 : decode cX4_asKnown 51 = .ok (.iconst 1, 1) := by decide +kernel
theorem dX4_asKnown_52 : decode cX4_asKnown 52 = .ok (.goto 4, 3) := by decide +kernel
theorem dX4_asKnown_55 : decode cX4_asKnown 55 = .ok (.iconst 0, 1) := by decide +kernel
theorem dX4_asKnown_56 : decode cX4_asKnown 56 = .ok (.istore 6, 2) := by decide +kernel
theorem dX4_asKnown_58 : decode cX4_asKnown 58 = .ok (.iload 6, 2) := by decide +kernel
theorem dX4_asKnown_60 : decode cX4_asKnown 60 = .ok (.ifCond .eq 32, 3) := by decide +kernel
theorem dX4_asKnown_63 : decode cX4_asKnown 63 = .ok (.aload_n 0, 1) := by decide +kernel
theorem dX4_asKnown_64 : decode cX4_asKnown 64 = .ok (.getfield 15, 3) := by decide +kernel
theorem dX4_asKnown_67 : decode cX4_asKnown 67 = .ok (.iload 5, 2) := by decide +kernel
theorem dX4_asKnown_69 : decode cX4_asKnown 69 = .ok (.iaload, 1) := by decide +kernel
theorem dX4_asKnown_70 : decode cX4_asKnown 70 = .ok (.iload 4, 2) := by decide +kernel
theorem dX4_asKnown_72 : decode cX4_asKnown 72 = .ok (.if_icmp .lt 20, 3) := by decide +kernel
theorem dX4_asKnown_75 : decode cX4_asKnown 75 = .ok (.aload_n 0, 1) := by decide +kernel
theorem dX4_asKnown_76 : decode cX4_asKnown 76 = .ok (.getfield 21, 3) := by decide +kernel
theorem dX4_asKnown_79 : decode cX4_asKnown 79 = .ok (.iload 5, 2) := by decide +kernel
theorem dX4_asKnown_81 : decode cX4_asKnown 81 = .ok (.iaload, 1) := by decide +kernel
theorem dX4_asKnown_82 : decode cX4_asKnown 82 = .ok (.istore_n 3, 1) := by decide +kernel
theorem dX4_asKnown_83 : decode cX4_asKnown 83 = .ok (.aload_n 0, 1) := by decide +kernel
theorem dX4_asKnown_84 : decode cX4_asKnown 84 = .ok (.getfield 15, 3) := by decide +kernel
theorem dX4_asKnown_87 : decode cX4_asKnown 87 = .ok (.iload 5, 2) := by decide +kernel
theorem dX4_asKnown_89 : decode cX4_asKnown 89 = .ok (.iaload, 1) := by decide +kernel
theorem dX4_asKnown_90 : decode cX4_asKnown 90 = .ok (.istore 4, 2) := by decide +kernel
theorem dX4_asKnown_92 : decode cX4_asKnown 92 = .ok (.iinc 5 1, 3) := by decide +kernel
theorem dX4_asKnown_95 : decode cX4_asKnown 95 = .ok (.goto (-86), 3) := by decide +kernel
theorem dX4_asKnown_98 : decode cX4_asKnown 98 = .ok (.iload_n 3, 1) := by decide +kernel
theorem dX4_asKnown_99 : decode cX4_asKnown 99 = .ok (.ireturn, 1) := by decide +kernel
theorem dX5_init_0 : decode cX5_init 0 = .ok (.aload_n 0, 1) := by decide +kernel
theorem dX5_init_1 : decode cX5_init 1 = .ok (.invokespecial 3, 3) := by decide +kernel
theorem dX5_init_4 : decode cX5_init 4 = .ok (.aload_n 0, 1) := by decide +kernel
theorem dX5_init_5 : decode cX5_init 5 = .ok (.bipush 100, 2) := by decide +kernel
theorem dX5_init_7 : decode cX5_init 7 = .ok (.newarray .int, 2) := by decide +kernel
theorem dX5_init_9 : decode cX5_init 9 = .ok (.putfield 11, 3) := by decide +kernel
theorem dX5_init_12 : decode cX5_init 12 = .ok (.aload_n 0, 1) := by decide +kernel
theorem dX5_init_13 : decode cX5_init 13 = .ok (.bipush 100, 2) := by decide +kernel
theorem dX5_init_15 : decode cX5_init 15 = .ok (.newarray .int, 2) := by decide +kernel
theorem dX5_init_17 : decode cX5_init 17 = .ok (.putfield 15, 3) := by decide +kernel
theorem dX5_init_20 : decode cX5_init 20 = .ok (.aload_n 0, 1) := by decide +kernel
theorem dX5_init_21 : decode cX5_init 21 = .ok (.bipush 100, 2) := by decide +kernel
theorem dX5_init_23 : decode cX5_init 23 = .ok (.newarray .int, 2) := by decide +kernel
theorem dX5_init_25 : decode cX5_init 25 = .ok (.putfield 18, 3) := by decide +kernel
theorem dX5_init_28 : decode cX5_init 28 = .ok (.aload_n 0, 1) := by decide +kernel
theorem dX5_init_29 : decode cX5_init 29 = .ok (.bipush 100, 2) := by decide +kernel
theorem dX5_init_31 : decode cX5_init 31 = .ok (.newarray .int, 2) := by decide +kernel
theorem dX5_init_33 : decode cX5_init 33 = .ok (.putfield 21, 3) := by decide +kernel
theorem dX5_init_36 : decode cX5_init 36 = .ok (.aload_n 0, 1) := by decide +kernel
theorem dX5_init_37 : decode cX5_init 37 = .ok (.iconst 0, 1) := by decide +kernel
theorem dX5_init_38 : decode cX5_init 38 = .ok (.putfield 24, 3) := by decide +kernel
theorem dX5_init_41 : decode cX5_init 41 = .ok (.return_, 1) := by decide +kernel
theorem dX5_isFull_0 : decode cX5_isFull 0 = .ok (.aload_n 0, 1) := by decide +kernel
theorem dX5_isFull_1 : decode cX5_isFull 1 = .ok (.getfield 24, 3) := by decide +kernel
theorem dX5_isFull_4 : decode cX5_isFull 4 = .ok (.bipush 100, 2) := by decide +kernel
theorem dX5_isFull_6 : decode cX5_isFull 6 = .ok (.if_icmp .lt 7, 3) := by decide +kernel
theorem dX5_isFull_9 : decode cX5_isFull 9 = .ok (.iconst 1, 1) := by decide +kernel
theorem dX5_isFull_10 : decode cX5_isFull 10 = .ok (.goto 4, 3) := by decide +kernel
theorem dX5_isFull_13 : decode cX5_isFull 13 = .ok (.iconst 0, 1) := by decide +kernel
theorem dX5_isFull_14 : decode cX5_isFull 14 = .ok (.ireturn, 1) := by decide +kernel
theorem dX5_add_0 : decode cX5_add 0 = .ok (.aload_n 0, 1) := by decide +kernel
theorem dX5_add_1 : decode cX5_add 1 = .ok (.getfield 11, 3) := by decide +kernel
theorem dX5_add_4 : decode cX5_add 4 = .ok (.aload_n 0, 1) := by decide +kernel
theorem dX5_add_5 : decode cX5_add 5 = .ok (.getfield 24, 3) := by decide +kernel
theorem dX5_add_8 : decode cX5_add 8 = .ok (.iload_n 1, 1) := by decide +kernel
theorem dX5_add_9 : decode cX5_add 9 = .ok (.iastore, 1) := by decide +kernel
theorem dX5_add_10 : decode cX5_add 10 = .ok (.aload_n 0, 1) := by decide +kernel
theorem dX5_add_11 : decode cX5_add 11 = .ok (.getfield 15, 3) := by decide +kernel
theorem dX5_add_14 : decode cX5_add 14 = .ok (.aload_n 0, 1) := by decide +kernel
theorem dX5_add_15 : decode cX5_add 15 = .ok (.getfield 24, 3) := by decide +kernel
theorem dX5_add_18 : decode cX5_add 18 = .ok (.iload_n 2, 1) := by decide +kernel
theorem dX5_add_19 : decode cX5_add 19 = .ok (.iastore, 1) := by decide +kernel
theorem dX5_add_20 : decode cX5_add 20 = .ok (.aload_n 0, 1) := by decide +kernel
theorem dX5_add_21 : decode cX5_add 21 = .ok (.getfield 18, 3) := by decide +kernel
theorem dX5_add_24 : decode cX5_add 24 = .ok (.aload_n 0, 1) := by decide +kernel
theorem dX5_add_25 : decode cX5_add 25 = .ok (.getfield 24, 3) := by decide +kernel
theorem dX5_add_28 : decode cX5_add 28 = .ok (.iload_n 3, 1) := by decide +kernel
theorem dX5_add_29 : decode cX5_add 29 = .ok (.iastore, 1) := by decide +kernel
theorem dX5_add_30 : decode cX5_add 30 = .ok (.aload_n 0, 1) := by decide +kernel
theorem dX5_add_31 : decode cX5_add 31 = .ok (.getfield 21, 3) := by decide +kernel
theorem dX5_add_34 : decode cX5_add 34 = .ok (.aload_n 0, 1) := by decide +kernel
theorem dX5_add_35 : decode cX5_add 35 = .ok (.getfield 24, 3) := by decide +kernel
theorem dX5_add_38 : decode cX5_add 38 = .ok (.iload 4, 2) := by decide +kernel
theorem dX5_add_40 : decode cX5_add 40 = .ok (.iastore, 1) := by decide +kernel
theorem dX5_add_41 : decode cX5_add 41 = .ok (.aload_n 0, 1) := by decide +kernel
theorem dX5_add_42 : decode cX5_add 42 = .ok (.dup, 1) := by decide +kernel
theorem dX5_add_43 : decode cX5_add 43 = .ok (.getfield 24, 3) := by decide +kernel
theorem dX5_add_46 : decode cX5_add 46 = .ok (.iconst 1, 1) := by decide +kernel
theorem dX5_add_47 : decode cX5_add 47 = .ok (.iadd, 1) := by decide +kernel
theorem dX5_add_48 : decode cX5_add 48 = .ok (.putfield 24, 3) := by decide +kernel
theorem dX5_add_51 : decode cX5_add 51 = .ok (.return_, 1) := by decide +kernel
theorem dX5_latest_0 : decode cX5_latest 0 = .ok (.aload_n 0, 1) := by decide +kernel
theorem dX5_latest_1 : decode cX5_latest 1 = .ok (.getfield 24, 3) := by decide +kernel
theorem dX5_latest_4 : decode cX5_latest 4 = .ok (.iconst 1, 1) := by decide +kernel
theorem dX5_latest_5 : decode cX5_latest 5 = .ok (.isub, 1) := by decide +kernel
theorem dX5_latest_6 : decode cX5_latest 6 = .ok (.istore_n 3, 1) := by decide +kernel
theorem dX5_latest_7 : decode cX5_latest 7 = .ok (.iload_n 3, 1) := by decide +kernel
theorem dX5_latest_8 : decode cX5_latest 8 = .ok (.ifCond .lt 31, 3) := by decide +kernel
theorem dX5_latest_11 : decode cX5_latest 11 = .ok (.aload_n 0, 1) := by decide +kernel
theorem dX5_latest_12 : decode cX5_latest 12 = .ok (.getfield 11, 3) := by decide +kernel
theorem dX5_latest_15 : decode cX5_latest 15 = .ok (.iload_n 3, 1) := by decide +kernel
theorem dX5_latest_16 : decode cX5_latest 16 = .ok (.iaload, 1) := by decide +kernel
theorem dX5_latest_17 : decode cX5_latest 17 = .ok (.iload_n 1, 1) := by decide +kernel
theorem dX5_latest_18 : decode cX5_latest 18 = .ok (.if_icmp .ne 15, 3) := by decide +kernel
theorem dX5_latest_21 : decode cX5_latest 21 = .ok (.aload_n 0, 1) := by decide +kernel
theorem dX5_latest_22 : decode cX5_latest 22 = .ok (.getfield 15, 3) := by decide +kernel
theorem dX5_latest_25 : decode cX5_latest 25 = .ok (.iload_n 3, 1) := by decide +kernel
theorem dX5_latest_26 : decode cX5_latest 26 = .ok (.iaload, 1) := by decide +kernel
theorem dX5_latest_27 : decode cX5_latest 27 = .ok (.iload_n 2, 1) := by decide +kernel
theorem dX5_latest_28 : decode cX5_latest 28 = .ok (.if_icmp .gt 5, 3) := by decide +kernel
theorem dX5_latest_31 : decode cX5_latest 31 = .ok (.iload_n 3, 1) := by decide +kernel
theorem dX5_latest_32 : decode cX5_latest 32 = .ok (.ireturn, 1) := by decide +kernel
theorem dX5_latest_33 : decode cX5_latest 33 = .ok (.iinc 3 (-1), 3) := by decide +kernel
theorem dX5_latest_36 : decode cX5_latest 36 = .ok (.goto (-29), 3) := by decide +kernel
theorem dX5_latest_39 : decode cX5_latest 39 = .ok (.bipush (-9), 2) := by decide +kernel
theorem dX5_latest_41 : decode cX5_latest 41 = .ok (.ireturn, 1) := by decide +kernel
theorem dX5_earnedBy_0 : decode cX5_earnedBy 0 = .ok (.iconst 0, 1) := by decide +kernel
theorem dX5_earnedBy_1 : decode cX5_earnedBy 1 = .ok (.istore_n 2, 1) := by decide +kernel
theorem dX5_earnedBy_2 : decode cX5_earnedBy 2 = .ok (.iconst 0, 1) := by decide +kernel
theorem dX5_earnedBy_3 : decode cX5_earnedBy 3 = .ok (.istore_n 3, 1) := by decide +kernel
theorem dX5_earnedBy_4 : decode cX5_earnedBy 4 = .ok (.iload_n 3, 1) := by decide +kernel
theorem dX5_earnedBy_5 : decode cX5_earnedBy 5 = .ok (.aload_n 0, 1) := by decide +kernel
theorem dX5_earnedBy_6 : decode cX5_earnedBy 6 = .ok (.getfield 24, 3) := by decide +kernel
theorem dX5_earnedBy_9 : decode cX5_earnedBy 9 = .ok (.if_icmp .ge 28, 3) := by decide +kernel
theorem dX5_earnedBy_12 : decode cX5_earnedBy 12 = .ok (.aload_n 0, 1) := by decide +kernel
theorem dX5_earnedBy_13 : decode cX5_earnedBy 13 = .ok (.getfield 18, 3) := by decide +kernel
theorem dX5_earnedBy_16 : decode cX5_earnedBy 16 = .ok (.iload_n 3, 1) := by decide +kernel
theorem dX5_earnedBy_17 : decode cX5_earnedBy 17 = .ok (.iaload, 1) := by decide +kernel
theorem dX5_earnedBy_18 : decode cX5_earnedBy 18 = .ok (.iload_n 1, 1) := by decide +kernel
theorem dX5_earnedBy_19 : decode cX5_earnedBy 19 = .ok (.if_icmp .ne 12, 3) := by decide +kernel
theorem dX5_earnedBy_22 : decode cX5_earnedBy 22 = .ok (.iload_n 2, 1) := by decide +kernel
theorem dX5_earnedBy_23 : decode cX5_earnedBy 23 = .ok (.aload_n 0, 1) := by decide +kernel
theorem dX5_earnedBy_24 : decode cX5_earnedBy 24 = .ok (.getfield 21, 3) := by decide +kernel
theorem dX5_earnedBy_27 : decode cX5_earnedBy 27 = .ok (.iload_n 3, 1) := by decide +kernel
theorem dX5_earnedBy_28 : decode cX5_earnedBy 28 = .ok (.iaload, 1) := by decide +kernel
theorem dX5_earnedBy_29 : decode cX5_earnedBy 29 = .ok (.iadd, 1) := by decide +kernel
theorem dX5_earnedBy_30 : decode cX5_earnedBy 30 = .ok (.istore_n 2, 1) := by decide +kernel
theorem dX5_earnedBy_31 : decode cX5_earnedBy 31 = .ok (.iinc 3 1, 3) := by decide +kernel
theorem dX5_earnedBy_34 : decode cX5_earnedBy 34 = .ok (.goto (-30), 3) := by decide +kernel
theorem dX5_earnedBy_37 : decode cX5_earnedBy 37 = .ok (.iload_n 2, 1) := by decide +kernel
theorem dX5_earnedBy_38 : decode cX5_earnedBy 38 = .ok (.ireturn, 1) := by decide +kernel
theorem dX5_doneBy_0 : decode cX5_doneBy 0 = .ok (.iconst 0, 1) := by decide +kernel
theorem dX5_doneBy_1 : decode cX5_doneBy 1 = .ok (.istore_n 2, 1) := by decide +kernel
theorem dX5_doneBy_2 : decode cX5_doneBy 2 = .ok (.iconst 0, 1) := by decide +kernel
theorem dX5_doneBy_3 : decode cX5_doneBy 3 = .ok (.istore_n 3, 1) := by decide +kernel
theorem dX5_doneBy_4 : decode cX5_doneBy 4 = .ok (.iload_n 3, 1) := by decide +kernel
theorem dX5_doneBy_5 : decode cX5_doneBy 5 = .ok (.aload_n 0, 1) := by decide +kernel
theorem dX5_doneBy_6 : decode cX5_doneBy 6 = .ok (.getfield 24, 3) := by decide +kernel
theorem dX5_doneBy_9 : decode cX5_doneBy 9 = .ok (.if_icmp .ge 22, 3) := by decide +kernel
theorem dX5_doneBy_12 : decode cX5_doneBy 12 = .ok (.aload_n 0, 1) := by decide +kernel
theorem dX5_doneBy_13 : decode cX5_doneBy 13 = .ok (.getfield 18, 3) := by decide +kernel
theorem dX5_doneBy_16 : decode cX5_doneBy 16 = .ok (.iload_n 3, 1) := by decide +kernel
theorem dX5_doneBy_17 : decode cX5_doneBy 17 = .ok (.iaload, 1) := by decide +kernel
theorem dX5_doneBy_18 : decode cX5_doneBy 18 = .ok (.iload_n 1, 1) := by decide +kernel
theorem dX5_doneBy_19 : decode cX5_doneBy 19 = .ok (.if_icmp .ne 6, 3) := by decide +kernel
theorem dX5_doneBy_22 : decode cX5_doneBy 22 = .ok (.iinc 2 1, 3) := by decide +kernel
theorem dX5_doneBy_25 : decode cX5_doneBy 25 = .ok (.iinc 3 1, 3) := by decide +kernel
theorem dX5_doneBy_28 : decode cX5_doneBy 28 = .ok (.goto (-24), 3) := by decide +kernel
theorem dX5_doneBy_31 : decode cX5_doneBy 31 = .ok (.iload_n 2, 1) := by decide +kernel
theorem dX5_doneBy_32 : decode cX5_doneBy 32 = .ok (.ireturn, 1) := by decide +kernel
theorem dX6_init_0 : decode cX6_init 0 = .ok (.aload_n 0, 1) := by decide +kernel
theorem dX6_init_1 : decode cX6_init 1 = .ok (.invokespecial 3, 3) := by decide +kernel
theorem dX6_init_4 : decode cX6_init 4 = .ok (.aload_n 0, 1) := by decide +kernel
theorem dX6_init_5 : decode cX6_init 5 = .ok (.bipush 6, 2) := by decide +kernel
theorem dX6_init_7 : decode cX6_init 7 = .ok (.newarray .int, 2) := by decide +kernel
theorem dX6_init_9 : decode cX6_init 9 = .ok (.putfield 11, 3) := by decide +kernel
theorem dX6_init_12 : decode cX6_init 12 = .ok (.aload_n 0, 1) := by decide +kernel
theorem dX6_init_13 : decode cX6_init 13 = .ok (.bipush 6, 2) := by decide +kernel
theorem dX6_init_15 : decode cX6_init 15 = .ok (.newarray .int, 2) := by decide +kernel
theorem dX6_init_17 : decode cX6_init 17 = .ok (.putfield 15, 3) := by decide +kernel
theorem dX6_init_20 : decode cX6_init 20 = .ok (.aload_n 0, 1) := by decide +kernel
theorem dX6_init_21 : decode cX6_init 21 = .ok (.bipush 6, 2) := by decide +kernel
theorem dX6_init_23 : decode cX6_init 23 = .ok (.newarray .int, 2) := by decide +kernel
theorem dX6_init_25 : decode cX6_init 25 = .ok (.putfield 18, 3) := by decide +kernel
theorem dX6_init_28 : decode cX6_init 28 = .ok (.aload_n 0, 1) := by decide +kernel
theorem dX6_init_29 : decode cX6_init 29 = .ok (.bipush 6, 2) := by decide +kernel
theorem dX6_init_31 : decode cX6_init 31 = .ok (.newarray .boolean, 2) := by decide +kernel
theorem dX6_init_33 : decode cX6_init 33 = .ok (.putfield 21, 3) := by decide +kernel
theorem dX6_init_36 : decode cX6_init 36 = .ok (.aload_n 0, 1) := by decide +kernel
theorem dX6_init_37 : decode cX6_init 37 = .ok (.bipush 6, 2) := by decide +kernel
theorem dX6_init_39 : decode cX6_init 39 = .ok (.newarray .int, 2) := by decide +kernel
theorem dX6_init_41 : decode cX6_init 41 = .ok (.putfield 25, 3) := by decide +kernel
theorem dX6_init_44 : decode cX6_init 44 = .ok (.aload_n 0, 1) := by decide +kernel
theorem dX6_init_45 : decode cX6_init 45 = .ok (.bipush 6, 2) := by decide +kernel
theorem dX6_init_47 : decode cX6_init 47 = .ok (.newarray .int, 2) := by decide +kernel
theorem dX6_init_49 : decode cX6_init 49 = .ok (.putfield 28, 3) := by decide +kernel
theorem dX6_init_52 : decode cX6_init 52 = .ok (.aload_n 0, 1) := by decide +kernel
theorem dX6_init_53 : decode cX6_init 53 = .ok (.iconst 0, 1) := by decide +kernel
theorem dX6_init_54 : decode cX6_init 54 = .ok (.putfield 31, 3) := by decide +kernel
theorem dX6_init_57 : decode cX6_init 57 = .ok (.aload_n 0, 1) := by decide +kernel
theorem dX6_init_58 : decode cX6_init 58 = .ok (.iconst 0, 1) := by decide +kernel
theorem dX6_init_59 : decode cX6_init 59 = .ok (.putfield 35, 3) := by decide +kernel
theorem dX6_init_62 : decode cX6_init 62 = .ok (.return_, 1) := by decide +kernel
theorem dX6_restart_0 : decode cX6_restart 0 = .ok (.aload_n 0, 1) := by decide +kernel
theorem dX6_restart_1 : decode cX6_restart 1 = .ok (.iconst 0, 1) := by decide +kernel
theorem dX6_restart_2 : decode cX6_restart 2 = .ok (.putfield 31, 3) := by decide +kernel
theorem dX6_restart_5 : decode cX6_restart 5 = .ok (.return_, 1) := by decide +kernel
theorem dX6_addStop_0 : decode cX6_addStop 0 = .ok (.aload_n 0, 1) := by decide +kernel
theorem dX6_addStop_1 : decode cX6_addStop 1 = .ok (.getfield 31, 3) := by decide +kernel
theorem dX6_addStop_4 : decode cX6_addStop 4 = .ok (.bipush 6, 2) := by decide +kernel
theorem dX6_addStop_6 : decode cX6_addStop 6 = .ok (.if_icmp .ge 43, 3) := by decide +kernel
theorem dX6_addStop_9 : decode cX6_addStop 9 = .ok (.aload_n 0, 1) := by decide +kernel
theorem dX6_addStop_10 : decode cX6_addStop 10 = .ok (.getfield 11, 3) := by decide +kernel
theorem dX6_addStop_13 : decode cX6_addStop 13 = .ok (.aload_n 0, 1) := by decide +kernel
theorem dX6_addStop_14 : decode cX6_addStop 14 = .ok (.getfield 31, 3) := by decide +kernel
theorem dX6_addStop_17 : decode cX6_addStop 17 = .ok (.iload_n 1, 1) := by decide +kernel
theorem dX6_addStop_18 : decode cX6_addStop 18 = .ok (.iastore, 1) := by decide +kernel
theorem dX6_addStop_19 : decode cX6_addStop 19 = .ok (.aload_n 0, 1) := by decide +kernel
theorem dX6_addStop_20 : decode cX6_addStop 20 = .ok (.getfield 15, 3) := by decide +kernel
theorem dX6_addStop_23 : decode cX6_addStop 23 = .ok (.aload_n 0, 1) := by decide +kernel
theorem dX6_addStop_24 : decode cX6_addStop 24 = .ok (.getfield 31, 3) := by decide +kernel
theorem dX6_addStop_27 : decode cX6_addStop 27 = .ok (.iload_n 2, 1) := by decide +kernel
theorem dX6_addStop_28 : decode cX6_addStop 28 = .ok (.iastore, 1) := by decide +kernel
theorem dX6_addStop_29 : decode cX6_addStop 29 = .ok (.aload_n 0, 1) := by decide +kernel
theorem dX6_addStop_30 : decode cX6_addStop 30 = .ok (.getfield 18, 3) := by decide +kernel
theorem dX6_addStop_33 : decode cX6_addStop 33 = .ok (.aload_n 0, 1) := by decide +kernel
theorem dX6_addStop_34 : decode cX6_addStop 34 = .ok (.getfield 31, 3) := by decide +kernel
theorem dX6_addStop_37 : decode cX6_addStop 37 = .ok (.iload_n 3, 1) := by decide +kernel
theorem dX6_addStop_38 : decode cX6_addStop 38 = .ok (.iastore, 1) := by decide +kernel
theorem dX6_addStop_39 : decode cX6_addStop 39 = .ok (.aload_n 0, 1) := by decide +kernel
theorem dX6_addStop_40 : decode cX6_addStop 40 = .ok (.dup, 1) := by decide +kernel
theorem dX6_addStop_41 : decode cX6_addStop 41 = .ok (.getfield 31, 3) := by decide +kernel
theorem dX6_addStop_44 : decode cX6_addStop 44 = .ok (.iconst 1, 1) := by decide +kernel
theorem dX6_addStop_45 : decode cX6_addStop 45 = .ok (.iadd, 1) := by decide +kernel
theorem dX6_addStop_46 : decode cX6_addStop 46 = .ok (.putfield 31, 3) := by decide +kernel
theorem dX6_addStop_49 : decode cX6_addStop 49 = .ok (.return_, 1) := by decide +kernel
theorem dX6_flueAt_0 : decode cX6_flueAt 0 = .ok (.iload_n 1, 1) := by decide +kernel
theorem dX6_flueAt_1 : decode cX6_flueAt 1 = .ok (.ifCond .lt 20, 3) := by decide +kernel
theorem dX6_flueAt_4 : decode cX6_flueAt 4 = .ok (.iload_n 1, 1) := by decide +kernel
theorem dX6_flueAt_5 : decode cX6_flueAt 5 = .ok (.aload_n 0, 1) := by decide +kernel
theorem dX6_flueAt_6 : decode cX6_flueAt 6 = .ok (.getfield 31, 3) := by decide +kernel
theorem dX6_flueAt_9 : decode cX6_flueAt 9 = .ok (.if_icmp .ge 12, 3) := by decide +kernel
theorem dX6_flueAt_12 : decode cX6_flueAt 12 = .ok (.aload_n 0, 1) := by decide +kernel
theorem dX6_flueAt_13 : decode cX6_flueAt 13 = .ok (.getfield 28, 3) := by decide +kernel
theorem dX6_flueAt_16 : decode cX6_flueAt 16 = .ok (.iload_n 1, 1) := by decide +kernel
theorem dX6_flueAt_17 : decode cX6_flueAt 17 = .ok (.iaload, 1) := by decide +kernel
theorem dX6_flueAt_18 : decode cX6_flueAt 18 = .ok (.goto 5, 3) := by decide +kernel
theorem dX6_flueAt_21 : decode cX6_flueAt 21 = .ok (.bipush (-9), 2) := by decide +kernel
theorem dX6_flueAt_23 : decode cX6_flueAt 23 = .ok (.ireturn, 1) := by decide +kernel
theorem dX6_findLeastWay_0 : decode cX6_findLeastWay 0 = .ok (.aload_n 0, 1) := by decide +kernel
theorem dX6_findLeastWay_1 : decode cX6_findLeastWay 1 = .ok (.ldc 38, 2) := by decide +kernel
theorem dX6_findLeastWay_3 : decode cX6_findLeastWay 3 = .ok (.putfield 35, 3) := by decide +kernel
theorem dX6_findLeastWay_6 : decode cX6_findLeastWay 6 = .ok (.aload_n 0, 1) := by decide +kernel
theorem dX6_findLeastWay_7 : decode cX6_findLeastWay 7 = .ok (.iconst 0, 1) := by decide +kernel
theorem dX6_findLeastWay_8 : decode cX6_findLeastWay 8 = .ok (.iconst 0, 1) := by decide +kernel
theorem dX6_findLeastWay_9 : decode cX6_findLeastWay 9 = .ok (.iconst 0, 1) := by decide +kernel
theorem dX6_findLeastWay_10 : decode cX6_findLeastWay 10 = .ok (.iconst 0, 1) := by decide +kernel
theorem dX6_findLeastWay_11 : decode cX6_findLeastWay 11 = .ok (.invokestatic 39, 3) := by decide +kernel
theorem dX6_findLeastWay_14 : decode cX6_findLeastWay 14 = .ok (.return_, 1) := by decide +kernel
theorem dX6_extend_0 : decode cX6_extend 0 = .ok (.iload 4, 2) := by decide +kernel
theorem dX6_extend_2 : decode cX6_extend 2 = .ok (.iload_n 2, 1) := by decide +kernel
theorem dX6_extend_3 : decode cX6_extend 3 = .ok (.iadd, 1) := by decide +kernel
theorem dX6_extend_4 : decode cX6_extend 4 = .ok (.iload_n 3, 1) := by decide +kernel
theorem dX6_extend_5 : decode cX6_extend 5 = .ok (.iadd, 1) := by decide +kernel
theorem dX6_extend_6 : decode cX6_extend 6 = .ok (.istore 5, 2) := by decide +kernel
theorem dX6_extend_8 : decode cX6_extend 8 = .ok (.iload 5, 2) := by decide +kernel
theorem dX6_extend_10 : decode cX6_extend 10 = .ok (.aload_n 0, 1) := by decide +kernel
theorem dX6_extend_11 : decode cX6_extend 11 = .ok (.getfield 35, 3) := by decide +kernel
theorem dX6_extend_14 : decode cX6_extend 14 = .ok (.if_icmp .lt 4, 3) := by decide +kernel
theorem dX6_extend_17 : decode cX6_extend 17 = .ok (.return_, 1) := by decide +kernel
theorem dX6_extend_18 : decode cX6_extend 18 = .ok (.iload_n 1, 1) := by decide +kernel
theorem dX6_extend_19 : decode cX6_extend 19 = .ok (.aload_n 0, 1) := by decide +kernel
theorem dX6_extend_20 : decode cX6_extend 20 = .ok (.getfield 31, 3) := by decide +kernel
theorem dX6_extend_23 : decode cX6_extend 23 = .ok (.if_icmp .lt 10, 3) := by decide +kernel
theorem dX6_extend_26 : decode cX6_extend 26 = .ok (.aload_n 0, 1) := by decide +kernel
theorem dX6_extend_27 : decode cX6_extend 27 = .ok (.iload 5, 2) := by decide +kernel
theorem dX6_extend_29 : decode cX6_extend 29 = .ok (.invokevirtual 43, 3) := by decide +kernel
theorem dX6_extend_32 : decode cX6_extend 32 = .ok (.return_, 1) := by decide +kernel
theorem dX6_extend_33 : decode cX6_extend 33 = .ok (.iconst 0, 1) := by decide +kernel
theorem dX6_extend_34 : decode cX6_extend 34 = .ok (.istore 6, 2) := by decide +kernel
theorem dX6_extend_36 : decode cX6_extend 36 = .ok (.iload 6, 2) := by decide +kernel
theorem dX6_extend_38 : decode cX6_extend 38 = .ok (.aload_n 0, 1) := by decide +kernel
theorem dX6_extend_39 : decode cX6_extend 39 = .ok (.getfield 31, 3) := by decide +kernel
theorem dX6_extend_42 : decode cX6_extend 42 = .ok (.if_icmp .ge 101, 3) := by decide +kernel
theorem dX6_extend_45 : decode cX6_extend 45 = .ok (.aload_n 0, 1) := by decide +kernel
theorem dX6_extend_46 : decode cX6_extend 46 = .ok (.getfield 21, 3) := by decide +kernel
theorem dX6_extend_49 : decode cX6_extend 49 = .ok (.iload 6, 2) := by decide +kernel
theorem dX6_extend_51 : decode cX6_extend 51 = .ok (.baload, 1) := by decide +kernel
theorem dX6_extend_52 : decode cX6_extend 52 = .ok (.ifCond .ne 85, 3) := by decide +kernel
theorem dX6_extend_55 : decode cX6_extend 55 = .ok (.aload_n 0, 1) := by decide +kernel
theorem dX6_extend_56 : decode cX6_extend 56 = .ok (.getfield 21, 3) := by decide +kernel
theorem dX6_extend_59 : decode cX6_extend 59 = .ok (.iload 6, 2) := by decide +kernel
theorem dX6_extend_61 : decode cX6_extend 61 = .ok (.iconst 1, 1) := by decide +kernel
theorem dX6_extend_62 : decode cX6_extend 62 = .ok (.bastore, 1) := by decide +kernel
theorem dX6_extend_63 : decode cX6_extend 63 = .ok (.aload_n 0, 1) := by decide +kernel
theorem dX6_extend_64 : decode cX6_extend 64 = .ok (.getfield 25, 3) := by decide +kernel
theorem dX6_extend_67 : decode cX6_extend 67 = .ok (.iload_n 1, 1) := by decide +kernel
theorem dX6_extend_68 : decode cX6_extend 68 = .ok (.aload_n 0, 1) := by decide +kernel
theorem dX6_extend_69 : decode cX6_extend 69 = .ok (.getfield 11, 3) := by decide +kernel
theorem dX6_extend_72 : decode cX6_extend 72 = .ok (.iload 6, 2) := by decide +kernel
theorem dX6_extend_74 : decode cX6_extend 74 = .ok (.iaload, 1) := by decide +kernel
theorem dX6_extend_75 : decode cX6_extend 75 = .ok (.iastore, 1) := by decide +kernel
theorem dX6_extend_76 : decode cX6_extend 76 = .ok (.aload_n 0, 1) := by decide +kernel
theorem dX6_extend_77 : decode cX6_extend 77 = .ok (.getfield 15, 3) := by decide +kernel
theorem dX6_extend_80 : decode cX6_extend 80 = .ok (.iload 6, 2) := by decide +kernel
theorem dX6_extend_82 : decode cX6_extend 82 = .ok (.iaload, 1) := by decide +kernel
theorem dX6_extend_83 : decode cX6_extend 83 = .ok (.iload_n 2, 1) := by decide +kernel
theorem dX6_extend_84 : decode cX6_extend 84 = .ok (.isub, 1) := by decide +kernel
theorem dX6_extend_85 : decode cX6_extend 85 = .ok (.invokestatic 47, 3) := by decide +kernel
theorem dX6_extend_88 : decode cX6_extend 88 = .ok (.aload_n 0, 1) := by decide +kernel
theorem dX6_extend_89 : decode cX6_extend 89 = .ok (.getfield 18, 3) := by decide +kernel
theorem dX6_extend_92 : decode cX6_extend 92 = .ok (.iload 6, 2) := by decide +kernel
theorem dX6_extend_94 : decode cX6_extend 94 = .ok (.iaload, 1) := by decide +kernel
theorem dX6_extend_95 : decode cX6_extend 95 = .ok (.iload_n 3, 1) := by decide +kernel
theorem dX6_extend_96 : decode cX6_extend 96 = .ok (.isub, 1) := by decide +kernel
theorem dX6_extend_97 : decode cX6_extend 97 = .ok (.invokestatic 47, 3) := by decide +kernel
theorem dX6_extend_100 : decode cX6_extend 100 = .ok (.iadd, 1) := by decide +kernel
theorem dX6_extend_101 : decode cX6_extend 101 = .ok (.istore 7, 2) := by decide +kernel
theorem dX6_extend_103 : decode cX6_extend 103 = .ok (.aload_n 0, 1) := by decide +kernel
theorem dX6_extend_104 : decode cX6_extend 104 = .ok (.iload_n 1, 1) := by decide +kernel
theorem dX6_extend_105 : decode cX6_extend 105 = .ok (.iconst 1, 1) := by decide +kernel
theorem dX6_extend_106 : decode cX6_extend 106 = .ok (.iadd, 1) := by decide +kernel
theorem dX6_extend_107 : decode cX6_extend 107 = .ok (.aload_n 0, 1) := by decide +kernel
theorem dX6_extend_108 : decode cX6_extend 108 = .ok (.getfield 15, 3) := by decide +kernel
theorem dX6_extend_111 : decode cX6_extend 111 = .ok (.iload 6, 2) := by decide +kernel
theorem dX6_extend_113 : decode cX6_extend 113 = .ok (.iaload, 1) := by decide +kernel
theorem dX6_extend_114 : decode cX6_extend 114 = .ok (.aload_n 0, 1) := by decide +kernel
theorem dX6_extend_115 : decode cX6_extend 115 = .ok (.getfield 18, 3) := by decide +kernel
theorem dX6_extend_118 : decode cX6_extend 118 = .ok (.iload 6, 2) := by decide +kernel
theorem dX6_extend_120 : decode cX6_extend 120 = .ok (.iaload, 1) := by decide +kernel
theorem dX6_extend_121 : decode cX6_extend 121 = .ok (.iload 4, 2) := by decide +kernel
theorem dX6_extend_123 : decode cX6_extend 123 = .ok (.iload 7, 2) := by decide +kernel
theorem dX6_extend_125 : decode cX6_extend 125 = .ok (.iadd, 1) := by decide +kernel
theorem dX6_extend_126 : decode cX6_extend 126 = .ok (.invokestatic 39, 3) := by decide +kernel
theorem dX6_extend_129 : decode cX6_extend 129 = .ok (.aload_n 0, 1) := by decide +kernel
theorem dX6_extend_130 : decode cX6_extend 130 = .ok (.getfield 21, 3) := by decide +kernel
theorem dX6_extend_133 : decode cX6_extend 133 = .ok (.iload 6, 2) := by decide +kernel
theorem dX6_extend_135 : decode cX6_extend 135 = .ok (.iconst 0, 1) := by decide +kernel
theorem dX6_extend_136 : decode cX6_extend 136 = .ok (.bastore, 1) := by decide +kernel
theorem dX6_extend_137 : decode cX6_extend 137 = .ok (.iinc 6 1, 3) := by decide +kernel
theorem dX6_extend_140 : decode cX6_extend 140 = .ok (.goto (-104), 3) := by decide +kernel
theorem dX6_extend_143 : decode cX6_extend 143 = .ok (.return_, 1) := by decide +kernel
theorem dX6_keepTried_0 : decode cX6_keepTried 0 = .ok (.aload_n 0, 1) := by decide +kernel
theorem dX6_keepTried_1 : decode cX6_keepTried 1 = .ok (.iload_n 1, 1) := by decide +kernel
theorem dX6_keepTried_2 : decode cX6_keepTried 2 = .ok (.putfield 35, 3) := by decide +kernel
theorem dX6_keepTried_5 : decode cX6_keepTried 5 = .ok (.iconst 0, 1) := by decide +kernel
theorem dX6_keepTried_6 : decode cX6_keepTried 6 = .ok (.istore_n 2, 1) := by decide +kernel
theorem dX6_keepTried_7 : decode cX6_keepTried 7 = .ok (.iload_n 2, 1) := by decide +kernel
theorem dX6_keepTried_8 : decode cX6_keepTried 8 = .ok (.aload_n 0, 1) := by decide +kernel
theorem dX6_keepTried_9 : decode cX6_keepTried 9 = .ok (.getfield 31, 3) := by decide +kernel
theorem dX6_keepTried_12 : decode cX6_keepTried 12 = .ok (.if_icmp .ge 21, 3) := by decide +kernel
theorem dX6_keepTried_15 : decode cX6_keepTried 15 = .ok (.aload_n 0, 1) := by decide +kernel
theorem dX6_keepTried_16 : decode cX6_keepTried 16 = .ok (.getfield 28, 3) := by decide +kernel
theorem dX6_keepTried_19 : decode cX6_keepTried 19 = .ok (.iload_n 2, 1) := by decide +kernel
theorem dX6_keepTried_20 : decode cX6_keepTried 20 = .ok (.aload_n 0, 1) := by decide +kernel
theorem dX6_keepTried_21 : decode cX6_keepTried 21 = .ok (.getfield 25, 3) := by decide +kernel
theorem dX6_keepTried_24 : decode cX6_keepTried 24 = .ok (.iload_n 2, 1) := by decide +kernel
theorem dX6_keepTried_25 : decode cX6_keepTried 25 = .ok (.iaload, 1) := by decide +kernel
theorem dX6_keepTried_26 : decode cX6_keepTried 26 = .ok (.iastore, 1) := by decide +kernel
theorem dX6_keepTried_27 : decode cX6_keepTried 27 = .ok (.iinc 2 1, 3) := by decide +kernel
theorem dX6_keepTried_30 : decode cX6_keepTried 30 = .ok (.goto (-23), 3) := by decide +kernel
theorem dX6_keepTried_33 : decode cX6_keepTried 33 = .ok (.return_, 1) := by decide +kernel
theorem dJ9_abs_0f7a4_0 : decode cJ9_abs_0f7a4 0 = .ok (.iload_n 0, 1) := by decide +kernel
theorem dJ9_abs_0f7a4_1 : decode cJ9_abs_0f7a4 1 = .ok (.ifCond .ge 8, 3) := by decide +kernel
theorem dJ9_abs_0f7a4_4 : decode cJ9_abs_0f7a4 4 = .ok (.iload_n 0, 1) := by decide +kernel
theorem dJ9_abs_0f7a4_5 : decode cJ9_abs_0f7a4 5 = .ok (.ineg, 1) := by decide +kernel
theorem dJ9_abs_0f7a4_6 : decode cJ9_abs_0f7a4 6 = .ok (.goto 4, 3) := by decide +kernel
theorem dJ9_abs_0f7a4_9 : decode cJ9_abs_0f7a4 9 = .ok (.iload_n 0, 1) := by decide +kernel
theorem dJ9_abs_0f7a4_10 : decode cJ9_abs_0f7a4 10 = .ok (.ireturn, 1) := by decide +kernel
theorem dJ9_max_7cf53_0 : decode cJ9_max_7cf53 0 = .ok (.iload_n 0, 1) := by decide +kernel
theorem dJ9_max_7cf53_1 : decode cJ9_max_7cf53 1 = .ok (.iload_n 1, 1) := by decide +kernel
theorem dJ9_max_7cf53_2 : decode cJ9_max_7cf53 2 = .ok (.if_icmp .lt 7, 3) := by decide +kernel
theorem dJ9_max_7cf53_5 : decode cJ9_max_7cf53 5 = .ok (.iload_n 0, 1) := by decide +kernel
theorem dJ9_max_7cf53_6 : decode cJ9_max_7cf53 6 = .ok (.goto 4, 3) := by decide +kernel
theorem dJ9_max_7cf53_9 : decode cJ9_max_7cf53 9 = .ok (.iload_n 1, 1) := by decide +kernel
theorem dJ9_max_7cf53_10 : decode cJ9_max_7cf53 10 = .ok (.ireturn, 1) := by decide +kernel
