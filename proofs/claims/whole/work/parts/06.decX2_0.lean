theorem dX2_init_0 : decode cX2_init 0 = .ok (.aload_n 0, 1) := by decide +kernel
theorem dX2_init_1 : decode cX2_init 1 = .ok (.invokespecial 3, 3) := by decide +kernel
theorem dX2_init_4 : decode cX2_init 4 = .ok (.aload_n 0, 1) := by decide +kernel
theorem dX2_init_5 : decode cX2_init 5 = .ok (.aload_n 1, 1) := by decide +kernel
theorem dX2_init_6 : decode cX2_init 6 = .ok (.putfield 9, 3) := by decide +kernel
theorem dX2_init_9 : decode cX2_init 9 = .ok (.aload_n 0, 1) := by decide +kernel
theorem dX2_init_10 : decode cX2_init 10 = .ok (.lload_n 2, 1) := by decide +kernel
theorem dX2_init_11 : decode cX2_init 11 = .ok (.putfield 15, 3) := by decide +kernel
theorem dX2_init_14 : decode cX2_init 14 = .ok (.return_, 1) := by decide +kernel
theorem dX2_make_0 : decode cX2_make 0 = .ok (.aload_n 0, 1) := by decide +kernel
theorem dX2_make_1 : decode cX2_make 1 = .ok (.getfield 9, 3) := by decide +kernel
theorem dX2_make_4 : decode cX2_make 4 = .ok (.iconst 0, 1) := by decide +kernel
theorem dX2_make_5 : decode cX2_make 5 = .ok (.invokevirtual 19, 3) := by decide +kernel
theorem dX2_make_8 : decode cX2_make 8 = .ok (.iload_n 1, 1) := by decide +kernel
theorem dX2_make_9 : decode cX2_make 9 = .ok (.tableswitch 131 0 8 #[51, 59, 67, 75, 83, 91, 99, 107, 119], 51) := by decide +kernel
theorem dX2_make_60 : decode cX2_make 60 = .ok (.aload_n 0, 1) := by decide +kernel
theorem dX2_make_61 : decode cX2_make 61 = .ok (.iload_n 2, 1) := by decide +kernel
theorem dX2_make_62 : decode cX2_make 62 = .ok (.invokevirtual 25, 3) := by decide +kernel
theorem dX2_make_65 : decode cX2_make 65 = .ok (.goto 80, 3) := by decide +kernel
theorem dX2_make_68 : decode cX2_make 68 = .ok (.aload_n 0, 1) := by decide +kernel
theorem dX2_make_69 : decode cX2_make 69 = .ok (.iload_n 2, 1) := by decide +kernel
theorem dX2_make_70 : decode cX2_make 70 = .ok (.invokevirtual 28, 3) := by decide +kernel
theorem dX2_make_73 : decode cX2_make 73 = .ok (.goto 72, 3) := by decide +kernel
theorem dX2_make_76 : decode cX2_make 76 = .ok (.aload_n 0, 1) := by decide +kernel
theorem dX2_make_77 : decode cX2_make 77 = .ok (.iload_n 2, 1) := by decide +kernel
theorem dX2_make_78 : decode cX2_make 78 = .ok (.invokevirtual 31, 3) := by decide +kernel
theorem dX2_make_81 : decode cX2_make 81 = .ok (.goto 64, 3) := by decide +kernel
theorem dX2_make_84 : decode cX2_make 84 = .ok (.aload_n 0, 1) := by decide +kernel
theorem dX2_make_85 : decode cX2_make 85 = .ok (.iload_n 2, 1) := by decide +kernel
theorem dX2_make_86 : decode cX2_make 86 = .ok (.invokevirtual 34, 3) := by decide +kernel
theorem dX2_make_89 : decode cX2_make 89 = .ok (.goto 56, 3) := by decide +kernel
theorem dX2_make_92 : decode cX2_make 92 = .ok (.aload_n 0, 1) := by decide +kernel
theorem dX2_make_93 : decode cX2_make 93 = .ok (.iload_n 2, 1) := by decide +kernel
theorem dX2_make_94 : decode cX2_make 94 = .ok (.invokevirtual 37, 3) := by decide +kernel
theorem dX2_make_97 : decode cX2_make 97 = .ok (.goto 48, 3) := by decide +kernel
theorem dX2_make_100 : decode cX2_make 100 = .ok (.aload_n 0, 1) := by decide +kernel
theorem dX2_make_101 : decode cX2_make 101 = .ok (.iload_n 2, 1) := by decide +kernel
theorem dX2_make_102 : decode cX2_make 102 = .ok (.invokevirtual 40, 3) := by decide +kernel
theorem dX2_make_105 : decode cX2_make 105 = .ok (.goto 40, 3) := by decide +kernel
theorem dX2_make_108 : decode cX2_make 108 = .ok (.aload_n 0, 1) := by decide +kernel
theorem dX2_make_109 : decode cX2_make 109 = .ok (.iload_n 2, 1) := by decide +kernel
theorem dX2_make_110 : decode cX2_make 110 = .ok (.invokevirtual 43, 3) := by decide +kernel
theorem dX2_make_113 : decode cX2_make 113 = .ok (.goto 32, 3) := by decide +kernel
theorem dX2_make_116 : decode cX2_make 116 = .ok (.aload_n 0, 1) := by decide +kernel
theorem dX2_make_117 : decode cX2_make 117 = .ok (.iload_n 2, 1) := by decide +kernel
theorem dX2_make_118 : decode cX2_make 118 = .ok (.invokevirtual 46, 3) := by decide +kernel
theorem dX2_make_121 : decode cX2_make 121 = .ok (.aload_n 0, 1) := by decide +kernel
theorem dX2_make_122 : decode cX2_make 122 = .ok (.invokevirtual 49, 3) := by decide +kernel
theorem dX2_make_125 : decode cX2_make 125 = .ok (.goto 20, 3) := by decide +kernel
theorem dX2_make_128 : decode cX2_make 128 = .ok (.aload_n 0, 1) := by decide +kernel
theorem dX2_make_129 : decode cX2_make 129 = .ok (.iload_n 2, 1) := by decide +kernel
theorem dX2_make_130 : decode cX2_make 130 = .ok (.invokevirtual 46, 3) := by decide +kernel
theorem dX2_make_133 : decode cX2_make 133 = .ok (.aload_n 0, 1) := by decide +kernel
theorem dX2_make_134 : decode cX2_make 134 = .ok (.invokevirtual 52, 3) := by decide +kernel
theorem dX2_make_137 : decode cX2_make 137 = .ok (.goto 8, 3) := by decide +kernel
theorem dX2_make_140 : decode cX2_make 140 = .ok (.aload_n 0, 1) := by decide +kernel
theorem dX2_make_141 : decode cX2_make 141 = .ok (.iload_n 2, 1) := by decide +kernel
theorem dX2_make_142 : decode cX2_make 142 = .ok (.invokevirtual 46, 3) := by decide +kernel
theorem dX2_make_145 : decode cX2_make 145 = .ok (.return_, 1) := by decide +kernel
theorem dX2_next_0 : decode cX2_next 0 = .ok (.aload_n 0, 1) := by decide +kernel
theorem dX2_next_1 : decode cX2_next 1 = .ok (.aload_n 0, 1) := by decide +kernel
theorem dX2_next_2 : decode cX2_next 2 = .ok (.getfield 15, 3) := by decide +kernel
theorem dX2_next_5 : decode cX2_next 5 = .ok (.ldc2_w 55, 3) := by decide +kernel
theorem dX2_next_8 : decode cX2_next 8 = .ok (.lmul, 1) := by decide +kernel
theorem dX2_next_9 : decode cX2_next 9 = .ok (.ldc2_w 57, 3) := by decide +kernel
theorem dX2_next_12 : decode cX2_next 12 = .ok (.ladd, 1) := by decide +kernel
theorem dX2_next_13 : decode cX2_next 13 = .ok (.putfield 15, 3) := by decide +kernel
theorem dX2_next_16 : decode cX2_next 16 = .ok (.iload_n 1, 1) := by decide +kernel
theorem dX2_next_17 : decode cX2_next 17 = .ok (.iconst 1, 1) := by decide +kernel
theorem dX2_next_18 : decode cX2_next 18 = .ok (.if_icmp .ge 7, 3) := by decide +kernel
theorem dX2_next_21 : decode cX2_next 21 = .ok (.iconst 0, 1) := by decide +kernel
theorem dX2_next_22 : decode cX2_next 22 = .ok (.goto 14, 3) := by decide +kernel
theorem dX2_next_25 : decode cX2_next 25 = .ok (.aload_n 0, 1) := by decide +kernel
theorem dX2_next_26 : decode cX2_next 26 = .ok (.getfield 15, 3) := by decide +kernel
theorem dX2_next_29 : decode cX2_next 29 = .ok (.bipush 31, 2) := by decide +kernel
theorem dX2_next_31 : decode cX2_next 31 = .ok (.lushr, 1) := by decide +kernel
theorem dX2_next_32 : decode cX2_next 32 = .ok (.iload_n 1, 1) := by decide +kernel
theorem dX2_next_33 : decode cX2_next 33 = .ok (.i2l, 1) := by decide +kernel
theorem dX2_next_34 : decode cX2_next 34 = .ok (.lrem, 1) := by decide +kernel
theorem dX2_next_35 : decode cX2_next 35 = .ok (.l2i, 1) := by decide +kernel
theorem dX2_next_36 : decode cX2_next 36 = .ok (.ireturn, 1) := by decide +kernel
theorem dX2_append_0 : decode cX2_append 0 = .ok (.aload_n 0, 1) := by decide +kernel
theorem dX2_append_1 : decode cX2_append 1 = .ok (.getfield 9, 3) := by decide +kernel
theorem dX2_append_4 : decode cX2_append 4 = .ok (.iload_n 1, 1) := by decide +kernel
theorem dX2_append_5 : decode cX2_append 5 = .ok (.invokevirtual 59, 3) := by decide +kernel
theorem dX2_append_8 : decode cX2_append 8 = .ok (.aload_n 0, 1) := by decide +kernel
theorem dX2_append_9 : decode cX2_append 9 = .ok (.getfield 9, 3) := by decide +kernel
theorem dX2_append_12 : decode cX2_append 12 = .ok (.iload_n 2, 1) := by decide +kernel
theorem dX2_append_13 : decode cX2_append 13 = .ok (.invokevirtual 59, 3) := by decide +kernel
theorem dX2_append_16 : decode cX2_append 16 = .ok (.return_, 1) := by decide +kernel
theorem dX2_append__0 : decode cX2_append_ 0 = .ok (.aload_n 0, 1) := by decide +kernel
theorem dX2_append__1 : decode cX2_append_ 1 = .ok (.getfield 9, 3) := by decide +kernel
theorem dX2_append__4 : decode cX2_append_ 4 = .ok (.iload_n 1, 1) := by decide +kernel
theorem dX2_append__5 : decode cX2_append_ 5 = .ok (.invokevirtual 59, 3) := by decide +kernel
theorem dX2_append__8 : decode cX2_append_ 8 = .ok (.aload_n 0, 1) := by decide +kernel
theorem dX2_append__9 : decode cX2_append_ 9 = .ok (.getfield 9, 3) := by decide +kernel
theorem dX2_append__12 : decode cX2_append_ 12 = .ok (.iload_n 2, 1) := by decide +kernel
theorem dX2_append__13 : decode cX2_append_ 13 = .ok (.invokevirtual 59, 3) := by decide +kernel
theorem dX2_append__16 : decode cX2_append_ 16 = .ok (.aload_n 0, 1) := by decide +kernel
theorem dX2_append__17 : decode cX2_append_ 17 = .ok (.getfield 9, 3) := by decide +kernel
theorem dX2_append__20 : decode cX2_append_ 20 = .ok (.iload_n 3, 1) := by decide +kernel
theorem dX2_append__21 : decode cX2_append_ 21 = .ok (.invokevirtual 59, 3) := by decide +kernel
theorem dX2_append__24 : decode cX2_append_ 24 = .ok (.return_, 1) := by decide +kernel
theorem dX2_appendDrawn_0 : decode cX2_appendDrawn 0 = .ok (.iconst 0, 1) := by decide +kernel
theorem dX2_appendDrawn_1 : decode cX2_appendDrawn 1 = .ok (.istore_n 2, 1) := by decide +kernel
theorem dX2_appendDrawn_2 : decode cX2_appendDrawn 2 = .ok (.iload_n 2, 1) := by decide +kernel
theorem dX2_appendDrawn_3 : decode cX2_appendDrawn 3 = .ok (.iload_n 1, 1) := by decide +kernel
theorem dX2_appendDrawn_4 : decode cX2_appendDrawn 4 = .ok (.if_icmp .ge 23, 3) := by decide +kernel
theorem dX2_appendDrawn_7 : decode cX2_appendDrawn 7 = .ok (.aload_n 0, 1) := by decide +kernel
theorem dX2_appendDrawn_8 : decode cX2_appendDrawn 8 = .ok (.getfield 9, 3) := by decide +kernel
theorem dX2_appendDrawn_11 : decode cX2_appendDrawn 11 = .ok (.aload_n 0, 1) := by decide +kernel
theorem dX2_appendDrawn_12 : decode cX2_appendDrawn 12 = .ok (.sipush 256, 3) := by decide +kernel
theorem dX2_appendDrawn_15 : decode cX2_appendDrawn 15 = .ok (.invokevirtual 62, 3) := by decide +kernel
theorem dX2_appendDrawn_18 : decode cX2_appendDrawn 18 = .ok (.invokevirtual 59, 3) := by decide +kernel
theorem dX2_appendDrawn_21 : decode cX2_appendDrawn 21 = .ok (.iinc 2 1, 3) := by decide +kernel
theorem dX2_appendDrawn_24 : decode cX2_appendDrawn 24 = .ok (.goto (-22), 3) := by decide +kernel
theorem dX2_appendDrawn_27 : decode cX2_appendDrawn 27 = .ok (.return_, 1) := by decide +kernel
theorem dX2_appendEnd_0 : decode cX2_appendEnd 0 = .ok (.aload_n 0, 1) := by decide +kernel
theorem dX2_appendEnd_1 : decode cX2_appendEnd 1 = .ok (.getfield 9, 3) := by decide +kernel
theorem dX2_appendEnd_4 : decode cX2_appendEnd 4 = .ok (.iconst 0, 1) := by decide +kernel
theorem dX2_appendEnd_5 : decode cX2_appendEnd 5 = .ok (.invokevirtual 59, 3) := by decide +kernel
theorem dX2_appendEnd_8 : decode cX2_appendEnd 8 = .ok (.aload_n 0, 1) := by decide +kernel
theorem dX2_appendEnd_9 : decode cX2_appendEnd 9 = .ok (.getfield 9, 3) := by decide +kernel
theorem dX2_appendEnd_12 : decode cX2_appendEnd 12 = .ok (.aload_n 0, 1) := by decide +kernel
theorem dX2_appendEnd_13 : decode cX2_appendEnd 13 = .ok (.getfield 9, 3) := by decide +kernel
theorem dX2_appendEnd_16 : decode cX2_appendEnd 16 = .ok (.iload_n 1, 1) := by decide +kernel
theorem dX2_appendEnd_17 : decode cX2_appendEnd 17 = .ok (.aload_n 0, 1) := by decide +kernel
theorem dX2_appendEnd_18 : decode cX2_appendEnd 18 = .ok (.getfield 9, 3) := by decide +kernel
theorem dX2_appendEnd_21 : decode cX2_appendEnd 21 = .ok (.getfield 66, 3) := by decide +kernel
theorem dX2_appendEnd_24 : decode cX2_appendEnd 24 = .ok (.invokevirtual 70, 3) := by decide +kernel
theorem dX2_appendEnd_27 : decode cX2_appendEnd 27 = .ok (.invokevirtual 59, 3) := by decide +kernel
theorem dX2_appendEnd_30 : decode cX2_appendEnd 30 = .ok (.return_, 1) := by decide +kernel
theorem dX2_makeLies_0 : decode cX2_makeLies 0 = .ok (.aload_n 0, 1) := by decide +kernel
theorem dX2_makeLies_1 : decode cX2_makeLies 1 = .ok (.bipush 80, 2) := by decide +kernel
theorem dX2_makeLies_3 : decode cX2_makeLies 3 = .ok (.bipush 75, 2) := by decide +kernel
theorem dX2_makeLies_5 : decode cX2_makeLies 5 = .ok (.invokevirtual 74, 3) := by decide +kernel
theorem dX2_makeLies_8 : decode cX2_makeLies 8 = .ok (.aload_n 0, 1) := by decide +kernel
theorem dX2_makeLies_9 : decode cX2_makeLies 9 = .ok (.iconst 1, 1) := by decide +kernel
theorem dX2_makeLies_10 : decode cX2_makeLies 10 = .ok (.sipush 255, 3) := by decide +kernel
theorem dX2_makeLies_13 : decode cX2_makeLies 13 = .ok (.invokevirtual 74, 3) := by decide +kernel
theorem dX2_makeLies_16 : decode cX2_makeLies 16 = .ok (.aload_n 0, 1) := by decide +kernel
theorem dX2_makeLies_17 : decode cX2_makeLies 17 = .ok (.iload_n 1, 1) := by decide +kernel
theorem dX2_makeLies_18 : decode cX2_makeLies 18 = .ok (.invokevirtual 77, 3) := by decide +kernel
theorem dX2_makeLies_21 : decode cX2_makeLies 21 = .ok (.aload_n 0, 1) := by decide +kernel
theorem dX2_makeLies_22 : decode cX2_makeLies 22 = .ok (.iconst 0, 1) := by decide +kernel
theorem dX2_makeLies_23 : decode cX2_makeLies 23 = .ok (.invokevirtual 80, 3) := by decide +kernel
theorem dX2_makeLies_26 : decode cX2_makeLies 26 = .ok (.return_, 1) := by decide +kernel
theorem dX2_makeRuns_0 : decode cX2_makeRuns 0 = .ok (.aload_n 0, 1) := by decide +kernel
theorem dX2_makeRuns_1 : decode cX2_makeRuns 1 = .ok (.bipush 80, 2) := by decide +kernel
theorem dX2_makeRuns_3 : decode cX2_makeRuns 3 = .ok (.bipush 75, 2) := by decide +kernel
theorem dX2_makeRuns_5 : decode cX2_makeRuns 5 = .ok (.invokevirtual 74, 3) := by decide +kernel
theorem dX2_makeRuns_8 : decode cX2_makeRuns 8 = .ok (.iconst 0, 1) := by decide +kernel
theorem dX2_makeRuns_9 : decode cX2_makeRuns 9 = .ok (.istore_n 2, 1) := by decide +kernel
theorem dX2_makeRuns_10 : decode cX2_makeRuns 10 = .ok (.iload_n 2, 1) := by decide +kernel
theorem dX2_makeRuns_11 : decode cX2_makeRuns 11 = .ok (.iload_n 1, 1) := by decide +kernel
theorem dX2_makeRuns_12 : decode cX2_makeRuns 12 = .ok (.if_icmp .ge 24, 3) := by decide +kernel
theorem dX2_makeRuns_15 : decode cX2_makeRuns 15 = .ok (.aload_n 0, 1) := by decide +kernel
theorem dX2_makeRuns_16 : decode cX2_makeRuns 16 = .ok (.iconst 2, 1) := by decide +kernel
theorem dX2_makeRuns_17 : decode cX2_makeRuns 17 = .ok (.sipush 255, 3) := by decide +kernel
theorem dX2_makeRuns_20 : decode cX2_makeRuns 20 = .ok (.aload_n 0, 1) := by decide +kernel
theorem dX2_makeRuns_21 : decode cX2_makeRuns 21 = .ok (.sipush 256, 3) := by decide +kernel
theorem dX2_makeRuns_24 : decode cX2_makeRuns 24 = .ok (.invokevirtual 62, 3) := by decide +kernel
theorem dX2_makeRuns_27 : decode cX2_makeRuns 27 = .ok (.invokevirtual 83, 3) := by decide +kernel
theorem dX2_makeRuns_30 : decode cX2_makeRuns 30 = .ok (.iinc 2 1, 3) := by decide +kernel
theorem dX2_makeRuns_33 : decode cX2_makeRuns 33 = .ok (.goto (-23), 3) := by decide +kernel
theorem dX2_makeRuns_36 : decode cX2_makeRuns 36 = .ok (.aload_n 0, 1) := by decide +kernel
theorem dX2_makeRuns_37 : decode cX2_makeRuns 37 = .ok (.iconst 0, 1) := by decide +kernel
theorem dX2_makeRuns_38 : decode cX2_makeRuns 38 = .ok (.invokevirtual 80, 3) := by decide +kernel
theorem dX2_makeRuns_41 : decode cX2_makeRuns 41 = .ok (.return_, 1) := by decide +kernel
theorem dX2_makeOverlaps_0 : decode cX2_makeOverlaps 0 = .ok (.aload_n 0, 1) := by decide +kernel
theorem dX2_makeOverlaps_1 : decode cX2_makeOverlaps 1 = .ok (.bipush 80, 2) := by decide +kernel
theorem dX2_makeOverlaps_3 : decode cX2_makeOverlaps 3 = .ok (.bipush 75, 2) := by decide +kernel
theorem dX2_makeOverlaps_5 : decode cX2_makeOverlaps 5 = .ok (.invokevirtual 74, 3) := by decide +kernel
theorem dX2_makeOverlaps_8 : decode cX2_makeOverlaps 8 = .ok (.aload_n 0, 1) := by decide +kernel
theorem dX2_makeOverlaps_9 : decode cX2_makeOverlaps 9 = .ok (.iconst 1, 1) := by decide +kernel
theorem dX2_makeOverlaps_10 : decode cX2_makeOverlaps 10 = .ok (.iconst 1, 1) := by decide +kernel
theorem dX2_makeOverlaps_11 : decode cX2_makeOverlaps 11 = .ok (.aload_n 0, 1) := by decide +kernel
theorem dX2_makeOverlaps_12 : decode cX2_makeOverlaps 12 = .ok (.sipush 256, 3) := by decide +kernel
theorem dX2_makeOverlaps_15 : decode cX2_makeOverlaps 15 = .ok (.invokevirtual 62, 3) := by decide +kernel
theorem dX2_makeOverlaps_18 : decode cX2_makeOverlaps 18 = .ok (.invokevirtual 83, 3) := by decide +kernel
theorem dX2_makeOverlaps_21 : decode cX2_makeOverlaps 21 = .ok (.iconst 0, 1) := by decide +kernel
theorem dX2_makeOverlaps_22 : decode cX2_makeOverlaps 22 = .ok (.istore_n 2, 1) := by decide +kernel
theorem dX2_makeOverlaps_23 : decode cX2_makeOverlaps 23 = .ok (.iload_n 2, 1) := by decide +kernel
theorem dX2_makeOverlaps_24 : decode cX2_makeOverlaps 24 = .ok (.iload_n 1, 1) := by decide +kernel
theorem dX2_makeOverlaps_25 : decode cX2_makeOverlaps 25 = .ok (.if_icmp .ge 18, 3) := by decide +kernel
theorem dX2_makeOverlaps_28 : decode cX2_makeOverlaps 28 = .ok (.aload_n 0, 1) := by decide +kernel
theorem dX2_makeOverlaps_29 : decode cX2_makeOverlaps 29 = .ok (.iconst 3, 1) := by decide +kernel
theorem dX2_makeOverlaps_30 : decode cX2_makeOverlaps 30 = .ok (.iconst 1, 1) := by decide +kernel
theorem dX2_makeOverlaps_31 : decode cX2_makeOverlaps 31 = .ok (.sipush 255, 3) := by decide +kernel
theorem dX2_makeOverlaps_34 : decode cX2_makeOverlaps 34 = .ok (.invokevirtual 83, 3) := by decide +kernel
theorem dX2_makeOverlaps_37 : decode cX2_makeOverlaps 37 = .ok (.iinc 2 1, 3) := by decide +kernel
theorem dX2_makeOverlaps_40 : decode cX2_makeOverlaps 40 = .ok (.goto (-17), 3) := by decide +kernel
theorem dX2_makeOverlaps_43 : decode cX2_makeOverlaps 43 = .ok (.aload_n 0, 1) := by decide +kernel
theorem dX2_makeOverlaps_44 : decode cX2_makeOverlaps 44 = .ok (.iconst 0, 1) := by decide +kernel
theorem dX2_makeOverlaps_45 : decode cX2_makeOverlaps 45 = .ok (.invokevirtual 80, 3) := by decide +kernel
theorem dX2_makeOverlaps_48 : decode cX2_makeOverlaps 48 = .ok (.return_, 1) := by decide +kernel
theorem dX2_makeDeep_0 : decode cX2_makeDeep 0 = .ok (.iload_n 1, 1) := by decide +kernel
theorem dX2_makeDeep_1 : decode cX2_makeDeep 1 = .ok (.iconst 1, 1) := by decide +kernel
theorem dX2_makeDeep_2 : decode cX2_makeDeep 2 = .ok (.isub, 1) := by decide +kernel
theorem dX2_makeDeep_3 : decode cX2_makeDeep 3 = .ok (.istore_n 2, 1) := by decide +kernel
theorem dX2_makeDeep_4 : decode cX2_makeDeep 4 = .ok (.iload_n 2, 1) := by decide +kernel
theorem dX2_makeDeep_5 : decode cX2_makeDeep 5 = .ok (.ifCond .lt 39, 3) := by decide +kernel
theorem dX2_makeDeep_8 : decode cX2_makeDeep 8 = .ok (.bipush 7, 2) := by decide +kernel
theorem dX2_makeDeep_10 : decode cX2_makeDeep 10 = .ok (.bipush 7, 2) := by decide +kernel
theorem dX2_makeDeep_12 : decode cX2_makeDeep 12 = .ok (.iload_n 2, 1) := by decide +kernel
theorem dX2_makeDeep_13 : decode cX2_makeDeep 13 = .ok (.imul, 1) := by decide +kernel
theorem dX2_makeDeep_14 : decode cX2_makeDeep 14 = .ok (.iadd, 1) := by decide +kernel
theorem dX2_makeDeep_15 : decode cX2_makeDeep 15 = .ok (.istore_n 3, 1) := by decide +kernel
theorem dX2_makeDeep_16 : decode cX2_makeDeep 16 = .ok (.aload_n 0, 1) := by decide +kernel
theorem dX2_makeDeep_17 : decode cX2_makeDeep 17 = .ok (.bipush 80, 2) := by decide +kernel
theorem dX2_makeDeep_19 : decode cX2_makeDeep 19 = .ok (.bipush 75, 2) := by decide +kernel
theorem dX2_makeDeep_21 : decode cX2_makeDeep 21 = .ok (.invokevirtual 74, 3) := by decide +kernel
theorem dX2_makeDeep_24 : decode cX2_makeDeep 24 = .ok (.aload_n 0, 1) := by decide +kernel
theorem dX2_makeDeep_25 : decode cX2_makeDeep 25 = .ok (.iconst 4, 1) := by decide +kernel
theorem dX2_makeDeep_26 : decode cX2_makeDeep 26 = .ok (.iload_n 3, 1) := by decide +kernel
theorem dX2_makeDeep_27 : decode cX2_makeDeep 27 = .ok (.bipush 8, 2) := by decide +kernel
theorem dX2_makeDeep_29 : decode cX2_makeDeep 29 = .ok (.ishr, 1) := by decide +kernel
theorem dX2_makeDeep_30 : decode cX2_makeDeep 30 = .ok (.iload_n 3, 1) := by decide +kernel
theorem dX2_makeDeep_31 : decode cX2_makeDeep 31 = .ok (.sipush 255, 3) := by decide +kernel
theorem dX2_makeDeep_34 : decode cX2_makeDeep 34 = .ok (.iand, 1) := by decide +kernel
theorem dX2_makeDeep_35 : decode cX2_makeDeep 35 = .ok (.invokevirtual 83, 3) := by decide +kernel
theorem dX2_makeDeep_38 : decode cX2_makeDeep 38 = .ok (.iinc 2 (-1), 3) := by decide +kernel
theorem dX2_makeDeep_41 : decode cX2_makeDeep 41 = .ok (.goto (-37), 3) := by decide +kernel
theorem dX2_makeDeep_44 : decode cX2_makeDeep 44 = .ok (.aload_n 0, 1) := by decide +kernel
theorem dX2_makeDeep_45 : decode cX2_makeDeep 45 = .ok (.bipush 80, 2) := by decide +kernel
theorem dX2_makeDeep_47 : decode cX2_makeDeep 47 = .ok (.bipush 75, 2) := by decide +kernel
theorem dX2_makeDeep_49 : decode cX2_makeDeep 49 = .ok (.invokevirtual 74, 3) := by decide +kernel
theorem dX2_makeDeep_52 : decode cX2_makeDeep 52 = .ok (.aload_n 0, 1) := by decide +kernel
theorem dX2_makeDeep_53 : decode cX2_makeDeep 53 = .ok (.iconst 1, 1) := by decide +kernel
theorem dX2_makeDeep_54 : decode cX2_makeDeep 54 = .ok (.iconst 1, 1) := by decide +kernel
theorem dX2_makeDeep_55 : decode cX2_makeDeep 55 = .ok (.aload_n 0, 1) := by decide +kernel
theorem dX2_makeDeep_56 : decode cX2_makeDeep 56 = .ok (.sipush 256, 3) := by decide +kernel
theorem dX2_makeDeep_59 : decode cX2_makeDeep 59 = .ok (.invokevirtual 62, 3) := by decide +kernel
theorem dX2_makeDeep_62 : decode cX2_makeDeep 62 = .ok (.invokevirtual 83, 3) := by decide +kernel
theorem dX2_makeDeep_65 : decode cX2_makeDeep 65 = .ok (.iload_n 1, 1) := by decide +kernel
theorem dX2_makeDeep_66 : decode cX2_makeDeep 66 = .ok (.istore_n 2, 1) := by decide +kernel
theorem dX2_makeDeep_67 : decode cX2_makeDeep 67 = .ok (.iload_n 2, 1) := by decide +kernel
theorem dX2_makeDeep_68 : decode cX2_makeDeep 68 = .ok (.ifCond .lt 16, 3) := by decide +kernel
theorem dX2_makeDeep_71 : decode cX2_makeDeep 71 = .ok (.aload_n 0, 1) := by decide +kernel
theorem dX2_makeDeep_72 : decode cX2_makeDeep 72 = .ok (.iconst 5, 1) := by decide +kernel
theorem dX2_makeDeep_73 : decode cX2_makeDeep 73 = .ok (.iload_n 2, 1) := by decide +kernel
theorem dX2_makeDeep_74 : decode cX2_makeDeep 74 = .ok (.imul, 1) := by decide +kernel
theorem dX2_makeDeep_75 : decode cX2_makeDeep 75 = .ok (.invokevirtual 80, 3) := by decide +kernel
theorem dX2_makeDeep_78 : decode cX2_makeDeep 78 = .ok (.iinc 2 (-1), 3) := by decide +kernel
theorem dX2_makeDeep_81 : decode cX2_makeDeep 81 = .ok (.goto (-14), 3) := by decide +kernel
theorem dX2_makeDeep_84 : decode cX2_makeDeep 84 = .ok (.return_, 1) := by decide +kernel
theorem dX2_makeEmpty_0 : decode cX2_makeEmpty 0 = .ok (.aload_n 0, 1) := by decide +kernel
theorem dX2_makeEmpty_1 : decode cX2_makeEmpty 1 = .ok (.bipush 80, 2) := by decide +kernel
theorem dX2_makeEmpty_3 : decode cX2_makeEmpty 3 = .ok (.bipush 75, 2) := by decide +kernel
theorem dX2_makeEmpty_5 : decode cX2_makeEmpty 5 = .ok (.invokevirtual 74, 3) := by decide +kernel
theorem dX2_makeEmpty_8 : decode cX2_makeEmpty 8 = .ok (.aload_n 0, 1) := by decide +kernel
theorem dX2_makeEmpty_9 : decode cX2_makeEmpty 9 = .ok (.iload_n 1, 1) := by decide +kernel
theorem dX2_makeEmpty_10 : decode cX2_makeEmpty 10 = .ok (.invokevirtual 86, 3) := by decide +kernel
theorem dX2_makeEmpty_13 : decode cX2_makeEmpty 13 = .ok (.aload_n 0, 1) := by decide +kernel
theorem dX2_makeEmpty_14 : decode cX2_makeEmpty 14 = .ok (.iconst 0, 1) := by decide +kernel
theorem dX2_makeEmpty_15 : decode cX2_makeEmpty 15 = .ok (.invokevirtual 80, 3) := by decide +kernel
theorem dX2_makeEmpty_18 : decode cX2_makeEmpty 18 = .ok (.return_, 1) := by decide +kernel
theorem dX2_appendEmptyNotes_0 : decode cX2_appendEmptyNotes 0 = .ok (.iconst 0, 1) := by decide +kernel
theorem dX2_appendEmptyNotes_1 : decode cX2_appendEmptyNotes 1 = .ok (.istore_n 2, 1) := by decide +kernel
theorem dX2_appendEmptyNotes_2 : decode cX2_appendEmptyNotes 2 = .ok (.iload_n 2, 1) := by decide +kernel
theorem dX2_appendEmptyNotes_3 : decode cX2_appendEmptyNotes 3 = .ok (.iload_n 1, 1) := by decide +kernel
theorem dX2_appendEmptyNotes_4 : decode cX2_appendEmptyNotes 4 = .ok (.if_icmp .ge 15, 3) := by decide +kernel
theorem dX2_appendEmptyNotes_7 : decode cX2_appendEmptyNotes 7 = .ok (.aload_n 0, 1) := by decide +kernel
theorem dX2_appendEmptyNotes_8 : decode cX2_appendEmptyNotes 8 = .ok (.iconst 5, 1) := by decide +kernel
theorem dX2_appendEmptyNotes_9 : decode cX2_appendEmptyNotes 9 = .ok (.iconst 0, 1) := by decide +kernel
theorem dX2_appendEmptyNotes_10 : decode cX2_appendEmptyNotes 10 = .ok (.invokevirtual 74, 3) := by decide +kernel
theorem dX2_appendEmptyNotes_13 : decode cX2_appendEmptyNotes 13 = .ok (.iinc 2 1, 3) := by decide +kernel
theorem dX2_appendEmptyNotes_16 : decode cX2_appendEmptyNotes 16 = .ok (.goto (-14), 3) := by decide +kernel
theorem dX2_appendEmptyNotes_19 : decode cX2_appendEmptyNotes 19 = .ok (.return_, 1) := by decide +kernel
theorem dX2_makeAgains_0 : decode cX2_makeAgains 0 = .ok (.aload_n 0, 1) := by decide +kernel
theorem dX2_makeAgains_1 : decode cX2_makeAgains 1 = .ok (.bipush 80, 2) := by decide +kernel
theorem dX2_makeAgains_3 : decode cX2_makeAgains 3 = .ok (.bipush 75, 2) := by decide +kernel
theorem dX2_makeAgains_5 : decode cX2_makeAgains 5 = .ok (.invokevirtual 74, 3) := by decide +kernel
theorem dX2_makeAgains_8 : decode cX2_makeAgains 8 = .ok (.aload_n 0, 1) := by decide +kernel
theorem dX2_makeAgains_9 : decode cX2_makeAgains 9 = .ok (.iconst 2, 1) := by decide +kernel
theorem dX2_makeAgains_10 : decode cX2_makeAgains 10 = .ok (.iconst 1, 1) := by decide +kernel
theorem dX2_makeAgains_11 : decode cX2_makeAgains 11 = .ok (.aload_n 0, 1) := by decide +kernel
theorem dX2_makeAgains_12 : decode cX2_makeAgains 12 = .ok (.sipush 256, 3) := by decide +kernel
theorem dX2_makeAgains_15 : decode cX2_makeAgains 15 = .ok (.invokevirtual 62, 3) := by decide +kernel
theorem dX2_makeAgains_18 : decode cX2_makeAgains 18 = .ok (.invokevirtual 83, 3) := by decide +kernel
theorem dX2_makeAgains_21 : decode cX2_makeAgains 21 = .ok (.iconst 0, 1) := by decide +kernel
theorem dX2_makeAgains_22 : decode cX2_makeAgains 22 = .ok (.istore_n 2, 1) := by decide +kernel
theorem dX2_makeAgains_23 : decode cX2_makeAgains 23 = .ok (.iload_n 2, 1) := by decide +kernel
theorem dX2_makeAgains_24 : decode cX2_makeAgains 24 = .ok (.iload_n 1, 1) := by decide +kernel
theorem dX2_makeAgains_25 : decode cX2_makeAgains 25 = .ok (.if_icmp .ge 16, 3) := by decide +kernel
theorem dX2_makeAgains_28 : decode cX2_makeAgains 28 = .ok (.aload_n 0, 1) := by decide +kernel
theorem dX2_makeAgains_29 : decode cX2_makeAgains 29 = .ok (.bipush 6, 2) := by decide +kernel
theorem dX2_makeAgains_31 : decode cX2_makeAgains 31 = .ok (.iload_n 2, 1) := by decide +kernel
theorem dX2_makeAgains_32 : decode cX2_makeAgains 32 = .ok (.invokevirtual 74, 3) := by decide +kernel
theorem dX2_makeAgains_35 : decode cX2_makeAgains 35 = .ok (.iinc 2 1, 3) := by decide +kernel
theorem dX2_makeAgains_38 : decode cX2_makeAgains 38 = .ok (.goto (-15), 3) := by decide +kernel
theorem dX2_makeAgains_41 : decode cX2_makeAgains 41 = .ok (.aload_n 0, 1) := by decide +kernel
theorem dX2_makeAgains_42 : decode cX2_makeAgains 42 = .ok (.iconst 0, 1) := by decide +kernel
theorem dX2_makeAgains_43 : decode cX2_makeAgains 43 = .ok (.invokevirtual 80, 3) := by decide +kernel
theorem dX2_makeAgains_46 : decode cX2_makeAgains 46 = .ok (.return_, 1) := by decide +kernel
theorem dX2_makeTables_0 : decode cX2_makeTables 0 = .ok (.aload_n 0, 1) := by decide +kernel
theorem dX2_makeTables_1 : decode cX2_makeTables 1 = .ok (.bipush 80, 2) := by decide +kernel
theorem dX2_makeTables_3 : decode cX2_makeTables 3 = .ok (.bipush 75, 2) := by decide +kernel
theorem dX2_makeTables_5 : decode cX2_makeTables 5 = .ok (.invokevirtual 74, 3) := by decide +kernel
theorem dX2_makeTables_8 : decode cX2_makeTables 8 = .ok (.aload_n 0, 1) := by decide +kernel
theorem dX2_makeTables_9 : decode cX2_makeTables 9 = .ok (.bipush 7, 2) := by decide +kernel
theorem dX2_makeTables_11 : decode cX2_makeTables 11 = .ok (.bipush 8, 2) := by decide +kernel
theorem dX2_makeTables_13 : decode cX2_makeTables 13 = .ok (.invokevirtual 74, 3) := by decide +kernel
theorem dX2_makeTables_16 : decode cX2_makeTables 16 = .ok (.iconst 0, 1) := by decide +kernel
theorem dX2_makeTables_17 : decode cX2_makeTables 17 = .ok (.istore_n 2, 1) := by decide +kernel
theorem dX2_makeTables_18 : decode cX2_makeTables 18 = .ok (.iload_n 2, 1) := by decide +kernel
theorem dX2_makeTables_19 : decode cX2_makeTables 19 = .ok (.bipush 8, 2) := by decide +kernel
theorem dX2_makeTables_21 : decode cX2_makeTables 21 = .ok (.if_icmp .ge 17, 3) := by decide +kernel
theorem dX2_makeTables_24 : decode cX2_makeTables 24 = .ok (.aload_n 0, 1) := by decide +kernel
theorem dX2_makeTables_25 : decode cX2_makeTables 25 = .ok (.getfield 9, 3) := by decide +kernel
theorem dX2_makeTables_28 : decode cX2_makeTables 28 = .ok (.iload_n 2, 1) := by decide +kernel
theorem dX2_makeTables_29 : decode cX2_makeTables 29 = .ok (.invokevirtual 59, 3) := by decide +kernel
theorem dX2_makeTables_32 : decode cX2_makeTables 32 = .ok (.iinc 2 1, 3) := by decide +kernel
theorem dX2_makeTables_35 : decode cX2_makeTables 35 = .ok (.goto (-17), 3) := by decide +kernel
theorem dX2_makeTables_38 : decode cX2_makeTables 38 = .ok (.iconst 0, 1) := by decide +kernel
theorem dX2_makeTables_39 : decode cX2_makeTables 39 = .ok (.istore_n 2, 1) := by decide +kernel
theorem dX2_makeTables_40 : decode cX2_makeTables 40 = .ok (.iload_n 2, 1) := by decide +kernel
theorem dX2_makeTables_41 : decode cX2_makeTables 41 = .ok (.bipush 8, 2) := by decide +kernel
theorem dX2_makeTables_43 : decode cX2_makeTables 43 = .ok (.if_icmp .ge 22, 3) := by decide +kernel
theorem dX2_makeTables_46 : decode cX2_makeTables 46 = .ok (.aload_n 0, 1) := by decide +kernel
theorem dX2_makeTables_47 : decode cX2_makeTables 47 = .ok (.getfield 9, 3) := by decide +kernel
theorem dX2_makeTables_50 : decode cX2_makeTables 50 = .ok (.aload_n 0, 1) := by decide +kernel
theorem dX2_makeTables_51 : decode cX2_makeTables 51 = .ok (.bipush 8, 2) := by decide +kernel
theorem dX2_makeTables_53 : decode cX2_makeTables 53 = .ok (.invokevirtual 62, 3) := by decide +kernel
theorem dX2_makeTables_56 : decode cX2_makeTables 56 = .ok (.invokevirtual 59, 3) := by decide +kernel
theorem dX2_makeTables_59 : decode cX2_makeTables 59 = .ok (.iinc 2 1, 3) := by decide +kernel
theorem dX2_makeTables_62 : decode cX2_makeTables 62 = .ok (.goto (-22), 3) := by decide +kernel
theorem dX2_makeTables_65 : decode cX2_makeTables 65 = .ok (.aload_n 0, 1) := by decide +kernel
theorem dX2_makeTables_66 : decode cX2_makeTables 66 = .ok (.getfield 9, 3) := by decide +kernel
theorem dX2_makeTables_69 : decode cX2_makeTables 69 = .ok (.iconst 0, 1) := by decide +kernel
theorem dX2_makeTables_70 : decode cX2_makeTables 70 = .ok (.invokevirtual 59, 3) := by decide +kernel
theorem dX2_makeTables_73 : decode cX2_makeTables 73 = .ok (.aload_n 0, 1) := by decide +kernel
theorem dX2_makeTables_74 : decode cX2_makeTables 74 = .ok (.iload_n 1, 1) := by decide +kernel
theorem dX2_makeTables_75 : decode cX2_makeTables 75 = .ok (.invokevirtual 86, 3) := by decide +kernel
theorem dX2_makeTables_78 : decode cX2_makeTables 78 = .ok (.aload_n 0, 1) := by decide +kernel
theorem dX2_makeTables_79 : decode cX2_makeTables 79 = .ok (.iconst 0, 1) := by decide +kernel
theorem dX2_makeTables_80 : decode cX2_makeTables 80 = .ok (.invokevirtual 80, 3) := by decide +kernel
theorem dX2_makeTables_83 : decode cX2_makeTables 83 = .ok (.return_, 1) := by decide +kernel
theorem dX2_cutEnd_0 : decode cX2_cutEnd 0 = .ok (.iconst 1, 1) := by decide +kernel
theorem dX2_cutEnd_1 : decode cX2_cutEnd 1 = .ok (.aload_n 0, 1) := by decide +kernel
theorem dX2_cutEnd_2 : decode cX2_cutEnd 2 = .ok (.iconst 4, 1) := by decide +kernel
theorem dX2_cutEnd_3 : decode cX2_cutEnd 3 = .ok (.invokevirtual 62, 3) := by decide +kernel
theorem dX2_cutEnd_6 : decode cX2_cutEnd 6 = .ok (.iadd, 1) := by decide +kernel
theorem dX2_cutEnd_7 : decode cX2_cutEnd 7 = .ok (.istore_n 1, 1) := by decide +kernel
theorem dX2_cutEnd_8 : decode cX2_cutEnd 8 = .ok (.aload_n 0, 1) := by decide +kernel
theorem dX2_cutEnd_9 : decode cX2_cutEnd 9 = .ok (.getfield 9, 3) := by decide +kernel
theorem dX2_cutEnd_12 : decode cX2_cutEnd 12 = .ok (.aload_n 0, 1) := by decide +kernel
theorem dX2_cutEnd_13 : decode cX2_cutEnd 13 = .ok (.getfield 9, 3) := by decide +kernel
theorem dX2_cutEnd_16 : decode cX2_cutEnd 16 = .ok (.getfield 66, 3) := by decide +kernel
theorem dX2_cutEnd_19 : decode cX2_cutEnd 19 = .ok (.iload_n 1, 1) := by decide +kernel
theorem dX2_cutEnd_20 : decode cX2_cutEnd 20 = .ok (.isub, 1) := by decide +kernel
theorem dX2_cutEnd_21 : decode cX2_cutEnd 21 = .ok (.invokevirtual 19, 3) := by decide +kernel
theorem dX2_cutEnd_24 : decode cX2_cutEnd 24 = .ok (.return_, 1) := by decide +kernel
theorem dX2_spoilCheck_0 : decode cX2_spoilCheck 0 = .ok (.aload_n 0, 1) := by decide +kernel
theorem dX2_spoilCheck_1 : decode cX2_spoilCheck 1 = .ok (.getfield 9, 3) := by decide +kernel
theorem dX2_spoilCheck_4 : decode cX2_spoilCheck 4 = .ok (.getfield 66, 3) := by decide +kernel
theorem dX2_spoilCheck_7 : decode cX2_spoilCheck 7 = .ok (.iconst 1, 1) := by decide +kernel
theorem dX2_spoilCheck_8 : decode cX2_spoilCheck 8 = .ok (.isub, 1) := by decide +kernel
theorem dX2_spoilCheck_9 : decode cX2_spoilCheck 9 = .ok (.istore_n 1, 1) := by decide +kernel
theorem dX2_spoilCheck_10 : decode cX2_spoilCheck 10 = .ok (.aload_n 0, 1) := by decide +kernel
theorem dX2_spoilCheck_11 : decode cX2_spoilCheck 11 = .ok (.getfield 9, 3) := by decide +kernel
theorem dX2_spoilCheck_14 : decode cX2_spoilCheck 14 = .ok (.iload_n 1, 1) := by decide +kernel
theorem dX2_spoilCheck_15 : decode cX2_spoilCheck 15 = .ok (.aload_n 0, 1) := by decide +kernel
theorem dX2_spoilCheck_16 : decode cX2_spoilCheck 16 = .ok (.getfield 9, 3) := by decide +kernel
theorem dX2_spoilCheck_19 : decode cX2_spoilCheck 19 = .ok (.iload_n 1, 1) := by decide +kernel
theorem dX2_spoilCheck_20 : decode cX2_spoilCheck 20 = .ok (.invokevirtual 89, 3) := by decide +kernel
theorem dX2_spoilCheck_23 : decode cX2_spoilCheck 23 = .ok (.iconst 1, 1) := by decide +kernel
theorem dX2_spoilCheck_24 : decode cX2_spoilCheck 24 = .ok (.iadd, 1) := by decide +kernel
theorem dX2_spoilCheck_25 : decode cX2_spoilCheck 25 = .ok (.sipush 255, 3) := by decide +kernel
theorem dX2_spoilCheck_28 : decode cX2_spoilCheck 28 = .ok (.iand, 1) := by decide +kernel
theorem dX2_spoilCheck_29 : decode cX2_spoilCheck 29 = .ok (.invokevirtual 92, 3) := by decide +kernel
theorem dX2_spoilCheck_32 : decode cX2_spoilCheck 32 = .ok (.return_, 1) := by decide +kernel
theorem dX2_makeDrawn_0 : decode cX2_makeDrawn 0 = .ok (.aload_n 0, 1) := by decide +kernel
theorem dX2_makeDrawn_1 : decode cX2_makeDrawn 1 = .ok (.bipush 80, 2) := by decide +kernel
theorem dX2_makeDrawn_3 : decode cX2_makeDrawn 3 = .ok (.bipush 75, 2) := by decide +kernel
theorem dX2_makeDrawn_5 : decode cX2_makeDrawn 5 = .ok (.invokevirtual 74, 3) := by decide +kernel
theorem dX2_makeDrawn_8 : decode cX2_makeDrawn 8 = .ok (.iconst 0, 1) := by decide +kernel
theorem dX2_makeDrawn_9 : decode cX2_makeDrawn 9 = .ok (.istore_n 2, 1) := by decide +kernel
theorem dX2_makeDrawn_10 : decode cX2_makeDrawn 10 = .ok (.iload_n 2, 1) := by decide +kernel
theorem dX2_makeDrawn_11 : decode cX2_makeDrawn 11 = .ok (.iload_n 1, 1) := by decide +kernel
theorem dX2_makeDrawn_12 : decode cX2_makeDrawn 12 = .ok (.if_icmp .ge 14, 3) := by decide +kernel
theorem dX2_makeDrawn_15 : decode cX2_makeDrawn 15 = .ok (.aload_n 0, 1) := by decide +kernel
theorem dX2_makeDrawn_16 : decode cX2_makeDrawn 16 = .ok (.iload_n 2, 1) := by decide +kernel
theorem dX2_makeDrawn_17 : decode cX2_makeDrawn 17 = .ok (.invokevirtual 95, 3) := by decide +kernel
theorem dX2_makeDrawn_20 : decode cX2_makeDrawn 20 = .ok (.iinc 2 1, 3) := by decide +kernel
theorem dX2_makeDrawn_23 : decode cX2_makeDrawn 23 = .ok (.goto (-13), 3) := by decide +kernel
theorem dX2_makeDrawn_26 : decode cX2_makeDrawn 26 = .ok (.aload_n 0, 1) := by decide +kernel
theorem dX2_makeDrawn_27 : decode cX2_makeDrawn 27 = .ok (.iconst 0, 1) := by decide +kernel
theorem dX2_makeDrawn_28 : decode cX2_makeDrawn 28 = .ok (.invokevirtual 80, 3) := by decide +kernel
theorem dX2_makeDrawn_31 : decode cX2_makeDrawn 31 = .ok (.return_, 1) := by decide +kernel
theorem dX2_appendDrawnItem_0 : decode cX2_appendDrawnItem 0 = .ok (.aload_n 0, 1) := by decide +kernel
theorem dX2_appendDrawnItem_1 : decode cX2_appendDrawnItem 1 = .ok (.bipush 6, 2) := by decide +kernel
theorem dX2_appendDrawnItem_3 : decode cX2_appendDrawnItem 3 = .ok (.invokevirtual 62, 3) := by decide +kernel
theorem dX2_appendDrawnItem_6 : decode cX2_appendDrawnItem 6 = .ok (.tableswitch 113 0 4 #[34, 50, 71, 92, 105], 34) := by decide +kernel
theorem dX2_appendDrawnItem_40 : decode cX2_appendDrawnItem 40 = .ok (.aload_n 0, 1) := by decide +kernel
theorem dX2_appendDrawnItem_41 : decode cX2_appendDrawnItem 41 = .ok (.iconst 1, 1) := by decide +kernel
theorem dX2_appendDrawnItem_42 : decode cX2_appendDrawnItem 42 = .ok (.iconst 1, 1) := by decide +kernel
theorem dX2_appendDrawnItem_43 : decode cX2_appendDrawnItem 43 = .ok (.aload_n 0, 1) := by decide +kernel
theorem dX2_appendDrawnItem_44 : decode cX2_appendDrawnItem 44 = .ok (.bipush 6, 2) := by decide +kernel
theorem dX2_appendDrawnItem_46 : decode cX2_appendDrawnItem 46 = .ok (.invokevirtual 62, 3) := by decide +kernel
theorem dX2_appendDrawnItem_49 : decode cX2_appendDrawnItem 49 = .ok (.iadd, 1) := by decide +kernel
theorem dX2_appendDrawnItem_50 : decode cX2_appendDrawnItem 50 = .ok (.invokevirtual 98, 3) := by decide +kernel
theorem dX2_appendDrawnItem_53 : decode cX2_appendDrawnItem 53 = .ok (.goto 70, 3) := by decide +kernel
theorem dX2_appendDrawnItem_56 : decode cX2_appendDrawnItem 56 = .ok (.aload_n 0, 1) := by decide +kernel
theorem dX2_appendDrawnItem_57 : decode cX2_appendDrawnItem 57 = .ok (.iconst 2, 1) := by decide +kernel
theorem dX2_appendDrawnItem_58 : decode cX2_appendDrawnItem 58 = .ok (.aload_n 0, 1) := by decide +kernel
theorem dX2_appendDrawnItem_59 : decode cX2_appendDrawnItem 59 = .ok (.bipush 20, 2) := by decide +kernel
theorem dX2_appendDrawnItem_61 : decode cX2_appendDrawnItem 61 = .ok (.invokevirtual 62, 3) := by decide +kernel
theorem dX2_appendDrawnItem_64 : decode cX2_appendDrawnItem 64 = .ok (.aload_n 0, 1) := by decide +kernel
theorem dX2_appendDrawnItem_65 : decode cX2_appendDrawnItem 65 = .ok (.sipush 256, 3) := by decide +kernel
theorem dX2_appendDrawnItem_68 : decode cX2_appendDrawnItem 68 = .ok (.invokevirtual 62, 3) := by decide +kernel
theorem dX2_appendDrawnItem_71 : decode cX2_appendDrawnItem 71 = .ok (.invokevirtual 83, 3) := by decide +kernel
theorem dX2_appendDrawnItem_74 : decode cX2_appendDrawnItem 74 = .ok (.goto 49, 3) := by decide +kernel
theorem dX2_appendDrawnItem_77 : decode cX2_appendDrawnItem 77 = .ok (.aload_n 0, 1) := by decide +kernel
theorem dX2_appendDrawnItem_78 : decode cX2_appendDrawnItem 78 = .ok (.iconst 3, 1) := by decide +kernel
theorem dX2_appendDrawnItem_79 : decode cX2_appendDrawnItem 79 = .ok (.iconst 1, 1) := by decide +kernel
theorem dX2_appendDrawnItem_80 : decode cX2_appendDrawnItem 80 = .ok (.aload_n 0, 1) := by decide +kernel
theorem dX2_appendDrawnItem_81 : decode cX2_appendDrawnItem 81 = .ok (.iconst 4, 1) := by decide +kernel
theorem dX2_appendDrawnItem_82 : decode cX2_appendDrawnItem 82 = .ok (.invokevirtual 62, 3) := by decide +kernel
theorem dX2_appendDrawnItem_85 : decode cX2_appendDrawnItem 85 = .ok (.iadd, 1) := by decide +kernel
theorem dX2_appendDrawnItem_86 : decode cX2_appendDrawnItem 86 = .ok (.aload_n 0, 1) := by decide +kernel
theorem dX2_appendDrawnItem_87 : decode cX2_appendDrawnItem 87 = .ok (.bipush 12, 2) := by decide +kernel
theorem dX2_appendDrawnItem_89 : decode cX2_appendDrawnItem 89 = .ok (.invokevirtual 62, 3) := by decide +kernel
theorem dX2_appendDrawnItem_92 : decode cX2_appendDrawnItem 92 = .ok (.invokevirtual 83, 3) := by decide +kernel
theorem dX2_appendDrawnItem_95 : decode cX2_appendDrawnItem 95 = .ok (.goto 28, 3) := by decide +kernel
theorem dX2_appendDrawnItem_98 : decode cX2_appendDrawnItem 98 = .ok (.aload_n 0, 1) := by decide +kernel
theorem dX2_appendDrawnItem_99 : decode cX2_appendDrawnItem 99 = .ok (.iconst 5, 1) := by decide +kernel
theorem dX2_appendDrawnItem_100 : decode cX2_appendDrawnItem 100 = .ok (.aload_n 0, 1) := by decide +kernel
theorem dX2_appendDrawnItem_101 : decode cX2_appendDrawnItem 101 = .ok (.iconst 4, 1) := by decide +kernel
theorem dX2_appendDrawnItem_102 : decode cX2_appendDrawnItem 102 = .ok (.invokevirtual 62, 3) := by decide +kernel
theorem dX2_appendDrawnItem_105 : decode cX2_appendDrawnItem 105 = .ok (.invokevirtual 98, 3) := by decide +kernel
theorem dX2_appendDrawnItem_108 : decode cX2_appendDrawnItem 108 = .ok (.goto 15, 3) := by decide +kernel
theorem dX2_appendDrawnItem_111 : decode cX2_appendDrawnItem 111 = .ok (.aload_n 0, 1) := by decide +kernel
theorem dX2_appendDrawnItem_112 : decode cX2_appendDrawnItem 112 = .ok (.iload_n 1, 1) := by decide +kernel
theorem dX2_appendDrawnItem_113 : decode cX2_appendDrawnItem 113 = .ok (.invokevirtual 101, 3) := by decide +kernel
theorem dX2_appendDrawnItem_116 : decode cX2_appendDrawnItem 116 = .ok (.goto 7, 3) := by decide +kernel
theorem dX2_appendDrawnItem_119 : decode cX2_appendDrawnItem 119 = .ok (.aload_n 0, 1) := by decide +kernel
theorem dX2_appendDrawnItem_120 : decode cX2_appendDrawnItem 120 = .ok (.invokevirtual 104, 3) := by decide +kernel
theorem dX2_appendDrawnItem_123 : decode cX2_appendDrawnItem 123 = .ok (.return_, 1) := by decide +kernel
theorem dX2_appendCounted_0 : decode cX2_appendCounted 0 = .ok (.aload_n 0, 1) := by decide +kernel
theorem dX2_appendCounted_1 : decode cX2_appendCounted 1 = .ok (.iload_n 1, 1) := by decide +kernel
theorem dX2_appendCounted_2 : decode cX2_appendCounted 2 = .ok (.iload_n 2, 1) := by decide +kernel
theorem dX2_appendCounted_3 : decode cX2_appendCounted 3 = .ok (.invokevirtual 74, 3) := by decide +kernel
theorem dX2_appendCounted_6 : decode cX2_appendCounted 6 = .ok (.aload_n 0, 1) := by decide +kernel
theorem dX2_appendCounted_7 : decode cX2_appendCounted 7 = .ok (.iload_n 2, 1) := by decide +kernel
theorem dX2_appendCounted_8 : decode cX2_appendCounted 8 = .ok (.invokevirtual 77, 3) := by decide +kernel
theorem dX2_appendCounted_11 : decode cX2_appendCounted 11 = .ok (.return_, 1) := by decide +kernel
theorem dX2_appendDrawnAgain_0 : decode cX2_appendDrawnAgain 0 = .ok (.iload_n 1, 1) := by decide +kernel
theorem dX2_appendDrawnAgain_1 : decode cX2_appendDrawnAgain 1 = .ok (.ifCond .le 17, 3) := by decide +kernel
theorem dX2_appendDrawnAgain_4 : decode cX2_appendDrawnAgain 4 = .ok (.aload_n 0, 1) := by decide +kernel
theorem dX2_appendDrawnAgain_5 : decode cX2_appendDrawnAgain 5 = .ok (.bipush 6, 2) := by decide +kernel
theorem dX2_appendDrawnAgain_7 : decode cX2_appendDrawnAgain 7 = .ok (.aload_n 0, 1) := by decide +kernel
theorem dX2_appendDrawnAgain_8 : decode cX2_appendDrawnAgain 8 = .ok (.iload_n 1, 1) := by decide +kernel
theorem dX2_appendDrawnAgain_9 : decode cX2_appendDrawnAgain 9 = .ok (.invokevirtual 62, 3) := by decide +kernel
theorem dX2_appendDrawnAgain_12 : decode cX2_appendDrawnAgain 12 = .ok (.invokevirtual 74, 3) := by decide +kernel
theorem dX2_appendDrawnAgain_15 : decode cX2_appendDrawnAgain 15 = .ok (.goto 16, 3) := by decide +kernel
theorem dX2_appendDrawnAgain_18 : decode cX2_appendDrawnAgain 18 = .ok (.aload_n 0, 1) := by decide +kernel
theorem dX2_appendDrawnAgain_19 : decode cX2_appendDrawnAgain 19 = .ok (.iconst 1, 1) := by decide +kernel
theorem dX2_appendDrawnAgain_20 : decode cX2_appendDrawnAgain 20 = .ok (.iconst 1, 1) := by decide +kernel
theorem dX2_appendDrawnAgain_21 : decode cX2_appendDrawnAgain 21 = .ok (.aload_n 0, 1) := by decide +kernel
theorem dX2_appendDrawnAgain_22 : decode cX2_appendDrawnAgain 22 = .ok (.sipush 256, 3) := by decide +kernel
theorem dX2_appendDrawnAgain_25 : decode cX2_appendDrawnAgain 25 = .ok (.invokevirtual 62, 3) := by decide +kernel
theorem dX2_appendDrawnAgain_28 : decode cX2_appendDrawnAgain 28 = .ok (.invokevirtual 83, 3) := by decide +kernel
theorem dX2_appendDrawnAgain_31 : decode cX2_appendDrawnAgain 31 = .ok (.return_, 1) := by decide +kernel
theorem dX2_appendDrawnNest_0 : decode cX2_appendDrawnNest 0 = .ok (.aload_n 0, 1) := by decide +kernel
theorem dX2_appendDrawnNest_1 : decode cX2_appendDrawnNest 1 = .ok (.iconst 5, 1) := by decide +kernel
theorem dX2_appendDrawnNest_2 : decode cX2_appendDrawnNest 2 = .ok (.invokevirtual 62, 3) := by decide +kernel
theorem dX2_appendDrawnNest_5 : decode cX2_appendDrawnNest 5 = .ok (.istore_n 1, 1) := by decide +kernel
theorem dX2_appendDrawnNest_6 : decode cX2_appendDrawnNest 6 = .ok (.aload_n 0, 1) := by decide +kernel
theorem dX2_appendDrawnNest_7 : decode cX2_appendDrawnNest 7 = .ok (.iconst 4, 1) := by decide +kernel
theorem dX2_appendDrawnNest_8 : decode cX2_appendDrawnNest 8 = .ok (.iconst 0, 1) := by decide +kernel
theorem dX2_appendDrawnNest_9 : decode cX2_appendDrawnNest 9 = .ok (.bipush 6, 2) := by decide +kernel
theorem dX2_appendDrawnNest_11 : decode cX2_appendDrawnNest 11 = .ok (.iload_n 1, 1) := by decide +kernel
theorem dX2_appendDrawnNest_12 : decode cX2_appendDrawnNest 12 = .ok (.iadd, 1) := by decide +kernel
theorem dX2_appendDrawnNest_13 : decode cX2_appendDrawnNest 13 = .ok (.invokevirtual 83, 3) := by decide +kernel
theorem dX2_appendDrawnNest_16 : decode cX2_appendDrawnNest 16 = .ok (.aload_n 0, 1) := by decide +kernel
theorem dX2_appendDrawnNest_17 : decode cX2_appendDrawnNest 17 = .ok (.getfield 9, 3) := by decide +kernel
theorem dX2_appendDrawnNest_20 : decode cX2_appendDrawnNest 20 = .ok (.getfield 66, 3) := by decide +kernel
theorem dX2_appendDrawnNest_23 : decode cX2_appendDrawnNest 23 = .ok (.istore_n 2, 1) := by decide +kernel
theorem dX2_appendDrawnNest_24 : decode cX2_appendDrawnNest 24 = .ok (.aload_n 0, 1) := by decide +kernel
theorem dX2_appendDrawnNest_25 : decode cX2_appendDrawnNest 25 = .ok (.bipush 80, 2) := by decide +kernel
theorem dX2_appendDrawnNest_27 : decode cX2_appendDrawnNest 27 = .ok (.bipush 75, 2) := by decide +kernel
theorem dX2_appendDrawnNest_29 : decode cX2_appendDrawnNest 29 = .ok (.invokevirtual 74, 3) := by decide +kernel
theorem dX2_appendDrawnNest_32 : decode cX2_appendDrawnNest 32 = .ok (.aload_n 0, 1) := by decide +kernel
theorem dX2_appendDrawnNest_33 : decode cX2_appendDrawnNest 33 = .ok (.iconst 1, 1) := by decide +kernel
theorem dX2_appendDrawnNest_34 : decode cX2_appendDrawnNest 34 = .ok (.iload_n 1, 1) := by decide +kernel
theorem dX2_appendDrawnNest_35 : decode cX2_appendDrawnNest 35 = .ok (.invokevirtual 98, 3) := by decide +kernel
theorem dX2_appendDrawnNest_38 : decode cX2_appendDrawnNest 38 = .ok (.aload_n 0, 1) := by decide +kernel
theorem dX2_appendDrawnNest_39 : decode cX2_appendDrawnNest 39 = .ok (.iload_n 2, 1) := by decide +kernel
theorem dX2_appendDrawnNest_40 : decode cX2_appendDrawnNest 40 = .ok (.invokevirtual 80, 3) := by decide +kernel
theorem dX2_appendDrawnNest_43 : decode cX2_appendDrawnNest 43 = .ok (.return_, 1) := by decide +kernel
