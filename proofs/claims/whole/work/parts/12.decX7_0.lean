theorem dX7_init_0 : decode cX7_init 0 = .ok (.aload_n 0, 1) := by decide +kernel
theorem dX7_init_1 : decode cX7_init 1 = .ok (.invokespecial 1, 3) := by decide +kernel
theorem dX7_init_4 : decode cX7_init 4 = .ok (.aload_n 0, 1) := by decide +kernel
theorem dX7_init_5 : decode cX7_init 5 = .ok (.sipush 1200, 3) := by decide +kernel
theorem dX7_init_8 : decode cX7_init 8 = .ok (.newarray .int, 2) := by decide +kernel
theorem dX7_init_10 : decode cX7_init 10 = .ok (.putfield 7, 3) := by decide +kernel
theorem dX7_init_13 : decode cX7_init 13 = .ok (.aload_n 0, 1) := by decide +kernel
theorem dX7_init_14 : decode cX7_init 14 = .ok (.sipush 4000, 3) := by decide +kernel
theorem dX7_init_17 : decode cX7_init 17 = .ok (.newarray .int, 2) := by decide +kernel
theorem dX7_init_19 : decode cX7_init 19 = .ok (.putfield 13, 3) := by decide +kernel
theorem dX7_init_22 : decode cX7_init 22 = .ok (.aload_n 0, 1) := by decide +kernel
theorem dX7_init_23 : decode cX7_init 23 = .ok (.iconst (-1), 1) := by decide +kernel
theorem dX7_init_24 : decode cX7_init 24 = .ok (.putfield 16, 3) := by decide +kernel
theorem dX7_init_27 : decode cX7_init 27 = .ok (.aload_n 0, 1) := by decide +kernel
theorem dX7_init_28 : decode cX7_init 28 = .ok (.bipush 10, 2) := by decide +kernel
theorem dX7_init_30 : decode cX7_init 30 = .ok (.newarray .int, 2) := by decide +kernel
theorem dX7_init_32 : decode cX7_init 32 = .ok (.putfield 20, 3) := by decide +kernel
theorem dX7_init_35 : decode cX7_init 35 = .ok (.aload_n 0, 1) := by decide +kernel
theorem dX7_init_36 : decode cX7_init 36 = .ok (.bipush 10, 2) := by decide +kernel
theorem dX7_init_38 : decode cX7_init 38 = .ok (.newarray .int, 2) := by decide +kernel
theorem dX7_init_40 : decode cX7_init 40 = .ok (.putfield 23, 3) := by decide +kernel
theorem dX7_init_43 : decode cX7_init 43 = .ok (.aload_n 0, 1) := by decide +kernel
theorem dX7_init_44 : decode cX7_init 44 = .ok (.bipush 10, 2) := by decide +kernel
theorem dX7_init_46 : decode cX7_init 46 = .ok (.newarray .int, 2) := by decide +kernel
theorem dX7_init_48 : decode cX7_init 48 = .ok (.putfield 26, 3) := by decide +kernel
theorem dX7_init_51 : decode cX7_init 51 = .ok (.aload_n 0, 1) := by decide +kernel
theorem dX7_init_52 : decode cX7_init 52 = .ok (.bipush 10, 2) := by decide +kernel
theorem dX7_init_54 : decode cX7_init 54 = .ok (.newarray .int, 2) := by decide +kernel
theorem dX7_init_56 : decode cX7_init 56 = .ok (.putfield 29, 3) := by decide +kernel
theorem dX7_init_59 : decode cX7_init 59 = .ok (.aload_n 0, 1) := by decide +kernel
theorem dX7_init_60 : decode cX7_init 60 = .ok (.bipush 10, 2) := by decide +kernel
theorem dX7_init_62 : decode cX7_init 62 = .ok (.newarray .int, 2) := by decide +kernel
theorem dX7_init_64 : decode cX7_init 64 = .ok (.putfield 32, 3) := by decide +kernel
theorem dX7_init_67 : decode cX7_init 67 = .ok (.aload_n 0, 1) := by decide +kernel
theorem dX7_init_68 : decode cX7_init 68 = .ok (.sipush 6000, 3) := by decide +kernel
theorem dX7_init_71 : decode cX7_init 71 = .ok (.newarray .int, 2) := by decide +kernel
theorem dX7_init_73 : decode cX7_init 73 = .ok (.putfield 35, 3) := by decide +kernel
theorem dX7_init_76 : decode cX7_init 76 = .ok (.aload_n 0, 1) := by decide +kernel
theorem dX7_init_77 : decode cX7_init 77 = .ok (.bipush 10, 2) := by decide +kernel
theorem dX7_init_79 : decode cX7_init 79 = .ok (.newarray .int, 2) := by decide +kernel
theorem dX7_init_81 : decode cX7_init 81 = .ok (.putfield 38, 3) := by decide +kernel
theorem dX7_init_84 : decode cX7_init 84 = .ok (.aload_n 0, 1) := by decide +kernel
theorem dX7_init_85 : decode cX7_init 85 = .ok (.bipush 10, 2) := by decide +kernel
theorem dX7_init_87 : decode cX7_init 87 = .ok (.newarray .int, 2) := by decide +kernel
theorem dX7_init_89 : decode cX7_init 89 = .ok (.putfield 41, 3) := by decide +kernel
theorem dX7_init_92 : decode cX7_init 92 = .ok (.aload_n 0, 1) := by decide +kernel
theorem dX7_init_93 : decode cX7_init 93 = .ok (.bipush 10, 2) := by decide +kernel
theorem dX7_init_95 : decode cX7_init 95 = .ok (.newarray .int, 2) := by decide +kernel
theorem dX7_init_97 : decode cX7_init 97 = .ok (.putfield 44, 3) := by decide +kernel
theorem dX7_init_100 : decode cX7_init 100 = .ok (.aload_n 0, 1) := by decide +kernel
theorem dX7_init_101 : decode cX7_init 101 = .ok (.sipush 600, 3) := by decide +kernel
theorem dX7_init_104 : decode cX7_init 104 = .ok (.newarray .int, 2) := by decide +kernel
theorem dX7_init_106 : decode cX7_init 106 = .ok (.putfield 47, 3) := by decide +kernel
theorem dX7_init_109 : decode cX7_init 109 = .ok (.aload_n 0, 1) := by decide +kernel
theorem dX7_init_110 : decode cX7_init 110 = .ok (.sipush 600, 3) := by decide +kernel
theorem dX7_init_113 : decode cX7_init 113 = .ok (.newarray .int, 2) := by decide +kernel
theorem dX7_init_115 : decode cX7_init 115 = .ok (.putfield 50, 3) := by decide +kernel
theorem dX7_init_118 : decode cX7_init 118 = .ok (.aload_n 0, 1) := by decide +kernel
theorem dX7_init_119 : decode cX7_init 119 = .ok (.sipush 600, 3) := by decide +kernel
theorem dX7_init_122 : decode cX7_init 122 = .ok (.newarray .int, 2) := by decide +kernel
theorem dX7_init_124 : decode cX7_init 124 = .ok (.putfield 53, 3) := by decide +kernel
theorem dX7_init_127 : decode cX7_init 127 = .ok (.aload_n 0, 1) := by decide +kernel
theorem dX7_init_128 : decode cX7_init 128 = .ok (.sipush 600, 3) := by decide +kernel
theorem dX7_init_131 : decode cX7_init 131 = .ok (.newarray .int, 2) := by decide +kernel
theorem dX7_init_133 : decode cX7_init 133 = .ok (.putfield 56, 3) := by decide +kernel
theorem dX7_init_136 : decode cX7_init 136 = .ok (.aload_n 0, 1) := by decide +kernel
theorem dX7_init_137 : decode cX7_init 137 = .ok (.bipush 8, 2) := by decide +kernel
theorem dX7_init_139 : decode cX7_init 139 = .ok (.newarray .int, 2) := by decide +kernel
theorem dX7_init_141 : decode cX7_init 141 = .ok (.putfield 59, 3) := by decide +kernel
theorem dX7_init_144 : decode cX7_init 144 = .ok (.aload_n 0, 1) := by decide +kernel
theorem dX7_init_145 : decode cX7_init 145 = .ok (.sipush 1200, 3) := by decide +kernel
theorem dX7_init_148 : decode cX7_init 148 = .ok (.newarray .int, 2) := by decide +kernel
theorem dX7_init_150 : decode cX7_init 150 = .ok (.putfield 62, 3) := by decide +kernel
theorem dX7_init_153 : decode cX7_init 153 = .ok (.aload_n 0, 1) := by decide +kernel
theorem dX7_init_154 : decode cX7_init 154 = .ok (.sipush 601, 3) := by decide +kernel
theorem dX7_init_157 : decode cX7_init 157 = .ok (.newarray .int, 2) := by decide +kernel
theorem dX7_init_159 : decode cX7_init 159 = .ok (.putfield 65, 3) := by decide +kernel
theorem dX7_init_162 : decode cX7_init 162 = .ok (.aload_n 0, 1) := by decide +kernel
theorem dX7_init_163 : decode cX7_init 163 = .ok (.lload_n 1, 1) := by decide +kernel
theorem dX7_init_164 : decode cX7_init 164 = .ok (.putfield 68, 3) := by decide +kernel
theorem dX7_init_167 : decode cX7_init 167 = .ok (.return_, 1) := by decide +kernel
theorem dX7_in_0 : decode cX7_in 0 = .ok (.lload_n 0, 1) := by decide +kernel
theorem dX7_in_1 : decode cX7_in 1 = .ok (.lload_n 2, 1) := by decide +kernel
theorem dX7_in_2 : decode cX7_in 2 = .ok (.lcmp, 1) := by decide +kernel
theorem dX7_in_3 : decode cX7_in 3 = .ok (.ifCond .lt 14, 3) := by decide +kernel
theorem dX7_in_6 : decode cX7_in 6 = .ok (.lload_n 0, 1) := by decide +kernel
theorem dX7_in_7 : decode cX7_in 7 = .ok (.lload 4, 2) := by decide +kernel
theorem dX7_in_9 : decode cX7_in 9 = .ok (.lcmp, 1) := by decide +kernel
theorem dX7_in_10 : decode cX7_in 10 = .ok (.ifCond .gt 7, 3) := by decide +kernel
theorem dX7_in_13 : decode cX7_in 13 = .ok (.iconst 1, 1) := by decide +kernel
theorem dX7_in_14 : decode cX7_in 14 = .ok (.goto 4, 3) := by decide +kernel
theorem dX7_in_17 : decode cX7_in 17 = .ok (.iconst 0, 1) := by decide +kernel
theorem dX7_in_18 : decode cX7_in 18 = .ok (.ireturn, 1) := by decide +kernel
theorem dX7_feed_0 : decode cX7_feed 0 = .ok (.iload_n 1, 1) := by decide +kernel
theorem dX7_feed_1 : decode cX7_feed 1 = .ok (.i2l, 1) := by decide +kernel
theorem dX7_feed_2 : decode cX7_feed 2 = .ok (.lconst 1, 1) := by decide +kernel
theorem dX7_feed_3 : decode cX7_feed 3 = .ok (.ldc2_w 72, 3) := by decide +kernel
theorem dX7_feed_6 : decode cX7_feed 6 = .ok (.invokestatic 74, 3) := by decide +kernel
theorem dX7_feed_9 : decode cX7_feed 9 = .ok (.ifCond .ne 6, 3) := by decide +kernel
theorem dX7_feed_12 : decode cX7_feed 12 = .ok (.bipush (-2), 2) := by decide +kernel
theorem dX7_feed_14 : decode cX7_feed 14 = .ok (.ireturn, 1) := by decide +kernel
theorem dX7_feed_15 : decode cX7_feed 15 = .ok (.aload_n 0, 1) := by decide +kernel
theorem dX7_feed_16 : decode cX7_feed 16 = .ok (.getfield 78, 3) := by decide +kernel
theorem dX7_feed_19 : decode cX7_feed 19 = .ok (.iload_n 1, 1) := by decide +kernel
theorem dX7_feed_20 : decode cX7_feed 20 = .ok (.iadd, 1) := by decide +kernel
theorem dX7_feed_21 : decode cX7_feed 21 = .ok (.sipush 1200, 3) := by decide +kernel
theorem dX7_feed_24 : decode cX7_feed 24 = .ok (.if_icmp .le 6, 3) := by decide +kernel
theorem dX7_feed_27 : decode cX7_feed 27 = .ok (.bipush (-4), 2) := by decide +kernel
theorem dX7_feed_29 : decode cX7_feed 29 = .ok (.ireturn, 1) := by decide +kernel
theorem dX7_feed_30 : decode cX7_feed 30 = .ok (.iload_n 1, 1) := by decide +kernel
theorem dX7_feed_31 : decode cX7_feed 31 = .ok (.iconst 1, 1) := by decide +kernel
theorem dX7_feed_32 : decode cX7_feed 32 = .ok (.isub, 1) := by decide +kernel
theorem dX7_feed_33 : decode cX7_feed 33 = .ok (.istore 4, 2) := by decide +kernel
theorem dX7_feed_35 : decode cX7_feed 35 = .ok (.iload 4, 2) := by decide +kernel
theorem dX7_feed_37 : decode cX7_feed 37 = .ok (.ifCond .lt 25, 3) := by decide +kernel
theorem dX7_feed_40 : decode cX7_feed 40 = .ok (.aload_n 0, 1) := by decide +kernel
theorem dX7_feed_41 : decode cX7_feed 41 = .ok (.lload_n 2, 1) := by decide +kernel
theorem dX7_feed_42 : decode cX7_feed 42 = .ok (.bipush 8, 2) := by decide +kernel
theorem dX7_feed_44 : decode cX7_feed 44 = .ok (.iload 4, 2) := by decide +kernel
theorem dX7_feed_46 : decode cX7_feed 46 = .ok (.imul, 1) := by decide +kernel
theorem dX7_feed_47 : decode cX7_feed 47 = .ok (.lshr, 1) := by decide +kernel
theorem dX7_feed_48 : decode cX7_feed 48 = .ok (.ldc2_w 81, 3) := by decide +kernel
theorem dX7_feed_51 : decode cX7_feed 51 = .ok (.land, 1) := by decide +kernel
theorem dX7_feed_52 : decode cX7_feed 52 = .ok (.l2i, 1) := by decide +kernel
theorem dX7_feed_53 : decode cX7_feed 53 = .ok (.invokevirtual 83, 3) := by decide +kernel
theorem dX7_feed_56 : decode cX7_feed 56 = .ok (.iinc 4 (-1), 3) := by decide +kernel
theorem dX7_feed_59 : decode cX7_feed 59 = .ok (.goto (-24), 3) := by decide +kernel
theorem dX7_feed_62 : decode cX7_feed 62 = .ok (.aload_n 0, 1) := by decide +kernel
theorem dX7_feed_63 : decode cX7_feed 63 = .ok (.getfield 78, 3) := by decide +kernel
theorem dX7_feed_66 : decode cX7_feed 66 = .ok (.ireturn, 1) := by decide +kernel
theorem dX7_lay_0 : decode cX7_lay 0 = .ok (.aload_n 0, 1) := by decide +kernel
theorem dX7_lay_1 : decode cX7_lay 1 = .ok (.getfield 7, 3) := by decide +kernel
theorem dX7_lay_4 : decode cX7_lay 4 = .ok (.aload_n 0, 1) := by decide +kernel
theorem dX7_lay_5 : decode cX7_lay 5 = .ok (.getfield 78, 3) := by decide +kernel
theorem dX7_lay_8 : decode cX7_lay 8 = .ok (.iload_n 1, 1) := by decide +kernel
theorem dX7_lay_9 : decode cX7_lay 9 = .ok (.iastore, 1) := by decide +kernel
theorem dX7_lay_10 : decode cX7_lay 10 = .ok (.aload_n 0, 1) := by decide +kernel
theorem dX7_lay_11 : decode cX7_lay 11 = .ok (.dup, 1) := by decide +kernel
theorem dX7_lay_12 : decode cX7_lay 12 = .ok (.getfield 78, 3) := by decide +kernel
theorem dX7_lay_15 : decode cX7_lay 15 = .ok (.iconst 1, 1) := by decide +kernel
theorem dX7_lay_16 : decode cX7_lay 16 = .ok (.iadd, 1) := by decide +kernel
theorem dX7_lay_17 : decode cX7_lay 17 = .ok (.putfield 78, 3) := by decide +kernel
theorem dX7_lay_20 : decode cX7_lay 20 = .ok (.return_, 1) := by decide +kernel
theorem dX7_cut_0 : decode cX7_cut 0 = .ok (.iload_n 1, 1) := by decide +kernel
theorem dX7_cut_1 : decode cX7_cut 1 = .ok (.i2l, 1) := by decide +kernel
theorem dX7_cut_2 : decode cX7_cut 2 = .ok (.lconst 0, 1) := by decide +kernel
theorem dX7_cut_3 : decode cX7_cut 3 = .ok (.aload_n 0, 1) := by decide +kernel
theorem dX7_cut_4 : decode cX7_cut 4 = .ok (.getfield 78, 3) := by decide +kernel
theorem dX7_cut_7 : decode cX7_cut 7 = .ok (.i2l, 1) := by decide +kernel
theorem dX7_cut_8 : decode cX7_cut 8 = .ok (.invokestatic 74, 3) := by decide +kernel
theorem dX7_cut_11 : decode cX7_cut 11 = .ok (.ifCond .ne 6, 3) := by decide +kernel
theorem dX7_cut_14 : decode cX7_cut 14 = .ok (.bipush (-2), 2) := by decide +kernel
theorem dX7_cut_16 : decode cX7_cut 16 = .ok (.ireturn, 1) := by decide +kernel
theorem dX7_cut_17 : decode cX7_cut 17 = .ok (.aload_n 0, 1) := by decide +kernel
theorem dX7_cut_18 : decode cX7_cut 18 = .ok (.getfield 78, 3) := by decide +kernel
theorem dX7_cut_21 : decode cX7_cut 21 = .ok (.iload_n 1, 1) := by decide +kernel
theorem dX7_cut_22 : decode cX7_cut 22 = .ok (.isub, 1) := by decide +kernel
theorem dX7_cut_23 : decode cX7_cut 23 = .ok (.istore_n 2, 1) := by decide +kernel
theorem dX7_cut_24 : decode cX7_cut 24 = .ok (.aload_n 0, 1) := by decide +kernel
theorem dX7_cut_25 : decode cX7_cut 25 = .ok (.iload_n 1, 1) := by decide +kernel
theorem dX7_cut_26 : decode cX7_cut 26 = .ok (.putfield 78, 3) := by decide +kernel
theorem dX7_cut_29 : decode cX7_cut 29 = .ok (.iload_n 2, 1) := by decide +kernel
theorem dX7_cut_30 : decode cX7_cut 30 = .ok (.ireturn, 1) := by decide +kernel
theorem dX7_alter_0 : decode cX7_alter 0 = .ok (.iload_n 1, 1) := by decide +kernel
theorem dX7_alter_1 : decode cX7_alter 1 = .ok (.i2l, 1) := by decide +kernel
theorem dX7_alter_2 : decode cX7_alter 2 = .ok (.lconst 0, 1) := by decide +kernel
theorem dX7_alter_3 : decode cX7_alter 3 = .ok (.aload_n 0, 1) := by decide +kernel
theorem dX7_alter_4 : decode cX7_alter 4 = .ok (.getfield 78, 3) := by decide +kernel
theorem dX7_alter_7 : decode cX7_alter 7 = .ok (.iconst 1, 1) := by decide +kernel
theorem dX7_alter_8 : decode cX7_alter 8 = .ok (.isub, 1) := by decide +kernel
theorem dX7_alter_9 : decode cX7_alter 9 = .ok (.i2l, 1) := by decide +kernel
theorem dX7_alter_10 : decode cX7_alter 10 = .ok (.invokestatic 74, 3) := by decide +kernel
theorem dX7_alter_13 : decode cX7_alter 13 = .ok (.ifCond .eq 15, 3) := by decide +kernel
theorem dX7_alter_16 : decode cX7_alter 16 = .ok (.iload_n 2, 1) := by decide +kernel
theorem dX7_alter_17 : decode cX7_alter 17 = .ok (.i2l, 1) := by decide +kernel
theorem dX7_alter_18 : decode cX7_alter 18 = .ok (.lconst 0, 1) := by decide +kernel
theorem dX7_alter_19 : decode cX7_alter 19 = .ok (.ldc2_w 81, 3) := by decide +kernel
theorem dX7_alter_22 : decode cX7_alter 22 = .ok (.invokestatic 74, 3) := by decide +kernel
theorem dX7_alter_25 : decode cX7_alter 25 = .ok (.ifCond .ne 6, 3) := by decide +kernel
theorem dX7_alter_28 : decode cX7_alter 28 = .ok (.bipush (-2), 2) := by decide +kernel
theorem dX7_alter_30 : decode cX7_alter 30 = .ok (.ireturn, 1) := by decide +kernel
theorem dX7_alter_31 : decode cX7_alter 31 = .ok (.aload_n 0, 1) := by decide +kernel
theorem dX7_alter_32 : decode cX7_alter 32 = .ok (.getfield 7, 3) := by decide +kernel
theorem dX7_alter_35 : decode cX7_alter 35 = .ok (.iload_n 1, 1) := by decide +kernel
theorem dX7_alter_36 : decode cX7_alter 36 = .ok (.iaload, 1) := by decide +kernel
theorem dX7_alter_37 : decode cX7_alter 37 = .ok (.istore_n 3, 1) := by decide +kernel
theorem dX7_alter_38 : decode cX7_alter 38 = .ok (.aload_n 0, 1) := by decide +kernel
theorem dX7_alter_39 : decode cX7_alter 39 = .ok (.getfield 7, 3) := by decide +kernel
theorem dX7_alter_42 : decode cX7_alter 42 = .ok (.iload_n 1, 1) := by decide +kernel
theorem dX7_alter_43 : decode cX7_alter 43 = .ok (.iload_n 2, 1) := by decide +kernel
theorem dX7_alter_44 : decode cX7_alter 44 = .ok (.iastore, 1) := by decide +kernel
theorem dX7_alter_45 : decode cX7_alter 45 = .ok (.iload_n 3, 1) := by decide +kernel
theorem dX7_alter_46 : decode cX7_alter 46 = .ok (.ireturn, 1) := by decide +kernel
theorem dX7_at_0 : decode cX7_at 0 = .ok (.iload_n 1, 1) := by decide +kernel
theorem dX7_at_1 : decode cX7_at 1 = .ok (.i2l, 1) := by decide +kernel
theorem dX7_at_2 : decode cX7_at 2 = .ok (.lconst 0, 1) := by decide +kernel
theorem dX7_at_3 : decode cX7_at 3 = .ok (.aload_n 0, 1) := by decide +kernel
theorem dX7_at_4 : decode cX7_at 4 = .ok (.getfield 78, 3) := by decide +kernel
theorem dX7_at_7 : decode cX7_at 7 = .ok (.iconst 1, 1) := by decide +kernel
theorem dX7_at_8 : decode cX7_at 8 = .ok (.isub, 1) := by decide +kernel
theorem dX7_at_9 : decode cX7_at 9 = .ok (.i2l, 1) := by decide +kernel
theorem dX7_at_10 : decode cX7_at 10 = .ok (.invokestatic 74, 3) := by decide +kernel
theorem dX7_at_13 : decode cX7_at 13 = .ok (.ifCond .eq 12, 3) := by decide +kernel
theorem dX7_at_16 : decode cX7_at 16 = .ok (.aload_n 0, 1) := by decide +kernel
theorem dX7_at_17 : decode cX7_at 17 = .ok (.getfield 7, 3) := by decide +kernel
theorem dX7_at_20 : decode cX7_at 20 = .ok (.iload_n 1, 1) := by decide +kernel
theorem dX7_at_21 : decode cX7_at 21 = .ok (.iaload, 1) := by decide +kernel
theorem dX7_at_22 : decode cX7_at 22 = .ok (.goto 4, 3) := by decide +kernel
theorem dX7_at_25 : decode cX7_at 25 = .ok (.iconst (-1), 1) := by decide +kernel
theorem dX7_at_26 : decode cX7_at 26 = .ok (.ireturn, 1) := by decide +kernel
theorem dX7_sumOf_0 : decode cX7_sumOf 0 = .ok (.iconst 0, 1) := by decide +kernel
theorem dX7_sumOf_1 : decode cX7_sumOf 1 = .ok (.istore_n 3, 1) := by decide +kernel
theorem dX7_sumOf_2 : decode cX7_sumOf 2 = .ok (.iload_n 1, 1) := by decide +kernel
theorem dX7_sumOf_3 : decode cX7_sumOf 3 = .ok (.istore 4, 2) := by decide +kernel
theorem dX7_sumOf_5 : decode cX7_sumOf 5 = .ok (.iload 4, 2) := by decide +kernel
theorem dX7_sumOf_7 : decode cX7_sumOf 7 = .ok (.iload_n 2, 1) := by decide +kernel
theorem dX7_sumOf_8 : decode cX7_sumOf 8 = .ok (.if_icmp .ge 19, 3) := by decide +kernel
theorem dX7_sumOf_11 : decode cX7_sumOf 11 = .ok (.iload_n 3, 1) := by decide +kernel
theorem dX7_sumOf_12 : decode cX7_sumOf 12 = .ok (.aload_n 0, 1) := by decide +kernel
theorem dX7_sumOf_13 : decode cX7_sumOf 13 = .ok (.getfield 7, 3) := by decide +kernel
theorem dX7_sumOf_16 : decode cX7_sumOf 16 = .ok (.iload 4, 2) := by decide +kernel
theorem dX7_sumOf_18 : decode cX7_sumOf 18 = .ok (.iaload, 1) := by decide +kernel
theorem dX7_sumOf_19 : decode cX7_sumOf 19 = .ok (.iadd, 1) := by decide +kernel
theorem dX7_sumOf_20 : decode cX7_sumOf 20 = .ok (.istore_n 3, 1) := by decide +kernel
theorem dX7_sumOf_21 : decode cX7_sumOf 21 = .ok (.iinc 4 1, 3) := by decide +kernel
theorem dX7_sumOf_24 : decode cX7_sumOf 24 = .ok (.goto (-19), 3) := by decide +kernel
theorem dX7_sumOf_27 : decode cX7_sumOf 27 = .ok (.iload_n 3, 1) := by decide +kernel
theorem dX7_sumOf_28 : decode cX7_sumOf 28 = .ok (.sipush 255, 3) := by decide +kernel
theorem dX7_sumOf_31 : decode cX7_sumOf 31 = .ok (.iand, 1) := by decide +kernel
theorem dX7_sumOf_32 : decode cX7_sumOf 32 = .ok (.ireturn, 1) := by decide +kernel
theorem dX7_mend_0 : decode cX7_mend 0 = .ok (.aload_n 0, 1) := by decide +kernel
theorem dX7_mend_1 : decode cX7_mend 1 = .ok (.getfield 78, 3) := by decide +kernel
theorem dX7_mend_4 : decode cX7_mend 4 = .ok (.ifCond .ne 6, 3) := by decide +kernel
theorem dX7_mend_7 : decode cX7_mend 7 = .ok (.bipush (-3), 2) := by decide +kernel
theorem dX7_mend_9 : decode cX7_mend 9 = .ok (.ireturn, 1) := by decide +kernel
theorem dX7_mend_10 : decode cX7_mend 10 = .ok (.aload_n 0, 1) := by decide +kernel
theorem dX7_mend_11 : decode cX7_mend 11 = .ok (.getfield 7, 3) := by decide +kernel
theorem dX7_mend_14 : decode cX7_mend 14 = .ok (.aload_n 0, 1) := by decide +kernel
theorem dX7_mend_15 : decode cX7_mend 15 = .ok (.getfield 78, 3) := by decide +kernel
theorem dX7_mend_18 : decode cX7_mend 18 = .ok (.iconst 1, 1) := by decide +kernel
theorem dX7_mend_19 : decode cX7_mend 19 = .ok (.isub, 1) := by decide +kernel
theorem dX7_mend_20 : decode cX7_mend 20 = .ok (.aload_n 0, 1) := by decide +kernel
theorem dX7_mend_21 : decode cX7_mend 21 = .ok (.iconst 0, 1) := by decide +kernel
theorem dX7_mend_22 : decode cX7_mend 22 = .ok (.aload_n 0, 1) := by decide +kernel
theorem dX7_mend_23 : decode cX7_mend 23 = .ok (.getfield 78, 3) := by decide +kernel
theorem dX7_mend_26 : decode cX7_mend 26 = .ok (.iconst 1, 1) := by decide +kernel
theorem dX7_mend_27 : decode cX7_mend 27 = .ok (.isub, 1) := by decide +kernel
theorem dX7_mend_28 : decode cX7_mend 28 = .ok (.invokevirtual 87, 3) := by decide +kernel
theorem dX7_mend_31 : decode cX7_mend 31 = .ok (.iastore, 1) := by decide +kernel
theorem dX7_mend_32 : decode cX7_mend 32 = .ok (.aload_n 0, 1) := by decide +kernel
theorem dX7_mend_33 : decode cX7_mend 33 = .ok (.getfield 7, 3) := by decide +kernel
theorem dX7_mend_36 : decode cX7_mend 36 = .ok (.aload_n 0, 1) := by decide +kernel
theorem dX7_mend_37 : decode cX7_mend 37 = .ok (.getfield 78, 3) := by decide +kernel
theorem dX7_mend_40 : decode cX7_mend 40 = .ok (.iconst 1, 1) := by decide +kernel
theorem dX7_mend_41 : decode cX7_mend 41 = .ok (.isub, 1) := by decide +kernel
theorem dX7_mend_42 : decode cX7_mend 42 = .ok (.iaload, 1) := by decide +kernel
theorem dX7_mend_43 : decode cX7_mend 43 = .ok (.ireturn, 1) := by decide +kernel
theorem dX7_draws_0 : decode cX7_draws 0 = .ok (.aload_n 0, 1) := by decide +kernel
theorem dX7_draws_1 : decode cX7_draws 1 = .ok (.aload_n 0, 1) := by decide +kernel
theorem dX7_draws_2 : decode cX7_draws 2 = .ok (.getfield 68, 3) := by decide +kernel
theorem dX7_draws_5 : decode cX7_draws 5 = .ok (.ldc2_w 91, 3) := by decide +kernel
theorem dX7_draws_8 : decode cX7_draws 8 = .ok (.lmul, 1) := by decide +kernel
theorem dX7_draws_9 : decode cX7_draws 9 = .ok (.ldc2_w 93, 3) := by decide +kernel
theorem dX7_draws_12 : decode cX7_draws 12 = .ok (.ladd, 1) := by decide +kernel
theorem dX7_draws_13 : decode cX7_draws 13 = .ok (.putfield 68, 3) := by decide +kernel
theorem dX7_draws_16 : decode cX7_draws 16 = .ok (.aload_n 0, 1) := by decide +kernel
theorem dX7_draws_17 : decode cX7_draws 17 = .ok (.getfield 68, 3) := by decide +kernel
theorem dX7_draws_20 : decode cX7_draws 20 = .ok (.bipush 31, 2) := by decide +kernel
theorem dX7_draws_22 : decode cX7_draws 22 = .ok (.lushr, 1) := by decide +kernel
theorem dX7_draws_23 : decode cX7_draws 23 = .ok (.iload_n 1, 1) := by decide +kernel
theorem dX7_draws_24 : decode cX7_draws 24 = .ok (.i2l, 1) := by decide +kernel
theorem dX7_draws_25 : decode cX7_draws 25 = .ok (.lrem, 1) := by decide +kernel
theorem dX7_draws_26 : decode cX7_draws 26 = .ok (.l2i, 1) := by decide +kernel
theorem dX7_draws_27 : decode cX7_draws 27 = .ok (.ireturn, 1) := by decide +kernel
theorem dX7_lays_0 : decode cX7_lays 0 = .ok (.aload_n 0, 1) := by decide +kernel
theorem dX7_lays_1 : decode cX7_lays 1 = .ok (.iload_n 1, 1) := by decide +kernel
theorem dX7_lays_2 : decode cX7_lays 2 = .ok (.invokevirtual 83, 3) := by decide +kernel
theorem dX7_lays_5 : decode cX7_lays 5 = .ok (.aload_n 0, 1) := by decide +kernel
theorem dX7_lays_6 : decode cX7_lays 6 = .ok (.iload_n 2, 1) := by decide +kernel
theorem dX7_lays_7 : decode cX7_lays 7 = .ok (.invokevirtual 83, 3) := by decide +kernel
theorem dX7_lays_10 : decode cX7_lays 10 = .ok (.return_, 1) := by decide +kernel
theorem dX7_close_0 : decode cX7_close 0 = .ok (.aload_n 0, 1) := by decide +kernel
theorem dX7_close_1 : decode cX7_close 1 = .ok (.iconst 0, 1) := by decide +kernel
theorem dX7_close_2 : decode cX7_close 2 = .ok (.invokevirtual 83, 3) := by decide +kernel
theorem dX7_close_5 : decode cX7_close 5 = .ok (.aload_n 0, 1) := by decide +kernel
theorem dX7_close_6 : decode cX7_close 6 = .ok (.aload_n 0, 1) := by decide +kernel
theorem dX7_close_7 : decode cX7_close 7 = .ok (.iload_n 1, 1) := by decide +kernel
theorem dX7_close_8 : decode cX7_close 8 = .ok (.aload_n 0, 1) := by decide +kernel
theorem dX7_close_9 : decode cX7_close 9 = .ok (.getfield 78, 3) := by decide +kernel
theorem dX7_close_12 : decode cX7_close 12 = .ok (.invokevirtual 87, 3) := by decide +kernel
theorem dX7_close_15 : decode cX7_close 15 = .ok (.invokevirtual 83, 3) := by decide +kernel
theorem dX7_close_18 : decode cX7_close 18 = .ok (.return_, 1) := by decide +kernel
theorem dX7_some_0 : decode cX7_some 0 = .ok (.aload_n 0, 1) := by decide +kernel
theorem dX7_some_1 : decode cX7_some 1 = .ok (.iload_n 1, 1) := by decide +kernel
theorem dX7_some_2 : decode cX7_some 2 = .ok (.iload_n 2, 1) := by decide +kernel
theorem dX7_some_3 : decode cX7_some 3 = .ok (.invokevirtual 95, 3) := by decide +kernel
theorem dX7_some_6 : decode cX7_some 6 = .ok (.iconst 0, 1) := by decide +kernel
theorem dX7_some_7 : decode cX7_some 7 = .ok (.istore_n 3, 1) := by decide +kernel
theorem dX7_some_8 : decode cX7_some 8 = .ok (.iload_n 3, 1) := by decide +kernel
theorem dX7_some_9 : decode cX7_some 9 = .ok (.iload_n 2, 1) := by decide +kernel
theorem dX7_some_10 : decode cX7_some 10 = .ok (.if_icmp .ge 20, 3) := by decide +kernel
theorem dX7_some_13 : decode cX7_some 13 = .ok (.aload_n 0, 1) := by decide +kernel
theorem dX7_some_14 : decode cX7_some 14 = .ok (.aload_n 0, 1) := by decide +kernel
theorem dX7_some_15 : decode cX7_some 15 = .ok (.sipush 256, 3) := by decide +kernel
theorem dX7_some_18 : decode cX7_some 18 = .ok (.invokevirtual 99, 3) := by decide +kernel
theorem dX7_some_21 : decode cX7_some 21 = .ok (.invokevirtual 83, 3) := by decide +kernel
theorem dX7_some_24 : decode cX7_some 24 = .ok (.iinc 3 1, 3) := by decide +kernel
theorem dX7_some_27 : decode cX7_some 27 = .ok (.goto (-19), 3) := by decide +kernel
theorem dX7_some_30 : decode cX7_some 30 = .ok (.return_, 1) := by decide +kernel
theorem dX7_drawItem_0 : decode cX7_drawItem 0 = .ok (.aload_n 0, 1) := by decide +kernel
theorem dX7_drawItem_1 : decode cX7_drawItem 1 = .ok (.bipush 6, 2) := by decide +kernel
theorem dX7_drawItem_3 : decode cX7_drawItem 3 = .ok (.invokevirtual 99, 3) := by decide +kernel
theorem dX7_drawItem_6 : decode cX7_drawItem 6 = .ok (.istore_n 2, 1) := by decide +kernel
theorem dX7_drawItem_7 : decode cX7_drawItem 7 = .ok (.iload_n 2, 1) := by decide +kernel
theorem dX7_drawItem_8 : decode cX7_drawItem 8 = .ok (.ifCond .ne 19, 3) := by decide +kernel
theorem dX7_drawItem_11 : decode cX7_drawItem 11 = .ok (.aload_n 0, 1) := by decide +kernel
theorem dX7_drawItem_12 : decode cX7_drawItem 12 = .ok (.iconst 1, 1) := by decide +kernel
theorem dX7_drawItem_13 : decode cX7_drawItem 13 = .ok (.iconst 1, 1) := by decide +kernel
theorem dX7_drawItem_14 : decode cX7_drawItem 14 = .ok (.aload_n 0, 1) := by decide +kernel
theorem dX7_drawItem_15 : decode cX7_drawItem 15 = .ok (.bipush 6, 2) := by decide +kernel
theorem dX7_drawItem_17 : decode cX7_drawItem 17 = .ok (.invokevirtual 99, 3) := by decide +kernel
theorem dX7_drawItem_20 : decode cX7_drawItem 20 = .ok (.iadd, 1) := by decide +kernel
theorem dX7_drawItem_21 : decode cX7_drawItem 21 = .ok (.invokevirtual 103, 3) := by decide +kernel
theorem dX7_drawItem_24 : decode cX7_drawItem 24 = .ok (.goto 168, 3) := by decide +kernel
theorem dX7_drawItem_27 : decode cX7_drawItem 27 = .ok (.iload_n 2, 1) := by decide +kernel
theorem dX7_drawItem_28 : decode cX7_drawItem 28 = .ok (.iconst 1, 1) := by decide +kernel
theorem dX7_drawItem_29 : decode cX7_drawItem 29 = .ok (.if_icmp .ne 30, 3) := by decide +kernel
theorem dX7_drawItem_32 : decode cX7_drawItem 32 = .ok (.aload_n 0, 1) := by decide +kernel
theorem dX7_drawItem_33 : decode cX7_drawItem 33 = .ok (.bipush 20, 2) := by decide +kernel
theorem dX7_drawItem_35 : decode cX7_drawItem 35 = .ok (.invokevirtual 99, 3) := by decide +kernel
theorem dX7_drawItem_38 : decode cX7_drawItem 38 = .ok (.istore_n 3, 1) := by decide +kernel
theorem dX7_drawItem_39 : decode cX7_drawItem 39 = .ok (.aload_n 0, 1) := by decide +kernel
theorem dX7_drawItem_40 : decode cX7_drawItem 40 = .ok (.iconst 2, 1) := by decide +kernel
theorem dX7_drawItem_41 : decode cX7_drawItem 41 = .ok (.iload_n 3, 1) := by decide +kernel
theorem dX7_drawItem_42 : decode cX7_drawItem 42 = .ok (.invokevirtual 95, 3) := by decide +kernel
theorem dX7_drawItem_45 : decode cX7_drawItem 45 = .ok (.aload_n 0, 1) := by decide +kernel
theorem dX7_drawItem_46 : decode cX7_drawItem 46 = .ok (.aload_n 0, 1) := by decide +kernel
theorem dX7_drawItem_47 : decode cX7_drawItem 47 = .ok (.sipush 256, 3) := by decide +kernel
theorem dX7_drawItem_50 : decode cX7_drawItem 50 = .ok (.invokevirtual 99, 3) := by decide +kernel
theorem dX7_drawItem_53 : decode cX7_drawItem 53 = .ok (.invokevirtual 83, 3) := by decide +kernel
theorem dX7_drawItem_56 : decode cX7_drawItem 56 = .ok (.goto 136, 3) := by decide +kernel
theorem dX7_drawItem_59 : decode cX7_drawItem 59 = .ok (.iload_n 2, 1) := by decide +kernel
theorem dX7_drawItem_60 : decode cX7_drawItem 60 = .ok (.iconst 2, 1) := by decide +kernel
theorem dX7_drawItem_61 : decode cX7_drawItem 61 = .ok (.if_icmp .ne 30, 3) := by decide +kernel
theorem dX7_drawItem_64 : decode cX7_drawItem 64 = .ok (.iconst 1, 1) := by decide +kernel
theorem dX7_drawItem_65 : decode cX7_drawItem 65 = .ok (.aload_n 0, 1) := by decide +kernel
theorem dX7_drawItem_66 : decode cX7_drawItem 66 = .ok (.iconst 4, 1) := by decide +kernel
theorem dX7_drawItem_67 : decode cX7_drawItem 67 = .ok (.invokevirtual 99, 3) := by decide +kernel
theorem dX7_drawItem_70 : decode cX7_drawItem 70 = .ok (.iadd, 1) := by decide +kernel
theorem dX7_drawItem_71 : decode cX7_drawItem 71 = .ok (.istore_n 3, 1) := by decide +kernel
theorem dX7_drawItem_72 : decode cX7_drawItem 72 = .ok (.aload_n 0, 1) := by decide +kernel
theorem dX7_drawItem_73 : decode cX7_drawItem 73 = .ok (.iconst 3, 1) := by decide +kernel
theorem dX7_drawItem_74 : decode cX7_drawItem 74 = .ok (.iload_n 3, 1) := by decide +kernel
theorem dX7_drawItem_75 : decode cX7_drawItem 75 = .ok (.invokevirtual 95, 3) := by decide +kernel
theorem dX7_drawItem_78 : decode cX7_drawItem 78 = .ok (.aload_n 0, 1) := by decide +kernel
theorem dX7_drawItem_79 : decode cX7_drawItem 79 = .ok (.aload_n 0, 1) := by decide +kernel
theorem dX7_drawItem_80 : decode cX7_drawItem 80 = .ok (.bipush 12, 2) := by decide +kernel
theorem dX7_drawItem_82 : decode cX7_drawItem 82 = .ok (.invokevirtual 99, 3) := by decide +kernel
theorem dX7_drawItem_85 : decode cX7_drawItem 85 = .ok (.invokevirtual 83, 3) := by decide +kernel
theorem dX7_drawItem_88 : decode cX7_drawItem 88 = .ok (.goto 104, 3) := by decide +kernel
theorem dX7_drawItem_91 : decode cX7_drawItem 91 = .ok (.iload_n 2, 1) := by decide +kernel
theorem dX7_drawItem_92 : decode cX7_drawItem 92 = .ok (.iconst 3, 1) := by decide +kernel
theorem dX7_drawItem_93 : decode cX7_drawItem 93 = .ok (.if_icmp .ne 16, 3) := by decide +kernel
theorem dX7_drawItem_96 : decode cX7_drawItem 96 = .ok (.aload_n 0, 1) := by decide +kernel
theorem dX7_drawItem_97 : decode cX7_drawItem 97 = .ok (.iconst 5, 1) := by decide +kernel
theorem dX7_drawItem_98 : decode cX7_drawItem 98 = .ok (.aload_n 0, 1) := by decide +kernel
theorem dX7_drawItem_99 : decode cX7_drawItem 99 = .ok (.iconst 4, 1) := by decide +kernel
theorem dX7_drawItem_100 : decode cX7_drawItem 100 = .ok (.invokevirtual 99, 3) := by decide +kernel
theorem dX7_drawItem_103 : decode cX7_drawItem 103 = .ok (.invokevirtual 103, 3) := by decide +kernel
theorem dX7_drawItem_106 : decode cX7_drawItem 106 = .ok (.goto 86, 3) := by decide +kernel
theorem dX7_drawItem_109 : decode cX7_drawItem 109 = .ok (.iload_n 2, 1) := by decide +kernel
theorem dX7_drawItem_110 : decode cX7_drawItem 110 = .ok (.iconst 4, 1) := by decide +kernel
theorem dX7_drawItem_111 : decode cX7_drawItem 111 = .ok (.if_icmp .ne 21, 3) := by decide +kernel
theorem dX7_drawItem_114 : decode cX7_drawItem 114 = .ok (.iload_n 1, 1) := by decide +kernel
theorem dX7_drawItem_115 : decode cX7_drawItem 115 = .ok (.ifCond .le 17, 3) := by decide +kernel
theorem dX7_drawItem_118 : decode cX7_drawItem 118 = .ok (.aload_n 0, 1) := by decide +kernel
theorem dX7_drawItem_119 : decode cX7_drawItem 119 = .ok (.bipush 6, 2) := by decide +kernel
theorem dX7_drawItem_121 : decode cX7_drawItem 121 = .ok (.aload_n 0, 1) := by decide +kernel
theorem dX7_drawItem_122 : decode cX7_drawItem 122 = .ok (.iload_n 1, 1) := by decide +kernel
theorem dX7_drawItem_123 : decode cX7_drawItem 123 = .ok (.invokevirtual 99, 3) := by decide +kernel
theorem dX7_drawItem_126 : decode cX7_drawItem 126 = .ok (.invokevirtual 95, 3) := by decide +kernel
theorem dX7_drawItem_129 : decode cX7_drawItem 129 = .ok (.goto 63, 3) := by decide +kernel
theorem dX7_drawItem_132 : decode cX7_drawItem 132 = .ok (.iload_n 2, 1) := by decide +kernel
theorem dX7_drawItem_133 : decode cX7_drawItem 133 = .ok (.iconst 4, 1) := by decide +kernel
theorem dX7_drawItem_134 : decode cX7_drawItem 134 = .ok (.if_icmp .ne 12, 3) := by decide +kernel
theorem dX7_drawItem_137 : decode cX7_drawItem 137 = .ok (.aload_n 0, 1) := by decide +kernel
theorem dX7_drawItem_138 : decode cX7_drawItem 138 = .ok (.iconst 1, 1) := by decide +kernel
theorem dX7_drawItem_139 : decode cX7_drawItem 139 = .ok (.iconst 1, 1) := by decide +kernel
theorem dX7_drawItem_140 : decode cX7_drawItem 140 = .ok (.invokevirtual 103, 3) := by decide +kernel
theorem dX7_drawItem_143 : decode cX7_drawItem 143 = .ok (.goto 49, 3) := by decide +kernel
theorem dX7_drawItem_146 : decode cX7_drawItem 146 = .ok (.aload_n 0, 1) := by decide +kernel
theorem dX7_drawItem_147 : decode cX7_drawItem 147 = .ok (.iconst 5, 1) := by decide +kernel
theorem dX7_drawItem_148 : decode cX7_drawItem 148 = .ok (.invokevirtual 99, 3) := by decide +kernel
theorem dX7_drawItem_151 : decode cX7_drawItem 151 = .ok (.istore_n 3, 1) := by decide +kernel
theorem dX7_drawItem_152 : decode cX7_drawItem 152 = .ok (.aload_n 0, 1) := by decide +kernel
theorem dX7_drawItem_153 : decode cX7_drawItem 153 = .ok (.iconst 4, 1) := by decide +kernel
theorem dX7_drawItem_154 : decode cX7_drawItem 154 = .ok (.iconst 0, 1) := by decide +kernel
theorem dX7_drawItem_155 : decode cX7_drawItem 155 = .ok (.invokevirtual 95, 3) := by decide +kernel
theorem dX7_drawItem_158 : decode cX7_drawItem 158 = .ok (.aload_n 0, 1) := by decide +kernel
theorem dX7_drawItem_159 : decode cX7_drawItem 159 = .ok (.iload_n 3, 1) := by decide +kernel
theorem dX7_drawItem_160 : decode cX7_drawItem 160 = .ok (.bipush 6, 2) := by decide +kernel
theorem dX7_drawItem_162 : decode cX7_drawItem 162 = .ok (.iadd, 1) := by decide +kernel
theorem dX7_drawItem_163 : decode cX7_drawItem 163 = .ok (.invokevirtual 83, 3) := by decide +kernel
theorem dX7_drawItem_166 : decode cX7_drawItem 166 = .ok (.aload_n 0, 1) := by decide +kernel
theorem dX7_drawItem_167 : decode cX7_drawItem 167 = .ok (.getfield 78, 3) := by decide +kernel
theorem dX7_drawItem_170 : decode cX7_drawItem 170 = .ok (.istore 4, 2) := by decide +kernel
theorem dX7_drawItem_172 : decode cX7_drawItem 172 = .ok (.aload_n 0, 1) := by decide +kernel
theorem dX7_drawItem_173 : decode cX7_drawItem 173 = .ok (.bipush 80, 2) := by decide +kernel
theorem dX7_drawItem_175 : decode cX7_drawItem 175 = .ok (.bipush 75, 2) := by decide +kernel
theorem dX7_drawItem_177 : decode cX7_drawItem 177 = .ok (.invokevirtual 95, 3) := by decide +kernel
theorem dX7_drawItem_180 : decode cX7_drawItem 180 = .ok (.aload_n 0, 1) := by decide +kernel
theorem dX7_drawItem_181 : decode cX7_drawItem 181 = .ok (.iconst 1, 1) := by decide +kernel
theorem dX7_drawItem_182 : decode cX7_drawItem 182 = .ok (.iload_n 3, 1) := by decide +kernel
theorem dX7_drawItem_183 : decode cX7_drawItem 183 = .ok (.invokevirtual 103, 3) := by decide +kernel
theorem dX7_drawItem_186 : decode cX7_drawItem 186 = .ok (.aload_n 0, 1) := by decide +kernel
theorem dX7_drawItem_187 : decode cX7_drawItem 187 = .ok (.iload 4, 2) := by decide +kernel
theorem dX7_drawItem_189 : decode cX7_drawItem 189 = .ok (.invokevirtual 106, 3) := by decide +kernel
theorem dX7_drawItem_192 : decode cX7_drawItem 192 = .ok (.return_, 1) := by decide +kernel
theorem dX7_deep_0 : decode cX7_deep 0 = .ok (.iload_n 1, 1) := by decide +kernel
theorem dX7_deep_1 : decode cX7_deep 1 = .ok (.istore_n 2, 1) := by decide +kernel
theorem dX7_deep_2 : decode cX7_deep 2 = .ok (.iload_n 2, 1) := by decide +kernel
theorem dX7_deep_3 : decode cX7_deep 3 = .ok (.ifCond .le 46, 3) := by decide +kernel
theorem dX7_deep_6 : decode cX7_deep 6 = .ok (.bipush 7, 2) := by decide +kernel
theorem dX7_deep_8 : decode cX7_deep 8 = .ok (.bipush 7, 2) := by decide +kernel
theorem dX7_deep_10 : decode cX7_deep 10 = .ok (.iload_n 2, 1) := by decide +kernel
theorem dX7_deep_11 : decode cX7_deep 11 = .ok (.iconst 1, 1) := by decide +kernel
theorem dX7_deep_12 : decode cX7_deep 12 = .ok (.isub, 1) := by decide +kernel
theorem dX7_deep_13 : decode cX7_deep 13 = .ok (.imul, 1) := by decide +kernel
theorem dX7_deep_14 : decode cX7_deep 14 = .ok (.iadd, 1) := by decide +kernel
theorem dX7_deep_15 : decode cX7_deep 15 = .ok (.istore_n 3, 1) := by decide +kernel
theorem dX7_deep_16 : decode cX7_deep 16 = .ok (.aload_n 0, 1) := by decide +kernel
theorem dX7_deep_17 : decode cX7_deep 17 = .ok (.bipush 80, 2) := by decide +kernel
theorem dX7_deep_19 : decode cX7_deep 19 = .ok (.bipush 75, 2) := by decide +kernel
theorem dX7_deep_21 : decode cX7_deep 21 = .ok (.invokevirtual 95, 3) := by decide +kernel
theorem dX7_deep_24 : decode cX7_deep 24 = .ok (.aload_n 0, 1) := by decide +kernel
theorem dX7_deep_25 : decode cX7_deep 25 = .ok (.iconst 4, 1) := by decide +kernel
theorem dX7_deep_26 : decode cX7_deep 26 = .ok (.invokevirtual 83, 3) := by decide +kernel
theorem dX7_deep_29 : decode cX7_deep 29 = .ok (.aload_n 0, 1) := by decide +kernel
theorem dX7_deep_30 : decode cX7_deep 30 = .ok (.iload_n 3, 1) := by decide +kernel
theorem dX7_deep_31 : decode cX7_deep 31 = .ok (.sipush 256, 3) := by decide +kernel
theorem dX7_deep_34 : decode cX7_deep 34 = .ok (.idiv, 1) := by decide +kernel
theorem dX7_deep_35 : decode cX7_deep 35 = .ok (.iload_n 3, 1) := by decide +kernel
theorem dX7_deep_36 : decode cX7_deep 36 = .ok (.sipush 256, 3) := by decide +kernel
theorem dX7_deep_39 : decode cX7_deep 39 = .ok (.irem, 1) := by decide +kernel
theorem dX7_deep_40 : decode cX7_deep 40 = .ok (.invokevirtual 95, 3) := by decide +kernel
theorem dX7_deep_43 : decode cX7_deep 43 = .ok (.iinc 2 (-1), 3) := by decide +kernel
theorem dX7_deep_46 : decode cX7_deep 46 = .ok (.goto (-44), 3) := by decide +kernel
theorem dX7_deep_49 : decode cX7_deep 49 = .ok (.aload_n 0, 1) := by decide +kernel
theorem dX7_deep_50 : decode cX7_deep 50 = .ok (.getfield 78, 3) := by decide +kernel
theorem dX7_deep_53 : decode cX7_deep 53 = .ok (.istore_n 2, 1) := by decide +kernel
theorem dX7_deep_54 : decode cX7_deep 54 = .ok (.aload_n 0, 1) := by decide +kernel
theorem dX7_deep_55 : decode cX7_deep 55 = .ok (.bipush 80, 2) := by decide +kernel
theorem dX7_deep_57 : decode cX7_deep 57 = .ok (.bipush 75, 2) := by decide +kernel
theorem dX7_deep_59 : decode cX7_deep 59 = .ok (.invokevirtual 95, 3) := by decide +kernel
theorem dX7_deep_62 : decode cX7_deep 62 = .ok (.aload_n 0, 1) := by decide +kernel
theorem dX7_deep_63 : decode cX7_deep 63 = .ok (.iconst 1, 1) := by decide +kernel
theorem dX7_deep_64 : decode cX7_deep 64 = .ok (.iconst 1, 1) := by decide +kernel
theorem dX7_deep_65 : decode cX7_deep 65 = .ok (.invokevirtual 103, 3) := by decide +kernel
theorem dX7_deep_68 : decode cX7_deep 68 = .ok (.aload_n 0, 1) := by decide +kernel
theorem dX7_deep_69 : decode cX7_deep 69 = .ok (.iload_n 2, 1) := by decide +kernel
theorem dX7_deep_70 : decode cX7_deep 70 = .ok (.invokevirtual 106, 3) := by decide +kernel
theorem dX7_deep_73 : decode cX7_deep 73 = .ok (.iconst 1, 1) := by decide +kernel
theorem dX7_deep_74 : decode cX7_deep 74 = .ok (.istore_n 3, 1) := by decide +kernel
theorem dX7_deep_75 : decode cX7_deep 75 = .ok (.iload_n 3, 1) := by decide +kernel
theorem dX7_deep_76 : decode cX7_deep 76 = .ok (.iload_n 1, 1) := by decide +kernel
theorem dX7_deep_77 : decode cX7_deep 77 = .ok (.if_icmp .gt 18, 3) := by decide +kernel
theorem dX7_deep_80 : decode cX7_deep 80 = .ok (.aload_n 0, 1) := by decide +kernel
theorem dX7_deep_81 : decode cX7_deep 81 = .ok (.iload_n 2, 1) := by decide +kernel
theorem dX7_deep_82 : decode cX7_deep 82 = .ok (.iconst 5, 1) := by decide +kernel
theorem dX7_deep_83 : decode cX7_deep 83 = .ok (.iload_n 3, 1) := by decide +kernel
theorem dX7_deep_84 : decode cX7_deep 84 = .ok (.imul, 1) := by decide +kernel
theorem dX7_deep_85 : decode cX7_deep 85 = .ok (.isub, 1) := by decide +kernel
theorem dX7_deep_86 : decode cX7_deep 86 = .ok (.invokevirtual 106, 3) := by decide +kernel
theorem dX7_deep_89 : decode cX7_deep 89 = .ok (.iinc 3 1, 3) := by decide +kernel
theorem dX7_deep_92 : decode cX7_deep 92 = .ok (.goto (-17), 3) := by decide +kernel
theorem dX7_deep_95 : decode cX7_deep 95 = .ok (.return_, 1) := by decide +kernel
theorem dX7_family_0 : decode cX7_family 0 = .ok (.iload_n 1, 1) := by decide +kernel
theorem dX7_family_1 : decode cX7_family 1 = .ok (.iconst 1, 1) := by decide +kernel
theorem dX7_family_2 : decode cX7_family 2 = .ok (.if_icmp .ne 38, 3) := by decide +kernel
theorem dX7_family_5 : decode cX7_family 5 = .ok (.iconst 0, 1) := by decide +kernel
theorem dX7_family_6 : decode cX7_family 6 = .ok (.istore_n 3, 1) := by decide +kernel
theorem dX7_family_7 : decode cX7_family 7 = .ok (.iload_n 3, 1) := by decide +kernel
theorem dX7_family_8 : decode cX7_family 8 = .ok (.iload_n 2, 1) := by decide +kernel
theorem dX7_family_9 : decode cX7_family 9 = .ok (.if_icmp .ge 28, 3) := by decide +kernel
theorem dX7_family_12 : decode cX7_family 12 = .ok (.aload_n 0, 1) := by decide +kernel
theorem dX7_family_13 : decode cX7_family 13 = .ok (.iconst 2, 1) := by decide +kernel
theorem dX7_family_14 : decode cX7_family 14 = .ok (.sipush 255, 3) := by decide +kernel
theorem dX7_family_17 : decode cX7_family 17 = .ok (.invokevirtual 95, 3) := by decide +kernel
theorem dX7_family_20 : decode cX7_family 20 = .ok (.aload_n 0, 1) := by decide +kernel
theorem dX7_family_21 : decode cX7_family 21 = .ok (.aload_n 0, 1) := by decide +kernel
theorem dX7_family_22 : decode cX7_family 22 = .ok (.sipush 256, 3) := by decide +kernel
theorem dX7_family_25 : decode cX7_family 25 = .ok (.invokevirtual 99, 3) := by decide +kernel
theorem dX7_family_28 : decode cX7_family 28 = .ok (.invokevirtual 83, 3) := by decide +kernel
theorem dX7_family_31 : decode cX7_family 31 = .ok (.iinc 3 1, 3) := by decide +kernel
theorem dX7_family_34 : decode cX7_family 34 = .ok (.goto (-27), 3) := by decide +kernel
theorem dX7_family_37 : decode cX7_family 37 = .ok (.goto 217, 3) := by decide +kernel
theorem dX7_family_40 : decode cX7_family 40 = .ok (.iload_n 1, 1) := by decide +kernel
theorem dX7_family_41 : decode cX7_family 41 = .ok (.iconst 2, 1) := by decide +kernel
theorem dX7_family_42 : decode cX7_family 42 = .ok (.if_icmp .ne 38, 3) := by decide +kernel
theorem dX7_family_45 : decode cX7_family 45 = .ok (.aload_n 0, 1) := by decide +kernel
theorem dX7_family_46 : decode cX7_family 46 = .ok (.iconst 1, 1) := by decide +kernel
theorem dX7_family_47 : decode cX7_family 47 = .ok (.iconst 1, 1) := by decide +kernel
theorem dX7_family_48 : decode cX7_family 48 = .ok (.invokevirtual 103, 3) := by decide +kernel
theorem dX7_family_51 : decode cX7_family 51 = .ok (.iconst 0, 1) := by decide +kernel
theorem dX7_family_52 : decode cX7_family 52 = .ok (.istore_n 3, 1) := by decide +kernel
theorem dX7_family_53 : decode cX7_family 53 = .ok (.iload_n 3, 1) := by decide +kernel
theorem dX7_family_54 : decode cX7_family 54 = .ok (.iload_n 2, 1) := by decide +kernel
theorem dX7_family_55 : decode cX7_family 55 = .ok (.if_icmp .ge 22, 3) := by decide +kernel
theorem dX7_family_58 : decode cX7_family 58 = .ok (.aload_n 0, 1) := by decide +kernel
theorem dX7_family_59 : decode cX7_family 59 = .ok (.iconst 3, 1) := by decide +kernel
theorem dX7_family_60 : decode cX7_family 60 = .ok (.iconst 1, 1) := by decide +kernel
theorem dX7_family_61 : decode cX7_family 61 = .ok (.invokevirtual 95, 3) := by decide +kernel
theorem dX7_family_64 : decode cX7_family 64 = .ok (.aload_n 0, 1) := by decide +kernel
theorem dX7_family_65 : decode cX7_family 65 = .ok (.sipush 255, 3) := by decide +kernel
theorem dX7_family_68 : decode cX7_family 68 = .ok (.invokevirtual 83, 3) := by decide +kernel
theorem dX7_family_71 : decode cX7_family 71 = .ok (.iinc 3 1, 3) := by decide +kernel
theorem dX7_family_74 : decode cX7_family 74 = .ok (.goto (-21), 3) := by decide +kernel
theorem dX7_family_77 : decode cX7_family 77 = .ok (.goto 177, 3) := by decide +kernel
theorem dX7_family_80 : decode cX7_family 80 = .ok (.iload_n 1, 1) := by decide +kernel
theorem dX7_family_81 : decode cX7_family 81 = .ok (.iconst 4, 1) := by decide +kernel
theorem dX7_family_82 : decode cX7_family 82 = .ok (.if_icmp .ne 25, 3) := by decide +kernel
theorem dX7_family_85 : decode cX7_family 85 = .ok (.iconst 0, 1) := by decide +kernel
theorem dX7_family_86 : decode cX7_family 86 = .ok (.istore_n 3, 1) := by decide +kernel
theorem dX7_family_87 : decode cX7_family 87 = .ok (.iload_n 3, 1) := by decide +kernel
theorem dX7_family_88 : decode cX7_family 88 = .ok (.iload_n 2, 1) := by decide +kernel
theorem dX7_family_89 : decode cX7_family 89 = .ok (.if_icmp .ge 15, 3) := by decide +kernel
theorem dX7_family_92 : decode cX7_family 92 = .ok (.aload_n 0, 1) := by decide +kernel
theorem dX7_family_93 : decode cX7_family 93 = .ok (.iconst 5, 1) := by decide +kernel
theorem dX7_family_94 : decode cX7_family 94 = .ok (.iconst 0, 1) := by decide +kernel
theorem dX7_family_95 : decode cX7_family 95 = .ok (.invokevirtual 95, 3) := by decide +kernel
theorem dX7_family_98 : decode cX7_family 98 = .ok (.iinc 3 1, 3) := by decide +kernel
theorem dX7_family_101 : decode cX7_family 101 = .ok (.goto (-14), 3) := by decide +kernel
theorem dX7_family_104 : decode cX7_family 104 = .ok (.goto 150, 3) := by decide +kernel
theorem dX7_family_107 : decode cX7_family 107 = .ok (.iload_n 1, 1) := by decide +kernel
theorem dX7_family_108 : decode cX7_family 108 = .ok (.iconst 5, 1) := by decide +kernel
theorem dX7_family_109 : decode cX7_family 109 = .ok (.if_icmp .ne 43, 3) := by decide +kernel
theorem dX7_family_112 : decode cX7_family 112 = .ok (.aload_n 0, 1) := by decide +kernel
theorem dX7_family_113 : decode cX7_family 113 = .ok (.iconst 2, 1) := by decide +kernel
theorem dX7_family_114 : decode cX7_family 114 = .ok (.iconst 1, 1) := by decide +kernel
theorem dX7_family_115 : decode cX7_family 115 = .ok (.invokevirtual 95, 3) := by decide +kernel
theorem dX7_family_118 : decode cX7_family 118 = .ok (.aload_n 0, 1) := by decide +kernel
theorem dX7_family_119 : decode cX7_family 119 = .ok (.aload_n 0, 1) := by decide +kernel
theorem dX7_family_120 : decode cX7_family 120 = .ok (.sipush 256, 3) := by decide +kernel
theorem dX7_family_123 : decode cX7_family 123 = .ok (.invokevirtual 99, 3) := by decide +kernel
theorem dX7_family_126 : decode cX7_family 126 = .ok (.invokevirtual 83, 3) := by decide +kernel
theorem dX7_family_129 : decode cX7_family 129 = .ok (.iconst 0, 1) := by decide +kernel
theorem dX7_family_130 : decode cX7_family 130 = .ok (.istore_n 3, 1) := by decide +kernel
theorem dX7_family_131 : decode cX7_family 131 = .ok (.iload_n 3, 1) := by decide +kernel
theorem dX7_family_132 : decode cX7_family 132 = .ok (.iload_n 2, 1) := by decide +kernel
theorem dX7_family_133 : decode cX7_family 133 = .ok (.if_icmp .ge 16, 3) := by decide +kernel
theorem dX7_family_136 : decode cX7_family 136 = .ok (.aload_n 0, 1) := by decide +kernel
theorem dX7_family_137 : decode cX7_family 137 = .ok (.bipush 6, 2) := by decide +kernel
theorem dX7_family_139 : decode cX7_family 139 = .ok (.iload_n 3, 1) := by decide +kernel
theorem dX7_family_140 : decode cX7_family 140 = .ok (.invokevirtual 95, 3) := by decide +kernel
theorem dX7_family_143 : decode cX7_family 143 = .ok (.iinc 3 1, 3) := by decide +kernel
theorem dX7_family_146 : decode cX7_family 146 = .ok (.goto (-15), 3) := by decide +kernel
theorem dX7_family_149 : decode cX7_family 149 = .ok (.goto 105, 3) := by decide +kernel
theorem dX7_family_152 : decode cX7_family 152 = .ok (.iload_n 1, 1) := by decide +kernel
theorem dX7_family_153 : decode cX7_family 153 = .ok (.bipush 6, 2) := by decide +kernel
theorem dX7_family_155 : decode cX7_family 155 = .ok (.if_icmp .ne 81, 3) := by decide +kernel
theorem dX7_family_158 : decode cX7_family 158 = .ok (.aload_n 0, 1) := by decide +kernel
theorem dX7_family_159 : decode cX7_family 159 = .ok (.bipush 7, 2) := by decide +kernel
theorem dX7_family_161 : decode cX7_family 161 = .ok (.bipush 8, 2) := by decide +kernel
theorem dX7_family_163 : decode cX7_family 163 = .ok (.invokevirtual 95, 3) := by decide +kernel
theorem dX7_family_166 : decode cX7_family 166 = .ok (.iconst 0, 1) := by decide +kernel
theorem dX7_family_167 : decode cX7_family 167 = .ok (.istore_n 3, 1) := by decide +kernel
theorem dX7_family_168 : decode cX7_family 168 = .ok (.iload_n 3, 1) := by decide +kernel
theorem dX7_family_169 : decode cX7_family 169 = .ok (.bipush 8, 2) := by decide +kernel
theorem dX7_family_171 : decode cX7_family 171 = .ok (.if_icmp .ge 14, 3) := by decide +kernel
theorem dX7_family_174 : decode cX7_family 174 = .ok (.aload_n 0, 1) := by decide +kernel
theorem dX7_family_175 : decode cX7_family 175 = .ok (.iload_n 3, 1) := by decide +kernel
theorem dX7_family_176 : decode cX7_family 176 = .ok (.invokevirtual 83, 3) := by decide +kernel
theorem dX7_family_179 : decode cX7_family 179 = .ok (.iinc 3 1, 3) := by decide +kernel
theorem dX7_family_182 : decode cX7_family 182 = .ok (.goto (-14), 3) := by decide +kernel
theorem dX7_family_185 : decode cX7_family 185 = .ok (.iconst 0, 1) := by decide +kernel
theorem dX7_family_186 : decode cX7_family 186 = .ok (.istore_n 3, 1) := by decide +kernel
theorem dX7_family_187 : decode cX7_family 187 = .ok (.iload_n 3, 1) := by decide +kernel
theorem dX7_family_188 : decode cX7_family 188 = .ok (.bipush 8, 2) := by decide +kernel
theorem dX7_family_190 : decode cX7_family 190 = .ok (.if_icmp .ge 19, 3) := by decide +kernel
theorem dX7_family_193 : decode cX7_family 193 = .ok (.aload_n 0, 1) := by decide +kernel
theorem dX7_family_194 : decode cX7_family 194 = .ok (.aload_n 0, 1) := by decide +kernel
theorem dX7_family_195 : decode cX7_family 195 = .ok (.bipush 8, 2) := by decide +kernel
theorem dX7_family_197 : decode cX7_family 197 = .ok (.invokevirtual 99, 3) := by decide +kernel
theorem dX7_family_200 : decode cX7_family 200 = .ok (.invokevirtual 83, 3) := by decide +kernel
theorem dX7_family_203 : decode cX7_family 203 = .ok (.iinc 3 1, 3) := by decide +kernel
theorem dX7_family_206 : decode cX7_family 206 = .ok (.goto (-19), 3) := by decide +kernel
theorem dX7_family_209 : decode cX7_family 209 = .ok (.aload_n 0, 1) := by decide +kernel
theorem dX7_family_210 : decode cX7_family 210 = .ok (.iconst 0, 1) := by decide +kernel
theorem dX7_family_211 : decode cX7_family 211 = .ok (.invokevirtual 83, 3) := by decide +kernel
theorem dX7_family_214 : decode cX7_family 214 = .ok (.iconst 0, 1) := by decide +kernel
theorem dX7_family_215 : decode cX7_family 215 = .ok (.istore_n 3, 1) := by decide +kernel
theorem dX7_family_216 : decode cX7_family 216 = .ok (.iload_n 3, 1) := by decide +kernel
theorem dX7_family_217 : decode cX7_family 217 = .ok (.iload_n 2, 1) := by decide +kernel
theorem dX7_family_218 : decode cX7_family 218 = .ok (.if_icmp .ge 15, 3) := by decide +kernel
theorem dX7_family_221 : decode cX7_family 221 = .ok (.aload_n 0, 1) := by decide +kernel
theorem dX7_family_222 : decode cX7_family 222 = .ok (.iconst 5, 1) := by decide +kernel
theorem dX7_family_223 : decode cX7_family 223 = .ok (.iconst 0, 1) := by decide +kernel
theorem dX7_family_224 : decode cX7_family 224 = .ok (.invokevirtual 95, 3) := by decide +kernel
theorem dX7_family_227 : decode cX7_family 227 = .ok (.iinc 3 1, 3) := by decide +kernel
theorem dX7_family_230 : decode cX7_family 230 = .ok (.goto (-14), 3) := by decide +kernel
