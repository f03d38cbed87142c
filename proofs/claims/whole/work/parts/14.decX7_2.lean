theorem dX7_closes_11 : decode cX7_closes 11 = .ok (.getfield 7, 3) := by decide +kernel
theorem dX7_closes_14 : decode cX7_closes 14 = .ok (.iload_n 2, 1) := by decide +kernel
theorem dX7_closes_15 : decode cX7_closes 15 = .ok (.iconst 1, 1) := by decide +kernel
theorem dX7_closes_16 : decode cX7_closes 16 = .ok (.iadd, 1) := by decide +kernel
theorem dX7_closes_17 : decode cX7_closes 17 = .ok (.iaload, 1) := by decide +kernel
theorem dX7_closes_18 : decode cX7_closes 18 = .ok (.aload_n 0, 1) := by decide +kernel
theorem dX7_closes_19 : decode cX7_closes 19 = .ok (.aload_n 0, 1) := by decide +kernel
theorem dX7_closes_20 : decode cX7_closes 20 = .ok (.getfield 20, 3) := by decide +kernel
theorem dX7_closes_23 : decode cX7_closes 23 = .ok (.iload_n 1, 1) := by decide +kernel
theorem dX7_closes_24 : decode cX7_closes 24 = .ok (.iaload, 1) := by decide +kernel
theorem dX7_closes_25 : decode cX7_closes 25 = .ok (.iload_n 2, 1) := by decide +kernel
theorem dX7_closes_26 : decode cX7_closes 26 = .ok (.iconst 1, 1) := by decide +kernel
theorem dX7_closes_27 : decode cX7_closes 27 = .ok (.iadd, 1) := by decide +kernel
theorem dX7_closes_28 : decode cX7_closes 28 = .ok (.invokevirtual 87, 3) := by decide +kernel
theorem dX7_closes_31 : decode cX7_closes 31 = .ok (.if_icmp .eq 15, 3) := by decide +kernel
theorem dX7_closes_34 : decode cX7_closes 34 = .ok (.aload_n 0, 1) := by decide +kernel
theorem dX7_closes_35 : decode cX7_closes 35 = .ok (.bipush 9, 2) := by decide +kernel
theorem dX7_closes_37 : decode cX7_closes 37 = .ok (.iload_n 2, 1) := by decide +kernel
theorem dX7_closes_38 : decode cX7_closes 38 = .ok (.iconst 1, 1) := by decide +kernel
theorem dX7_closes_39 : decode cX7_closes 39 = .ok (.iadd, 1) := by decide +kernel
theorem dX7_closes_40 : decode cX7_closes 40 = .ok (.invokevirtual 131, 3) := by decide +kernel
theorem dX7_closes_43 : decode cX7_closes 43 = .ok (.goto 57, 3) := by decide +kernel
theorem dX7_closes_46 : decode cX7_closes 46 = .ok (.iload_n 2, 1) := by decide +kernel
theorem dX7_closes_47 : decode cX7_closes 47 = .ok (.iconst 2, 1) := by decide +kernel
theorem dX7_closes_48 : decode cX7_closes 48 = .ok (.iadd, 1) := by decide +kernel
theorem dX7_closes_49 : decode cX7_closes 49 = .ok (.aload_n 0, 1) := by decide +kernel
theorem dX7_closes_50 : decode cX7_closes 50 = .ok (.getfield 23, 3) := by decide +kernel
theorem dX7_closes_53 : decode cX7_closes 53 = .ok (.iload_n 1, 1) := by decide +kernel
theorem dX7_closes_54 : decode cX7_closes 54 = .ok (.iaload, 1) := by decide +kernel
theorem dX7_closes_55 : decode cX7_closes 55 = .ok (.if_icmp .ge 15, 3) := by decide +kernel
theorem dX7_closes_58 : decode cX7_closes 58 = .ok (.aload_n 0, 1) := by decide +kernel
theorem dX7_closes_59 : decode cX7_closes 59 = .ok (.bipush 10, 2) := by decide +kernel
theorem dX7_closes_61 : decode cX7_closes 61 = .ok (.iload_n 2, 1) := by decide +kernel
theorem dX7_closes_62 : decode cX7_closes 62 = .ok (.iconst 2, 1) := by decide +kernel
theorem dX7_closes_63 : decode cX7_closes 63 = .ok (.iadd, 1) := by decide +kernel
theorem dX7_closes_64 : decode cX7_closes 64 = .ok (.invokevirtual 131, 3) := by decide +kernel
theorem dX7_closes_67 : decode cX7_closes 67 = .ok (.goto 33, 3) := by decide +kernel
theorem dX7_closes_70 : decode cX7_closes 70 = .ok (.aload_n 0, 1) := by decide +kernel
theorem dX7_closes_71 : decode cX7_closes 71 = .ok (.dup, 1) := by decide +kernel
theorem dX7_closes_72 : decode cX7_closes 72 = .ok (.getfield 137, 3) := by decide +kernel
theorem dX7_closes_75 : decode cX7_closes 75 = .ok (.iconst 1, 1) := by decide +kernel
theorem dX7_closes_76 : decode cX7_closes 76 = .ok (.isub, 1) := by decide +kernel
theorem dX7_closes_77 : decode cX7_closes 77 = .ok (.putfield 137, 3) := by decide +kernel
theorem dX7_closes_80 : decode cX7_closes 80 = .ok (.aload_n 0, 1) := by decide +kernel
theorem dX7_closes_81 : decode cX7_closes 81 = .ok (.getfield 137, 3) := by decide +kernel
theorem dX7_closes_84 : decode cX7_closes 84 = .ok (.ifCond .le 16, 3) := by decide +kernel
theorem dX7_closes_87 : decode cX7_closes 87 = .ok (.aload_n 0, 1) := by decide +kernel
theorem dX7_closes_88 : decode cX7_closes 88 = .ok (.aload_n 0, 1) := by decide +kernel
theorem dX7_closes_89 : decode cX7_closes 89 = .ok (.getfield 137, 3) := by decide +kernel
theorem dX7_closes_92 : decode cX7_closes 92 = .ok (.iconst 1, 1) := by decide +kernel
theorem dX7_closes_93 : decode cX7_closes 93 = .ok (.isub, 1) := by decide +kernel
theorem dX7_closes_94 : decode cX7_closes 94 = .ok (.iload_n 2, 1) := by decide +kernel
theorem dX7_closes_95 : decode cX7_closes 95 = .ok (.iconst 2, 1) := by decide +kernel
theorem dX7_closes_96 : decode cX7_closes 96 = .ok (.iadd, 1) := by decide +kernel
theorem dX7_closes_97 : decode cX7_closes 97 = .ok (.invokevirtual 163, 3) := by decide +kernel
theorem dX7_closes_100 : decode cX7_closes 100 = .ok (.return_, 1) := by decide +kernel
theorem dX7_copy_0 : decode cX7_copy 0 = .ok (.aload_n 0, 1) := by decide +kernel
theorem dX7_copy_1 : decode cX7_copy 1 = .ok (.iload_n 2, 1) := by decide +kernel
theorem dX7_copy_2 : decode cX7_copy 2 = .ok (.iconst 2, 1) := by decide +kernel
theorem dX7_copy_3 : decode cX7_copy 3 = .ok (.invokevirtual 149, 3) := by decide +kernel
theorem dX7_copy_6 : decode cX7_copy 6 = .ok (.ifCond .ne 4, 3) := by decide +kernel
theorem dX7_copy_9 : decode cX7_copy 9 = .ok (.return_, 1) := by decide +kernel
theorem dX7_copy_10 : decode cX7_copy 10 = .ok (.aload_n 0, 1) := by decide +kernel
theorem dX7_copy_11 : decode cX7_copy 11 = .ok (.getfield 7, 3) := by decide +kernel
theorem dX7_copy_14 : decode cX7_copy 14 = .ok (.iload_n 2, 1) := by decide +kernel
theorem dX7_copy_15 : decode cX7_copy 15 = .ok (.iconst 1, 1) := by decide +kernel
theorem dX7_copy_16 : decode cX7_copy 16 = .ok (.iadd, 1) := by decide +kernel
theorem dX7_copy_17 : decode cX7_copy 17 = .ok (.iaload, 1) := by decide +kernel
theorem dX7_copy_18 : decode cX7_copy 18 = .ok (.istore_n 3, 1) := by decide +kernel
theorem dX7_copy_19 : decode cX7_copy 19 = .ok (.iload_n 3, 1) := by decide +kernel
theorem dX7_copy_20 : decode cX7_copy 20 = .ok (.ifCond .eq 18, 3) := by decide +kernel
theorem dX7_copy_23 : decode cX7_copy 23 = .ok (.iload_n 3, 1) := by decide +kernel
theorem dX7_copy_24 : decode cX7_copy 24 = .ok (.aload_n 0, 1) := by decide +kernel
theorem dX7_copy_25 : decode cX7_copy 25 = .ok (.getfield 140, 3) := by decide +kernel
theorem dX7_copy_28 : decode cX7_copy 28 = .ok (.aload_n 0, 1) := by decide +kernel
theorem dX7_copy_29 : decode cX7_copy 29 = .ok (.getfield 29, 3) := by decide +kernel
theorem dX7_copy_32 : decode cX7_copy 32 = .ok (.iload_n 1, 1) := by decide +kernel
theorem dX7_copy_33 : decode cX7_copy 33 = .ok (.iaload, 1) := by decide +kernel
theorem dX7_copy_34 : decode cX7_copy 34 = .ok (.isub, 1) := by decide +kernel
theorem dX7_copy_35 : decode cX7_copy 35 = .ok (.if_icmp .le 14, 3) := by decide +kernel
theorem dX7_copy_38 : decode cX7_copy 38 = .ok (.aload_n 0, 1) := by decide +kernel
theorem dX7_copy_39 : decode cX7_copy 39 = .ok (.iconst 4, 1) := by decide +kernel
theorem dX7_copy_40 : decode cX7_copy 40 = .ok (.iload_n 2, 1) := by decide +kernel
theorem dX7_copy_41 : decode cX7_copy 41 = .ok (.iconst 1, 1) := by decide +kernel
theorem dX7_copy_42 : decode cX7_copy 42 = .ok (.iadd, 1) := by decide +kernel
theorem dX7_copy_43 : decode cX7_copy 43 = .ok (.invokevirtual 131, 3) := by decide +kernel
theorem dX7_copy_46 : decode cX7_copy 46 = .ok (.goto 83, 3) := by decide +kernel
theorem dX7_copy_49 : decode cX7_copy 49 = .ok (.aload_n 0, 1) := by decide +kernel
theorem dX7_copy_50 : decode cX7_copy 50 = .ok (.iload_n 2, 1) := by decide +kernel
theorem dX7_copy_51 : decode cX7_copy 51 = .ok (.iconst 3, 1) := by decide +kernel
theorem dX7_copy_52 : decode cX7_copy 52 = .ok (.invokevirtual 149, 3) := by decide +kernel
theorem dX7_copy_55 : decode cX7_copy 55 = .ok (.ifCond .eq 74, 3) := by decide +kernel
theorem dX7_copy_58 : decode cX7_copy 58 = .ok (.aload_n 0, 1) := by decide +kernel
theorem dX7_copy_59 : decode cX7_copy 59 = .ok (.iload_n 2, 1) := by decide +kernel
theorem dX7_copy_60 : decode cX7_copy 60 = .ok (.iconst 3, 1) := by decide +kernel
theorem dX7_copy_61 : decode cX7_copy 61 = .ok (.aload_n 0, 1) := by decide +kernel
theorem dX7_copy_62 : decode cX7_copy 62 = .ok (.getfield 7, 3) := by decide +kernel
theorem dX7_copy_65 : decode cX7_copy 65 = .ok (.iload_n 2, 1) := by decide +kernel
theorem dX7_copy_66 : decode cX7_copy 66 = .ok (.iconst 2, 1) := by decide +kernel
theorem dX7_copy_67 : decode cX7_copy 67 = .ok (.iadd, 1) := by decide +kernel
theorem dX7_copy_68 : decode cX7_copy 68 = .ok (.iaload, 1) := by decide +kernel
theorem dX7_copy_69 : decode cX7_copy 69 = .ok (.iadd, 1) := by decide +kernel
theorem dX7_copy_70 : decode cX7_copy 70 = .ok (.aload_n 0, 1) := by decide +kernel
theorem dX7_copy_71 : decode cX7_copy 71 = .ok (.getfield 7, 3) := by decide +kernel
theorem dX7_copy_74 : decode cX7_copy 74 = .ok (.iload_n 2, 1) := by decide +kernel
theorem dX7_copy_75 : decode cX7_copy 75 = .ok (.iconst 2, 1) := by decide +kernel
theorem dX7_copy_76 : decode cX7_copy 76 = .ok (.iadd, 1) := by decide +kernel
theorem dX7_copy_77 : decode cX7_copy 77 = .ok (.iaload, 1) := by decide +kernel
theorem dX7_copy_78 : decode cX7_copy 78 = .ok (.invokevirtual 156, 3) := by decide +kernel
theorem dX7_copy_81 : decode cX7_copy 81 = .ok (.ifCond .eq 48, 3) := by decide +kernel
theorem dX7_copy_84 : decode cX7_copy 84 = .ok (.iconst 0, 1) := by decide +kernel
theorem dX7_copy_85 : decode cX7_copy 85 = .ok (.istore 4, 2) := by decide +kernel
theorem dX7_copy_87 : decode cX7_copy 87 = .ok (.iload 4, 2) := by decide +kernel
theorem dX7_copy_89 : decode cX7_copy 89 = .ok (.aload_n 0, 1) := by decide +kernel
theorem dX7_copy_90 : decode cX7_copy 90 = .ok (.getfield 7, 3) := by decide +kernel
theorem dX7_copy_93 : decode cX7_copy 93 = .ok (.iload_n 2, 1) := by decide +kernel
theorem dX7_copy_94 : decode cX7_copy 94 = .ok (.iconst 2, 1) := by decide +kernel
theorem dX7_copy_95 : decode cX7_copy 95 = .ok (.iadd, 1) := by decide +kernel
theorem dX7_copy_96 : decode cX7_copy 96 = .ok (.iaload, 1) := by decide +kernel
theorem dX7_copy_97 : decode cX7_copy 97 = .ok (.if_icmp .ge 24, 3) := by decide +kernel
theorem dX7_copy_100 : decode cX7_copy 100 = .ok (.aload_n 0, 1) := by decide +kernel
theorem dX7_copy_101 : decode cX7_copy 101 = .ok (.aload_n 0, 1) := by decide +kernel
theorem dX7_copy_102 : decode cX7_copy 102 = .ok (.getfield 13, 3) := by decide +kernel
theorem dX7_copy_105 : decode cX7_copy 105 = .ok (.aload_n 0, 1) := by decide +kernel
theorem dX7_copy_106 : decode cX7_copy 106 = .ok (.getfield 140, 3) := by decide +kernel
theorem dX7_copy_109 : decode cX7_copy 109 = .ok (.iload_n 3, 1) := by decide +kernel
theorem dX7_copy_110 : decode cX7_copy 110 = .ok (.isub, 1) := by decide +kernel
theorem dX7_copy_111 : decode cX7_copy 111 = .ok (.iaload, 1) := by decide +kernel
theorem dX7_copy_112 : decode cX7_copy 112 = .ok (.invokevirtual 160, 3) := by decide +kernel
theorem dX7_copy_115 : decode cX7_copy 115 = .ok (.iinc 4 1, 3) := by decide +kernel
theorem dX7_copy_118 : decode cX7_copy 118 = .ok (.goto (-31), 3) := by decide +kernel
theorem dX7_copy_121 : decode cX7_copy 121 = .ok (.aload_n 0, 1) := by decide +kernel
theorem dX7_copy_122 : decode cX7_copy 122 = .ok (.iload_n 1, 1) := by decide +kernel
theorem dX7_copy_123 : decode cX7_copy 123 = .ok (.iload_n 2, 1) := by decide +kernel
theorem dX7_copy_124 : decode cX7_copy 124 = .ok (.iconst 3, 1) := by decide +kernel
theorem dX7_copy_125 : decode cX7_copy 125 = .ok (.iadd, 1) := by decide +kernel
theorem dX7_copy_126 : decode cX7_copy 126 = .ok (.invokevirtual 163, 3) := by decide +kernel
theorem dX7_copy_129 : decode cX7_copy 129 = .ok (.return_, 1) := by decide +kernel
theorem dX7_nest_0 : decode cX7_nest 0 = .ok (.aload_n 0, 1) := by decide +kernel
theorem dX7_nest_1 : decode cX7_nest 1 = .ok (.iload_n 1, 1) := by decide +kernel
theorem dX7_nest_2 : decode cX7_nest 2 = .ok (.iconst 3, 1) := by decide +kernel
theorem dX7_nest_3 : decode cX7_nest 3 = .ok (.invokevirtual 149, 3) := by decide +kernel
theorem dX7_nest_6 : decode cX7_nest 6 = .ok (.ifCond .ne 4, 3) := by decide +kernel
theorem dX7_nest_9 : decode cX7_nest 9 = .ok (.return_, 1) := by decide +kernel
theorem dX7_nest_10 : decode cX7_nest 10 = .ok (.sipush 256, 3) := by decide +kernel
theorem dX7_nest_13 : decode cX7_nest 13 = .ok (.aload_n 0, 1) := by decide +kernel
theorem dX7_nest_14 : decode cX7_nest 14 = .ok (.getfield 7, 3) := by decide +kernel
theorem dX7_nest_17 : decode cX7_nest 17 = .ok (.iload_n 1, 1) := by decide +kernel
theorem dX7_nest_18 : decode cX7_nest 18 = .ok (.iconst 1, 1) := by decide +kernel
theorem dX7_nest_19 : decode cX7_nest 19 = .ok (.iadd, 1) := by decide +kernel
theorem dX7_nest_20 : decode cX7_nest 20 = .ok (.iaload, 1) := by decide +kernel
theorem dX7_nest_21 : decode cX7_nest 21 = .ok (.imul, 1) := by decide +kernel
theorem dX7_nest_22 : decode cX7_nest 22 = .ok (.aload_n 0, 1) := by decide +kernel
theorem dX7_nest_23 : decode cX7_nest 23 = .ok (.getfield 7, 3) := by decide +kernel
theorem dX7_nest_26 : decode cX7_nest 26 = .ok (.iload_n 1, 1) := by decide +kernel
theorem dX7_nest_27 : decode cX7_nest 27 = .ok (.iconst 2, 1) := by decide +kernel
theorem dX7_nest_28 : decode cX7_nest 28 = .ok (.iadd, 1) := by decide +kernel
theorem dX7_nest_29 : decode cX7_nest 29 = .ok (.iaload, 1) := by decide +kernel
theorem dX7_nest_30 : decode cX7_nest 30 = .ok (.iadd, 1) := by decide +kernel
theorem dX7_nest_31 : decode cX7_nest 31 = .ok (.istore_n 2, 1) := by decide +kernel
theorem dX7_nest_32 : decode cX7_nest 32 = .ok (.aload_n 0, 1) := by decide +kernel
theorem dX7_nest_33 : decode cX7_nest 33 = .ok (.iload_n 1, 1) := by decide +kernel
theorem dX7_nest_34 : decode cX7_nest 34 = .ok (.iconst 3, 1) := by decide +kernel
theorem dX7_nest_35 : decode cX7_nest 35 = .ok (.iload_n 2, 1) := by decide +kernel
theorem dX7_nest_36 : decode cX7_nest 36 = .ok (.iadd, 1) := by decide +kernel
theorem dX7_nest_37 : decode cX7_nest 37 = .ok (.invokevirtual 149, 3) := by decide +kernel
theorem dX7_nest_40 : decode cX7_nest 40 = .ok (.ifCond .ne 4, 3) := by decide +kernel
theorem dX7_nest_43 : decode cX7_nest 43 = .ok (.return_, 1) := by decide +kernel
theorem dX7_nest_44 : decode cX7_nest 44 = .ok (.aload_n 0, 1) := by decide +kernel
theorem dX7_nest_45 : decode cX7_nest 45 = .ok (.getfield 125, 3) := by decide +kernel
theorem dX7_nest_48 : decode cX7_nest 48 = .ok (.iconst 3, 1) := by decide +kernel
theorem dX7_nest_49 : decode cX7_nest 49 = .ok (.iadd, 1) := by decide +kernel
theorem dX7_nest_50 : decode cX7_nest 50 = .ok (.aload_n 0, 1) := by decide +kernel
theorem dX7_nest_51 : decode cX7_nest 51 = .ok (.getfield 128, 3) := by decide +kernel
theorem dX7_nest_54 : decode cX7_nest 54 = .ok (.if_icmp .le 13, 3) := by decide +kernel
theorem dX7_nest_57 : decode cX7_nest 57 = .ok (.aload_n 0, 1) := by decide +kernel
theorem dX7_nest_58 : decode cX7_nest 58 = .ok (.bipush 12, 2) := by decide +kernel
theorem dX7_nest_60 : decode cX7_nest 60 = .ok (.iload_n 1, 1) := by decide +kernel
theorem dX7_nest_61 : decode cX7_nest 61 = .ok (.invokevirtual 131, 3) := by decide +kernel
theorem dX7_nest_64 : decode cX7_nest 64 = .ok (.goto 46, 3) := by decide +kernel
theorem dX7_nest_67 : decode cX7_nest 67 = .ok (.aload_n 0, 1) := by decide +kernel
theorem dX7_nest_68 : decode cX7_nest 68 = .ok (.getfield 137, 3) := by decide +kernel
theorem dX7_nest_71 : decode cX7_nest 71 = .ok (.aload_n 0, 1) := by decide +kernel
theorem dX7_nest_72 : decode cX7_nest 72 = .ok (.getfield 178, 3) := by decide +kernel
theorem dX7_nest_75 : decode cX7_nest 75 = .ok (.if_icmp .le 13, 3) := by decide +kernel
theorem dX7_nest_78 : decode cX7_nest 78 = .ok (.aload_n 0, 1) := by decide +kernel
theorem dX7_nest_79 : decode cX7_nest 79 = .ok (.bipush 13, 2) := by decide +kernel
theorem dX7_nest_81 : decode cX7_nest 81 = .ok (.iload_n 1, 1) := by decide +kernel
theorem dX7_nest_82 : decode cX7_nest 82 = .ok (.invokevirtual 131, 3) := by decide +kernel
theorem dX7_nest_85 : decode cX7_nest 85 = .ok (.goto 25, 3) := by decide +kernel
theorem dX7_nest_88 : decode cX7_nest 88 = .ok (.aload_n 0, 1) := by decide +kernel
theorem dX7_nest_89 : decode cX7_nest 89 = .ok (.dup, 1) := by decide +kernel
theorem dX7_nest_90 : decode cX7_nest 90 = .ok (.getfield 125, 3) := by decide +kernel
theorem dX7_nest_93 : decode cX7_nest 93 = .ok (.iconst 3, 1) := by decide +kernel
theorem dX7_nest_94 : decode cX7_nest 94 = .ok (.iadd, 1) := by decide +kernel
theorem dX7_nest_95 : decode cX7_nest 95 = .ok (.putfield 125, 3) := by decide +kernel
theorem dX7_nest_98 : decode cX7_nest 98 = .ok (.aload_n 0, 1) := by decide +kernel
theorem dX7_nest_99 : decode cX7_nest 99 = .ok (.iload_n 1, 1) := by decide +kernel
theorem dX7_nest_100 : decode cX7_nest 100 = .ok (.iconst 3, 1) := by decide +kernel
theorem dX7_nest_101 : decode cX7_nest 101 = .ok (.iadd, 1) := by decide +kernel
theorem dX7_nest_102 : decode cX7_nest 102 = .ok (.iload_n 1, 1) := by decide +kernel
theorem dX7_nest_103 : decode cX7_nest 103 = .ok (.iconst 3, 1) := by decide +kernel
theorem dX7_nest_104 : decode cX7_nest 104 = .ok (.iadd, 1) := by decide +kernel
theorem dX7_nest_105 : decode cX7_nest 105 = .ok (.iload_n 2, 1) := by decide +kernel
theorem dX7_nest_106 : decode cX7_nest 106 = .ok (.iadd, 1) := by decide +kernel
theorem dX7_nest_107 : decode cX7_nest 107 = .ok (.invokevirtual 181, 3) := by decide +kernel
theorem dX7_nest_110 : decode cX7_nest 110 = .ok (.return_, 1) := by decide +kernel
theorem dX7_again_0 : decode cX7_again 0 = .ok (.aload_n 0, 1) := by decide +kernel
theorem dX7_again_1 : decode cX7_again 1 = .ok (.iload_n 2, 1) := by decide +kernel
theorem dX7_again_2 : decode cX7_again 2 = .ok (.iconst 2, 1) := by decide +kernel
theorem dX7_again_3 : decode cX7_again 3 = .ok (.invokevirtual 149, 3) := by decide +kernel
theorem dX7_again_6 : decode cX7_again 6 = .ok (.ifCond .ne 4, 3) := by decide +kernel
theorem dX7_again_9 : decode cX7_again 9 = .ok (.return_, 1) := by decide +kernel
theorem dX7_again_10 : decode cX7_again 10 = .ok (.aload_n 0, 1) := by decide +kernel
theorem dX7_again_11 : decode cX7_again 11 = .ok (.getfield 7, 3) := by decide +kernel
theorem dX7_again_14 : decode cX7_again 14 = .ok (.iload_n 2, 1) := by decide +kernel
theorem dX7_again_15 : decode cX7_again 15 = .ok (.iconst 1, 1) := by decide +kernel
theorem dX7_again_16 : decode cX7_again 16 = .ok (.iadd, 1) := by decide +kernel
theorem dX7_again_17 : decode cX7_again 17 = .ok (.iaload, 1) := by decide +kernel
theorem dX7_again_18 : decode cX7_again 18 = .ok (.istore_n 3, 1) := by decide +kernel
theorem dX7_again_19 : decode cX7_again 19 = .ok (.iload_n 3, 1) := by decide +kernel
theorem dX7_again_20 : decode cX7_again 20 = .ok (.aload_n 0, 1) := by decide +kernel
theorem dX7_again_21 : decode cX7_again 21 = .ok (.getfield 32, 3) := by decide +kernel
theorem dX7_again_24 : decode cX7_again 24 = .ok (.iload_n 1, 1) := by decide +kernel
theorem dX7_again_25 : decode cX7_again 25 = .ok (.iaload, 1) := by decide +kernel
theorem dX7_again_26 : decode cX7_again 26 = .ok (.if_icmp .lt 12, 3) := by decide +kernel
theorem dX7_again_29 : decode cX7_again 29 = .ok (.aload_n 0, 1) := by decide +kernel
theorem dX7_again_30 : decode cX7_again 30 = .ok (.iconst 5, 1) := by decide +kernel
theorem dX7_again_31 : decode cX7_again 31 = .ok (.iload_n 2, 1) := by decide +kernel
theorem dX7_again_32 : decode cX7_again 32 = .ok (.iconst 1, 1) := by decide +kernel
theorem dX7_again_33 : decode cX7_again 33 = .ok (.iadd, 1) := by decide +kernel
theorem dX7_again_34 : decode cX7_again 34 = .ok (.invokevirtual 131, 3) := by decide +kernel
theorem dX7_again_37 : decode cX7_again 37 = .ok (.return_, 1) := by decide +kernel
theorem dX7_again_38 : decode cX7_again 38 = .ok (.aload_n 0, 1) := by decide +kernel
theorem dX7_again_39 : decode cX7_again 39 = .ok (.getfield 35, 3) := by decide +kernel
theorem dX7_again_42 : decode cX7_again 42 = .ok (.sipush 600, 3) := by decide +kernel
theorem dX7_again_45 : decode cX7_again 45 = .ok (.iload_n 1, 1) := by decide +kernel
theorem dX7_again_46 : decode cX7_again 46 = .ok (.imul, 1) := by decide +kernel
theorem dX7_again_47 : decode cX7_again 47 = .ok (.iload_n 3, 1) := by decide +kernel
theorem dX7_again_48 : decode cX7_again 48 = .ok (.iadd, 1) := by decide +kernel
theorem dX7_again_49 : decode cX7_again 49 = .ok (.iaload, 1) := by decide +kernel
theorem dX7_again_50 : decode cX7_again 50 = .ok (.istore 4, 2) := by decide +kernel
theorem dX7_again_52 : decode cX7_again 52 = .ok (.aload_n 0, 1) := by decide +kernel
theorem dX7_again_53 : decode cX7_again 53 = .ok (.iload_n 2, 1) := by decide +kernel
theorem dX7_again_54 : decode cX7_again 54 = .ok (.iconst 2, 1) := by decide +kernel
theorem dX7_again_55 : decode cX7_again 55 = .ok (.iload 4, 2) := by decide +kernel
theorem dX7_again_57 : decode cX7_again 57 = .ok (.iadd, 1) := by decide +kernel
theorem dX7_again_58 : decode cX7_again 58 = .ok (.iload 4, 2) := by decide +kernel
theorem dX7_again_60 : decode cX7_again 60 = .ok (.invokevirtual 156, 3) := by decide +kernel
theorem dX7_again_63 : decode cX7_again 63 = .ok (.ifCond .eq 45, 3) := by decide +kernel
theorem dX7_again_66 : decode cX7_again 66 = .ok (.iconst 0, 1) := by decide +kernel
theorem dX7_again_67 : decode cX7_again 67 = .ok (.istore 5, 2) := by decide +kernel
theorem dX7_again_69 : decode cX7_again 69 = .ok (.iload 5, 2) := by decide +kernel
theorem dX7_again_71 : decode cX7_again 71 = .ok (.iload 4, 2) := by decide +kernel
theorem dX7_again_73 : decode cX7_again 73 = .ok (.if_icmp .ge 27, 3) := by decide +kernel
theorem dX7_again_76 : decode cX7_again 76 = .ok (.aload_n 0, 1) := by decide +kernel
theorem dX7_again_77 : decode cX7_again 77 = .ok (.aload_n 0, 1) := by decide +kernel
theorem dX7_again_78 : decode cX7_again 78 = .ok (.getfield 13, 3) := by decide +kernel
theorem dX7_again_81 : decode cX7_again 81 = .ok (.aload_n 0, 1) := by decide +kernel
theorem dX7_again_82 : decode cX7_again 82 = .ok (.getfield 29, 3) := by decide +kernel
theorem dX7_again_85 : decode cX7_again 85 = .ok (.iload_n 1, 1) := by decide +kernel
theorem dX7_again_86 : decode cX7_again 86 = .ok (.iaload, 1) := by decide +kernel
theorem dX7_again_87 : decode cX7_again 87 = .ok (.iload 5, 2) := by decide +kernel
theorem dX7_again_89 : decode cX7_again 89 = .ok (.iadd, 1) := by decide +kernel
theorem dX7_again_90 : decode cX7_again 90 = .ok (.iaload, 1) := by decide +kernel
theorem dX7_again_91 : decode cX7_again 91 = .ok (.invokevirtual 160, 3) := by decide +kernel
theorem dX7_again_94 : decode cX7_again 94 = .ok (.iinc 5 1, 3) := by decide +kernel
theorem dX7_again_97 : decode cX7_again 97 = .ok (.goto (-28), 3) := by decide +kernel
theorem dX7_again_100 : decode cX7_again 100 = .ok (.aload_n 0, 1) := by decide +kernel
theorem dX7_again_101 : decode cX7_again 101 = .ok (.iload_n 1, 1) := by decide +kernel
theorem dX7_again_102 : decode cX7_again 102 = .ok (.iload_n 2, 1) := by decide +kernel
theorem dX7_again_103 : decode cX7_again 103 = .ok (.iconst 2, 1) := by decide +kernel
theorem dX7_again_104 : decode cX7_again 104 = .ok (.iadd, 1) := by decide +kernel
theorem dX7_again_105 : decode cX7_again 105 = .ok (.invokevirtual 163, 3) := by decide +kernel
theorem dX7_again_108 : decode cX7_again 108 = .ok (.return_, 1) := by decide +kernel
theorem dX7_codesOf_0 : decode cX7_codesOf 0 = .ok (.iconst 0, 1) := by decide +kernel
theorem dX7_codesOf_1 : decode cX7_codesOf 1 = .ok (.istore_n 3, 1) := by decide +kernel
theorem dX7_codesOf_2 : decode cX7_codesOf 2 = .ok (.iconst 0, 1) := by decide +kernel
theorem dX7_codesOf_3 : decode cX7_codesOf 3 = .ok (.istore 4, 2) := by decide +kernel
theorem dX7_codesOf_5 : decode cX7_codesOf 5 = .ok (.iconst 0, 1) := by decide +kernel
theorem dX7_codesOf_6 : decode cX7_codesOf 6 = .ok (.istore 5, 2) := by decide +kernel
theorem dX7_codesOf_8 : decode cX7_codesOf 8 = .ok (.iconst 0, 1) := by decide +kernel
theorem dX7_codesOf_9 : decode cX7_codesOf 9 = .ok (.istore 6, 2) := by decide +kernel
theorem dX7_codesOf_11 : decode cX7_codesOf 11 = .ok (.iload 6, 2) := by decide +kernel
theorem dX7_codesOf_13 : decode cX7_codesOf 13 = .ok (.iload_n 2, 1) := by decide +kernel
theorem dX7_codesOf_14 : decode cX7_codesOf 14 = .ok (.if_icmp .ge 67, 3) := by decide +kernel
theorem dX7_codesOf_17 : decode cX7_codesOf 17 = .ok (.aload_n 0, 1) := by decide +kernel
theorem dX7_codesOf_18 : decode cX7_codesOf 18 = .ok (.getfield 7, 3) := by decide +kernel
theorem dX7_codesOf_21 : decode cX7_codesOf 21 = .ok (.iload_n 1, 1) := by decide +kernel
theorem dX7_codesOf_22 : decode cX7_codesOf 22 = .ok (.iload 6, 2) := by decide +kernel
theorem dX7_codesOf_24 : decode cX7_codesOf 24 = .ok (.iadd, 1) := by decide +kernel
theorem dX7_codesOf_25 : decode cX7_codesOf 25 = .ok (.iaload, 1) := by decide +kernel
theorem dX7_codesOf_26 : decode cX7_codesOf 26 = .ok (.istore 7, 2) := by decide +kernel
theorem dX7_codesOf_28 : decode cX7_codesOf 28 = .ok (.iload_n 3, 1) := by decide +kernel
theorem dX7_codesOf_29 : decode cX7_codesOf 29 = .ok (.iload 7, 2) := by decide +kernel
theorem dX7_codesOf_31 : decode cX7_codesOf 31 = .ok (.ifCond .le 12, 3) := by decide +kernel
theorem dX7_codesOf_34 : decode cX7_codesOf 34 = .ok (.sipush 128, 3) := by decide +kernel
theorem dX7_codesOf_37 : decode cX7_codesOf 37 = .ok (.iload 7, 2) := by decide +kernel
theorem dX7_codesOf_39 : decode cX7_codesOf 39 = .ok (.ishr, 1) := by decide +kernel
theorem dX7_codesOf_40 : decode cX7_codesOf 40 = .ok (.goto 4, 3) := by decide +kernel
theorem dX7_codesOf_43 : decode cX7_codesOf 43 = .ok (.iconst 0, 1) := by decide +kernel
theorem dX7_codesOf_44 : decode cX7_codesOf 44 = .ok (.iadd, 1) := by decide +kernel
theorem dX7_codesOf_45 : decode cX7_codesOf 45 = .ok (.istore_n 3, 1) := by decide +kernel
theorem dX7_codesOf_46 : decode cX7_codesOf 46 = .ok (.iload 4, 2) := by decide +kernel
theorem dX7_codesOf_48 : decode cX7_codesOf 48 = .ok (.iload 7, 2) := by decide +kernel
theorem dX7_codesOf_50 : decode cX7_codesOf 50 = .ok (.ifCond .le 7, 3) := by decide +kernel
theorem dX7_codesOf_53 : decode cX7_codesOf 53 = .ok (.iconst 1, 1) := by decide +kernel
theorem dX7_codesOf_54 : decode cX7_codesOf 54 = .ok (.goto 4, 3) := by decide +kernel
theorem dX7_codesOf_57 : decode cX7_codesOf 57 = .ok (.iconst 0, 1) := by decide +kernel
theorem dX7_codesOf_58 : decode cX7_codesOf 58 = .ok (.iadd, 1) := by decide +kernel
theorem dX7_codesOf_59 : decode cX7_codesOf 59 = .ok (.istore 4, 2) := by decide +kernel
theorem dX7_codesOf_61 : decode cX7_codesOf 61 = .ok (.iload 7, 2) := by decide +kernel
theorem dX7_codesOf_63 : decode cX7_codesOf 63 = .ok (.ifCond .le 8, 3) := by decide +kernel
theorem dX7_codesOf_66 : decode cX7_codesOf 66 = .ok (.iload 7, 2) := by decide +kernel
theorem dX7_codesOf_68 : decode cX7_codesOf 68 = .ok (.goto 5, 3) := by decide +kernel
theorem dX7_codesOf_71 : decode cX7_codesOf 71 = .ok (.iload 5, 2) := by decide +kernel
theorem dX7_codesOf_73 : decode cX7_codesOf 73 = .ok (.istore 5, 2) := by decide +kernel
theorem dX7_codesOf_75 : decode cX7_codesOf 75 = .ok (.iinc 6 1, 3) := by decide +kernel
theorem dX7_codesOf_78 : decode cX7_codesOf 78 = .ok (.goto (-67), 3) := by decide +kernel
theorem dX7_codesOf_81 : decode cX7_codesOf 81 = .ok (.iconst 0, 1) := by decide +kernel
theorem dX7_codesOf_82 : decode cX7_codesOf 82 = .ok (.istore 6, 2) := by decide +kernel
theorem dX7_codesOf_84 : decode cX7_codesOf 84 = .ok (.iconst 1, 1) := by decide +kernel
theorem dX7_codesOf_85 : decode cX7_codesOf 85 = .ok (.istore 7, 2) := by decide +kernel
theorem dX7_codesOf_87 : decode cX7_codesOf 87 = .ok (.iload 7, 2) := by decide +kernel
theorem dX7_codesOf_89 : decode cX7_codesOf 89 = .ok (.bipush 7, 2) := by decide +kernel
theorem dX7_codesOf_91 : decode cX7_codesOf 91 = .ok (.if_icmp .gt 56, 3) := by decide +kernel
theorem dX7_codesOf_94 : decode cX7_codesOf 94 = .ok (.iload 6, 2) := by decide +kernel
theorem dX7_codesOf_96 : decode cX7_codesOf 96 = .ok (.iconst 2, 1) := by decide +kernel
theorem dX7_codesOf_97 : decode cX7_codesOf 97 = .ok (.imul, 1) := by decide +kernel
theorem dX7_codesOf_98 : decode cX7_codesOf 98 = .ok (.istore 6, 2) := by decide +kernel
theorem dX7_codesOf_100 : decode cX7_codesOf 100 = .ok (.iconst 0, 1) := by decide +kernel
theorem dX7_codesOf_101 : decode cX7_codesOf 101 = .ok (.istore 8, 2) := by decide +kernel
theorem dX7_codesOf_103 : decode cX7_codesOf 103 = .ok (.iload 8, 2) := by decide +kernel
theorem dX7_codesOf_105 : decode cX7_codesOf 105 = .ok (.iload_n 2, 1) := by decide +kernel
theorem dX7_codesOf_106 : decode cX7_codesOf 106 = .ok (.if_icmp .ge 35, 3) := by decide +kernel
theorem dX7_codesOf_109 : decode cX7_codesOf 109 = .ok (.aload_n 0, 1) := by decide +kernel
theorem dX7_codesOf_110 : decode cX7_codesOf 110 = .ok (.getfield 7, 3) := by decide +kernel
theorem dX7_codesOf_113 : decode cX7_codesOf 113 = .ok (.iload_n 1, 1) := by decide +kernel
theorem dX7_codesOf_114 : decode cX7_codesOf 114 = .ok (.iload 8, 2) := by decide +kernel
theorem dX7_codesOf_116 : decode cX7_codesOf 116 = .ok (.iadd, 1) := by decide +kernel
theorem dX7_codesOf_117 : decode cX7_codesOf 117 = .ok (.iaload, 1) := by decide +kernel
theorem dX7_codesOf_118 : decode cX7_codesOf 118 = .ok (.iload 7, 2) := by decide +kernel
theorem dX7_codesOf_120 : decode cX7_codesOf 120 = .ok (.if_icmp .ne 15, 3) := by decide +kernel
theorem dX7_codesOf_123 : decode cX7_codesOf 123 = .ok (.aload_n 0, 1) := by decide +kernel
theorem dX7_codesOf_124 : decode cX7_codesOf 124 = .ok (.getfield 59, 3) := by decide +kernel
theorem dX7_codesOf_127 : decode cX7_codesOf 127 = .ok (.iload 8, 2) := by decide +kernel
theorem dX7_codesOf_129 : decode cX7_codesOf 129 = .ok (.iload 6, 2) := by decide +kernel
theorem dX7_codesOf_131 : decode cX7_codesOf 131 = .ok (.iastore, 1) := by decide +kernel
theorem dX7_codesOf_132 : decode cX7_codesOf 132 = .ok (.iinc 6 1, 3) := by decide +kernel
theorem dX7_codesOf_135 : decode cX7_codesOf 135 = .ok (.iinc 8 1, 3) := by decide +kernel
theorem dX7_codesOf_138 : decode cX7_codesOf 138 = .ok (.goto (-35), 3) := by decide +kernel
theorem dX7_codesOf_141 : decode cX7_codesOf 141 = .ok (.iinc 7 1, 3) := by decide +kernel
theorem dX7_codesOf_144 : decode cX7_codesOf 144 = .ok (.goto (-57), 3) := by decide +kernel
theorem dX7_codesOf_147 : decode cX7_codesOf 147 = .ok (.iload_n 3, 1) := by decide +kernel
theorem dX7_codesOf_148 : decode cX7_codesOf 148 = .ok (.sipush 128, 3) := by decide +kernel
theorem dX7_codesOf_151 : decode cX7_codesOf 151 = .ok (.if_icmp .eq 15, 3) := by decide +kernel
theorem dX7_codesOf_154 : decode cX7_codesOf 154 = .ok (.iload 4, 2) := by decide +kernel
theorem dX7_codesOf_156 : decode cX7_codesOf 156 = .ok (.iconst 1, 1) := by decide +kernel
theorem dX7_codesOf_157 : decode cX7_codesOf 157 = .ok (.if_icmp .ne 13, 3) := by decide +kernel
theorem dX7_codesOf_160 : decode cX7_codesOf 160 = .ok (.iload 5, 2) := by decide +kernel
theorem dX7_codesOf_162 : decode cX7_codesOf 162 = .ok (.iconst 1, 1) := by decide +kernel
theorem dX7_codesOf_163 : decode cX7_codesOf 163 = .ok (.if_icmp .ne 7, 3) := by decide +kernel
theorem dX7_codesOf_166 : decode cX7_codesOf 166 = .ok (.iconst 1, 1) := by decide +kernel
theorem dX7_codesOf_167 : decode cX7_codesOf 167 = .ok (.goto 4, 3) := by decide +kernel
theorem dX7_codesOf_170 : decode cX7_codesOf 170 = .ok (.iconst 0, 1) := by decide +kernel
theorem dX7_codesOf_171 : decode cX7_codesOf 171 = .ok (.ireturn, 1) := by decide +kernel
theorem dX7_coded_0 : decode cX7_coded 0 = .ok (.aload_n 0, 1) := by decide +kernel
theorem dX7_coded_1 : decode cX7_coded 1 = .ok (.iload_n 2, 1) := by decide +kernel
theorem dX7_coded_2 : decode cX7_coded 2 = .ok (.iconst 2, 1) := by decide +kernel
theorem dX7_coded_3 : decode cX7_coded 3 = .ok (.invokevirtual 149, 3) := by decide +kernel
theorem dX7_coded_6 : decode cX7_coded 6 = .ok (.ifCond .ne 4, 3) := by decide +kernel
theorem dX7_coded_9 : decode cX7_coded 9 = .ok (.return_, 1) := by decide +kernel
theorem dX7_coded_10 : decode cX7_coded 10 = .ok (.aload_n 0, 1) := by decide +kernel
theorem dX7_coded_11 : decode cX7_coded 11 = .ok (.getfield 7, 3) := by decide +kernel
theorem dX7_coded_14 : decode cX7_coded 14 = .ok (.iload_n 2, 1) := by decide +kernel
theorem dX7_coded_15 : decode cX7_coded 15 = .ok (.iconst 1, 1) := by decide +kernel
theorem dX7_coded_16 : decode cX7_coded 16 = .ok (.iadd, 1) := by decide +kernel
theorem dX7_coded_17 : decode cX7_coded 17 = .ok (.iaload, 1) := by decide +kernel
theorem dX7_coded_18 : decode cX7_coded 18 = .ok (.istore_n 3, 1) := by decide +kernel
theorem dX7_coded_19 : decode cX7_coded 19 = .ok (.iload_n 3, 1) := by decide +kernel
theorem dX7_coded_20 : decode cX7_coded 20 = .ok (.i2l, 1) := by decide +kernel
theorem dX7_coded_21 : decode cX7_coded 21 = .ok (.lconst 1, 1) := by decide +kernel
theorem dX7_coded_22 : decode cX7_coded 22 = .ok (.ldc2_w 72, 3) := by decide +kernel
theorem dX7_coded_25 : decode cX7_coded 25 = .ok (.invokestatic 74, 3) := by decide +kernel
theorem dX7_coded_28 : decode cX7_coded 28 = .ok (.ifCond .ne 13, 3) := by decide +kernel
theorem dX7_coded_31 : decode cX7_coded 31 = .ok (.aload_n 0, 1) := by decide +kernel
theorem dX7_coded_32 : decode cX7_coded 32 = .ok (.bipush 6, 2) := by decide +kernel
theorem dX7_coded_34 : decode cX7_coded 34 = .ok (.iload_n 2, 1) := by decide +kernel
theorem dX7_coded_35 : decode cX7_coded 35 = .ok (.iconst 1, 1) := by decide +kernel
theorem dX7_coded_36 : decode cX7_coded 36 = .ok (.iadd, 1) := by decide +kernel
theorem dX7_coded_37 : decode cX7_coded 37 = .ok (.invokevirtual 131, 3) := by decide +kernel
theorem dX7_coded_40 : decode cX7_coded 40 = .ok (.return_, 1) := by decide +kernel
theorem dX7_coded_41 : decode cX7_coded 41 = .ok (.aload_n 0, 1) := by decide +kernel
theorem dX7_coded_42 : decode cX7_coded 42 = .ok (.iload_n 2, 1) := by decide +kernel
theorem dX7_coded_43 : decode cX7_coded 43 = .ok (.iconst 2, 1) := by decide +kernel
theorem dX7_coded_44 : decode cX7_coded 44 = .ok (.iload_n 3, 1) := by decide +kernel
theorem dX7_coded_45 : decode cX7_coded 45 = .ok (.iadd, 1) := by decide +kernel
theorem dX7_coded_46 : decode cX7_coded 46 = .ok (.invokevirtual 149, 3) := by decide +kernel
theorem dX7_coded_49 : decode cX7_coded 49 = .ok (.ifCond .ne 4, 3) := by decide +kernel
theorem dX7_coded_52 : decode cX7_coded 52 = .ok (.return_, 1) := by decide +kernel
theorem dX7_coded_53 : decode cX7_coded 53 = .ok (.iload_n 2, 1) := by decide +kernel
theorem dX7_coded_54 : decode cX7_coded 54 = .ok (.iconst 2, 1) := by decide +kernel
theorem dX7_coded_55 : decode cX7_coded 55 = .ok (.iadd, 1) := by decide +kernel
theorem dX7_coded_56 : decode cX7_coded 56 = .ok (.iload_n 3, 1) := by decide +kernel
theorem dX7_coded_57 : decode cX7_coded 57 = .ok (.iadd, 1) := by decide +kernel
theorem dX7_coded_58 : decode cX7_coded 58 = .ok (.istore 4, 2) := by decide +kernel
theorem dX7_coded_60 : decode cX7_coded 60 = .ok (.iconst 0, 1) := by decide +kernel
theorem dX7_coded_61 : decode cX7_coded 61 = .ok (.istore 5, 2) := by decide +kernel
theorem dX7_coded_63 : decode cX7_coded 63 = .ok (.iload 5, 2) := by decide +kernel
theorem dX7_coded_65 : decode cX7_coded 65 = .ok (.iload_n 3, 1) := by decide +kernel
theorem dX7_coded_66 : decode cX7_coded 66 = .ok (.if_icmp .ge 50, 3) := by decide +kernel
theorem dX7_coded_69 : decode cX7_coded 69 = .ok (.aload_n 0, 1) := by decide +kernel
theorem dX7_coded_70 : decode cX7_coded 70 = .ok (.iload 4, 2) := by decide +kernel
theorem dX7_coded_72 : decode cX7_coded 72 = .ok (.iload 5, 2) := by decide +kernel
theorem dX7_coded_74 : decode cX7_coded 74 = .ok (.iadd, 1) := by decide +kernel
theorem dX7_coded_75 : decode cX7_coded 75 = .ok (.iconst 1, 1) := by decide +kernel
theorem dX7_coded_76 : decode cX7_coded 76 = .ok (.invokevirtual 149, 3) := by decide +kernel
theorem dX7_coded_79 : decode cX7_coded 79 = .ok (.ifCond .ne 4, 3) := by decide +kernel
theorem dX7_coded_82 : decode cX7_coded 82 = .ok (.return_, 1) := by decide +kernel
theorem dX7_coded_83 : decode cX7_coded 83 = .ok (.aload_n 0, 1) := by decide +kernel
theorem dX7_coded_84 : decode cX7_coded 84 = .ok (.getfield 7, 3) := by decide +kernel
theorem dX7_coded_87 : decode cX7_coded 87 = .ok (.iload 4, 2) := by decide +kernel
theorem dX7_coded_89 : decode cX7_coded 89 = .ok (.iload 5, 2) := by decide +kernel
theorem dX7_coded_91 : decode cX7_coded 91 = .ok (.iadd, 1) := by decide +kernel
theorem dX7_coded_92 : decode cX7_coded 92 = .ok (.iaload, 1) := by decide +kernel
theorem dX7_coded_93 : decode cX7_coded 93 = .ok (.bipush 7, 2) := by decide +kernel
theorem dX7_coded_95 : decode cX7_coded 95 = .ok (.if_icmp .le 15, 3) := by decide +kernel
theorem dX7_coded_98 : decode cX7_coded 98 = .ok (.aload_n 0, 1) := by decide +kernel
theorem dX7_coded_99 : decode cX7_coded 99 = .ok (.bipush 6, 2) := by decide +kernel
theorem dX7_coded_101 : decode cX7_coded 101 = .ok (.iload 4, 2) := by decide +kernel
theorem dX7_coded_103 : decode cX7_coded 103 = .ok (.iload 5, 2) := by decide +kernel
theorem dX7_coded_105 : decode cX7_coded 105 = .ok (.iadd, 1) := by decide +kernel
theorem dX7_coded_106 : decode cX7_coded 106 = .ok (.invokevirtual 131, 3) := by decide +kernel
theorem dX7_coded_109 : decode cX7_coded 109 = .ok (.return_, 1) := by decide +kernel
theorem dX7_coded_110 : decode cX7_coded 110 = .ok (.iinc 5 1, 3) := by decide +kernel
theorem dX7_coded_113 : decode cX7_coded 113 = .ok (.goto (-50), 3) := by decide +kernel
theorem dX7_coded_116 : decode cX7_coded 116 = .ok (.aload_n 0, 1) := by decide +kernel
theorem dX7_coded_117 : decode cX7_coded 117 = .ok (.iload 4, 2) := by decide +kernel
theorem dX7_coded_119 : decode cX7_coded 119 = .ok (.iload_n 3, 1) := by decide +kernel
theorem dX7_coded_120 : decode cX7_coded 120 = .ok (.invokevirtual 184, 3) := by decide +kernel
theorem dX7_coded_123 : decode cX7_coded 123 = .ok (.ifCond .ne 14, 3) := by decide +kernel
theorem dX7_coded_126 : decode cX7_coded 126 = .ok (.aload_n 0, 1) := by decide +kernel
theorem dX7_coded_127 : decode cX7_coded 127 = .ok (.bipush 6, 2) := by decide +kernel
theorem dX7_coded_129 : decode cX7_coded 129 = .ok (.iload 4, 2) := by decide +kernel
theorem dX7_coded_131 : decode cX7_coded 131 = .ok (.invokevirtual 131, 3) := by decide +kernel
theorem dX7_coded_134 : decode cX7_coded 134 = .ok (.goto 73, 3) := by decide +kernel
theorem dX7_coded_137 : decode cX7_coded 137 = .ok (.aload_n 0, 1) := by decide +kernel
theorem dX7_coded_138 : decode cX7_coded 138 = .ok (.iload 4, 2) := by decide +kernel
theorem dX7_coded_140 : decode cX7_coded 140 = .ok (.iload_n 3, 1) := by decide +kernel
theorem dX7_coded_141 : decode cX7_coded 141 = .ok (.iadd, 1) := by decide +kernel
theorem dX7_coded_142 : decode cX7_coded 142 = .ok (.iconst 1, 1) := by decide +kernel
theorem dX7_coded_143 : decode cX7_coded 143 = .ok (.invokevirtual 149, 3) := by decide +kernel
theorem dX7_coded_146 : decode cX7_coded 146 = .ok (.ifCond .eq 61, 3) := by decide +kernel
theorem dX7_coded_149 : decode cX7_coded 149 = .ok (.aload_n 0, 1) := by decide +kernel
theorem dX7_coded_150 : decode cX7_coded 150 = .ok (.iload_n 2, 1) := by decide +kernel
theorem dX7_coded_151 : decode cX7_coded 151 = .ok (.iconst 3, 1) := by decide +kernel
theorem dX7_coded_152 : decode cX7_coded 152 = .ok (.iconst 2, 1) := by decide +kernel
theorem dX7_coded_153 : decode cX7_coded 153 = .ok (.iload_n 3, 1) := by decide +kernel
theorem dX7_coded_154 : decode cX7_coded 154 = .ok (.imul, 1) := by decide +kernel
theorem dX7_coded_155 : decode cX7_coded 155 = .ok (.iadd, 1) := by decide +kernel
theorem dX7_coded_156 : decode cX7_coded 156 = .ok (.iconst 2, 1) := by decide +kernel
theorem dX7_coded_157 : decode cX7_coded 157 = .ok (.aload_n 0, 1) := by decide +kernel
theorem dX7_coded_158 : decode cX7_coded 158 = .ok (.getfield 7, 3) := by decide +kernel
theorem dX7_coded_161 : decode cX7_coded 161 = .ok (.iload 4, 2) := by decide +kernel
theorem dX7_coded_163 : decode cX7_coded 163 = .ok (.iload_n 3, 1) := by decide +kernel
theorem dX7_coded_164 : decode cX7_coded 164 = .ok (.iadd, 1) := by decide +kernel
theorem dX7_coded_165 : decode cX7_coded 165 = .ok (.iaload, 1) := by decide +kernel
theorem dX7_coded_166 : decode cX7_coded 166 = .ok (.imul, 1) := by decide +kernel
theorem dX7_coded_167 : decode cX7_coded 167 = .ok (.iadd, 1) := by decide +kernel
theorem dX7_coded_168 : decode cX7_coded 168 = .ok (.aload_n 0, 1) := by decide +kernel
theorem dX7_coded_169 : decode cX7_coded 169 = .ok (.getfield 7, 3) := by decide +kernel
theorem dX7_coded_172 : decode cX7_coded 172 = .ok (.iload 4, 2) := by decide +kernel
theorem dX7_coded_174 : decode cX7_coded 174 = .ok (.iload_n 3, 1) := by decide +kernel
theorem dX7_coded_175 : decode cX7_coded 175 = .ok (.iadd, 1) := by decide +kernel
theorem dX7_coded_176 : decode cX7_coded 176 = .ok (.iaload, 1) := by decide +kernel
theorem dX7_coded_177 : decode cX7_coded 177 = .ok (.invokevirtual 156, 3) := by decide +kernel
theorem dX7_coded_180 : decode cX7_coded 180 = .ok (.ifCond .eq 27, 3) := by decide +kernel
theorem dX7_coded_183 : decode cX7_coded 183 = .ok (.aload_n 0, 1) := by decide +kernel
theorem dX7_coded_184 : decode cX7_coded 184 = .ok (.iload_n 1, 1) := by decide +kernel
theorem dX7_coded_185 : decode cX7_coded 185 = .ok (.iload_n 2, 1) := by decide +kernel
theorem dX7_coded_186 : decode cX7_coded 186 = .ok (.iconst 2, 1) := by decide +kernel
theorem dX7_coded_187 : decode cX7_coded 187 = .ok (.iadd, 1) := by decide +kernel
theorem dX7_coded_188 : decode cX7_coded 188 = .ok (.iload_n 3, 1) := by decide +kernel
theorem dX7_coded_189 : decode cX7_coded 189 = .ok (.iload 4, 2) := by decide +kernel
theorem dX7_coded_191 : decode cX7_coded 191 = .ok (.iload_n 3, 1) := by decide +kernel
theorem dX7_coded_192 : decode cX7_coded 192 = .ok (.iadd, 1) := by decide +kernel
theorem dX7_coded_193 : decode cX7_coded 193 = .ok (.iconst 1, 1) := by decide +kernel
theorem dX7_coded_194 : decode cX7_coded 194 = .ok (.iadd, 1) := by decide +kernel
theorem dX7_coded_195 : decode cX7_coded 195 = .ok (.aload_n 0, 1) := by decide +kernel
theorem dX7_coded_196 : decode cX7_coded 196 = .ok (.getfield 7, 3) := by decide +kernel
theorem dX7_coded_199 : decode cX7_coded 199 = .ok (.iload 4, 2) := by decide +kernel
theorem dX7_coded_201 : decode cX7_coded 201 = .ok (.iload_n 3, 1) := by decide +kernel
theorem dX7_coded_202 : decode cX7_coded 202 = .ok (.iadd, 1) := by decide +kernel
theorem dX7_coded_203 : decode cX7_coded 203 = .ok (.iaload, 1) := by decide +kernel
theorem dX7_coded_204 : decode cX7_coded 204 = .ok (.invokevirtual 187, 3) := by decide +kernel
theorem dX7_coded_207 : decode cX7_coded 207 = .ok (.return_, 1) := by decide +kernel
theorem dX7_bits_0 : decode cX7_bits 0 = .ok (.bipush 8, 2) := by decide +kernel
theorem dX7_bits_2 : decode cX7_bits 2 = .ok (.iload 4, 2) := by decide +kernel
theorem dX7_bits_4 : decode cX7_bits 4 = .ok (.imul, 1) := by decide +kernel
theorem dX7_bits_5 : decode cX7_bits 5 = .ok (.istore 6, 2) := by decide +kernel
theorem dX7_bits_7 : decode cX7_bits 7 = .ok (.iconst 0, 1) := by decide +kernel
theorem dX7_bits_8 : decode cX7_bits 8 = .ok (.istore 7, 2) := by decide +kernel
theorem dX7_bits_10 : decode cX7_bits 10 = .ok (.iload 7, 2) := by decide +kernel
theorem dX7_bits_12 : decode cX7_bits 12 = .ok (.iload 5, 2) := by decide +kernel
theorem dX7_bits_14 : decode cX7_bits 14 = .ok (.if_icmp .ge 208, 3) := by decide +kernel
theorem dX7_bits_17 : decode cX7_bits 17 = .ok (.iconst 0, 1) := by decide +kernel
theorem dX7_bits_18 : decode cX7_bits 18 = .ok (.istore 8, 2) := by decide +kernel
theorem dX7_bits_20 : decode cX7_bits 20 = .ok (.iconst 0, 1) := by decide +kernel
theorem dX7_bits_21 : decode cX7_bits 21 = .ok (.istore 9, 2) := by decide +kernel
theorem dX7_bits_23 : decode cX7_bits 23 = .ok (.iload 6, 2) := by decide +kernel
theorem dX7_bits_25 : decode cX7_bits 25 = .ok (.bipush 8, 2) := by decide +kernel
theorem dX7_bits_27 : decode cX7_bits 27 = .ok (.idiv, 1) := by decide +kernel
theorem dX7_bits_28 : decode cX7_bits 28 = .ok (.istore 10, 2) := by decide +kernel
theorem dX7_bits_30 : decode cX7_bits 30 = .ok (.iconst 0, 1) := by decide +kernel
theorem dX7_bits_31 : decode cX7_bits 31 = .ok (.istore 11, 2) := by decide +kernel
theorem dX7_bits_33 : decode cX7_bits 33 = .ok (.iload 11, 2) := by decide +kernel
theorem dX7_bits_35 : decode cX7_bits 35 = .ok (.ifCond .ne 181, 3) := by decide +kernel
theorem dX7_bits_38 : decode cX7_bits 38 = .ok (.aload_n 0, 1) := by decide +kernel
theorem dX7_bits_39 : decode cX7_bits 39 = .ok (.iload 6, 2) := by decide +kernel
theorem dX7_bits_41 : decode cX7_bits 41 = .ok (.bipush 8, 2) := by decide +kernel
theorem dX7_bits_43 : decode cX7_bits 43 = .ok (.idiv, 1) := by decide +kernel
theorem dX7_bits_44 : decode cX7_bits 44 = .ok (.iconst 1, 1) := by decide +kernel
theorem dX7_bits_45 : decode cX7_bits 45 = .ok (.invokevirtual 149, 3) := by decide +kernel
theorem dX7_bits_48 : decode cX7_bits 48 = .ok (.ifCond .ne 4, 3) := by decide +kernel
theorem dX7_bits_51 : decode cX7_bits 51 = .ok (.return_, 1) := by decide +kernel
theorem dX7_bits_52 : decode cX7_bits 52 = .ok (.iconst 2, 1) := by decide +kernel
theorem dX7_bits_53 : decode cX7_bits 53 = .ok (.iload 8, 2) := by decide +kernel
theorem dX7_bits_55 : decode cX7_bits 55 = .ok (.imul, 1) := by decide +kernel
theorem dX7_bits_56 : decode cX7_bits 56 = .ok (.aload_n 0, 1) := by decide +kernel
theorem dX7_bits_57 : decode cX7_bits 57 = .ok (.getfield 7, 3) := by decide +kernel
theorem dX7_bits_60 : decode cX7_bits 60 = .ok (.iload 6, 2) := by decide +kernel
theorem dX7_bits_62 : decode cX7_bits 62 = .ok (.bipush 8, 2) := by decide +kernel
theorem dX7_bits_64 : decode cX7_bits 64 = .ok (.idiv, 1) := by decide +kernel
theorem dX7_bits_65 : decode cX7_bits 65 = .ok (.iaload, 1) := by decide +kernel
theorem dX7_bits_66 : decode cX7_bits 66 = .ok (.bipush 7, 2) := by decide +kernel
theorem dX7_bits_68 : decode cX7_bits 68 = .ok (.iload 6, 2) := by decide +kernel
theorem dX7_bits_70 : decode cX7_bits 70 = .ok (.bipush 8, 2) := by decide +kernel
theorem dX7_bits_72 : decode cX7_bits 72 = .ok (.irem, 1) := by decide +kernel
theorem dX7_bits_73 : decode cX7_bits 73 = .ok (.isub, 1) := by decide +kernel
theorem dX7_bits_74 : decode cX7_bits 74 = .ok (.ishr, 1) := by decide +kernel
theorem dX7_bits_75 : decode cX7_bits 75 = .ok (.iconst 1, 1) := by decide +kernel
theorem dX7_bits_76 : decode cX7_bits 76 = .ok (.iand, 1) := by decide +kernel
theorem dX7_bits_77 : decode cX7_bits 77 = .ok (.iadd, 1) := by decide +kernel
theorem dX7_bits_78 : decode cX7_bits 78 = .ok (.istore 8, 2) := by decide +kernel
theorem dX7_bits_80 : decode cX7_bits 80 = .ok (.iinc 9 1, 3) := by decide +kernel
theorem dX7_bits_83 : decode cX7_bits 83 = .ok (.iinc 6 1, 3) := by decide +kernel
theorem dX7_bits_86 : decode cX7_bits 86 = .ok (.iconst 0, 1) := by decide +kernel
theorem dX7_bits_87 : decode cX7_bits 87 = .ok (.istore 12, 2) := by decide +kernel
theorem dX7_bits_89 : decode cX7_bits 89 = .ok (.iconst 0, 1) := by decide +kernel
theorem dX7_bits_90 : decode cX7_bits 90 = .ok (.istore 13, 2) := by decide +kernel
theorem dX7_bits_92 : decode cX7_bits 92 = .ok (.iload 13, 2) := by decide +kernel
theorem dX7_bits_94 : decode cX7_bits 94 = .ok (.iload_n 3, 1) := by decide +kernel
theorem dX7_bits_95 : decode cX7_bits 95 = .ok (.if_icmp .ge 99, 3) := by decide +kernel
theorem dX7_bits_98 : decode cX7_bits 98 = .ok (.iload 11, 2) := by decide +kernel
theorem dX7_bits_100 : decode cX7_bits 100 = .ok (.ifCond .ne 94, 3) := by decide +kernel
theorem dX7_bits_103 : decode cX7_bits 103 = .ok (.aload_n 0, 1) := by decide +kernel
theorem dX7_bits_104 : decode cX7_bits 104 = .ok (.getfield 7, 3) := by decide +kernel
theorem dX7_bits_107 : decode cX7_bits 107 = .ok (.iload_n 2, 1) := by decide +kernel
theorem dX7_bits_108 : decode cX7_bits 108 = .ok (.iload_n 3, 1) := by decide +kernel
theorem dX7_bits_109 : decode cX7_bits 109 = .ok (.iadd, 1) := by decide +kernel
theorem dX7_bits_110 : decode cX7_bits 110 = .ok (.iload 13, 2) := by decide +kernel
theorem dX7_bits_112 : decode cX7_bits 112 = .ok (.iadd, 1) := by decide +kernel
theorem dX7_bits_113 : decode cX7_bits 113 = .ok (.iaload, 1) := by decide +kernel
theorem dX7_bits_114 : decode cX7_bits 114 = .ok (.istore 14, 2) := by decide +kernel
theorem dX7_bits_116 : decode cX7_bits 116 = .ok (.iload 14, 2) := by decide +kernel
theorem dX7_bits_118 : decode cX7_bits 118 = .ok (.iload 9, 2) := by decide +kernel
theorem dX7_bits_120 : decode cX7_bits 120 = .ok (.if_icmp .ne 31, 3) := by decide +kernel
theorem dX7_bits_123 : decode cX7_bits 123 = .ok (.aload_n 0, 1) := by decide +kernel
theorem dX7_bits_124 : decode cX7_bits 124 = .ok (.getfield 59, 3) := by decide +kernel
theorem dX7_bits_127 : decode cX7_bits 127 = .ok (.iload 13, 2) := by decide +kernel
theorem dX7_bits_129 : decode cX7_bits 129 = .ok (.iaload, 1) := by decide +kernel
theorem dX7_bits_130 : decode cX7_bits 130 = .ok (.iload 8, 2) := by decide +kernel
theorem dX7_bits_132 : decode cX7_bits 132 = .ok (.if_icmp .ne 19, 3) := by decide +kernel
theorem dX7_bits_135 : decode cX7_bits 135 = .ok (.aload_n 0, 1) := by decide +kernel
theorem dX7_bits_136 : decode cX7_bits 136 = .ok (.aload_n 0, 1) := by decide +kernel
theorem dX7_bits_137 : decode cX7_bits 137 = .ok (.getfield 7, 3) := by decide +kernel
theorem dX7_bits_140 : decode cX7_bits 140 = .ok (.iload_n 2, 1) := by decide +kernel
theorem dX7_bits_141 : decode cX7_bits 141 = .ok (.iload 13, 2) := by decide +kernel
theorem dX7_bits_143 : decode cX7_bits 143 = .ok (.iadd, 1) := by decide +kernel
theorem dX7_bits_144 : decode cX7_bits 144 = .ok (.iaload, 1) := by decide +kernel
theorem dX7_bits_145 : decode cX7_bits 145 = .ok (.invokevirtual 160, 3) := by decide +kernel
theorem dX7_bits_148 : decode cX7_bits 148 = .ok (.iconst 1, 1) := by decide +kernel
theorem dX7_bits_149 : decode cX7_bits 149 = .ok (.istore 11, 2) := by decide +kernel
theorem dX7_bits_151 : decode cX7_bits 151 = .ok (.iload 12, 2) := by decide +kernel
theorem dX7_bits_153 : decode cX7_bits 153 = .ok (.ifCond .ne 28, 3) := by decide +kernel
theorem dX7_bits_156 : decode cX7_bits 156 = .ok (.iload 14, 2) := by decide +kernel
theorem dX7_bits_158 : decode cX7_bits 158 = .ok (.iload 9, 2) := by decide +kernel
theorem dX7_bits_160 : decode cX7_bits 160 = .ok (.if_icmp .le 25, 3) := by decide +kernel
theorem dX7_bits_163 : decode cX7_bits 163 = .ok (.aload_n 0, 1) := by decide +kernel
theorem dX7_bits_164 : decode cX7_bits 164 = .ok (.getfield 59, 3) := by decide +kernel
theorem dX7_bits_167 : decode cX7_bits 167 = .ok (.iload 13, 2) := by decide +kernel
theorem dX7_bits_169 : decode cX7_bits 169 = .ok (.iaload, 1) := by decide +kernel
theorem dX7_bits_170 : decode cX7_bits 170 = .ok (.iload 14, 2) := by decide +kernel
theorem dX7_bits_172 : decode cX7_bits 172 = .ok (.iload 9, 2) := by decide +kernel
theorem dX7_bits_174 : decode cX7_bits 174 = .ok (.isub, 1) := by decide +kernel
theorem dX7_bits_175 : decode cX7_bits 175 = .ok (.ishr, 1) := by decide +kernel
theorem dX7_bits_176 : decode cX7_bits 176 = .ok (.iload 8, 2) := by decide +kernel
theorem dX7_bits_178 : decode cX7_bits 178 = .ok (.if_icmp .ne 7, 3) := by decide +kernel
theorem dX7_bits_181 : decode cX7_bits 181 = .ok (.iconst 1, 1) := by decide +kernel
theorem dX7_bits_182 : decode cX7_bits 182 = .ok (.goto 4, 3) := by decide +kernel
