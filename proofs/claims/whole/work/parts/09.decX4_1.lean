theorem dX4_readNest_10 : decode cX4_readNest 10 = .ok (.aload_n 0, 1) := by decide +kernel
theorem dX4_readNest_11 : decode cX4_readNest 11 = .ok (.aload_n 2, 1) := by decide +kernel
theorem dX4_readNest_12 : decode cX4_readNest 12 = .ok (.getfield 128, 3) := by decide +kernel
theorem dX4_readNest_15 : decode cX4_readNest 15 = .ok (.invokevirtual 117, 3) := by decide +kernel
theorem dX4_readNest_18 : decode cX4_readNest 18 = .ok (.istore 5, 2) := by decide +kernel
theorem dX4_readNest_20 : decode cX4_readNest 20 = .ok (.iload 4, 2) := by decide +kernel
theorem dX4_readNest_22 : decode cX4_readNest 22 = .ok (.iconst (-1), 1) := by decide +kernel
theorem dX4_readNest_23 : decode cX4_readNest 23 = .ok (.if_icmp .eq 9, 3) := by decide +kernel
theorem dX4_readNest_26 : decode cX4_readNest 26 = .ok (.iload 5, 2) := by decide +kernel
theorem dX4_readNest_28 : decode cX4_readNest 28 = .ok (.iconst (-1), 1) := by decide +kernel
theorem dX4_readNest_29 : decode cX4_readNest 29 = .ok (.if_icmp .ne 4, 3) := by decide +kernel
theorem dX4_readNest_32 : decode cX4_readNest 32 = .ok (.return_, 1) := by decide +kernel
theorem dX4_readNest_33 : decode cX4_readNest 33 = .ok (.sipush 256, 3) := by decide +kernel
theorem dX4_readNest_36 : decode cX4_readNest 36 = .ok (.iload 4, 2) := by decide +kernel
theorem dX4_readNest_38 : decode cX4_readNest 38 = .ok (.imul, 1) := by decide +kernel
theorem dX4_readNest_39 : decode cX4_readNest 39 = .ok (.iload 5, 2) := by decide +kernel
theorem dX4_readNest_41 : decode cX4_readNest 41 = .ok (.iadd, 1) := by decide +kernel
theorem dX4_readNest_42 : decode cX4_readNest 42 = .ok (.istore 6, 2) := by decide +kernel
theorem dX4_readNest_44 : decode cX4_readNest 44 = .ok (.aload_n 0, 1) := by decide +kernel
theorem dX4_readNest_45 : decode cX4_readNest 45 = .ok (.iload 6, 2) := by decide +kernel
theorem dX4_readNest_47 : decode cX4_readNest 47 = .ok (.aload_n 2, 1) := by decide +kernel
theorem dX4_readNest_48 : decode cX4_readNest 48 = .ok (.getfield 128, 3) := by decide +kernel
theorem dX4_readNest_51 : decode cX4_readNest 51 = .ok (.invokevirtual 172, 3) := by decide +kernel
theorem dX4_readNest_54 : decode cX4_readNest 54 = .ok (.ifCond .eq 13, 3) := by decide +kernel
theorem dX4_readNest_57 : decode cX4_readNest 57 = .ok (.aload_n 0, 1) := by decide +kernel
theorem dX4_readNest_58 : decode cX4_readNest 58 = .ok (.iload_n 1, 1) := by decide +kernel
theorem dX4_readNest_59 : decode cX4_readNest 59 = .ok (.iconst 0, 1) := by decide +kernel
theorem dX4_readNest_60 : decode cX4_readNest 60 = .ok (.iconst 3, 1) := by decide +kernel
theorem dX4_readNest_61 : decode cX4_readNest 61 = .ok (.invokevirtual 98, 3) := by decide +kernel
theorem dX4_readNest_64 : decode cX4_readNest 64 = .ok (.ifCond .ne 4, 3) := by decide +kernel
theorem dX4_readNest_67 : decode cX4_readNest 67 = .ok (.return_, 1) := by decide +kernel
theorem dX4_readNest_68 : decode cX4_readNest 68 = .ok (.iload_n 3, 1) := by decide +kernel
theorem dX4_readNest_69 : decode cX4_readNest 69 = .ok (.iconst 1, 1) := by decide +kernel
theorem dX4_readNest_70 : decode cX4_readNest 70 = .ok (.iadd, 1) := by decide +kernel
theorem dX4_readNest_71 : decode cX4_readNest 71 = .ok (.aload_n 0, 1) := by decide +kernel
theorem dX4_readNest_72 : decode cX4_readNest 72 = .ok (.getfield 58, 3) := by decide +kernel
theorem dX4_readNest_75 : decode cX4_readNest 75 = .ok (.if_icmp .le 11, 3) := by decide +kernel
theorem dX4_readNest_78 : decode cX4_readNest 78 = .ok (.aload_n 0, 1) := by decide +kernel
theorem dX4_readNest_79 : decode cX4_readNest 79 = .ok (.bipush 13, 2) := by decide +kernel
theorem dX4_readNest_81 : decode cX4_readNest 81 = .ok (.iload_n 1, 1) := by decide +kernel
theorem dX4_readNest_82 : decode cX4_readNest 82 = .ok (.invokevirtual 91, 3) := by decide +kernel
theorem dX4_readNest_85 : decode cX4_readNest 85 = .ok (.return_, 1) := by decide +kernel
theorem dX4_readNest_86 : decode cX4_readNest 86 = .ok (.aload_n 0, 1) := by decide +kernel
theorem dX4_readNest_87 : decode cX4_readNest 87 = .ok (.dup, 1) := by decide +kernel
theorem dX4_readNest_88 : decode cX4_readNest 88 = .ok (.getfield 61, 3) := by decide +kernel
theorem dX4_readNest_91 : decode cX4_readNest 91 = .ok (.iconst 3, 1) := by decide +kernel
theorem dX4_readNest_92 : decode cX4_readNest 92 = .ok (.iadd, 1) := by decide +kernel
theorem dX4_readNest_93 : decode cX4_readNest 93 = .ok (.putfield 61, 3) := by decide +kernel
theorem dX4_readNest_96 : decode cX4_readNest 96 = .ok (.aload_n 0, 1) := by decide +kernel
theorem dX4_readNest_97 : decode cX4_readNest 97 = .ok (.aload_n 0, 1) := by decide +kernel
theorem dX4_readNest_98 : decode cX4_readNest 98 = .ok (.getfield 88, 3) := by decide +kernel
theorem dX4_readNest_101 : decode cX4_readNest 101 = .ok (.aload_n 0, 1) := by decide +kernel
theorem dX4_readNest_102 : decode cX4_readNest 102 = .ok (.getfield 88, 3) := by decide +kernel
theorem dX4_readNest_105 : decode cX4_readNest 105 = .ok (.iload 6, 2) := by decide +kernel
theorem dX4_readNest_107 : decode cX4_readNest 107 = .ok (.iadd, 1) := by decide +kernel
theorem dX4_readNest_108 : decode cX4_readNest 108 = .ok (.iload_n 3, 1) := by decide +kernel
theorem dX4_readNest_109 : decode cX4_readNest 109 = .ok (.iconst 1, 1) := by decide +kernel
theorem dX4_readNest_110 : decode cX4_readNest 110 = .ok (.iadd, 1) := by decide +kernel
theorem dX4_readNest_111 : decode cX4_readNest 111 = .ok (.aload_n 2, 1) := by decide +kernel
theorem dX4_readNest_112 : decode cX4_readNest 112 = .ok (.getfield 163, 3) := by decide +kernel
theorem dX4_readNest_115 : decode cX4_readNest 115 = .ok (.aload_n 2, 1) := by decide +kernel
theorem dX4_readNest_116 : decode cX4_readNest 116 = .ok (.getfield 166, 3) := by decide +kernel
theorem dX4_readNest_119 : decode cX4_readNest 119 = .ok (.iadd, 1) := by decide +kernel
theorem dX4_readNest_120 : decode cX4_readNest 120 = .ok (.invokevirtual 84, 3) := by decide +kernel
theorem dX4_readNest_123 : decode cX4_readNest 123 = .ok (.return_, 1) := by decide +kernel
theorem dX4_readNote_0 : decode cX4_readNote 0 = .ok (.aload_n 0, 1) := by decide +kernel
theorem dX4_readNote_1 : decode cX4_readNote 1 = .ok (.iload_n 2, 1) := by decide +kernel
theorem dX4_readNote_2 : decode cX4_readNote 2 = .ok (.invokevirtual 117, 3) := by decide +kernel
theorem dX4_readNote_5 : decode cX4_readNote 5 = .ok (.istore_n 3, 1) := by decide +kernel
theorem dX4_readNote_6 : decode cX4_readNote 6 = .ok (.iload_n 3, 1) := by decide +kernel
theorem dX4_readNote_7 : decode cX4_readNote 7 = .ok (.iconst (-1), 1) := by decide +kernel
theorem dX4_readNote_8 : decode cX4_readNote 8 = .ok (.if_icmp .eq 34, 3) := by decide +kernel
theorem dX4_readNote_11 : decode cX4_readNote 11 = .ok (.aload_n 0, 1) := by decide +kernel
theorem dX4_readNote_12 : decode cX4_readNote 12 = .ok (.iload_n 3, 1) := by decide +kernel
theorem dX4_readNote_13 : decode cX4_readNote 13 = .ok (.iload_n 2, 1) := by decide +kernel
theorem dX4_readNote_14 : decode cX4_readNote 14 = .ok (.invokevirtual 172, 3) := by decide +kernel
theorem dX4_readNote_17 : decode cX4_readNote 17 = .ok (.ifCond .eq 25, 3) := by decide +kernel
theorem dX4_readNote_20 : decode cX4_readNote 20 = .ok (.aload_n 0, 1) := by decide +kernel
theorem dX4_readNote_21 : decode cX4_readNote 21 = .ok (.iload_n 1, 1) := by decide +kernel
theorem dX4_readNote_22 : decode cX4_readNote 22 = .ok (.iconst 0, 1) := by decide +kernel
theorem dX4_readNote_23 : decode cX4_readNote 23 = .ok (.iconst 2, 1) := by decide +kernel
theorem dX4_readNote_24 : decode cX4_readNote 24 = .ok (.iload_n 3, 1) := by decide +kernel
theorem dX4_readNote_25 : decode cX4_readNote 25 = .ok (.iadd, 1) := by decide +kernel
theorem dX4_readNote_26 : decode cX4_readNote 26 = .ok (.invokevirtual 102, 3) := by decide +kernel
theorem dX4_readNote_29 : decode cX4_readNote 29 = .ok (.ifCond .eq 13, 3) := by decide +kernel
theorem dX4_readNote_32 : decode cX4_readNote 32 = .ok (.aload_n 0, 1) := by decide +kernel
theorem dX4_readNote_33 : decode cX4_readNote 33 = .ok (.dup, 1) := by decide +kernel
theorem dX4_readNote_34 : decode cX4_readNote 34 = .ok (.getfield 88, 3) := by decide +kernel
theorem dX4_readNote_37 : decode cX4_readNote 37 = .ok (.iload_n 3, 1) := by decide +kernel
theorem dX4_readNote_38 : decode cX4_readNote 38 = .ok (.iadd, 1) := by decide +kernel
theorem dX4_readNote_39 : decode cX4_readNote 39 = .ok (.putfield 88, 3) := by decide +kernel
theorem dX4_readNote_42 : decode cX4_readNote 42 = .ok (.return_, 1) := by decide +kernel
theorem dX4_readAgain_0 : decode cX4_readAgain 0 = .ok (.aload_n 0, 1) := by decide +kernel
theorem dX4_readAgain_1 : decode cX4_readAgain 1 = .ok (.aload_n 2, 1) := by decide +kernel
theorem dX4_readAgain_2 : decode cX4_readAgain 2 = .ok (.getfield 128, 3) := by decide +kernel
theorem dX4_readAgain_5 : decode cX4_readAgain 5 = .ok (.invokevirtual 117, 3) := by decide +kernel
theorem dX4_readAgain_8 : decode cX4_readAgain 8 = .ok (.istore_n 3, 1) := by decide +kernel
theorem dX4_readAgain_9 : decode cX4_readAgain 9 = .ok (.iload_n 3, 1) := by decide +kernel
theorem dX4_readAgain_10 : decode cX4_readAgain 10 = .ok (.iconst (-1), 1) := by decide +kernel
theorem dX4_readAgain_11 : decode cX4_readAgain 11 = .ok (.if_icmp .ne 4, 3) := by decide +kernel
theorem dX4_readAgain_14 : decode cX4_readAgain 14 = .ok (.return_, 1) := by decide +kernel
theorem dX4_readAgain_15 : decode cX4_readAgain 15 = .ok (.aload_n 2, 1) := by decide +kernel
theorem dX4_readAgain_16 : decode cX4_readAgain 16 = .ok (.getfield 163, 3) := by decide +kernel
theorem dX4_readAgain_19 : decode cX4_readAgain 19 = .ok (.iload_n 3, 1) := by decide +kernel
theorem dX4_readAgain_20 : decode cX4_readAgain 20 = .ok (.iadd, 1) := by decide +kernel
theorem dX4_readAgain_21 : decode cX4_readAgain 21 = .ok (.istore 4, 2) := by decide +kernel
theorem dX4_readAgain_23 : decode cX4_readAgain 23 = .ok (.iload_n 3, 1) := by decide +kernel
theorem dX4_readAgain_24 : decode cX4_readAgain 24 = .ok (.aload_n 2, 1) := by decide +kernel
theorem dX4_readAgain_25 : decode cX4_readAgain 25 = .ok (.getfield 166, 3) := by decide +kernel
theorem dX4_readAgain_28 : decode cX4_readAgain 28 = .ok (.if_icmp .ge 18, 3) := by decide +kernel
theorem dX4_readAgain_31 : decode cX4_readAgain 31 = .ok (.iload 4, 2) := by decide +kernel
theorem dX4_readAgain_33 : decode cX4_readAgain 33 = .ok (.ifCond .lt 13, 3) := by decide +kernel
theorem dX4_readAgain_36 : decode cX4_readAgain 36 = .ok (.iload 4, 2) := by decide +kernel
theorem dX4_readAgain_38 : decode cX4_readAgain 38 = .ok (.aload_n 0, 1) := by decide +kernel
theorem dX4_readAgain_39 : decode cX4_readAgain 39 = .ok (.getfield 44, 3) := by decide +kernel
theorem dX4_readAgain_42 : decode cX4_readAgain 42 = .ok (.arraylength, 1) := by decide +kernel
theorem dX4_readAgain_43 : decode cX4_readAgain 43 = .ok (.if_icmp .lt 15, 3) := by decide +kernel
theorem dX4_readAgain_46 : decode cX4_readAgain 46 = .ok (.aload_n 0, 1) := by decide +kernel
theorem dX4_readAgain_47 : decode cX4_readAgain 47 = .ok (.iconst 5, 1) := by decide +kernel
theorem dX4_readAgain_48 : decode cX4_readAgain 48 = .ok (.aload_n 0, 1) := by decide +kernel
theorem dX4_readAgain_49 : decode cX4_readAgain 49 = .ok (.getfield 88, 3) := by decide +kernel
theorem dX4_readAgain_52 : decode cX4_readAgain 52 = .ok (.iconst 1, 1) := by decide +kernel
theorem dX4_readAgain_53 : decode cX4_readAgain 53 = .ok (.isub, 1) := by decide +kernel
theorem dX4_readAgain_54 : decode cX4_readAgain 54 = .ok (.invokevirtual 91, 3) := by decide +kernel
theorem dX4_readAgain_57 : decode cX4_readAgain 57 = .ok (.return_, 1) := by decide +kernel
theorem dX4_readAgain_58 : decode cX4_readAgain 58 = .ok (.aload_n 0, 1) := by decide +kernel
theorem dX4_readAgain_59 : decode cX4_readAgain 59 = .ok (.getfield 44, 3) := by decide +kernel
theorem dX4_readAgain_62 : decode cX4_readAgain 62 = .ok (.iload 4, 2) := by decide +kernel
theorem dX4_readAgain_64 : decode cX4_readAgain 64 = .ok (.iaload, 1) := by decide +kernel
theorem dX4_readAgain_65 : decode cX4_readAgain 65 = .ok (.aload_n 2, 1) := by decide +kernel
theorem dX4_readAgain_66 : decode cX4_readAgain 66 = .ok (.getfield 178, 3) := by decide +kernel
theorem dX4_readAgain_69 : decode cX4_readAgain 69 = .ok (.isub, 1) := by decide +kernel
theorem dX4_readAgain_70 : decode cX4_readAgain 70 = .ok (.istore 5, 2) := by decide +kernel
theorem dX4_readAgain_72 : decode cX4_readAgain 72 = .ok (.aload_n 0, 1) := by decide +kernel
theorem dX4_readAgain_73 : decode cX4_readAgain 73 = .ok (.iload_n 1, 1) := by decide +kernel
theorem dX4_readAgain_74 : decode cX4_readAgain 74 = .ok (.iload 5, 2) := by decide +kernel
theorem dX4_readAgain_76 : decode cX4_readAgain 76 = .ok (.iconst 2, 1) := by decide +kernel
theorem dX4_readAgain_77 : decode cX4_readAgain 77 = .ok (.iload 5, 2) := by decide +kernel
theorem dX4_readAgain_79 : decode cX4_readAgain 79 = .ok (.iadd, 1) := by decide +kernel
theorem dX4_readAgain_80 : decode cX4_readAgain 80 = .ok (.invokevirtual 102, 3) := by decide +kernel
theorem dX4_readAgain_83 : decode cX4_readAgain 83 = .ok (.ifCond .ne 4, 3) := by decide +kernel
theorem dX4_readAgain_86 : decode cX4_readAgain 86 = .ok (.return_, 1) := by decide +kernel
theorem dX4_readAgain_87 : decode cX4_readAgain 87 = .ok (.iconst 0, 1) := by decide +kernel
theorem dX4_readAgain_88 : decode cX4_readAgain 88 = .ok (.istore 6, 2) := by decide +kernel
theorem dX4_readAgain_90 : decode cX4_readAgain 90 = .ok (.iload 6, 2) := by decide +kernel
theorem dX4_readAgain_92 : decode cX4_readAgain 92 = .ok (.iload 5, 2) := by decide +kernel
theorem dX4_readAgain_94 : decode cX4_readAgain 94 = .ok (.if_icmp .ge 30, 3) := by decide +kernel
theorem dX4_readAgain_97 : decode cX4_readAgain 97 = .ok (.aload_n 0, 1) := by decide +kernel
theorem dX4_readAgain_98 : decode cX4_readAgain 98 = .ok (.getfield 20, 3) := by decide +kernel
theorem dX4_readAgain_101 : decode cX4_readAgain 101 = .ok (.aload_n 0, 1) := by decide +kernel
theorem dX4_readAgain_102 : decode cX4_readAgain 102 = .ok (.getfield 20, 3) := by decide +kernel
theorem dX4_readAgain_105 : decode cX4_readAgain 105 = .ok (.aload_n 2, 1) := by decide +kernel
theorem dX4_readAgain_106 : decode cX4_readAgain 106 = .ok (.getfield 178, 3) := by decide +kernel
theorem dX4_readAgain_109 : decode cX4_readAgain 109 = .ok (.iload 6, 2) := by decide +kernel
theorem dX4_readAgain_111 : decode cX4_readAgain 111 = .ok (.iadd, 1) := by decide +kernel
theorem dX4_readAgain_112 : decode cX4_readAgain 112 = .ok (.invokevirtual 94, 3) := by decide +kernel
theorem dX4_readAgain_115 : decode cX4_readAgain 115 = .ok (.invokevirtual 176, 3) := by decide +kernel
theorem dX4_readAgain_118 : decode cX4_readAgain 118 = .ok (.iinc 6 1, 3) := by decide +kernel
theorem dX4_readAgain_121 : decode cX4_readAgain 121 = .ok (.goto (-31), 3) := by decide +kernel
theorem dX4_readAgain_124 : decode cX4_readAgain 124 = .ok (.return_, 1) := by decide +kernel
theorem dX4_readTable_0 : decode cX4_readTable 0 = .ok (.aload_n 0, 1) := by decide +kernel
theorem dX4_readTable_1 : decode cX4_readTable 1 = .ok (.iload_n 2, 1) := by decide +kernel
theorem dX4_readTable_2 : decode cX4_readTable 2 = .ok (.invokevirtual 117, 3) := by decide +kernel
theorem dX4_readTable_5 : decode cX4_readTable 5 = .ok (.istore_n 3, 1) := by decide +kernel
theorem dX4_readTable_6 : decode cX4_readTable 6 = .ok (.iload_n 3, 1) := by decide +kernel
theorem dX4_readTable_7 : decode cX4_readTable 7 = .ok (.iconst (-1), 1) := by decide +kernel
theorem dX4_readTable_8 : decode cX4_readTable 8 = .ok (.if_icmp .ne 5, 3) := by decide +kernel
theorem dX4_readTable_11 : decode cX4_readTable 11 = .ok (.iconst (-1), 1) := by decide +kernel
theorem dX4_readTable_12 : decode cX4_readTable 12 = .ok (.ireturn, 1) := by decide +kernel
theorem dX4_readTable_13 : decode cX4_readTable 13 = .ok (.iload_n 3, 1) := by decide +kernel
theorem dX4_readTable_14 : decode cX4_readTable 14 = .ok (.iconst 1, 1) := by decide +kernel
theorem dX4_readTable_15 : decode cX4_readTable 15 = .ok (.if_icmp .lt 9, 3) := by decide +kernel
theorem dX4_readTable_18 : decode cX4_readTable 18 = .ok (.iload_n 3, 1) := by decide +kernel
theorem dX4_readTable_19 : decode cX4_readTable 19 = .ok (.bipush 8, 2) := by decide +kernel
theorem dX4_readTable_21 : decode cX4_readTable 21 = .ok (.if_icmp .le 17, 3) := by decide +kernel
theorem dX4_readTable_24 : decode cX4_readTable 24 = .ok (.aload_n 0, 1) := by decide +kernel
theorem dX4_readTable_25 : decode cX4_readTable 25 = .ok (.bipush 6, 2) := by decide +kernel
theorem dX4_readTable_27 : decode cX4_readTable 27 = .ok (.aload_n 0, 1) := by decide +kernel
theorem dX4_readTable_28 : decode cX4_readTable 28 = .ok (.getfield 88, 3) := by decide +kernel
theorem dX4_readTable_31 : decode cX4_readTable 31 = .ok (.iconst 1, 1) := by decide +kernel
theorem dX4_readTable_32 : decode cX4_readTable 32 = .ok (.isub, 1) := by decide +kernel
theorem dX4_readTable_33 : decode cX4_readTable 33 = .ok (.invokevirtual 91, 3) := by decide +kernel
theorem dX4_readTable_36 : decode cX4_readTable 36 = .ok (.iconst (-1), 1) := by decide +kernel
theorem dX4_readTable_37 : decode cX4_readTable 37 = .ok (.ireturn, 1) := by decide +kernel
theorem dX4_readTable_38 : decode cX4_readTable 38 = .ok (.aload_n 0, 1) := by decide +kernel
theorem dX4_readTable_39 : decode cX4_readTable 39 = .ok (.getfield 33, 3) := by decide +kernel
theorem dX4_readTable_42 : decode cX4_readTable 42 = .ok (.iload_n 3, 1) := by decide +kernel
theorem dX4_readTable_43 : decode cX4_readTable 43 = .ok (.invokevirtual 181, 3) := by decide +kernel
theorem dX4_readTable_46 : decode cX4_readTable 46 = .ok (.iconst 0, 1) := by decide +kernel
theorem dX4_readTable_47 : decode cX4_readTable 47 = .ok (.istore 4, 2) := by decide +kernel
theorem dX4_readTable_49 : decode cX4_readTable 49 = .ok (.iload 4, 2) := by decide +kernel
theorem dX4_readTable_51 : decode cX4_readTable 51 = .ok (.iload_n 3, 1) := by decide +kernel
theorem dX4_readTable_52 : decode cX4_readTable 52 = .ok (.if_icmp .ge 23, 3) := by decide +kernel
theorem dX4_readTable_55 : decode cX4_readTable 55 = .ok (.aload_n 0, 1) := by decide +kernel
theorem dX4_readTable_56 : decode cX4_readTable 56 = .ok (.getfield 33, 3) := by decide +kernel
theorem dX4_readTable_59 : decode cX4_readTable 59 = .ok (.iload 4, 2) := by decide +kernel
theorem dX4_readTable_61 : decode cX4_readTable 61 = .ok (.aload_n 0, 1) := by decide +kernel
theorem dX4_readTable_62 : decode cX4_readTable 62 = .ok (.iload_n 2, 1) := by decide +kernel
theorem dX4_readTable_63 : decode cX4_readTable 63 = .ok (.invokevirtual 117, 3) := by decide +kernel
theorem dX4_readTable_66 : decode cX4_readTable 66 = .ok (.invokevirtual 183, 3) := by decide +kernel
theorem dX4_readTable_69 : decode cX4_readTable 69 = .ok (.iinc 4 1, 3) := by decide +kernel
theorem dX4_readTable_72 : decode cX4_readTable 72 = .ok (.goto (-23), 3) := by decide +kernel
theorem dX4_readTable_75 : decode cX4_readTable 75 = .ok (.aload_n 0, 1) := by decide +kernel
theorem dX4_readTable_76 : decode cX4_readTable 76 = .ok (.getfield 88, 3) := by decide +kernel
theorem dX4_readTable_79 : decode cX4_readTable 79 = .ok (.istore 4, 2) := by decide +kernel
theorem dX4_readTable_81 : decode cX4_readTable 81 = .ok (.iconst 0, 1) := by decide +kernel
theorem dX4_readTable_82 : decode cX4_readTable 82 = .ok (.istore 5, 2) := by decide +kernel
theorem dX4_readTable_84 : decode cX4_readTable 84 = .ok (.iload 5, 2) := by decide +kernel
theorem dX4_readTable_86 : decode cX4_readTable 86 = .ok (.iload_n 3, 1) := by decide +kernel
theorem dX4_readTable_87 : decode cX4_readTable 87 = .ok (.if_icmp .ge 53, 3) := by decide +kernel
theorem dX4_readTable_90 : decode cX4_readTable 90 = .ok (.aload_n 0, 1) := by decide +kernel
theorem dX4_readTable_91 : decode cX4_readTable 91 = .ok (.getfield 70, 3) := by decide +kernel
theorem dX4_readTable_94 : decode cX4_readTable 94 = .ok (.ifCond .ne 46, 3) := by decide +kernel
theorem dX4_readTable_97 : decode cX4_readTable 97 = .ok (.aload_n 0, 1) := by decide +kernel
theorem dX4_readTable_98 : decode cX4_readTable 98 = .ok (.iload_n 2, 1) := by decide +kernel
theorem dX4_readTable_99 : decode cX4_readTable 99 = .ok (.invokevirtual 117, 3) := by decide +kernel
theorem dX4_readTable_102 : decode cX4_readTable 102 = .ok (.istore 6, 2) := by decide +kernel
theorem dX4_readTable_104 : decode cX4_readTable 104 = .ok (.iload 6, 2) := by decide +kernel
theorem dX4_readTable_106 : decode cX4_readTable 106 = .ok (.bipush 7, 2) := by decide +kernel
theorem dX4_readTable_108 : decode cX4_readTable 108 = .ok (.if_icmp .le 15, 3) := by decide +kernel
theorem dX4_readTable_111 : decode cX4_readTable 111 = .ok (.aload_n 0, 1) := by decide +kernel
theorem dX4_readTable_112 : decode cX4_readTable 112 = .ok (.bipush 6, 2) := by decide +kernel
theorem dX4_readTable_114 : decode cX4_readTable 114 = .ok (.aload_n 0, 1) := by decide +kernel
theorem dX4_readTable_115 : decode cX4_readTable 115 = .ok (.getfield 88, 3) := by decide +kernel
theorem dX4_readTable_118 : decode cX4_readTable 118 = .ok (.iconst 1, 1) := by decide +kernel
theorem dX4_readTable_119 : decode cX4_readTable 119 = .ok (.isub, 1) := by decide +kernel
theorem dX4_readTable_120 : decode cX4_readTable 120 = .ok (.invokevirtual 91, 3) := by decide +kernel
theorem dX4_readTable_123 : decode cX4_readTable 123 = .ok (.aload_n 0, 1) := by decide +kernel
theorem dX4_readTable_124 : decode cX4_readTable 124 = .ok (.getfield 33, 3) := by decide +kernel
theorem dX4_readTable_127 : decode cX4_readTable 127 = .ok (.iload 5, 2) := by decide +kernel
theorem dX4_readTable_129 : decode cX4_readTable 129 = .ok (.iload 6, 2) := by decide +kernel
theorem dX4_readTable_131 : decode cX4_readTable 131 = .ok (.invokevirtual 186, 3) := by decide +kernel
theorem dX4_readTable_134 : decode cX4_readTable 134 = .ok (.iinc 5 1, 3) := by decide +kernel
theorem dX4_readTable_137 : decode cX4_readTable 137 = .ok (.goto (-53), 3) := by decide +kernel
theorem dX4_readTable_140 : decode cX4_readTable 140 = .ok (.aload_n 0, 1) := by decide +kernel
theorem dX4_readTable_141 : decode cX4_readTable 141 = .ok (.getfield 70, 3) := by decide +kernel
theorem dX4_readTable_144 : decode cX4_readTable 144 = .ok (.ifCond .ne 21, 3) := by decide +kernel
theorem dX4_readTable_147 : decode cX4_readTable 147 = .ok (.aload_n 0, 1) := by decide +kernel
theorem dX4_readTable_148 : decode cX4_readTable 148 = .ok (.getfield 33, 3) := by decide +kernel
theorem dX4_readTable_151 : decode cX4_readTable 151 = .ok (.invokevirtual 189, 3) := by decide +kernel
theorem dX4_readTable_154 : decode cX4_readTable 154 = .ok (.ifCond .ne 11, 3) := by decide +kernel
theorem dX4_readTable_157 : decode cX4_readTable 157 = .ok (.aload_n 0, 1) := by decide +kernel
theorem dX4_readTable_158 : decode cX4_readTable 158 = .ok (.bipush 6, 2) := by decide +kernel
theorem dX4_readTable_160 : decode cX4_readTable 160 = .ok (.iload 4, 2) := by decide +kernel
theorem dX4_readTable_162 : decode cX4_readTable 162 = .ok (.invokevirtual 91, 3) := by decide +kernel
theorem dX4_readTable_165 : decode cX4_readTable 165 = .ok (.aload_n 0, 1) := by decide +kernel
theorem dX4_readTable_166 : decode cX4_readTable 166 = .ok (.getfield 70, 3) := by decide +kernel
theorem dX4_readTable_169 : decode cX4_readTable 169 = .ok (.ifCond .eq 5, 3) := by decide +kernel
theorem dX4_readTable_172 : decode cX4_readTable 172 = .ok (.iconst (-1), 1) := by decide +kernel
theorem dX4_readTable_173 : decode cX4_readTable 173 = .ok (.ireturn, 1) := by decide +kernel
theorem dX4_readTable_174 : decode cX4_readTable 174 = .ok (.aload_n 0, 1) := by decide +kernel
theorem dX4_readTable_175 : decode cX4_readTable 175 = .ok (.getfield 33, 3) := by decide +kernel
theorem dX4_readTable_178 : decode cX4_readTable 178 = .ok (.invokevirtual 193, 3) := by decide +kernel
theorem dX4_readTable_181 : decode cX4_readTable 181 = .ok (.aload_n 0, 1) := by decide +kernel
theorem dX4_readTable_182 : decode cX4_readTable 182 = .ok (.iload_n 2, 1) := by decide +kernel
theorem dX4_readTable_183 : decode cX4_readTable 183 = .ok (.invokevirtual 117, 3) := by decide +kernel
theorem dX4_readTable_186 : decode cX4_readTable 186 = .ok (.istore 5, 2) := by decide +kernel
theorem dX4_readTable_188 : decode cX4_readTable 188 = .ok (.iload 5, 2) := by decide +kernel
theorem dX4_readTable_190 : decode cX4_readTable 190 = .ok (.iconst (-1), 1) := by decide +kernel
theorem dX4_readTable_191 : decode cX4_readTable 191 = .ok (.if_icmp .eq 28, 3) := by decide +kernel
theorem dX4_readTable_194 : decode cX4_readTable 194 = .ok (.aload_n 0, 1) := by decide +kernel
theorem dX4_readTable_195 : decode cX4_readTable 195 = .ok (.iload_n 1, 1) := by decide +kernel
theorem dX4_readTable_196 : decode cX4_readTable 196 = .ok (.iload 5, 2) := by decide +kernel
theorem dX4_readTable_198 : decode cX4_readTable 198 = .ok (.iconst 3, 1) := by decide +kernel
theorem dX4_readTable_199 : decode cX4_readTable 199 = .ok (.iconst 2, 1) := by decide +kernel
theorem dX4_readTable_200 : decode cX4_readTable 200 = .ok (.iload_n 3, 1) := by decide +kernel
theorem dX4_readTable_201 : decode cX4_readTable 201 = .ok (.imul, 1) := by decide +kernel
theorem dX4_readTable_202 : decode cX4_readTable 202 = .ok (.iadd, 1) := by decide +kernel
theorem dX4_readTable_203 : decode cX4_readTable 203 = .ok (.iconst 2, 1) := by decide +kernel
theorem dX4_readTable_204 : decode cX4_readTable 204 = .ok (.iload 5, 2) := by decide +kernel
theorem dX4_readTable_206 : decode cX4_readTable 206 = .ok (.imul, 1) := by decide +kernel
theorem dX4_readTable_207 : decode cX4_readTable 207 = .ok (.iadd, 1) := by decide +kernel
theorem dX4_readTable_208 : decode cX4_readTable 208 = .ok (.invokevirtual 102, 3) := by decide +kernel
theorem dX4_readTable_211 : decode cX4_readTable 211 = .ok (.ifCond .eq 8, 3) := by decide +kernel
theorem dX4_readTable_214 : decode cX4_readTable 214 = .ok (.iload 5, 2) := by decide +kernel
theorem dX4_readTable_216 : decode cX4_readTable 216 = .ok (.goto 4, 3) := by decide +kernel
theorem dX4_readTable_219 : decode cX4_readTable 219 = .ok (.iconst (-1), 1) := by decide +kernel
theorem dX4_readTable_220 : decode cX4_readTable 220 = .ok (.ireturn, 1) := by decide +kernel
theorem dX4_readBits_0 : decode cX4_readBits 0 = .ok (.aload_n 0, 1) := by decide +kernel
theorem dX4_readBits_1 : decode cX4_readBits 1 = .ok (.iconst 0, 1) := by decide +kernel
theorem dX4_readBits_2 : decode cX4_readBits 2 = .ok (.putfield 196, 3) := by decide +kernel
theorem dX4_readBits_5 : decode cX4_readBits 5 = .ok (.aload_n 0, 1) := by decide +kernel
theorem dX4_readBits_6 : decode cX4_readBits 6 = .ok (.iconst 0, 1) := by decide +kernel
theorem dX4_readBits_7 : decode cX4_readBits 7 = .ok (.putfield 199, 3) := by decide +kernel
theorem dX4_readBits_10 : decode cX4_readBits 10 = .ok (.iconst 0, 1) := by decide +kernel
theorem dX4_readBits_11 : decode cX4_readBits 11 = .ok (.istore_n 3, 1) := by decide +kernel
theorem dX4_readBits_12 : decode cX4_readBits 12 = .ok (.iload_n 3, 1) := by decide +kernel
theorem dX4_readBits_13 : decode cX4_readBits 13 = .ok (.iload_n 1, 1) := by decide +kernel
theorem dX4_readBits_14 : decode cX4_readBits 14 = .ok (.if_icmp .ge 32, 3) := by decide +kernel
theorem dX4_readBits_17 : decode cX4_readBits 17 = .ok (.aload_n 0, 1) := by decide +kernel
theorem dX4_readBits_18 : decode cX4_readBits 18 = .ok (.iload_n 2, 1) := by decide +kernel
theorem dX4_readBits_19 : decode cX4_readBits 19 = .ok (.invokevirtual 202, 3) := by decide +kernel
theorem dX4_readBits_22 : decode cX4_readBits 22 = .ok (.istore 4, 2) := by decide +kernel
theorem dX4_readBits_24 : decode cX4_readBits 24 = .ok (.iload 4, 2) := by decide +kernel
theorem dX4_readBits_26 : decode cX4_readBits 26 = .ok (.iconst (-1), 1) := by decide +kernel
theorem dX4_readBits_27 : decode cX4_readBits 27 = .ok (.if_icmp .ne 4, 3) := by decide +kernel
theorem dX4_readBits_30 : decode cX4_readBits 30 = .ok (.return_, 1) := by decide +kernel
theorem dX4_readBits_31 : decode cX4_readBits 31 = .ok (.aload_n 0, 1) := by decide +kernel
theorem dX4_readBits_32 : decode cX4_readBits 32 = .ok (.getfield 20, 3) := by decide +kernel
theorem dX4_readBits_35 : decode cX4_readBits 35 = .ok (.iload 4, 2) := by decide +kernel
theorem dX4_readBits_37 : decode cX4_readBits 37 = .ok (.invokevirtual 176, 3) := by decide +kernel
theorem dX4_readBits_40 : decode cX4_readBits 40 = .ok (.iinc 3 1, 3) := by decide +kernel
theorem dX4_readBits_43 : decode cX4_readBits 43 = .ok (.goto (-31), 3) := by decide +kernel
theorem dX4_readBits_46 : decode cX4_readBits 46 = .ok (.aload_n 0, 1) := by decide +kernel
theorem dX4_readBits_47 : decode cX4_readBits 47 = .ok (.getfield 196, 3) := by decide +kernel
theorem dX4_readBits_50 : decode cX4_readBits 50 = .ok (.iconst 1, 1) := by decide +kernel
theorem dX4_readBits_51 : decode cX4_readBits 51 = .ok (.aload_n 0, 1) := by decide +kernel
theorem dX4_readBits_52 : decode cX4_readBits 52 = .ok (.getfield 199, 3) := by decide +kernel
theorem dX4_readBits_55 : decode cX4_readBits 55 = .ok (.ishl, 1) := by decide +kernel
theorem dX4_readBits_56 : decode cX4_readBits 56 = .ok (.iconst 1, 1) := by decide +kernel
theorem dX4_readBits_57 : decode cX4_readBits 57 = .ok (.isub, 1) := by decide +kernel
theorem dX4_readBits_58 : decode cX4_readBits 58 = .ok (.iand, 1) := by decide +kernel
theorem dX4_readBits_59 : decode cX4_readBits 59 = .ok (.ifCond .eq 15, 3) := by decide +kernel
theorem dX4_readBits_62 : decode cX4_readBits 62 = .ok (.aload_n 0, 1) := by decide +kernel
theorem dX4_readBits_63 : decode cX4_readBits 63 = .ok (.bipush 8, 2) := by decide +kernel
theorem dX4_readBits_65 : decode cX4_readBits 65 = .ok (.aload_n 0, 1) := by decide +kernel
theorem dX4_readBits_66 : decode cX4_readBits 66 = .ok (.getfield 88, 3) := by decide +kernel
theorem dX4_readBits_69 : decode cX4_readBits 69 = .ok (.iconst 1, 1) := by decide +kernel
theorem dX4_readBits_70 : decode cX4_readBits 70 = .ok (.isub, 1) := by decide +kernel
theorem dX4_readBits_71 : decode cX4_readBits 71 = .ok (.invokevirtual 91, 3) := by decide +kernel
theorem dX4_readBits_74 : decode cX4_readBits 74 = .ok (.return_, 1) := by decide +kernel
theorem dX4_nextSymbol_0 : decode cX4_nextSymbol 0 = .ok (.aload_n 0, 1) := by decide +kernel
theorem dX4_nextSymbol_1 : decode cX4_nextSymbol 1 = .ok (.getfield 199, 3) := by decide +kernel
theorem dX4_nextSymbol_4 : decode cX4_nextSymbol 4 = .ok (.ifCond .le 12, 3) := by decide +kernel
theorem dX4_nextSymbol_7 : decode cX4_nextSymbol 7 = .ok (.aload_n 0, 1) := by decide +kernel
theorem dX4_nextSymbol_8 : decode cX4_nextSymbol 8 = .ok (.getfield 88, 3) := by decide +kernel
theorem dX4_nextSymbol_11 : decode cX4_nextSymbol 11 = .ok (.iconst 1, 1) := by decide +kernel
theorem dX4_nextSymbol_12 : decode cX4_nextSymbol 12 = .ok (.isub, 1) := by decide +kernel
theorem dX4_nextSymbol_13 : decode cX4_nextSymbol 13 = .ok (.goto 7, 3) := by decide +kernel
theorem dX4_nextSymbol_16 : decode cX4_nextSymbol 16 = .ok (.aload_n 0, 1) := by decide +kernel
theorem dX4_nextSymbol_17 : decode cX4_nextSymbol 17 = .ok (.getfield 88, 3) := by decide +kernel
theorem dX4_nextSymbol_20 : decode cX4_nextSymbol 20 = .ok (.istore_n 2, 1) := by decide +kernel
theorem dX4_nextSymbol_21 : decode cX4_nextSymbol 21 = .ok (.iconst 0, 1) := by decide +kernel
theorem dX4_nextSymbol_22 : decode cX4_nextSymbol 22 = .ok (.istore_n 3, 1) := by decide +kernel
theorem dX4_nextSymbol_23 : decode cX4_nextSymbol 23 = .ok (.iconst 1, 1) := by decide +kernel
theorem dX4_nextSymbol_24 : decode cX4_nextSymbol 24 = .ok (.istore 4, 2) := by decide +kernel
theorem dX4_nextSymbol_26 : decode cX4_nextSymbol 26 = .ok (.iload 4, 2) := by decide +kernel
theorem dX4_nextSymbol_28 : decode cX4_nextSymbol 28 = .ok (.aload_n 0, 1) := by decide +kernel
theorem dX4_nextSymbol_29 : decode cX4_nextSymbol 29 = .ok (.getfield 33, 3) := by decide +kernel
theorem dX4_nextSymbol_32 : decode cX4_nextSymbol 32 = .ok (.getfield 205, 3) := by decide +kernel
theorem dX4_nextSymbol_35 : decode cX4_nextSymbol 35 = .ok (.if_icmp .gt 88, 3) := by decide +kernel
theorem dX4_nextSymbol_38 : decode cX4_nextSymbol 38 = .ok (.aload_n 0, 1) := by decide +kernel
theorem dX4_nextSymbol_39 : decode cX4_nextSymbol 39 = .ok (.getfield 199, 3) := by decide +kernel
theorem dX4_nextSymbol_42 : decode cX4_nextSymbol 42 = .ok (.ifCond .ne 28, 3) := by decide +kernel
theorem dX4_nextSymbol_45 : decode cX4_nextSymbol 45 = .ok (.aload_n 0, 1) := by decide +kernel
theorem dX4_nextSymbol_46 : decode cX4_nextSymbol 46 = .ok (.aload_n 0, 1) := by decide +kernel
theorem dX4_nextSymbol_47 : decode cX4_nextSymbol 47 = .ok (.iload_n 1, 1) := by decide +kernel
theorem dX4_nextSymbol_48 : decode cX4_nextSymbol 48 = .ok (.invokevirtual 117, 3) := by decide +kernel
theorem dX4_nextSymbol_51 : decode cX4_nextSymbol 51 = .ok (.putfield 196, 3) := by decide +kernel
theorem dX4_nextSymbol_54 : decode cX4_nextSymbol 54 = .ok (.aload_n 0, 1) := by decide +kernel
theorem dX4_nextSymbol_55 : decode cX4_nextSymbol 55 = .ok (.getfield 196, 3) := by decide +kernel
theorem dX4_nextSymbol_58 : decode cX4_nextSymbol 58 = .ok (.iconst (-1), 1) := by decide +kernel
theorem dX4_nextSymbol_59 : decode cX4_nextSymbol 59 = .ok (.if_icmp .ne 5, 3) := by decide +kernel
theorem dX4_nextSymbol_62 : decode cX4_nextSymbol 62 = .ok (.iconst (-1), 1) := by decide +kernel
theorem dX4_nextSymbol_63 : decode cX4_nextSymbol 63 = .ok (.ireturn, 1) := by decide +kernel
theorem dX4_nextSymbol_64 : decode cX4_nextSymbol 64 = .ok (.aload_n 0, 1) := by decide +kernel
theorem dX4_nextSymbol_65 : decode cX4_nextSymbol 65 = .ok (.bipush 8, 2) := by decide +kernel
theorem dX4_nextSymbol_67 : decode cX4_nextSymbol 67 = .ok (.putfield 199, 3) := by decide +kernel
theorem dX4_nextSymbol_70 : decode cX4_nextSymbol 70 = .ok (.aload_n 0, 1) := by decide +kernel
theorem dX4_nextSymbol_71 : decode cX4_nextSymbol 71 = .ok (.dup, 1) := by decide +kernel
theorem dX4_nextSymbol_72 : decode cX4_nextSymbol 72 = .ok (.getfield 199, 3) := by decide +kernel
theorem dX4_nextSymbol_75 : decode cX4_nextSymbol 75 = .ok (.iconst 1, 1) := by decide +kernel
theorem dX4_nextSymbol_76 : decode cX4_nextSymbol 76 = .ok (.isub, 1) := by decide +kernel
theorem dX4_nextSymbol_77 : decode cX4_nextSymbol 77 = .ok (.putfield 199, 3) := by decide +kernel
theorem dX4_nextSymbol_80 : decode cX4_nextSymbol 80 = .ok (.iconst 2, 1) := by decide +kernel
theorem dX4_nextSymbol_81 : decode cX4_nextSymbol 81 = .ok (.iload_n 3, 1) := by decide +kernel
theorem dX4_nextSymbol_82 : decode cX4_nextSymbol 82 = .ok (.imul, 1) := by decide +kernel
theorem dX4_nextSymbol_83 : decode cX4_nextSymbol 83 = .ok (.aload_n 0, 1) := by decide +kernel
theorem dX4_nextSymbol_84 : decode cX4_nextSymbol 84 = .ok (.getfield 196, 3) := by decide +kernel
theorem dX4_nextSymbol_87 : decode cX4_nextSymbol 87 = .ok (.aload_n 0, 1) := by decide +kernel
theorem dX4_nextSymbol_88 : decode cX4_nextSymbol 88 = .ok (.getfield 199, 3) := by decide +kernel
theorem dX4_nextSymbol_91 : decode cX4_nextSymbol 91 = .ok (.ishr, 1) := by decide +kernel
theorem dX4_nextSymbol_92 : decode cX4_nextSymbol 92 = .ok (.iconst 1, 1) := by decide +kernel
theorem dX4_nextSymbol_93 : decode cX4_nextSymbol 93 = .ok (.iand, 1) := by decide +kernel
theorem dX4_nextSymbol_94 : decode cX4_nextSymbol 94 = .ok (.iadd, 1) := by decide +kernel
theorem dX4_nextSymbol_95 : decode cX4_nextSymbol 95 = .ok (.istore_n 3, 1) := by decide +kernel
theorem dX4_nextSymbol_96 : decode cX4_nextSymbol 96 = .ok (.aload_n 0, 1) := by decide +kernel
theorem dX4_nextSymbol_97 : decode cX4_nextSymbol 97 = .ok (.getfield 33, 3) := by decide +kernel
theorem dX4_nextSymbol_100 : decode cX4_nextSymbol 100 = .ok (.iload_n 3, 1) := by decide +kernel
theorem dX4_nextSymbol_101 : decode cX4_nextSymbol 101 = .ok (.iload 4, 2) := by decide +kernel
theorem dX4_nextSymbol_103 : decode cX4_nextSymbol 103 = .ok (.invokevirtual 208, 3) := by decide +kernel
theorem dX4_nextSymbol_106 : decode cX4_nextSymbol 106 = .ok (.istore 5, 2) := by decide +kernel
theorem dX4_nextSymbol_108 : decode cX4_nextSymbol 108 = .ok (.iload 5, 2) := by decide +kernel
theorem dX4_nextSymbol_110 : decode cX4_nextSymbol 110 = .ok (.iconst (-1), 1) := by decide +kernel
theorem dX4_nextSymbol_111 : decode cX4_nextSymbol 111 = .ok (.if_icmp .eq 6, 3) := by decide +kernel
theorem dX4_nextSymbol_114 : decode cX4_nextSymbol 114 = .ok (.iload 5, 2) := by decide +kernel
theorem dX4_nextSymbol_116 : decode cX4_nextSymbol 116 = .ok (.ireturn, 1) := by decide +kernel
theorem dX4_nextSymbol_117 : decode cX4_nextSymbol 117 = .ok (.iinc 4 1, 3) := by decide +kernel
theorem dX4_nextSymbol_120 : decode cX4_nextSymbol 120 = .ok (.goto (-94), 3) := by decide +kernel
theorem dX4_nextSymbol_123 : decode cX4_nextSymbol 123 = .ok (.aload_n 0, 1) := by decide +kernel
theorem dX4_nextSymbol_124 : decode cX4_nextSymbol 124 = .ok (.bipush 7, 2) := by decide +kernel
theorem dX4_nextSymbol_126 : decode cX4_nextSymbol 126 = .ok (.iload_n 2, 1) := by decide +kernel
theorem dX4_nextSymbol_127 : decode cX4_nextSymbol 127 = .ok (.invokevirtual 91, 3) := by decide +kernel
theorem dX4_nextSymbol_130 : decode cX4_nextSymbol 130 = .ok (.iconst (-1), 1) := by decide +kernel
theorem dX4_nextSymbol_131 : decode cX4_nextSymbol 131 = .ok (.ireturn, 1) := by decide +kernel
