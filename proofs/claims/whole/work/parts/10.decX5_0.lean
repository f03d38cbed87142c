theorem dX5_init_0 : decode cX5_init 0 = .ok (.aload_n 0, 1) := by decide +kernel
theorem dX5_init_1 : decode cX5_init 1 = .ok (.invokespecial 3, 3) := by decide +kernel
theorem dX5_init_4 : decode cX5_init 4 = .ok (.aload_n 0, 1) := by decide +kernel
theorem dX5_init_5 : decode cX5_init 5 = .ok (.bipush 8, 2) := by decide +kernel
theorem dX5_init_7 : decode cX5_init 7 = .ok (.newarray .int, 2) := by decide +kernel
theorem dX5_init_9 : decode cX5_init 9 = .ok (.putfield 11, 3) := by decide +kernel
theorem dX5_init_12 : decode cX5_init 12 = .ok (.aload_n 0, 1) := by decide +kernel
theorem dX5_init_13 : decode cX5_init 13 = .ok (.bipush 8, 2) := by decide +kernel
theorem dX5_init_15 : decode cX5_init 15 = .ok (.newarray .int, 2) := by decide +kernel
theorem dX5_init_17 : decode cX5_init 17 = .ok (.putfield 15, 3) := by decide +kernel
theorem dX5_init_20 : decode cX5_init 20 = .ok (.aload_n 0, 1) := by decide +kernel
theorem dX5_init_21 : decode cX5_init 21 = .ok (.bipush 8, 2) := by decide +kernel
theorem dX5_init_23 : decode cX5_init 23 = .ok (.newarray .int, 2) := by decide +kernel
theorem dX5_init_25 : decode cX5_init 25 = .ok (.putfield 18, 3) := by decide +kernel
theorem dX5_init_28 : decode cX5_init 28 = .ok (.return_, 1) := by decide +kernel
theorem dX5_begin_0 : decode cX5_begin 0 = .ok (.aload_n 0, 1) := by decide +kernel
theorem dX5_begin_1 : decode cX5_begin 1 = .ok (.iconst 0, 1) := by decide +kernel
theorem dX5_begin_2 : decode cX5_begin 2 = .ok (.iload_n 1, 1) := by decide +kernel
theorem dX5_begin_3 : decode cX5_begin 3 = .ok (.bipush 8, 2) := by decide +kernel
theorem dX5_begin_5 : decode cX5_begin 5 = .ok (.invokestatic 21, 3) := by decide +kernel
theorem dX5_begin_8 : decode cX5_begin 8 = .ok (.invokestatic 27, 3) := by decide +kernel
theorem dX5_begin_11 : decode cX5_begin 11 = .ok (.putfield 30, 3) := by decide +kernel
theorem dX5_begin_14 : decode cX5_begin 14 = .ok (.aload_n 0, 1) := by decide +kernel
theorem dX5_begin_15 : decode cX5_begin 15 = .ok (.iconst 0, 1) := by decide +kernel
theorem dX5_begin_16 : decode cX5_begin 16 = .ok (.putfield 34, 3) := by decide +kernel
theorem dX5_begin_19 : decode cX5_begin 19 = .ok (.return_, 1) := by decide +kernel
theorem dX5_putSymbol_0 : decode cX5_putSymbol 0 = .ok (.iload_n 1, 1) := by decide +kernel
theorem dX5_putSymbol_1 : decode cX5_putSymbol 1 = .ok (.ifCond .lt 18, 3) := by decide +kernel
theorem dX5_putSymbol_4 : decode cX5_putSymbol 4 = .ok (.iload_n 1, 1) := by decide +kernel
theorem dX5_putSymbol_5 : decode cX5_putSymbol 5 = .ok (.aload_n 0, 1) := by decide +kernel
theorem dX5_putSymbol_6 : decode cX5_putSymbol 6 = .ok (.getfield 30, 3) := by decide +kernel
theorem dX5_putSymbol_9 : decode cX5_putSymbol 9 = .ok (.if_icmp .ge 10, 3) := by decide +kernel
theorem dX5_putSymbol_12 : decode cX5_putSymbol 12 = .ok (.aload_n 0, 1) := by decide +kernel
theorem dX5_putSymbol_13 : decode cX5_putSymbol 13 = .ok (.getfield 11, 3) := by decide +kernel
theorem dX5_putSymbol_16 : decode cX5_putSymbol 16 = .ok (.iload_n 1, 1) := by decide +kernel
theorem dX5_putSymbol_17 : decode cX5_putSymbol 17 = .ok (.iload_n 2, 1) := by decide +kernel
theorem dX5_putSymbol_18 : decode cX5_putSymbol 18 = .ok (.iastore, 1) := by decide +kernel
theorem dX5_putSymbol_19 : decode cX5_putSymbol 19 = .ok (.return_, 1) := by decide +kernel
theorem dX5_putLength_0 : decode cX5_putLength 0 = .ok (.iload_n 1, 1) := by decide +kernel
theorem dX5_putLength_1 : decode cX5_putLength 1 = .ok (.ifCond .lt 30, 3) := by decide +kernel
theorem dX5_putLength_4 : decode cX5_putLength 4 = .ok (.iload_n 1, 1) := by decide +kernel
theorem dX5_putLength_5 : decode cX5_putLength 5 = .ok (.aload_n 0, 1) := by decide +kernel
theorem dX5_putLength_6 : decode cX5_putLength 6 = .ok (.getfield 30, 3) := by decide +kernel
theorem dX5_putLength_9 : decode cX5_putLength 9 = .ok (.if_icmp .ge 22, 3) := by decide +kernel
theorem dX5_putLength_12 : decode cX5_putLength 12 = .ok (.aload_n 0, 1) := by decide +kernel
theorem dX5_putLength_13 : decode cX5_putLength 13 = .ok (.getfield 15, 3) := by decide +kernel
theorem dX5_putLength_16 : decode cX5_putLength 16 = .ok (.iload_n 1, 1) := by decide +kernel
theorem dX5_putLength_17 : decode cX5_putLength 17 = .ok (.iload_n 2, 1) := by decide +kernel
theorem dX5_putLength_18 : decode cX5_putLength 18 = .ok (.iastore, 1) := by decide +kernel
theorem dX5_putLength_19 : decode cX5_putLength 19 = .ok (.aload_n 0, 1) := by decide +kernel
theorem dX5_putLength_20 : decode cX5_putLength 20 = .ok (.aload_n 0, 1) := by decide +kernel
theorem dX5_putLength_21 : decode cX5_putLength 21 = .ok (.getfield 34, 3) := by decide +kernel
theorem dX5_putLength_24 : decode cX5_putLength 24 = .ok (.iload_n 2, 1) := by decide +kernel
theorem dX5_putLength_25 : decode cX5_putLength 25 = .ok (.invokestatic 27, 3) := by decide +kernel
theorem dX5_putLength_28 : decode cX5_putLength 28 = .ok (.putfield 34, 3) := by decide +kernel
theorem dX5_putLength_31 : decode cX5_putLength 31 = .ok (.return_, 1) := by decide +kernel
theorem dX5_isGood_0 : decode cX5_isGood 0 = .ok (.iconst 0, 1) := by decide +kernel
theorem dX5_isGood_1 : decode cX5_isGood 1 = .ok (.istore_n 1, 1) := by decide +kernel
theorem dX5_isGood_2 : decode cX5_isGood 2 = .ok (.iconst 0, 1) := by decide +kernel
theorem dX5_isGood_3 : decode cX5_isGood 3 = .ok (.istore_n 2, 1) := by decide +kernel
theorem dX5_isGood_4 : decode cX5_isGood 4 = .ok (.iconst 0, 1) := by decide +kernel
theorem dX5_isGood_5 : decode cX5_isGood 5 = .ok (.istore_n 3, 1) := by decide +kernel
theorem dX5_isGood_6 : decode cX5_isGood 6 = .ok (.iload_n 3, 1) := by decide +kernel
theorem dX5_isGood_7 : decode cX5_isGood 7 = .ok (.aload_n 0, 1) := by decide +kernel
theorem dX5_isGood_8 : decode cX5_isGood 8 = .ok (.getfield 30, 3) := by decide +kernel
theorem dX5_isGood_11 : decode cX5_isGood 11 = .ok (.if_icmp .ge 34, 3) := by decide +kernel
theorem dX5_isGood_14 : decode cX5_isGood 14 = .ok (.aload_n 0, 1) := by decide +kernel
theorem dX5_isGood_15 : decode cX5_isGood 15 = .ok (.getfield 15, 3) := by decide +kernel
theorem dX5_isGood_18 : decode cX5_isGood 18 = .ok (.iload_n 3, 1) := by decide +kernel
theorem dX5_isGood_19 : decode cX5_isGood 19 = .ok (.iaload, 1) := by decide +kernel
theorem dX5_isGood_20 : decode cX5_isGood 20 = .ok (.ifCond .le 19, 3) := by decide +kernel
theorem dX5_isGood_23 : decode cX5_isGood 23 = .ok (.iload_n 1, 1) := by decide +kernel
theorem dX5_isGood_24 : decode cX5_isGood 24 = .ok (.sipush 128, 3) := by decide +kernel
theorem dX5_isGood_27 : decode cX5_isGood 27 = .ok (.aload_n 0, 1) := by decide +kernel
theorem dX5_isGood_28 : decode cX5_isGood 28 = .ok (.getfield 15, 3) := by decide +kernel
theorem dX5_isGood_31 : decode cX5_isGood 31 = .ok (.iload_n 3, 1) := by decide +kernel
theorem dX5_isGood_32 : decode cX5_isGood 32 = .ok (.iaload, 1) := by decide +kernel
theorem dX5_isGood_33 : decode cX5_isGood 33 = .ok (.ishr, 1) := by decide +kernel
theorem dX5_isGood_34 : decode cX5_isGood 34 = .ok (.iadd, 1) := by decide +kernel
theorem dX5_isGood_35 : decode cX5_isGood 35 = .ok (.istore_n 1, 1) := by decide +kernel
theorem dX5_isGood_36 : decode cX5_isGood 36 = .ok (.iinc 2 1, 3) := by decide +kernel
theorem dX5_isGood_39 : decode cX5_isGood 39 = .ok (.iinc 3 1, 3) := by decide +kernel
theorem dX5_isGood_42 : decode cX5_isGood 42 = .ok (.goto (-36), 3) := by decide +kernel
theorem dX5_isGood_45 : decode cX5_isGood 45 = .ok (.iload_n 1, 1) := by decide +kernel
theorem dX5_isGood_46 : decode cX5_isGood 46 = .ok (.sipush 128, 3) := by decide +kernel
theorem dX5_isGood_49 : decode cX5_isGood 49 = .ok (.if_icmp .eq 16, 3) := by decide +kernel
theorem dX5_isGood_52 : decode cX5_isGood 52 = .ok (.iload_n 2, 1) := by decide +kernel
theorem dX5_isGood_53 : decode cX5_isGood 53 = .ok (.iconst 1, 1) := by decide +kernel
theorem dX5_isGood_54 : decode cX5_isGood 54 = .ok (.if_icmp .ne 15, 3) := by decide +kernel
theorem dX5_isGood_57 : decode cX5_isGood 57 = .ok (.aload_n 0, 1) := by decide +kernel
theorem dX5_isGood_58 : decode cX5_isGood 58 = .ok (.getfield 34, 3) := by decide +kernel
theorem dX5_isGood_61 : decode cX5_isGood 61 = .ok (.iconst 1, 1) := by decide +kernel
theorem dX5_isGood_62 : decode cX5_isGood 62 = .ok (.if_icmp .ne 7, 3) := by decide +kernel
theorem dX5_isGood_65 : decode cX5_isGood 65 = .ok (.iconst 1, 1) := by decide +kernel
theorem dX5_isGood_66 : decode cX5_isGood 66 = .ok (.goto 4, 3) := by decide +kernel
theorem dX5_isGood_69 : decode cX5_isGood 69 = .ok (.iconst 0, 1) := by decide +kernel
theorem dX5_isGood_70 : decode cX5_isGood 70 = .ok (.ireturn, 1) := by decide +kernel
theorem dX5_makeCodes_0 : decode cX5_makeCodes 0 = .ok (.iconst 0, 1) := by decide +kernel
theorem dX5_makeCodes_1 : decode cX5_makeCodes 1 = .ok (.istore_n 1, 1) := by decide +kernel
theorem dX5_makeCodes_2 : decode cX5_makeCodes 2 = .ok (.iconst 1, 1) := by decide +kernel
theorem dX5_makeCodes_3 : decode cX5_makeCodes 3 = .ok (.istore_n 2, 1) := by decide +kernel
theorem dX5_makeCodes_4 : decode cX5_makeCodes 4 = .ok (.iload_n 2, 1) := by decide +kernel
theorem dX5_makeCodes_5 : decode cX5_makeCodes 5 = .ok (.aload_n 0, 1) := by decide +kernel
theorem dX5_makeCodes_6 : decode cX5_makeCodes 6 = .ok (.getfield 34, 3) := by decide +kernel
theorem dX5_makeCodes_9 : decode cX5_makeCodes 9 = .ok (.if_icmp .gt 49, 3) := by decide +kernel
theorem dX5_makeCodes_12 : decode cX5_makeCodes 12 = .ok (.iconst 2, 1) := by decide +kernel
theorem dX5_makeCodes_13 : decode cX5_makeCodes 13 = .ok (.iload_n 1, 1) := by decide +kernel
theorem dX5_makeCodes_14 : decode cX5_makeCodes 14 = .ok (.imul, 1) := by decide +kernel
theorem dX5_makeCodes_15 : decode cX5_makeCodes 15 = .ok (.istore_n 1, 1) := by decide +kernel
theorem dX5_makeCodes_16 : decode cX5_makeCodes 16 = .ok (.iconst 0, 1) := by decide +kernel
theorem dX5_makeCodes_17 : decode cX5_makeCodes 17 = .ok (.istore_n 3, 1) := by decide +kernel
theorem dX5_makeCodes_18 : decode cX5_makeCodes 18 = .ok (.iload_n 3, 1) := by decide +kernel
theorem dX5_makeCodes_19 : decode cX5_makeCodes 19 = .ok (.aload_n 0, 1) := by decide +kernel
theorem dX5_makeCodes_20 : decode cX5_makeCodes 20 = .ok (.getfield 30, 3) := by decide +kernel
theorem dX5_makeCodes_23 : decode cX5_makeCodes 23 = .ok (.if_icmp .ge 29, 3) := by decide +kernel
theorem dX5_makeCodes_26 : decode cX5_makeCodes 26 = .ok (.aload_n 0, 1) := by decide +kernel
theorem dX5_makeCodes_27 : decode cX5_makeCodes 27 = .ok (.getfield 15, 3) := by decide +kernel
theorem dX5_makeCodes_30 : decode cX5_makeCodes 30 = .ok (.iload_n 3, 1) := by decide +kernel
theorem dX5_makeCodes_31 : decode cX5_makeCodes 31 = .ok (.iaload, 1) := by decide +kernel
theorem dX5_makeCodes_32 : decode cX5_makeCodes 32 = .ok (.iload_n 2, 1) := by decide +kernel
theorem dX5_makeCodes_33 : decode cX5_makeCodes 33 = .ok (.if_icmp .ne 13, 3) := by decide +kernel
theorem dX5_makeCodes_36 : decode cX5_makeCodes 36 = .ok (.aload_n 0, 1) := by decide +kernel
theorem dX5_makeCodes_37 : decode cX5_makeCodes 37 = .ok (.getfield 18, 3) := by decide +kernel
theorem dX5_makeCodes_40 : decode cX5_makeCodes 40 = .ok (.iload_n 3, 1) := by decide +kernel
theorem dX5_makeCodes_41 : decode cX5_makeCodes 41 = .ok (.iload_n 1, 1) := by decide +kernel
theorem dX5_makeCodes_42 : decode cX5_makeCodes 42 = .ok (.iastore, 1) := by decide +kernel
theorem dX5_makeCodes_43 : decode cX5_makeCodes 43 = .ok (.iinc 1 1, 3) := by decide +kernel
theorem dX5_makeCodes_46 : decode cX5_makeCodes 46 = .ok (.iinc 3 1, 3) := by decide +kernel
theorem dX5_makeCodes_49 : decode cX5_makeCodes 49 = .ok (.goto (-31), 3) := by decide +kernel
theorem dX5_makeCodes_52 : decode cX5_makeCodes 52 = .ok (.iinc 2 1, 3) := by decide +kernel
theorem dX5_makeCodes_55 : decode cX5_makeCodes 55 = .ok (.goto (-51), 3) := by decide +kernel
theorem dX5_makeCodes_58 : decode cX5_makeCodes 58 = .ok (.return_, 1) := by decide +kernel
theorem dX5_symbolOf_0 : decode cX5_symbolOf 0 = .ok (.iconst 0, 1) := by decide +kernel
theorem dX5_symbolOf_1 : decode cX5_symbolOf 1 = .ok (.istore_n 3, 1) := by decide +kernel
theorem dX5_symbolOf_2 : decode cX5_symbolOf 2 = .ok (.iload_n 3, 1) := by decide +kernel
theorem dX5_symbolOf_3 : decode cX5_symbolOf 3 = .ok (.aload_n 0, 1) := by decide +kernel
theorem dX5_symbolOf_4 : decode cX5_symbolOf 4 = .ok (.getfield 30, 3) := by decide +kernel
theorem dX5_symbolOf_7 : decode cX5_symbolOf 7 = .ok (.if_icmp .ge 36, 3) := by decide +kernel
theorem dX5_symbolOf_10 : decode cX5_symbolOf 10 = .ok (.aload_n 0, 1) := by decide +kernel
theorem dX5_symbolOf_11 : decode cX5_symbolOf 11 = .ok (.getfield 15, 3) := by decide +kernel
theorem dX5_symbolOf_14 : decode cX5_symbolOf 14 = .ok (.iload_n 3, 1) := by decide +kernel
theorem dX5_symbolOf_15 : decode cX5_symbolOf 15 = .ok (.iaload, 1) := by decide +kernel
theorem dX5_symbolOf_16 : decode cX5_symbolOf 16 = .ok (.iload_n 2, 1) := by decide +kernel
theorem dX5_symbolOf_17 : decode cX5_symbolOf 17 = .ok (.if_icmp .ne 20, 3) := by decide +kernel
theorem dX5_symbolOf_20 : decode cX5_symbolOf 20 = .ok (.aload_n 0, 1) := by decide +kernel
theorem dX5_symbolOf_21 : decode cX5_symbolOf 21 = .ok (.getfield 18, 3) := by decide +kernel
theorem dX5_symbolOf_24 : decode cX5_symbolOf 24 = .ok (.iload_n 3, 1) := by decide +kernel
theorem dX5_symbolOf_25 : decode cX5_symbolOf 25 = .ok (.iaload, 1) := by decide +kernel
theorem dX5_symbolOf_26 : decode cX5_symbolOf 26 = .ok (.iload_n 1, 1) := by decide +kernel
theorem dX5_symbolOf_27 : decode cX5_symbolOf 27 = .ok (.if_icmp .ne 10, 3) := by decide +kernel
theorem dX5_symbolOf_30 : decode cX5_symbolOf 30 = .ok (.aload_n 0, 1) := by decide +kernel
theorem dX5_symbolOf_31 : decode cX5_symbolOf 31 = .ok (.getfield 11, 3) := by decide +kernel
theorem dX5_symbolOf_34 : decode cX5_symbolOf 34 = .ok (.iload_n 3, 1) := by decide +kernel
theorem dX5_symbolOf_35 : decode cX5_symbolOf 35 = .ok (.iaload, 1) := by decide +kernel
theorem dX5_symbolOf_36 : decode cX5_symbolOf 36 = .ok (.ireturn, 1) := by decide +kernel
theorem dX5_symbolOf_37 : decode cX5_symbolOf 37 = .ok (.iinc 3 1, 3) := by decide +kernel
theorem dX5_symbolOf_40 : decode cX5_symbolOf 40 = .ok (.goto (-38), 3) := by decide +kernel
theorem dX5_symbolOf_43 : decode cX5_symbolOf 43 = .ok (.iconst (-1), 1) := by decide +kernel
theorem dX5_symbolOf_44 : decode cX5_symbolOf 44 = .ok (.ireturn, 1) := by decide +kernel
