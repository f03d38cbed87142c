theorem dX4_init_0 : decode cX4_init 0 = .ok (.aload_n 0, 1) := by decide +kernel
theorem dX4_init_1 : decode cX4_init 1 = .ok (.invokespecial 3, 3) := by decide +kernel
theorem dX4_init_4 : decode cX4_init 4 = .ok (.aload_n 0, 1) := by decide +kernel
theorem dX4_init_5 : decode cX4_init 5 = .ok (.aload_n 1, 1) := by decide +kernel
theorem dX4_init_6 : decode cX4_init 6 = .ok (.putfield 9, 3) := by decide +kernel
theorem dX4_init_9 : decode cX4_init 9 = .ok (.aload_n 0, 1) := by decide +kernel
theorem dX4_init_10 : decode cX4_init 10 = .ok (.new 15, 3) := by decide +kernel
theorem dX4_init_13 : decode cX4_init 13 = .ok (.dup, 1) := by decide +kernel
theorem dX4_init_14 : decode cX4_init 14 = .ok (.sipush 4000, 3) := by decide +kernel
theorem dX4_init_17 : decode cX4_init 17 = .ok (.iconst 0, 1) := by decide +kernel
theorem dX4_init_18 : decode cX4_init 18 = .ok (.invokespecial 17, 3) := by decide +kernel
theorem dX4_init_21 : decode cX4_init 21 = .ok (.putfield 20, 3) := by decide +kernel
theorem dX4_init_24 : decode cX4_init 24 = .ok (.aload_n 0, 1) := by decide +kernel
theorem dX4_init_25 : decode cX4_init 25 = .ok (.new 23, 3) := by decide +kernel
theorem dX4_init_28 : decode cX4_init 28 = .ok (.dup, 1) := by decide +kernel
theorem dX4_init_29 : decode cX4_init 29 = .ok (.invokespecial 25, 3) := by decide +kernel
theorem dX4_init_32 : decode cX4_init 32 = .ok (.putfield 26, 3) := by decide +kernel
theorem dX4_init_35 : decode cX4_init 35 = .ok (.aload_n 0, 1) := by decide +kernel
theorem dX4_init_36 : decode cX4_init 36 = .ok (.new 30, 3) := by decide +kernel
theorem dX4_init_39 : decode cX4_init 39 = .ok (.dup, 1) := by decide +kernel
theorem dX4_init_40 : decode cX4_init 40 = .ok (.invokespecial 32, 3) := by decide +kernel
theorem dX4_init_43 : decode cX4_init 43 = .ok (.putfield 33, 3) := by decide +kernel
theorem dX4_init_46 : decode cX4_init 46 = .ok (.aload_n 0, 1) := by decide +kernel
theorem dX4_init_47 : decode cX4_init 47 = .ok (.bipush 9, 2) := by decide +kernel
theorem dX4_init_49 : decode cX4_init 49 = .ok (.anewarray 37, 3) := by decide +kernel
theorem dX4_init_52 : decode cX4_init 52 = .ok (.putfield 39, 3) := by decide +kernel
theorem dX4_init_55 : decode cX4_init 55 = .ok (.iconst 0, 1) := by decide +kernel
theorem dX4_init_56 : decode cX4_init 56 = .ok (.istore_n 2, 1) := by decide +kernel
theorem dX4_init_57 : decode cX4_init 57 = .ok (.iload_n 2, 1) := by decide +kernel
theorem dX4_init_58 : decode cX4_init 58 = .ok (.aload_n 0, 1) := by decide +kernel
theorem dX4_init_59 : decode cX4_init 59 = .ok (.getfield 39, 3) := by decide +kernel
theorem dX4_init_62 : decode cX4_init 62 = .ok (.arraylength, 1) := by decide +kernel
theorem dX4_init_63 : decode cX4_init 63 = .ok (.if_icmp .ge 22, 3) := by decide +kernel
theorem dX4_init_66 : decode cX4_init 66 = .ok (.aload_n 0, 1) := by decide +kernel
theorem dX4_init_67 : decode cX4_init 67 = .ok (.getfield 39, 3) := by decide +kernel
theorem dX4_init_70 : decode cX4_init 70 = .ok (.iload_n 2, 1) := by decide +kernel
theorem dX4_init_71 : decode cX4_init 71 = .ok (.new 37, 3) := by decide +kernel
theorem dX4_init_74 : decode cX4_init 74 = .ok (.dup, 1) := by decide +kernel
theorem dX4_init_75 : decode cX4_init 75 = .ok (.invokespecial 43, 3) := by decide +kernel
theorem dX4_init_78 : decode cX4_init 78 = .ok (.aastore, 1) := by decide +kernel
theorem dX4_init_79 : decode cX4_init 79 = .ok (.iinc 2 1, 3) := by decide +kernel
theorem dX4_init_82 : decode cX4_init 82 = .ok (.goto (-25), 3) := by decide +kernel
theorem dX4_init_85 : decode cX4_init 85 = .ok (.aload_n 0, 1) := by decide +kernel
theorem dX4_init_86 : decode cX4_init 86 = .ok (.sipush 600, 3) := by decide +kernel
theorem dX4_init_89 : decode cX4_init 89 = .ok (.newarray .int, 2) := by decide +kernel
theorem dX4_init_91 : decode cX4_init 91 = .ok (.putfield 44, 3) := by decide +kernel
theorem dX4_init_94 : decode cX4_init 94 = .ok (.aload_n 0, 1) := by decide +kernel
theorem dX4_init_95 : decode cX4_init 95 = .ok (.iconst (-1), 1) := by decide +kernel
theorem dX4_init_96 : decode cX4_init 96 = .ok (.putfield 48, 3) := by decide +kernel
theorem dX4_init_99 : decode cX4_init 99 = .ok (.return_, 1) := by decide +kernel
theorem dX4_read_0 : decode cX4_read 0 = .ok (.aload_n 0, 1) := by decide +kernel
theorem dX4_read_1 : decode cX4_read 1 = .ok (.iload_n 1, 1) := by decide +kernel
theorem dX4_read_2 : decode cX4_read 2 = .ok (.putfield 52, 3) := by decide +kernel
theorem dX4_read_5 : decode cX4_read 5 = .ok (.aload_n 0, 1) := by decide +kernel
theorem dX4_read_6 : decode cX4_read 6 = .ok (.iload_n 2, 1) := by decide +kernel
theorem dX4_read_7 : decode cX4_read 7 = .ok (.putfield 55, 3) := by decide +kernel
theorem dX4_read_10 : decode cX4_read 10 = .ok (.aload_n 0, 1) := by decide +kernel
theorem dX4_read_11 : decode cX4_read 11 = .ok (.iload_n 3, 1) := by decide +kernel
theorem dX4_read_12 : decode cX4_read 12 = .ok (.putfield 58, 3) := by decide +kernel
theorem dX4_read_15 : decode cX4_read 15 = .ok (.aload_n 0, 1) := by decide +kernel
theorem dX4_read_16 : decode cX4_read 16 = .ok (.iconst 0, 1) := by decide +kernel
theorem dX4_read_17 : decode cX4_read 17 = .ok (.putfield 61, 3) := by decide +kernel
theorem dX4_read_20 : decode cX4_read 20 = .ok (.aload_n 0, 1) := by decide +kernel
theorem dX4_read_21 : decode cX4_read 21 = .ok (.iconst 0, 1) := by decide +kernel
theorem dX4_read_22 : decode cX4_read 22 = .ok (.putfield 64, 3) := by decide +kernel
theorem dX4_read_25 : decode cX4_read 25 = .ok (.aload_n 0, 1) := by decide +kernel
theorem dX4_read_26 : decode cX4_read 26 = .ok (.iconst 0, 1) := by decide +kernel
theorem dX4_read_27 : decode cX4_read 27 = .ok (.putfield 67, 3) := by decide +kernel
theorem dX4_read_30 : decode cX4_read 30 = .ok (.aload_n 0, 1) := by decide +kernel
theorem dX4_read_31 : decode cX4_read 31 = .ok (.iconst 0, 1) := by decide +kernel
theorem dX4_read_32 : decode cX4_read 32 = .ok (.putfield 70, 3) := by decide +kernel
theorem dX4_read_35 : decode cX4_read 35 = .ok (.aload_n 0, 1) := by decide +kernel
theorem dX4_read_36 : decode cX4_read 36 = .ok (.iconst (-1), 1) := by decide +kernel
theorem dX4_read_37 : decode cX4_read 37 = .ok (.putfield 48, 3) := by decide +kernel
theorem dX4_read_40 : decode cX4_read 40 = .ok (.aload_n 0, 1) := by decide +kernel
theorem dX4_read_41 : decode cX4_read 41 = .ok (.getfield 26, 3) := by decide +kernel
theorem dX4_read_44 : decode cX4_read 44 = .ok (.iconst 0, 1) := by decide +kernel
theorem dX4_read_45 : decode cX4_read 45 = .ok (.putfield 73, 3) := by decide +kernel
theorem dX4_read_48 : decode cX4_read 48 = .ok (.aload_n 0, 1) := by decide +kernel
theorem dX4_read_49 : decode cX4_read 49 = .ok (.getfield 20, 3) := by decide +kernel
theorem dX4_read_52 : decode cX4_read 52 = .ok (.iconst 0, 1) := by decide +kernel
theorem dX4_read_53 : decode cX4_read 53 = .ok (.invokevirtual 76, 3) := by decide +kernel
theorem dX4_read_56 : decode cX4_read 56 = .ok (.aload_n 0, 1) := by decide +kernel
theorem dX4_read_57 : decode cX4_read 57 = .ok (.dup, 1) := by decide +kernel
theorem dX4_read_58 : decode cX4_read 58 = .ok (.getfield 80, 3) := by decide +kernel
theorem dX4_read_61 : decode cX4_read 61 = .ok (.iconst 1, 1) := by decide +kernel
theorem dX4_read_62 : decode cX4_read 62 = .ok (.iadd, 1) := by decide +kernel
theorem dX4_read_63 : decode cX4_read 63 = .ok (.putfield 80, 3) := by decide +kernel
theorem dX4_read_66 : decode cX4_read 66 = .ok (.aload_n 0, 1) := by decide +kernel
theorem dX4_read_67 : decode cX4_read 67 = .ok (.iconst 0, 1) := by decide +kernel
theorem dX4_read_68 : decode cX4_read 68 = .ok (.aload_n 0, 1) := by decide +kernel
theorem dX4_read_69 : decode cX4_read 69 = .ok (.getfield 9, 3) := by decide +kernel
theorem dX4_read_72 : decode cX4_read 72 = .ok (.getfield 83, 3) := by decide +kernel
theorem dX4_read_75 : decode cX4_read 75 = .ok (.iconst 0, 1) := by decide +kernel
theorem dX4_read_76 : decode cX4_read 76 = .ok (.iconst 0, 1) := by decide +kernel
theorem dX4_read_77 : decode cX4_read 77 = .ok (.invokevirtual 84, 3) := by decide +kernel
theorem dX4_read_80 : decode cX4_read 80 = .ok (.aload_n 0, 1) := by decide +kernel
theorem dX4_read_81 : decode cX4_read 81 = .ok (.getfield 70, 3) := by decide +kernel
theorem dX4_read_84 : decode cX4_read 84 = .ok (.ireturn, 1) := by decide +kernel
theorem dX4_fail_0 : decode cX4_fail 0 = .ok (.aload_n 0, 1) := by decide +kernel
theorem dX4_fail_1 : decode cX4_fail 1 = .ok (.getfield 70, 3) := by decide +kernel
theorem dX4_fail_4 : decode cX4_fail 4 = .ok (.ifCond .ne 13, 3) := by decide +kernel
theorem dX4_fail_7 : decode cX4_fail 7 = .ok (.aload_n 0, 1) := by decide +kernel
theorem dX4_fail_8 : decode cX4_fail 8 = .ok (.iload_n 1, 1) := by decide +kernel
theorem dX4_fail_9 : decode cX4_fail 9 = .ok (.putfield 70, 3) := by decide +kernel
theorem dX4_fail_12 : decode cX4_fail 12 = .ok (.aload_n 0, 1) := by decide +kernel
theorem dX4_fail_13 : decode cX4_fail 13 = .ok (.iload_n 2, 1) := by decide +kernel
theorem dX4_fail_14 : decode cX4_fail 14 = .ok (.putfield 48, 3) := by decide +kernel
theorem dX4_fail_17 : decode cX4_fail 17 = .ok (.return_, 1) := by decide +kernel
theorem dX4_next_0 : decode cX4_next 0 = .ok (.aload_n 0, 1) := by decide +kernel
theorem dX4_next_1 : decode cX4_next 1 = .ok (.getfield 88, 3) := by decide +kernel
theorem dX4_next_4 : decode cX4_next 4 = .ok (.iload_n 1, 1) := by decide +kernel
theorem dX4_next_5 : decode cX4_next 5 = .ok (.if_icmp .lt 11, 3) := by decide +kernel
theorem dX4_next_8 : decode cX4_next 8 = .ok (.aload_n 0, 1) := by decide +kernel
theorem dX4_next_9 : decode cX4_next 9 = .ok (.iconst 3, 1) := by decide +kernel
theorem dX4_next_10 : decode cX4_next 10 = .ok (.iload_n 1, 1) := by decide +kernel
theorem dX4_next_11 : decode cX4_next 11 = .ok (.invokevirtual 91, 3) := by decide +kernel
theorem dX4_next_14 : decode cX4_next 14 = .ok (.iconst (-1), 1) := by decide +kernel
theorem dX4_next_15 : decode cX4_next 15 = .ok (.ireturn, 1) := by decide +kernel
theorem dX4_next_16 : decode cX4_next 16 = .ok (.aload_n 0, 1) := by decide +kernel
theorem dX4_next_17 : decode cX4_next 17 = .ok (.getfield 9, 3) := by decide +kernel
theorem dX4_next_20 : decode cX4_next 20 = .ok (.aload_n 0, 1) := by decide +kernel
theorem dX4_next_21 : decode cX4_next 21 = .ok (.getfield 88, 3) := by decide +kernel
theorem dX4_next_24 : decode cX4_next 24 = .ok (.invokevirtual 94, 3) := by decide +kernel
theorem dX4_next_27 : decode cX4_next 27 = .ok (.istore_n 2, 1) := by decide +kernel
theorem dX4_next_28 : decode cX4_next 28 = .ok (.aload_n 0, 1) := by decide +kernel
theorem dX4_next_29 : decode cX4_next 29 = .ok (.dup, 1) := by decide +kernel
theorem dX4_next_30 : decode cX4_next 30 = .ok (.getfield 88, 3) := by decide +kernel
theorem dX4_next_33 : decode cX4_next 33 = .ok (.iconst 1, 1) := by decide +kernel
theorem dX4_next_34 : decode cX4_next 34 = .ok (.iadd, 1) := by decide +kernel
theorem dX4_next_35 : decode cX4_next 35 = .ok (.putfield 88, 3) := by decide +kernel
theorem dX4_next_38 : decode cX4_next 38 = .ok (.iload_n 2, 1) := by decide +kernel
theorem dX4_next_39 : decode cX4_next 39 = .ok (.ireturn, 1) := by decide +kernel
theorem dX4_hasBytes_0 : decode cX4_hasBytes 0 = .ok (.iload_n 1, 1) := by decide +kernel
theorem dX4_hasBytes_1 : decode cX4_hasBytes 1 = .ok (.iload_n 2, 1) := by decide +kernel
theorem dX4_hasBytes_2 : decode cX4_hasBytes 2 = .ok (.aload_n 0, 1) := by decide +kernel
theorem dX4_hasBytes_3 : decode cX4_hasBytes 3 = .ok (.getfield 88, 3) := by decide +kernel
theorem dX4_hasBytes_6 : decode cX4_hasBytes 6 = .ok (.isub, 1) := by decide +kernel
theorem dX4_hasBytes_7 : decode cX4_hasBytes 7 = .ok (.if_icmp .le 11, 3) := by decide +kernel
theorem dX4_hasBytes_10 : decode cX4_hasBytes 10 = .ok (.aload_n 0, 1) := by decide +kernel
theorem dX4_hasBytes_11 : decode cX4_hasBytes 11 = .ok (.iconst 3, 1) := by decide +kernel
theorem dX4_hasBytes_12 : decode cX4_hasBytes 12 = .ok (.iload_n 2, 1) := by decide +kernel
theorem dX4_hasBytes_13 : decode cX4_hasBytes 13 = .ok (.invokevirtual 91, 3) := by decide +kernel
theorem dX4_hasBytes_16 : decode cX4_hasBytes 16 = .ok (.iconst 0, 1) := by decide +kernel
theorem dX4_hasBytes_17 : decode cX4_hasBytes 17 = .ok (.ireturn, 1) := by decide +kernel
theorem dX4_hasBytes_18 : decode cX4_hasBytes 18 = .ok (.iconst 1, 1) := by decide +kernel
theorem dX4_hasBytes_19 : decode cX4_hasBytes 19 = .ok (.ireturn, 1) := by decide +kernel
theorem dX4_canPay_0 : decode cX4_canPay 0 = .ok (.aload_n 0, 1) := by decide +kernel
theorem dX4_canPay_1 : decode cX4_canPay 1 = .ok (.getfield 20, 3) := by decide +kernel
theorem dX4_canPay_4 : decode cX4_canPay 4 = .ok (.getfield 83, 3) := by decide +kernel
theorem dX4_canPay_7 : decode cX4_canPay 7 = .ok (.iload_n 2, 1) := by decide +kernel
theorem dX4_canPay_8 : decode cX4_canPay 8 = .ok (.iadd, 1) := by decide +kernel
theorem dX4_canPay_9 : decode cX4_canPay 9 = .ok (.aload_n 0, 1) := by decide +kernel
theorem dX4_canPay_10 : decode cX4_canPay 10 = .ok (.getfield 52, 3) := by decide +kernel
theorem dX4_canPay_13 : decode cX4_canPay 13 = .ok (.if_icmp .le 12, 3) := by decide +kernel
theorem dX4_canPay_16 : decode cX4_canPay 16 = .ok (.aload_n 0, 1) := by decide +kernel
theorem dX4_canPay_17 : decode cX4_canPay 17 = .ok (.bipush 11, 2) := by decide +kernel
theorem dX4_canPay_19 : decode cX4_canPay 19 = .ok (.iload_n 1, 1) := by decide +kernel
theorem dX4_canPay_20 : decode cX4_canPay 20 = .ok (.invokevirtual 91, 3) := by decide +kernel
theorem dX4_canPay_23 : decode cX4_canPay 23 = .ok (.iconst 0, 1) := by decide +kernel
theorem dX4_canPay_24 : decode cX4_canPay 24 = .ok (.ireturn, 1) := by decide +kernel
theorem dX4_canPay_25 : decode cX4_canPay 25 = .ok (.aload_n 0, 1) := by decide +kernel
theorem dX4_canPay_26 : decode cX4_canPay 26 = .ok (.getfield 61, 3) := by decide +kernel
theorem dX4_canPay_29 : decode cX4_canPay 29 = .ok (.iload_n 3, 1) := by decide +kernel
theorem dX4_canPay_30 : decode cX4_canPay 30 = .ok (.iadd, 1) := by decide +kernel
theorem dX4_canPay_31 : decode cX4_canPay 31 = .ok (.aload_n 0, 1) := by decide +kernel
theorem dX4_canPay_32 : decode cX4_canPay 32 = .ok (.getfield 55, 3) := by decide +kernel
theorem dX4_canPay_35 : decode cX4_canPay 35 = .ok (.if_icmp .le 12, 3) := by decide +kernel
theorem dX4_canPay_38 : decode cX4_canPay 38 = .ok (.aload_n 0, 1) := by decide +kernel
theorem dX4_canPay_39 : decode cX4_canPay 39 = .ok (.bipush 12, 2) := by decide +kernel
theorem dX4_canPay_41 : decode cX4_canPay 41 = .ok (.iload_n 1, 1) := by decide +kernel
theorem dX4_canPay_42 : decode cX4_canPay 42 = .ok (.invokevirtual 91, 3) := by decide +kernel
theorem dX4_canPay_45 : decode cX4_canPay 45 = .ok (.iconst 0, 1) := by decide +kernel
theorem dX4_canPay_46 : decode cX4_canPay 46 = .ok (.ireturn, 1) := by decide +kernel
theorem dX4_canPay_47 : decode cX4_canPay 47 = .ok (.iconst 1, 1) := by decide +kernel
theorem dX4_canPay_48 : decode cX4_canPay 48 = .ok (.ireturn, 1) := by decide +kernel
theorem dX4_pay_0 : decode cX4_pay 0 = .ok (.aload_n 0, 1) := by decide +kernel
theorem dX4_pay_1 : decode cX4_pay 1 = .ok (.iload_n 1, 1) := by decide +kernel
theorem dX4_pay_2 : decode cX4_pay 2 = .ok (.iload_n 2, 1) := by decide +kernel
theorem dX4_pay_3 : decode cX4_pay 3 = .ok (.iload_n 3, 1) := by decide +kernel
theorem dX4_pay_4 : decode cX4_pay 4 = .ok (.invokevirtual 98, 3) := by decide +kernel
theorem dX4_pay_7 : decode cX4_pay 7 = .ok (.ifCond .ne 5, 3) := by decide +kernel
theorem dX4_pay_10 : decode cX4_pay 10 = .ok (.iconst 0, 1) := by decide +kernel
theorem dX4_pay_11 : decode cX4_pay 11 = .ok (.ireturn, 1) := by decide +kernel
theorem dX4_pay_12 : decode cX4_pay 12 = .ok (.aload_n 0, 1) := by decide +kernel
theorem dX4_pay_13 : decode cX4_pay 13 = .ok (.dup, 1) := by decide +kernel
theorem dX4_pay_14 : decode cX4_pay 14 = .ok (.getfield 61, 3) := by decide +kernel
theorem dX4_pay_17 : decode cX4_pay 17 = .ok (.iload_n 3, 1) := by decide +kernel
theorem dX4_pay_18 : decode cX4_pay 18 = .ok (.iadd, 1) := by decide +kernel
theorem dX4_pay_19 : decode cX4_pay 19 = .ok (.putfield 61, 3) := by decide +kernel
theorem dX4_pay_22 : decode cX4_pay 22 = .ok (.iconst 1, 1) := by decide +kernel
theorem dX4_pay_23 : decode cX4_pay 23 = .ok (.ireturn, 1) := by decide +kernel
theorem dX4_readPack_0 : decode cX4_readPack 0 = .ok (.iload_n 3, 1) := by decide +kernel
theorem dX4_readPack_1 : decode cX4_readPack 1 = .ok (.ifCond .lt 12, 3) := by decide +kernel
theorem dX4_readPack_4 : decode cX4_readPack 4 = .ok (.iload_n 3, 1) := by decide +kernel
theorem dX4_readPack_5 : decode cX4_readPack 5 = .ok (.aload_n 0, 1) := by decide +kernel
theorem dX4_readPack_6 : decode cX4_readPack 6 = .ok (.getfield 39, 3) := by decide +kernel
theorem dX4_readPack_9 : decode cX4_readPack 9 = .ok (.arraylength, 1) := by decide +kernel
theorem dX4_readPack_10 : decode cX4_readPack 10 = .ok (.if_icmp .lt 7, 3) := by decide +kernel
theorem dX4_readPack_13 : decode cX4_readPack 13 = .ok (.aconst_null, 1) := by decide +kernel
theorem dX4_readPack_14 : decode cX4_readPack 14 = .ok (.goto 9, 3) := by decide +kernel
theorem dX4_readPack_17 : decode cX4_readPack 17 = .ok (.aload_n 0, 1) := by decide +kernel
theorem dX4_readPack_18 : decode cX4_readPack 18 = .ok (.getfield 39, 3) := by decide +kernel
theorem dX4_readPack_21 : decode cX4_readPack 21 = .ok (.iload_n 3, 1) := by decide +kernel
theorem dX4_readPack_22 : decode cX4_readPack 22 = .ok (.aaload, 1) := by decide +kernel
theorem dX4_readPack_23 : decode cX4_readPack 23 = .ok (.astore 5, 2) := by decide +kernel
theorem dX4_readPack_25 : decode cX4_readPack 25 = .ok (.aload 5, 2) := by decide +kernel
theorem dX4_readPack_27 : decode cX4_readPack 27 = .ok (.ifnonnull 11, 3) := by decide +kernel
theorem dX4_readPack_30 : decode cX4_readPack 30 = .ok (.aload_n 0, 1) := by decide +kernel
theorem dX4_readPack_31 : decode cX4_readPack 31 = .ok (.bipush 13, 2) := by decide +kernel
theorem dX4_readPack_33 : decode cX4_readPack 33 = .ok (.iload_n 1, 1) := by decide +kernel
theorem dX4_readPack_34 : decode cX4_readPack 34 = .ok (.invokevirtual 91, 3) := by decide +kernel
theorem dX4_readPack_37 : decode cX4_readPack 37 = .ok (.return_, 1) := by decide +kernel
theorem dX4_readPack_38 : decode cX4_readPack 38 = .ok (.aload_n 0, 1) := by decide +kernel
theorem dX4_readPack_39 : decode cX4_readPack 39 = .ok (.iload_n 1, 1) := by decide +kernel
theorem dX4_readPack_40 : decode cX4_readPack 40 = .ok (.iconst 0, 1) := by decide +kernel
theorem dX4_readPack_41 : decode cX4_readPack 41 = .ok (.iconst 4, 1) := by decide +kernel
theorem dX4_readPack_42 : decode cX4_readPack 42 = .ok (.invokevirtual 102, 3) := by decide +kernel
theorem dX4_readPack_45 : decode cX4_readPack 45 = .ok (.ifCond .ne 4, 3) := by decide +kernel
theorem dX4_readPack_48 : decode cX4_readPack 48 = .ok (.return_, 1) := by decide +kernel
theorem dX4_readPack_49 : decode cX4_readPack 49 = .ok (.aload_n 0, 1) := by decide +kernel
theorem dX4_readPack_50 : decode cX4_readPack 50 = .ok (.dup, 1) := by decide +kernel
theorem dX4_readPack_51 : decode cX4_readPack 51 = .ok (.getfield 67, 3) := by decide +kernel
theorem dX4_readPack_54 : decode cX4_readPack 54 = .ok (.iconst 1, 1) := by decide +kernel
theorem dX4_readPack_55 : decode cX4_readPack 55 = .ok (.iadd, 1) := by decide +kernel
theorem dX4_readPack_56 : decode cX4_readPack 56 = .ok (.putfield 67, 3) := by decide +kernel
theorem dX4_readPack_59 : decode cX4_readPack 59 = .ok (.aload_n 0, 1) := by decide +kernel
theorem dX4_readPack_60 : decode cX4_readPack 60 = .ok (.aload_n 0, 1) := by decide +kernel
theorem dX4_readPack_61 : decode cX4_readPack 61 = .ok (.getfield 64, 3) := by decide +kernel
theorem dX4_readPack_64 : decode cX4_readPack 64 = .ok (.iload_n 3, 1) := by decide +kernel
theorem dX4_readPack_65 : decode cX4_readPack 65 = .ok (.invokestatic 105, 3) := by decide +kernel
theorem dX4_readPack_68 : decode cX4_readPack 68 = .ok (.putfield 64, 3) := by decide +kernel
theorem dX4_readPack_71 : decode cX4_readPack 71 = .ok (.aload 5, 2) := by decide +kernel
theorem dX4_readPack_73 : decode cX4_readPack 73 = .ok (.iload_n 1, 1) := by decide +kernel
theorem dX4_readPack_74 : decode cX4_readPack 74 = .ok (.iload_n 2, 1) := by decide +kernel
theorem dX4_readPack_75 : decode cX4_readPack 75 = .ok (.aload_n 0, 1) := by decide +kernel
theorem dX4_readPack_76 : decode cX4_readPack 76 = .ok (.getfield 20, 3) := by decide +kernel
theorem dX4_readPack_79 : decode cX4_readPack 79 = .ok (.getfield 83, 3) := by decide +kernel
theorem dX4_readPack_82 : decode cX4_readPack 82 = .ok (.iload 4, 2) := by decide +kernel
theorem dX4_readPack_84 : decode cX4_readPack 84 = .ok (.invokevirtual 111, 3) := by decide +kernel
theorem dX4_readPack_87 : decode cX4_readPack 87 = .ok (.aload_n 0, 1) := by decide +kernel
theorem dX4_readPack_88 : decode cX4_readPack 88 = .ok (.iload_n 1, 1) := by decide +kernel
theorem dX4_readPack_89 : decode cX4_readPack 89 = .ok (.putfield 88, 3) := by decide +kernel
theorem dX4_readPack_92 : decode cX4_readPack 92 = .ok (.aload_n 0, 1) := by decide +kernel
theorem dX4_readPack_93 : decode cX4_readPack 93 = .ok (.bipush 80, 2) := by decide +kernel
theorem dX4_readPack_95 : decode cX4_readPack 95 = .ok (.iload_n 2, 1) := by decide +kernel
theorem dX4_readPack_96 : decode cX4_readPack 96 = .ok (.invokevirtual 114, 3) := by decide +kernel
theorem dX4_readPack_99 : decode cX4_readPack 99 = .ok (.aload_n 0, 1) := by decide +kernel
theorem dX4_readPack_100 : decode cX4_readPack 100 = .ok (.bipush 75, 2) := by decide +kernel
theorem dX4_readPack_102 : decode cX4_readPack 102 = .ok (.iload_n 2, 1) := by decide +kernel
theorem dX4_readPack_103 : decode cX4_readPack 103 = .ok (.invokevirtual 114, 3) := by decide +kernel
theorem dX4_readPack_106 : decode cX4_readPack 106 = .ok (.iconst 0, 1) := by decide +kernel
theorem dX4_readPack_107 : decode cX4_readPack 107 = .ok (.istore 6, 2) := by decide +kernel
theorem dX4_readPack_109 : decode cX4_readPack 109 = .ok (.iload 6, 2) := by decide +kernel
theorem dX4_readPack_111 : decode cX4_readPack 111 = .ok (.sipush 1200, 3) := by decide +kernel
theorem dX4_readPack_114 : decode cX4_readPack 114 = .ok (.if_icmp .gt 58, 3) := by decide +kernel
theorem dX4_readPack_117 : decode cX4_readPack 117 = .ok (.aload_n 0, 1) := by decide +kernel
theorem dX4_readPack_118 : decode cX4_readPack 118 = .ok (.getfield 70, 3) := by decide +kernel
theorem dX4_readPack_121 : decode cX4_readPack 121 = .ok (.ifCond .ne 51, 3) := by decide +kernel
theorem dX4_readPack_124 : decode cX4_readPack 124 = .ok (.aload_n 0, 1) := by decide +kernel
theorem dX4_readPack_125 : decode cX4_readPack 125 = .ok (.getfield 88, 3) := by decide +kernel
theorem dX4_readPack_128 : decode cX4_readPack 128 = .ok (.istore 7, 2) := by decide +kernel
theorem dX4_readPack_130 : decode cX4_readPack 130 = .ok (.aload_n 0, 1) := by decide +kernel
theorem dX4_readPack_131 : decode cX4_readPack 131 = .ok (.iload_n 2, 1) := by decide +kernel
theorem dX4_readPack_132 : decode cX4_readPack 132 = .ok (.invokevirtual 117, 3) := by decide +kernel
theorem dX4_readPack_135 : decode cX4_readPack 135 = .ok (.istore 8, 2) := by decide +kernel
theorem dX4_readPack_137 : decode cX4_readPack 137 = .ok (.iload 8, 2) := by decide +kernel
theorem dX4_readPack_139 : decode cX4_readPack 139 = .ok (.ifCond .ne 10, 3) := by decide +kernel
theorem dX4_readPack_142 : decode cX4_readPack 142 = .ok (.aload_n 0, 1) := by decide +kernel
theorem dX4_readPack_143 : decode cX4_readPack 143 = .ok (.aload 5, 2) := by decide +kernel
theorem dX4_readPack_145 : decode cX4_readPack 145 = .ok (.invokevirtual 120, 3) := by decide +kernel
theorem dX4_readPack_148 : decode cX4_readPack 148 = .ok (.return_, 1) := by decide +kernel
theorem dX4_readPack_149 : decode cX4_readPack 149 = .ok (.iload 8, 2) := by decide +kernel
theorem dX4_readPack_151 : decode cX4_readPack 151 = .ok (.iconst (-1), 1) := by decide +kernel
theorem dX4_readPack_152 : decode cX4_readPack 152 = .ok (.if_icmp .eq 14, 3) := by decide +kernel
theorem dX4_readPack_155 : decode cX4_readPack 155 = .ok (.aload_n 0, 1) := by decide +kernel
theorem dX4_readPack_156 : decode cX4_readPack 156 = .ok (.iload 8, 2) := by decide +kernel
theorem dX4_readPack_158 : decode cX4_readPack 158 = .ok (.iload 7, 2) := by decide +kernel
theorem dX4_readPack_160 : decode cX4_readPack 160 = .ok (.aload 5, 2) := by decide +kernel
theorem dX4_readPack_162 : decode cX4_readPack 162 = .ok (.iload_n 3, 1) := by decide +kernel
theorem dX4_readPack_163 : decode cX4_readPack 163 = .ok (.invokevirtual 124, 3) := by decide +kernel
theorem dX4_readPack_166 : decode cX4_readPack 166 = .ok (.iinc 6 1, 3) := by decide +kernel
theorem dX4_readPack_169 : decode cX4_readPack 169 = .ok (.goto (-60), 3) := by decide +kernel
theorem dX4_readPack_172 : decode cX4_readPack 172 = .ok (.return_, 1) := by decide +kernel
theorem dX4_readMark_0 : decode cX4_readMark 0 = .ok (.aload_n 0, 1) := by decide +kernel
theorem dX4_readMark_1 : decode cX4_readMark 1 = .ok (.getfield 70, 3) := by decide +kernel
theorem dX4_readMark_4 : decode cX4_readMark 4 = .ok (.ifCond .eq 4, 3) := by decide +kernel
theorem dX4_readMark_7 : decode cX4_readMark 7 = .ok (.return_, 1) := by decide +kernel
theorem dX4_readMark_8 : decode cX4_readMark 8 = .ok (.aload_n 0, 1) := by decide +kernel
theorem dX4_readMark_9 : decode cX4_readMark 9 = .ok (.iload_n 2, 1) := by decide +kernel
theorem dX4_readMark_10 : decode cX4_readMark 10 = .ok (.invokevirtual 117, 3) := by decide +kernel
theorem dX4_readMark_13 : decode cX4_readMark 13 = .ok (.istore_n 3, 1) := by decide +kernel
theorem dX4_readMark_14 : decode cX4_readMark 14 = .ok (.iload_n 3, 1) := by decide +kernel
theorem dX4_readMark_15 : decode cX4_readMark 15 = .ok (.iconst (-1), 1) := by decide +kernel
theorem dX4_readMark_16 : decode cX4_readMark 16 = .ok (.if_icmp .eq 19, 3) := by decide +kernel
theorem dX4_readMark_19 : decode cX4_readMark 19 = .ok (.iload_n 3, 1) := by decide +kernel
theorem dX4_readMark_20 : decode cX4_readMark 20 = .ok (.iload_n 1, 1) := by decide +kernel
theorem dX4_readMark_21 : decode cX4_readMark 21 = .ok (.if_icmp .eq 14, 3) := by decide +kernel
theorem dX4_readMark_24 : decode cX4_readMark 24 = .ok (.aload_n 0, 1) := by decide +kernel
theorem dX4_readMark_25 : decode cX4_readMark 25 = .ok (.iconst 1, 1) := by decide +kernel
theorem dX4_readMark_26 : decode cX4_readMark 26 = .ok (.aload_n 0, 1) := by decide +kernel
theorem dX4_readMark_27 : decode cX4_readMark 27 = .ok (.getfield 88, 3) := by decide +kernel
theorem dX4_readMark_30 : decode cX4_readMark 30 = .ok (.iconst 1, 1) := by decide +kernel
theorem dX4_readMark_31 : decode cX4_readMark 31 = .ok (.isub, 1) := by decide +kernel
theorem dX4_readMark_32 : decode cX4_readMark 32 = .ok (.invokevirtual 91, 3) := by decide +kernel
theorem dX4_readMark_35 : decode cX4_readMark 35 = .ok (.return_, 1) := by decide +kernel
theorem dX4_readCheck_0 : decode cX4_readCheck 0 = .ok (.aload_n 0, 1) := by decide +kernel
theorem dX4_readCheck_1 : decode cX4_readCheck 1 = .ok (.getfield 88, 3) := by decide +kernel
theorem dX4_readCheck_4 : decode cX4_readCheck 4 = .ok (.istore_n 2, 1) := by decide +kernel
theorem dX4_readCheck_5 : decode cX4_readCheck 5 = .ok (.aload_n 0, 1) := by decide +kernel
theorem dX4_readCheck_6 : decode cX4_readCheck 6 = .ok (.aload_n 1, 1) := by decide +kernel
theorem dX4_readCheck_7 : decode cX4_readCheck 7 = .ok (.getfield 128, 3) := by decide +kernel
theorem dX4_readCheck_10 : decode cX4_readCheck 10 = .ok (.invokevirtual 117, 3) := by decide +kernel
theorem dX4_readCheck_13 : decode cX4_readCheck 13 = .ok (.istore_n 3, 1) := by decide +kernel
theorem dX4_readCheck_14 : decode cX4_readCheck 14 = .ok (.iload_n 3, 1) := by decide +kernel
theorem dX4_readCheck_15 : decode cX4_readCheck 15 = .ok (.iconst (-1), 1) := by decide +kernel
theorem dX4_readCheck_16 : decode cX4_readCheck 16 = .ok (.if_icmp .ne 4, 3) := by decide +kernel
theorem dX4_readCheck_19 : decode cX4_readCheck 19 = .ok (.return_, 1) := by decide +kernel
theorem dX4_readCheck_20 : decode cX4_readCheck 20 = .ok (.iload_n 3, 1) := by decide +kernel
theorem dX4_readCheck_21 : decode cX4_readCheck 21 = .ok (.aload_n 0, 1) := by decide +kernel
theorem dX4_readCheck_22 : decode cX4_readCheck 22 = .ok (.getfield 9, 3) := by decide +kernel
theorem dX4_readCheck_25 : decode cX4_readCheck 25 = .ok (.aload_n 1, 1) := by decide +kernel
theorem dX4_readCheck_26 : decode cX4_readCheck 26 = .ok (.getfield 131, 3) := by decide +kernel
theorem dX4_readCheck_29 : decode cX4_readCheck 29 = .ok (.iload_n 2, 1) := by decide +kernel
theorem dX4_readCheck_30 : decode cX4_readCheck 30 = .ok (.invokevirtual 134, 3) := by decide +kernel
theorem dX4_readCheck_33 : decode cX4_readCheck 33 = .ok (.if_icmp .eq 13, 3) := by decide +kernel
theorem dX4_readCheck_36 : decode cX4_readCheck 36 = .ok (.aload_n 0, 1) := by decide +kernel
theorem dX4_readCheck_37 : decode cX4_readCheck 37 = .ok (.bipush 9, 2) := by decide +kernel
theorem dX4_readCheck_39 : decode cX4_readCheck 39 = .ok (.iload_n 2, 1) := by decide +kernel
theorem dX4_readCheck_40 : decode cX4_readCheck 40 = .ok (.invokevirtual 91, 3) := by decide +kernel
theorem dX4_readCheck_43 : decode cX4_readCheck 43 = .ok (.goto 24, 3) := by decide +kernel
theorem dX4_readCheck_46 : decode cX4_readCheck 46 = .ok (.aload_n 0, 1) := by decide +kernel
theorem dX4_readCheck_47 : decode cX4_readCheck 47 = .ok (.getfield 88, 3) := by decide +kernel
theorem dX4_readCheck_50 : decode cX4_readCheck 50 = .ok (.aload_n 1, 1) := by decide +kernel
theorem dX4_readCheck_51 : decode cX4_readCheck 51 = .ok (.getfield 128, 3) := by decide +kernel
theorem dX4_readCheck_54 : decode cX4_readCheck 54 = .ok (.if_icmp .ge 13, 3) := by decide +kernel
theorem dX4_readCheck_57 : decode cX4_readCheck 57 = .ok (.aload_n 0, 1) := by decide +kernel
theorem dX4_readCheck_58 : decode cX4_readCheck 58 = .ok (.bipush 10, 2) := by decide +kernel
theorem dX4_readCheck_60 : decode cX4_readCheck 60 = .ok (.aload_n 0, 1) := by decide +kernel
theorem dX4_readCheck_61 : decode cX4_readCheck 61 = .ok (.getfield 88, 3) := by decide +kernel
theorem dX4_readCheck_64 : decode cX4_readCheck 64 = .ok (.invokevirtual 91, 3) := by decide +kernel
theorem dX4_readCheck_67 : decode cX4_readCheck 67 = .ok (.return_, 1) := by decide +kernel
theorem dX4_readItem_0 : decode cX4_readItem 0 = .ok (.aload_n 0, 1) := by decide +kernel
theorem dX4_readItem_1 : decode cX4_readItem 1 = .ok (.getfield 20, 3) := by decide +kernel
theorem dX4_readItem_4 : decode cX4_readItem 4 = .ok (.getfield 83, 3) := by decide +kernel
theorem dX4_readItem_7 : decode cX4_readItem 7 = .ok (.istore 5, 2) := by decide +kernel
theorem dX4_readItem_9 : decode cX4_readItem 9 = .ok (.aload_n 0, 1) := by decide +kernel
theorem dX4_readItem_10 : decode cX4_readItem 10 = .ok (.getfield 61, 3) := by decide +kernel
theorem dX4_readItem_13 : decode cX4_readItem 13 = .ok (.istore 6, 2) := by decide +kernel
theorem dX4_readItem_15 : decode cX4_readItem 15 = .ok (.iload_n 1, 1) := by decide +kernel
theorem dX4_readItem_16 : decode cX4_readItem 16 = .ok (.tableswitch 129 1 7 #[44, 56, 68, 77, 88, 100, 109], 44) := by decide +kernel
theorem dX4_readItem_60 : decode cX4_readItem 60 = .ok (.aload_n 0, 1) := by decide +kernel
theorem dX4_readItem_61 : decode cX4_readItem 61 = .ok (.iload_n 2, 1) := by decide +kernel
theorem dX4_readItem_62 : decode cX4_readItem 62 = .ok (.aload_n 3, 1) := by decide +kernel
theorem dX4_readItem_63 : decode cX4_readItem 63 = .ok (.getfield 128, 3) := by decide +kernel
theorem dX4_readItem_66 : decode cX4_readItem 66 = .ok (.invokevirtual 137, 3) := by decide +kernel
theorem dX4_readItem_69 : decode cX4_readItem 69 = .ok (.goto 82, 3) := by decide +kernel
theorem dX4_readItem_72 : decode cX4_readItem 72 = .ok (.aload_n 0, 1) := by decide +kernel
theorem dX4_readItem_73 : decode cX4_readItem 73 = .ok (.iload_n 2, 1) := by decide +kernel
theorem dX4_readItem_74 : decode cX4_readItem 74 = .ok (.aload_n 3, 1) := by decide +kernel
theorem dX4_readItem_75 : decode cX4_readItem 75 = .ok (.getfield 128, 3) := by decide +kernel
theorem dX4_readItem_78 : decode cX4_readItem 78 = .ok (.invokevirtual 140, 3) := by decide +kernel
theorem dX4_readItem_81 : decode cX4_readItem 81 = .ok (.goto 70, 3) := by decide +kernel
theorem dX4_readItem_84 : decode cX4_readItem 84 = .ok (.aload_n 0, 1) := by decide +kernel
theorem dX4_readItem_85 : decode cX4_readItem 85 = .ok (.iload_n 2, 1) := by decide +kernel
theorem dX4_readItem_86 : decode cX4_readItem 86 = .ok (.aload_n 3, 1) := by decide +kernel
theorem dX4_readItem_87 : decode cX4_readItem 87 = .ok (.invokevirtual 143, 3) := by decide +kernel
theorem dX4_readItem_90 : decode cX4_readItem 90 = .ok (.goto 61, 3) := by decide +kernel
theorem dX4_readItem_93 : decode cX4_readItem 93 = .ok (.aload_n 0, 1) := by decide +kernel
theorem dX4_readItem_94 : decode cX4_readItem 94 = .ok (.iload_n 2, 1) := by decide +kernel
theorem dX4_readItem_95 : decode cX4_readItem 95 = .ok (.aload_n 3, 1) := by decide +kernel
theorem dX4_readItem_96 : decode cX4_readItem 96 = .ok (.iload 4, 2) := by decide +kernel
theorem dX4_readItem_98 : decode cX4_readItem 98 = .ok (.invokevirtual 147, 3) := by decide +kernel
theorem dX4_readItem_101 : decode cX4_readItem 101 = .ok (.goto 50, 3) := by decide +kernel
theorem dX4_readItem_104 : decode cX4_readItem 104 = .ok (.aload_n 0, 1) := by decide +kernel
theorem dX4_readItem_105 : decode cX4_readItem 105 = .ok (.iload_n 2, 1) := by decide +kernel
theorem dX4_readItem_106 : decode cX4_readItem 106 = .ok (.aload_n 3, 1) := by decide +kernel
theorem dX4_readItem_107 : decode cX4_readItem 107 = .ok (.getfield 128, 3) := by decide +kernel
theorem dX4_readItem_110 : decode cX4_readItem 110 = .ok (.invokevirtual 151, 3) := by decide +kernel
theorem dX4_readItem_113 : decode cX4_readItem 113 = .ok (.goto 38, 3) := by decide +kernel
theorem dX4_readItem_116 : decode cX4_readItem 116 = .ok (.aload_n 0, 1) := by decide +kernel
theorem dX4_readItem_117 : decode cX4_readItem 117 = .ok (.iload_n 2, 1) := by decide +kernel
theorem dX4_readItem_118 : decode cX4_readItem 118 = .ok (.aload_n 3, 1) := by decide +kernel
theorem dX4_readItem_119 : decode cX4_readItem 119 = .ok (.invokevirtual 154, 3) := by decide +kernel
theorem dX4_readItem_122 : decode cX4_readItem 122 = .ok (.goto 29, 3) := by decide +kernel
theorem dX4_readItem_125 : decode cX4_readItem 125 = .ok (.aload_n 0, 1) := by decide +kernel
theorem dX4_readItem_126 : decode cX4_readItem 126 = .ok (.aload_n 0, 1) := by decide +kernel
theorem dX4_readItem_127 : decode cX4_readItem 127 = .ok (.iload_n 2, 1) := by decide +kernel
theorem dX4_readItem_128 : decode cX4_readItem 128 = .ok (.aload_n 3, 1) := by decide +kernel
theorem dX4_readItem_129 : decode cX4_readItem 129 = .ok (.getfield 128, 3) := by decide +kernel
theorem dX4_readItem_132 : decode cX4_readItem 132 = .ok (.invokevirtual 157, 3) := by decide +kernel
theorem dX4_readItem_135 : decode cX4_readItem 135 = .ok (.aload_n 3, 1) := by decide +kernel
theorem dX4_readItem_136 : decode cX4_readItem 136 = .ok (.getfield 128, 3) := by decide +kernel
theorem dX4_readItem_139 : decode cX4_readItem 139 = .ok (.invokevirtual 160, 3) := by decide +kernel
theorem dX4_readItem_142 : decode cX4_readItem 142 = .ok (.goto 9, 3) := by decide +kernel
theorem dX4_readItem_145 : decode cX4_readItem 145 = .ok (.aload_n 0, 1) := by decide +kernel
theorem dX4_readItem_146 : decode cX4_readItem 146 = .ok (.iconst 2, 1) := by decide +kernel
theorem dX4_readItem_147 : decode cX4_readItem 147 = .ok (.iload_n 2, 1) := by decide +kernel
theorem dX4_readItem_148 : decode cX4_readItem 148 = .ok (.invokevirtual 91, 3) := by decide +kernel
theorem dX4_readItem_151 : decode cX4_readItem 151 = .ok (.aload_n 0, 1) := by decide +kernel
theorem dX4_readItem_152 : decode cX4_readItem 152 = .ok (.getfield 70, 3) := by decide +kernel
theorem dX4_readItem_155 : decode cX4_readItem 155 = .ok (.ifCond .eq 4, 3) := by decide +kernel
theorem dX4_readItem_158 : decode cX4_readItem 158 = .ok (.return_, 1) := by decide +kernel
theorem dX4_readItem_159 : decode cX4_readItem 159 = .ok (.aload_n 3, 1) := by decide +kernel
theorem dX4_readItem_160 : decode cX4_readItem 160 = .ok (.getfield 163, 3) := by decide +kernel
theorem dX4_readItem_163 : decode cX4_readItem 163 = .ok (.aload_n 3, 1) := by decide +kernel
theorem dX4_readItem_164 : decode cX4_readItem 164 = .ok (.getfield 166, 3) := by decide +kernel
theorem dX4_readItem_167 : decode cX4_readItem 167 = .ok (.iadd, 1) := by decide +kernel
theorem dX4_readItem_168 : decode cX4_readItem 168 = .ok (.istore 7, 2) := by decide +kernel
theorem dX4_readItem_170 : decode cX4_readItem 170 = .ok (.iload 7, 2) := by decide +kernel
theorem dX4_readItem_172 : decode cX4_readItem 172 = .ok (.ifCond .lt 27, 3) := by decide +kernel
theorem dX4_readItem_175 : decode cX4_readItem 175 = .ok (.iload 7, 2) := by decide +kernel
theorem dX4_readItem_177 : decode cX4_readItem 177 = .ok (.aload_n 0, 1) := by decide +kernel
theorem dX4_readItem_178 : decode cX4_readItem 178 = .ok (.getfield 44, 3) := by decide +kernel
theorem dX4_readItem_181 : decode cX4_readItem 181 = .ok (.arraylength, 1) := by decide +kernel
theorem dX4_readItem_182 : decode cX4_readItem 182 = .ok (.if_icmp .ge 17, 3) := by decide +kernel
theorem dX4_readItem_185 : decode cX4_readItem 185 = .ok (.aload_n 0, 1) := by decide +kernel
theorem dX4_readItem_186 : decode cX4_readItem 186 = .ok (.getfield 44, 3) := by decide +kernel
theorem dX4_readItem_189 : decode cX4_readItem 189 = .ok (.iload 7, 2) := by decide +kernel
theorem dX4_readItem_191 : decode cX4_readItem 191 = .ok (.aload_n 0, 1) := by decide +kernel
theorem dX4_readItem_192 : decode cX4_readItem 192 = .ok (.getfield 20, 3) := by decide +kernel
theorem dX4_readItem_195 : decode cX4_readItem 195 = .ok (.getfield 83, 3) := by decide +kernel
theorem dX4_readItem_198 : decode cX4_readItem 198 = .ok (.iastore, 1) := by decide +kernel
theorem dX4_readItem_199 : decode cX4_readItem 199 = .ok (.aload_n 3, 1) := by decide +kernel
theorem dX4_readItem_200 : decode cX4_readItem 200 = .ok (.dup, 1) := by decide +kernel
theorem dX4_readItem_201 : decode cX4_readItem 201 = .ok (.getfield 166, 3) := by decide +kernel
theorem dX4_readItem_204 : decode cX4_readItem 204 = .ok (.iconst 1, 1) := by decide +kernel
theorem dX4_readItem_205 : decode cX4_readItem 205 = .ok (.iadd, 1) := by decide +kernel
theorem dX4_readItem_206 : decode cX4_readItem 206 = .ok (.putfield 166, 3) := by decide +kernel
theorem dX4_readItem_209 : decode cX4_readItem 209 = .ok (.iload 4, 2) := by decide +kernel
theorem dX4_readItem_211 : decode cX4_readItem 211 = .ok (.ifCond .ne 35, 3) := by decide +kernel
theorem dX4_readItem_214 : decode cX4_readItem 214 = .ok (.aload_n 0, 1) := by decide +kernel
theorem dX4_readItem_215 : decode cX4_readItem 215 = .ok (.getfield 26, 3) := by decide +kernel
theorem dX4_readItem_218 : decode cX4_readItem 218 = .ok (.iload_n 1, 1) := by decide +kernel
theorem dX4_readItem_219 : decode cX4_readItem 219 = .ok (.iload_n 2, 1) := by decide +kernel
theorem dX4_readItem_220 : decode cX4_readItem 220 = .ok (.aload_n 0, 1) := by decide +kernel
theorem dX4_readItem_221 : decode cX4_readItem 221 = .ok (.getfield 20, 3) := by decide +kernel
theorem dX4_readItem_224 : decode cX4_readItem 224 = .ok (.getfield 83, 3) := by decide +kernel
theorem dX4_readItem_227 : decode cX4_readItem 227 = .ok (.iload 5, 2) := by decide +kernel
theorem dX4_readItem_229 : decode cX4_readItem 229 = .ok (.isub, 1) := by decide +kernel
theorem dX4_readItem_230 : decode cX4_readItem 230 = .ok (.aload_n 0, 1) := by decide +kernel
theorem dX4_readItem_231 : decode cX4_readItem 231 = .ok (.getfield 61, 3) := by decide +kernel
theorem dX4_readItem_234 : decode cX4_readItem 234 = .ok (.iload 6, 2) := by decide +kernel
theorem dX4_readItem_236 : decode cX4_readItem 236 = .ok (.isub, 1) := by decide +kernel
theorem dX4_readItem_237 : decode cX4_readItem 237 = .ok (.aload_n 0, 1) := by decide +kernel
theorem dX4_readItem_238 : decode cX4_readItem 238 = .ok (.getfield 88, 3) := by decide +kernel
theorem dX4_readItem_241 : decode cX4_readItem 241 = .ok (.iload_n 2, 1) := by decide +kernel
theorem dX4_readItem_242 : decode cX4_readItem 242 = .ok (.isub, 1) := by decide +kernel
theorem dX4_readItem_243 : decode cX4_readItem 243 = .ok (.invokevirtual 168, 3) := by decide +kernel
theorem dX4_readItem_246 : decode cX4_readItem 246 = .ok (.return_, 1) := by decide +kernel
theorem dX4_readStored_0 : decode cX4_readStored 0 = .ok (.aload_n 0, 1) := by decide +kernel
theorem dX4_readStored_1 : decode cX4_readStored 1 = .ok (.iload_n 2, 1) := by decide +kernel
theorem dX4_readStored_2 : decode cX4_readStored 2 = .ok (.invokevirtual 117, 3) := by decide +kernel
theorem dX4_readStored_5 : decode cX4_readStored 5 = .ok (.istore_n 3, 1) := by decide +kernel
theorem dX4_readStored_6 : decode cX4_readStored 6 = .ok (.iload_n 3, 1) := by decide +kernel
theorem dX4_readStored_7 : decode cX4_readStored 7 = .ok (.iconst (-1), 1) := by decide +kernel
theorem dX4_readStored_8 : decode cX4_readStored 8 = .ok (.if_icmp .eq 26, 3) := by decide +kernel
theorem dX4_readStored_11 : decode cX4_readStored 11 = .ok (.aload_n 0, 1) := by decide +kernel
theorem dX4_readStored_12 : decode cX4_readStored 12 = .ok (.iload_n 3, 1) := by decide +kernel
theorem dX4_readStored_13 : decode cX4_readStored 13 = .ok (.iload_n 2, 1) := by decide +kernel
theorem dX4_readStored_14 : decode cX4_readStored 14 = .ok (.invokevirtual 172, 3) := by decide +kernel
theorem dX4_readStored_17 : decode cX4_readStored 17 = .ok (.ifCond .eq 17, 3) := by decide +kernel
theorem dX4_readStored_20 : decode cX4_readStored 20 = .ok (.aload_n 0, 1) := by decide +kernel
theorem dX4_readStored_21 : decode cX4_readStored 21 = .ok (.iload_n 1, 1) := by decide +kernel
theorem dX4_readStored_22 : decode cX4_readStored 22 = .ok (.iload_n 3, 1) := by decide +kernel
theorem dX4_readStored_23 : decode cX4_readStored 23 = .ok (.iconst 2, 1) := by decide +kernel
theorem dX4_readStored_24 : decode cX4_readStored 24 = .ok (.iload_n 3, 1) := by decide +kernel
theorem dX4_readStored_25 : decode cX4_readStored 25 = .ok (.iadd, 1) := by decide +kernel
theorem dX4_readStored_26 : decode cX4_readStored 26 = .ok (.iload_n 3, 1) := by decide +kernel
theorem dX4_readStored_27 : decode cX4_readStored 27 = .ok (.iadd, 1) := by decide +kernel
theorem dX4_readStored_28 : decode cX4_readStored 28 = .ok (.invokevirtual 102, 3) := by decide +kernel
theorem dX4_readStored_31 : decode cX4_readStored 31 = .ok (.ifCond .ne 4, 3) := by decide +kernel
theorem dX4_readStored_34 : decode cX4_readStored 34 = .ok (.return_, 1) := by decide +kernel
theorem dX4_readStored_35 : decode cX4_readStored 35 = .ok (.iconst 0, 1) := by decide +kernel
theorem dX4_readStored_36 : decode cX4_readStored 36 = .ok (.istore 4, 2) := by decide +kernel
theorem dX4_readStored_38 : decode cX4_readStored 38 = .ok (.iload 4, 2) := by decide +kernel
theorem dX4_readStored_40 : decode cX4_readStored 40 = .ok (.iload_n 3, 1) := by decide +kernel
theorem dX4_readStored_41 : decode cX4_readStored 41 = .ok (.if_icmp .ge 30, 3) := by decide +kernel
theorem dX4_readStored_44 : decode cX4_readStored 44 = .ok (.aload_n 0, 1) := by decide +kernel
theorem dX4_readStored_45 : decode cX4_readStored 45 = .ok (.getfield 20, 3) := by decide +kernel
theorem dX4_readStored_48 : decode cX4_readStored 48 = .ok (.aload_n 0, 1) := by decide +kernel
theorem dX4_readStored_49 : decode cX4_readStored 49 = .ok (.getfield 9, 3) := by decide +kernel
theorem dX4_readStored_52 : decode cX4_readStored 52 = .ok (.aload_n 0, 1) := by decide +kernel
theorem dX4_readStored_53 : decode cX4_readStored 53 = .ok (.getfield 88, 3) := by decide +kernel
theorem dX4_readStored_56 : decode cX4_readStored 56 = .ok (.iload 4, 2) := by decide +kernel
theorem dX4_readStored_58 : decode cX4_readStored 58 = .ok (.iadd, 1) := by decide +kernel
theorem dX4_readStored_59 : decode cX4_readStored 59 = .ok (.invokevirtual 94, 3) := by decide +kernel
theorem dX4_readStored_62 : decode cX4_readStored 62 = .ok (.invokevirtual 176, 3) := by decide +kernel
theorem dX4_readStored_65 : decode cX4_readStored 65 = .ok (.iinc 4 1, 3) := by decide +kernel
theorem dX4_readStored_68 : decode cX4_readStored 68 = .ok (.goto (-30), 3) := by decide +kernel
theorem dX4_readStored_71 : decode cX4_readStored 71 = .ok (.aload_n 0, 1) := by decide +kernel
theorem dX4_readStored_72 : decode cX4_readStored 72 = .ok (.dup, 1) := by decide +kernel
theorem dX4_readStored_73 : decode cX4_readStored 73 = .ok (.getfield 88, 3) := by decide +kernel
theorem dX4_readStored_76 : decode cX4_readStored 76 = .ok (.iload_n 3, 1) := by decide +kernel
theorem dX4_readStored_77 : decode cX4_readStored 77 = .ok (.iadd, 1) := by decide +kernel
theorem dX4_readStored_78 : decode cX4_readStored 78 = .ok (.putfield 88, 3) := by decide +kernel
theorem dX4_readStored_81 : decode cX4_readStored 81 = .ok (.return_, 1) := by decide +kernel
theorem dX4_readRun_0 : decode cX4_readRun 0 = .ok (.aload_n 0, 1) := by decide +kernel
theorem dX4_readRun_1 : decode cX4_readRun 1 = .ok (.iload_n 2, 1) := by decide +kernel
theorem dX4_readRun_2 : decode cX4_readRun 2 = .ok (.invokevirtual 117, 3) := by decide +kernel
theorem dX4_readRun_5 : decode cX4_readRun 5 = .ok (.istore_n 3, 1) := by decide +kernel
theorem dX4_readRun_6 : decode cX4_readRun 6 = .ok (.aload_n 0, 1) := by decide +kernel
theorem dX4_readRun_7 : decode cX4_readRun 7 = .ok (.iload_n 2, 1) := by decide +kernel
theorem dX4_readRun_8 : decode cX4_readRun 8 = .ok (.invokevirtual 117, 3) := by decide +kernel
theorem dX4_readRun_11 : decode cX4_readRun 11 = .ok (.istore 4, 2) := by decide +kernel
theorem dX4_readRun_13 : decode cX4_readRun 13 = .ok (.iload_n 3, 1) := by decide +kernel
theorem dX4_readRun_14 : decode cX4_readRun 14 = .ok (.iconst (-1), 1) := by decide +kernel
theorem dX4_readRun_15 : decode cX4_readRun 15 = .ok (.if_icmp .eq 21, 3) := by decide +kernel
theorem dX4_readRun_18 : decode cX4_readRun 18 = .ok (.iload 4, 2) := by decide +kernel
theorem dX4_readRun_20 : decode cX4_readRun 20 = .ok (.iconst (-1), 1) := by decide +kernel
theorem dX4_readRun_21 : decode cX4_readRun 21 = .ok (.if_icmp .eq 15, 3) := by decide +kernel
theorem dX4_readRun_24 : decode cX4_readRun 24 = .ok (.aload_n 0, 1) := by decide +kernel
theorem dX4_readRun_25 : decode cX4_readRun 25 = .ok (.iload_n 1, 1) := by decide +kernel
theorem dX4_readRun_26 : decode cX4_readRun 26 = .ok (.iload_n 3, 1) := by decide +kernel
theorem dX4_readRun_27 : decode cX4_readRun 27 = .ok (.iconst 3, 1) := by decide +kernel
theorem dX4_readRun_28 : decode cX4_readRun 28 = .ok (.iload_n 3, 1) := by decide +kernel
theorem dX4_readRun_29 : decode cX4_readRun 29 = .ok (.iadd, 1) := by decide +kernel
theorem dX4_readRun_30 : decode cX4_readRun 30 = .ok (.invokevirtual 102, 3) := by decide +kernel
theorem dX4_readRun_33 : decode cX4_readRun 33 = .ok (.ifCond .ne 4, 3) := by decide +kernel
theorem dX4_readRun_36 : decode cX4_readRun 36 = .ok (.return_, 1) := by decide +kernel
theorem dX4_readRun_37 : decode cX4_readRun 37 = .ok (.iconst 0, 1) := by decide +kernel
theorem dX4_readRun_38 : decode cX4_readRun 38 = .ok (.istore 5, 2) := by decide +kernel
theorem dX4_readRun_40 : decode cX4_readRun 40 = .ok (.iload 5, 2) := by decide +kernel
theorem dX4_readRun_42 : decode cX4_readRun 42 = .ok (.iload_n 3, 1) := by decide +kernel
theorem dX4_readRun_43 : decode cX4_readRun 43 = .ok (.if_icmp .ge 18, 3) := by decide +kernel
theorem dX4_readRun_46 : decode cX4_readRun 46 = .ok (.aload_n 0, 1) := by decide +kernel
theorem dX4_readRun_47 : decode cX4_readRun 47 = .ok (.getfield 20, 3) := by decide +kernel
theorem dX4_readRun_50 : decode cX4_readRun 50 = .ok (.iload 4, 2) := by decide +kernel
theorem dX4_readRun_52 : decode cX4_readRun 52 = .ok (.invokevirtual 176, 3) := by decide +kernel
theorem dX4_readRun_55 : decode cX4_readRun 55 = .ok (.iinc 5 1, 3) := by decide +kernel
theorem dX4_readRun_58 : decode cX4_readRun 58 = .ok (.goto (-18), 3) := by decide +kernel
theorem dX4_readRun_61 : decode cX4_readRun 61 = .ok (.return_, 1) := by decide +kernel
theorem dX4_readCopy_0 : decode cX4_readCopy 0 = .ok (.aload_n 0, 1) := by decide +kernel
theorem dX4_readCopy_1 : decode cX4_readCopy 1 = .ok (.aload_n 2, 1) := by decide +kernel
theorem dX4_readCopy_2 : decode cX4_readCopy 2 = .ok (.getfield 128, 3) := by decide +kernel
theorem dX4_readCopy_5 : decode cX4_readCopy 5 = .ok (.invokevirtual 117, 3) := by decide +kernel
theorem dX4_readCopy_8 : decode cX4_readCopy 8 = .ok (.istore_n 3, 1) := by decide +kernel
theorem dX4_readCopy_9 : decode cX4_readCopy 9 = .ok (.iload_n 3, 1) := by decide +kernel
theorem dX4_readCopy_10 : decode cX4_readCopy 10 = .ok (.iconst (-1), 1) := by decide +kernel
theorem dX4_readCopy_11 : decode cX4_readCopy 11 = .ok (.if_icmp .ne 4, 3) := by decide +kernel
theorem dX4_readCopy_14 : decode cX4_readCopy 14 = .ok (.return_, 1) := by decide +kernel
theorem dX4_readCopy_15 : decode cX4_readCopy 15 = .ok (.iload_n 3, 1) := by decide +kernel
theorem dX4_readCopy_16 : decode cX4_readCopy 16 = .ok (.ifCond .eq 19, 3) := by decide +kernel
theorem dX4_readCopy_19 : decode cX4_readCopy 19 = .ok (.iload_n 3, 1) := by decide +kernel
theorem dX4_readCopy_20 : decode cX4_readCopy 20 = .ok (.aload_n 0, 1) := by decide +kernel
theorem dX4_readCopy_21 : decode cX4_readCopy 21 = .ok (.getfield 20, 3) := by decide +kernel
theorem dX4_readCopy_24 : decode cX4_readCopy 24 = .ok (.getfield 83, 3) := by decide +kernel
theorem dX4_readCopy_27 : decode cX4_readCopy 27 = .ok (.aload_n 2, 1) := by decide +kernel
theorem dX4_readCopy_28 : decode cX4_readCopy 28 = .ok (.getfield 178, 3) := by decide +kernel
theorem dX4_readCopy_31 : decode cX4_readCopy 31 = .ok (.isub, 1) := by decide +kernel
theorem dX4_readCopy_32 : decode cX4_readCopy 32 = .ok (.if_icmp .le 15, 3) := by decide +kernel
theorem dX4_readCopy_35 : decode cX4_readCopy 35 = .ok (.aload_n 0, 1) := by decide +kernel
theorem dX4_readCopy_36 : decode cX4_readCopy 36 = .ok (.iconst 4, 1) := by decide +kernel
theorem dX4_readCopy_37 : decode cX4_readCopy 37 = .ok (.aload_n 0, 1) := by decide +kernel
theorem dX4_readCopy_38 : decode cX4_readCopy 38 = .ok (.getfield 88, 3) := by decide +kernel
theorem dX4_readCopy_41 : decode cX4_readCopy 41 = .ok (.iconst 1, 1) := by decide +kernel
theorem dX4_readCopy_42 : decode cX4_readCopy 42 = .ok (.isub, 1) := by decide +kernel
theorem dX4_readCopy_43 : decode cX4_readCopy 43 = .ok (.invokevirtual 91, 3) := by decide +kernel
theorem dX4_readCopy_46 : decode cX4_readCopy 46 = .ok (.return_, 1) := by decide +kernel
theorem dX4_readCopy_47 : decode cX4_readCopy 47 = .ok (.aload_n 0, 1) := by decide +kernel
theorem dX4_readCopy_48 : decode cX4_readCopy 48 = .ok (.aload_n 2, 1) := by decide +kernel
theorem dX4_readCopy_49 : decode cX4_readCopy 49 = .ok (.getfield 128, 3) := by decide +kernel
theorem dX4_readCopy_52 : decode cX4_readCopy 52 = .ok (.invokevirtual 117, 3) := by decide +kernel
theorem dX4_readCopy_55 : decode cX4_readCopy 55 = .ok (.istore 4, 2) := by decide +kernel
theorem dX4_readCopy_57 : decode cX4_readCopy 57 = .ok (.iload 4, 2) := by decide +kernel
theorem dX4_readCopy_59 : decode cX4_readCopy 59 = .ok (.iconst (-1), 1) := by decide +kernel
theorem dX4_readCopy_60 : decode cX4_readCopy 60 = .ok (.if_icmp .eq 17, 3) := by decide +kernel
theorem dX4_readCopy_63 : decode cX4_readCopy 63 = .ok (.aload_n 0, 1) := by decide +kernel
theorem dX4_readCopy_64 : decode cX4_readCopy 64 = .ok (.iload_n 1, 1) := by decide +kernel
theorem dX4_readCopy_65 : decode cX4_readCopy 65 = .ok (.iload 4, 2) := by decide +kernel
theorem dX4_readCopy_67 : decode cX4_readCopy 67 = .ok (.iconst 3, 1) := by decide +kernel
theorem dX4_readCopy_68 : decode cX4_readCopy 68 = .ok (.iload 4, 2) := by decide +kernel
theorem dX4_readCopy_70 : decode cX4_readCopy 70 = .ok (.iadd, 1) := by decide +kernel
theorem dX4_readCopy_71 : decode cX4_readCopy 71 = .ok (.invokevirtual 102, 3) := by decide +kernel
theorem dX4_readCopy_74 : decode cX4_readCopy 74 = .ok (.ifCond .ne 4, 3) := by decide +kernel
theorem dX4_readCopy_77 : decode cX4_readCopy 77 = .ok (.return_, 1) := by decide +kernel
theorem dX4_readCopy_78 : decode cX4_readCopy 78 = .ok (.iconst 0, 1) := by decide +kernel
theorem dX4_readCopy_79 : decode cX4_readCopy 79 = .ok (.istore 5, 2) := by decide +kernel
theorem dX4_readCopy_81 : decode cX4_readCopy 81 = .ok (.iload 5, 2) := by decide +kernel
theorem dX4_readCopy_83 : decode cX4_readCopy 83 = .ok (.iload 4, 2) := by decide +kernel
theorem dX4_readCopy_85 : decode cX4_readCopy 85 = .ok (.if_icmp .ge 32, 3) := by decide +kernel
theorem dX4_readCopy_88 : decode cX4_readCopy 88 = .ok (.aload_n 0, 1) := by decide +kernel
theorem dX4_readCopy_89 : decode cX4_readCopy 89 = .ok (.getfield 20, 3) := by decide +kernel
theorem dX4_readCopy_92 : decode cX4_readCopy 92 = .ok (.aload_n 0, 1) := by decide +kernel
theorem dX4_readCopy_93 : decode cX4_readCopy 93 = .ok (.getfield 20, 3) := by decide +kernel
theorem dX4_readCopy_96 : decode cX4_readCopy 96 = .ok (.aload_n 0, 1) := by decide +kernel
theorem dX4_readCopy_97 : decode cX4_readCopy 97 = .ok (.getfield 20, 3) := by decide +kernel
theorem dX4_readCopy_100 : decode cX4_readCopy 100 = .ok (.getfield 83, 3) := by decide +kernel
theorem dX4_readCopy_103 : decode cX4_readCopy 103 = .ok (.iload_n 3, 1) := by decide +kernel
theorem dX4_readCopy_104 : decode cX4_readCopy 104 = .ok (.isub, 1) := by decide +kernel
theorem dX4_readCopy_105 : decode cX4_readCopy 105 = .ok (.invokevirtual 94, 3) := by decide +kernel
theorem dX4_readCopy_108 : decode cX4_readCopy 108 = .ok (.invokevirtual 176, 3) := by decide +kernel
theorem dX4_readCopy_111 : decode cX4_readCopy 111 = .ok (.iinc 5 1, 3) := by decide +kernel
theorem dX4_readCopy_114 : decode cX4_readCopy 114 = .ok (.goto (-33), 3) := by decide +kernel
theorem dX4_readCopy_117 : decode cX4_readCopy 117 = .ok (.return_, 1) := by decide +kernel
theorem dX4_readNest_0 : decode cX4_readNest 0 = .ok (.aload_n 0, 1) := by decide +kernel
theorem dX4_readNest_1 : decode cX4_readNest 1 = .ok (.aload_n 2, 1) := by decide +kernel
theorem dX4_readNest_2 : decode cX4_readNest 2 = .ok (.getfield 128, 3) := by decide +kernel
theorem dX4_readNest_5 : decode cX4_readNest 5 = .ok (.invokevirtual 117, 3) := by decide +kernel
theorem dX4_readNest_8 : decode cX4_readNest 8 = .ok (.istore 4, 2) := by decide +kernel
