theorem dX0_init_0 : decode cX0_init 0 = .ok (.aload_n 0, 1) := by decide +kernel
theorem dX0_init_1 : decode cX0_init 1 = .ok (.invokespecial 3, 3) := by decide +kernel
theorem dX0_init_4 : decode cX0_init 4 = .ok (.aload_n 0, 1) := by decide +kernel
theorem dX0_init_5 : decode cX0_init 5 = .ok (.iconst 0, 1) := by decide +kernel
theorem dX0_init_6 : decode cX0_init 6 = .ok (.iload_n 1, 1) := by decide +kernel
theorem dX0_init_7 : decode cX0_init 7 = .ok (.invokestatic 9, 3) := by decide +kernel
theorem dX0_init_10 : decode cX0_init 10 = .ok (.newarray .int, 2) := by decide +kernel
theorem dX0_init_12 : decode cX0_init 12 = .ok (.putfield 15, 3) := by decide +kernel
theorem dX0_init_15 : decode cX0_init 15 = .ok (.aload_n 0, 1) := by decide +kernel
theorem dX0_init_16 : decode cX0_init 16 = .ok (.iconst 0, 1) := by decide +kernel
theorem dX0_init_17 : decode cX0_init 17 = .ok (.iload_n 2, 1) := by decide +kernel
theorem dX0_init_18 : decode cX0_init 18 = .ok (.invokestatic 9, 3) := by decide +kernel
theorem dX0_init_21 : decode cX0_init 21 = .ok (.newarray .int, 2) := by decide +kernel
theorem dX0_init_23 : decode cX0_init 23 = .ok (.putfield 21, 3) := by decide +kernel
theorem dX0_init_26 : decode cX0_init 26 = .ok (.return_, 1) := by decide +kernel
theorem dX0_get_0 : decode cX0_get 0 = .ok (.iload_n 1, 1) := by decide +kernel
theorem dX0_get_1 : decode cX0_get 1 = .ok (.ifCond .lt 20, 3) := by decide +kernel
theorem dX0_get_4 : decode cX0_get 4 = .ok (.iload_n 1, 1) := by decide +kernel
theorem dX0_get_5 : decode cX0_get 5 = .ok (.aload_n 0, 1) := by decide +kernel
theorem dX0_get_6 : decode cX0_get 6 = .ok (.getfield 24, 3) := by decide +kernel
theorem dX0_get_9 : decode cX0_get 9 = .ok (.if_icmp .ge 12, 3) := by decide +kernel
theorem dX0_get_12 : decode cX0_get 12 = .ok (.aload_n 0, 1) := by decide +kernel
theorem dX0_get_13 : decode cX0_get 13 = .ok (.getfield 15, 3) := by decide +kernel
theorem dX0_get_16 : decode cX0_get 16 = .ok (.iload_n 1, 1) := by decide +kernel
theorem dX0_get_17 : decode cX0_get 17 = .ok (.iaload, 1) := by decide +kernel
theorem dX0_get_18 : decode cX0_get 18 = .ok (.goto 4, 3) := by decide +kernel
theorem dX0_get_21 : decode cX0_get 21 = .ok (.iconst (-1), 1) := by decide +kernel
theorem dX0_get_22 : decode cX0_get 22 = .ok (.ireturn, 1) := by decide +kernel
theorem dX0_put_0 : decode cX0_put 0 = .ok (.iload_n 1, 1) := by decide +kernel
theorem dX0_put_1 : decode cX0_put 1 = .ok (.ifCond .lt 18, 3) := by decide +kernel
theorem dX0_put_4 : decode cX0_put 4 = .ok (.iload_n 1, 1) := by decide +kernel
theorem dX0_put_5 : decode cX0_put 5 = .ok (.aload_n 0, 1) := by decide +kernel
theorem dX0_put_6 : decode cX0_put 6 = .ok (.getfield 24, 3) := by decide +kernel
theorem dX0_put_9 : decode cX0_put 9 = .ok (.if_icmp .ge 10, 3) := by decide +kernel
theorem dX0_put_12 : decode cX0_put 12 = .ok (.aload_n 0, 1) := by decide +kernel
theorem dX0_put_13 : decode cX0_put 13 = .ok (.getfield 15, 3) := by decide +kernel
theorem dX0_put_16 : decode cX0_put 16 = .ok (.iload_n 1, 1) := by decide +kernel
theorem dX0_put_17 : decode cX0_put 17 = .ok (.iload_n 2, 1) := by decide +kernel
theorem dX0_put_18 : decode cX0_put 18 = .ok (.iastore, 1) := by decide +kernel
theorem dX0_put_19 : decode cX0_put 19 = .ok (.return_, 1) := by decide +kernel
theorem dX0_append_0 : decode cX0_append 0 = .ok (.aload_n 0, 1) := by decide +kernel
theorem dX0_append_1 : decode cX0_append 1 = .ok (.getfield 24, 3) := by decide +kernel
theorem dX0_append_4 : decode cX0_append 4 = .ok (.aload_n 0, 1) := by decide +kernel
theorem dX0_append_5 : decode cX0_append 5 = .ok (.getfield 15, 3) := by decide +kernel
theorem dX0_append_8 : decode cX0_append 8 = .ok (.arraylength, 1) := by decide +kernel
theorem dX0_append_9 : decode cX0_append 9 = .ok (.if_icmp .ge 23, 3) := by decide +kernel
theorem dX0_append_12 : decode cX0_append 12 = .ok (.aload_n 0, 1) := by decide +kernel
theorem dX0_append_13 : decode cX0_append 13 = .ok (.getfield 15, 3) := by decide +kernel
theorem dX0_append_16 : decode cX0_append 16 = .ok (.aload_n 0, 1) := by decide +kernel
theorem dX0_append_17 : decode cX0_append 17 = .ok (.getfield 24, 3) := by decide +kernel
theorem dX0_append_20 : decode cX0_append 20 = .ok (.iload_n 1, 1) := by decide +kernel
theorem dX0_append_21 : decode cX0_append 21 = .ok (.iastore, 1) := by decide +kernel
theorem dX0_append_22 : decode cX0_append 22 = .ok (.aload_n 0, 1) := by decide +kernel
theorem dX0_append_23 : decode cX0_append 23 = .ok (.dup, 1) := by decide +kernel
theorem dX0_append_24 : decode cX0_append 24 = .ok (.getfield 24, 3) := by decide +kernel
theorem dX0_append_27 : decode cX0_append 27 = .ok (.iconst 1, 1) := by decide +kernel
theorem dX0_append_28 : decode cX0_append 28 = .ok (.iadd, 1) := by decide +kernel
theorem dX0_append_29 : decode cX0_append 29 = .ok (.putfield 24, 3) := by decide +kernel
theorem dX0_append_32 : decode cX0_append 32 = .ok (.return_, 1) := by decide +kernel
theorem dX0_keepFirst_0 : decode cX0_keepFirst 0 = .ok (.aload_n 0, 1) := by decide +kernel
theorem dX0_keepFirst_1 : decode cX0_keepFirst 1 = .ok (.iconst 0, 1) := by decide +kernel
theorem dX0_keepFirst_2 : decode cX0_keepFirst 2 = .ok (.iload_n 1, 1) := by decide +kernel
theorem dX0_keepFirst_3 : decode cX0_keepFirst 3 = .ok (.aload_n 0, 1) := by decide +kernel
theorem dX0_keepFirst_4 : decode cX0_keepFirst 4 = .ok (.getfield 24, 3) := by decide +kernel
theorem dX0_keepFirst_7 : decode cX0_keepFirst 7 = .ok (.invokestatic 28, 3) := by decide +kernel
theorem dX0_keepFirst_10 : decode cX0_keepFirst 10 = .ok (.invokestatic 9, 3) := by decide +kernel
theorem dX0_keepFirst_13 : decode cX0_keepFirst 13 = .ok (.putfield 24, 3) := by decide +kernel
theorem dX0_keepFirst_16 : decode cX0_keepFirst 16 = .ok (.return_, 1) := by decide +kernel
theorem dX0_checkOf_0 : decode cX0_checkOf 0 = .ok (.iconst 0, 1) := by decide +kernel
theorem dX0_checkOf_1 : decode cX0_checkOf 1 = .ok (.istore_n 3, 1) := by decide +kernel
theorem dX0_checkOf_2 : decode cX0_checkOf 2 = .ok (.iconst 0, 1) := by decide +kernel
theorem dX0_checkOf_3 : decode cX0_checkOf 3 = .ok (.iload_n 1, 1) := by decide +kernel
theorem dX0_checkOf_4 : decode cX0_checkOf 4 = .ok (.invokestatic 9, 3) := by decide +kernel
theorem dX0_checkOf_7 : decode cX0_checkOf 7 = .ok (.istore 4, 2) := by decide +kernel
theorem dX0_checkOf_9 : decode cX0_checkOf 9 = .ok (.iload 4, 2) := by decide +kernel
theorem dX0_checkOf_11 : decode cX0_checkOf 11 = .ok (.iload_n 2, 1) := by decide +kernel
theorem dX0_checkOf_12 : decode cX0_checkOf 12 = .ok (.if_icmp .ge 28, 3) := by decide +kernel
theorem dX0_checkOf_15 : decode cX0_checkOf 15 = .ok (.iload 4, 2) := by decide +kernel
theorem dX0_checkOf_17 : decode cX0_checkOf 17 = .ok (.aload_n 0, 1) := by decide +kernel
theorem dX0_checkOf_18 : decode cX0_checkOf 18 = .ok (.getfield 24, 3) := by decide +kernel
theorem dX0_checkOf_21 : decode cX0_checkOf 21 = .ok (.if_icmp .ge 19, 3) := by decide +kernel
theorem dX0_checkOf_24 : decode cX0_checkOf 24 = .ok (.iload_n 3, 1) := by decide +kernel
theorem dX0_checkOf_25 : decode cX0_checkOf 25 = .ok (.aload_n 0, 1) := by decide +kernel
theorem dX0_checkOf_26 : decode cX0_checkOf 26 = .ok (.getfield 15, 3) := by decide +kernel
theorem dX0_checkOf_29 : decode cX0_checkOf 29 = .ok (.iload 4, 2) := by decide +kernel
theorem dX0_checkOf_31 : decode cX0_checkOf 31 = .ok (.iaload, 1) := by decide +kernel
theorem dX0_checkOf_32 : decode cX0_checkOf 32 = .ok (.iadd, 1) := by decide +kernel
theorem dX0_checkOf_33 : decode cX0_checkOf 33 = .ok (.istore_n 3, 1) := by decide +kernel
theorem dX0_checkOf_34 : decode cX0_checkOf 34 = .ok (.iinc 4 1, 3) := by decide +kernel
theorem dX0_checkOf_37 : decode cX0_checkOf 37 = .ok (.goto (-28), 3) := by decide +kernel
theorem dX0_checkOf_40 : decode cX0_checkOf 40 = .ok (.iload_n 3, 1) := by decide +kernel
theorem dX0_checkOf_41 : decode cX0_checkOf 41 = .ok (.sipush 255, 3) := by decide +kernel
theorem dX0_checkOf_44 : decode cX0_checkOf 44 = .ok (.iand, 1) := by decide +kernel
theorem dX0_checkOf_45 : decode cX0_checkOf 45 = .ok (.ireturn, 1) := by decide +kernel
theorem dX0_takeOut_0 : decode cX0_takeOut 0 = .ok (.aload_n 0, 1) := by decide +kernel
theorem dX0_takeOut_1 : decode cX0_takeOut 1 = .ok (.iconst 0, 1) := by decide +kernel
theorem dX0_takeOut_2 : decode cX0_takeOut 2 = .ok (.putfield 31, 3) := by decide +kernel
theorem dX0_takeOut_5 : decode cX0_takeOut 5 = .ok (.iload_n 1, 1) := by decide +kernel
theorem dX0_takeOut_6 : decode cX0_takeOut 6 = .ok (.ifCond .lt 26, 3) := by decide +kernel
theorem dX0_takeOut_9 : decode cX0_takeOut 9 = .ok (.iload_n 2, 1) := by decide +kernel
theorem dX0_takeOut_10 : decode cX0_takeOut 10 = .ok (.ifCond .lt 22, 3) := by decide +kernel
theorem dX0_takeOut_13 : decode cX0_takeOut 13 = .ok (.iload_n 2, 1) := by decide +kernel
theorem dX0_takeOut_14 : decode cX0_takeOut 14 = .ok (.aload_n 0, 1) := by decide +kernel
theorem dX0_takeOut_15 : decode cX0_takeOut 15 = .ok (.getfield 21, 3) := by decide +kernel
theorem dX0_takeOut_18 : decode cX0_takeOut 18 = .ok (.arraylength, 1) := by decide +kernel
theorem dX0_takeOut_19 : decode cX0_takeOut 19 = .ok (.if_icmp .gt 13, 3) := by decide +kernel
theorem dX0_takeOut_22 : decode cX0_takeOut 22 = .ok (.iload_n 2, 1) := by decide +kernel
theorem dX0_takeOut_23 : decode cX0_takeOut 23 = .ok (.aload_n 0, 1) := by decide +kernel
theorem dX0_takeOut_24 : decode cX0_takeOut 24 = .ok (.getfield 24, 3) := by decide +kernel
theorem dX0_takeOut_27 : decode cX0_takeOut 27 = .ok (.iload_n 1, 1) := by decide +kernel
theorem dX0_takeOut_28 : decode cX0_takeOut 28 = .ok (.isub, 1) := by decide +kernel
theorem dX0_takeOut_29 : decode cX0_takeOut 29 = .ok (.if_icmp .le 4, 3) := by decide +kernel
theorem dX0_takeOut_32 : decode cX0_takeOut 32 = .ok (.return_, 1) := by decide +kernel
theorem dX0_takeOut_33 : decode cX0_takeOut 33 = .ok (.aload_n 0, 1) := by decide +kernel
theorem dX0_takeOut_34 : decode cX0_takeOut 34 = .ok (.getfield 15, 3) := by decide +kernel
theorem dX0_takeOut_37 : decode cX0_takeOut 37 = .ok (.iload_n 1, 1) := by decide +kernel
theorem dX0_takeOut_38 : decode cX0_takeOut 38 = .ok (.aload_n 0, 1) := by decide +kernel
theorem dX0_takeOut_39 : decode cX0_takeOut 39 = .ok (.getfield 21, 3) := by decide +kernel
theorem dX0_takeOut_42 : decode cX0_takeOut 42 = .ok (.iconst 0, 1) := by decide +kernel
theorem dX0_takeOut_43 : decode cX0_takeOut 43 = .ok (.iload_n 2, 1) := by decide +kernel
theorem dX0_takeOut_44 : decode cX0_takeOut 44 = .ok (.invokestatic 34, 3) := by decide +kernel
theorem dX0_takeOut_47 : decode cX0_takeOut 47 = .ok (.aload_n 0, 1) := by decide +kernel
theorem dX0_takeOut_48 : decode cX0_takeOut 48 = .ok (.getfield 15, 3) := by decide +kernel
theorem dX0_takeOut_51 : decode cX0_takeOut 51 = .ok (.iload_n 1, 1) := by decide +kernel
theorem dX0_takeOut_52 : decode cX0_takeOut 52 = .ok (.iload_n 2, 1) := by decide +kernel
theorem dX0_takeOut_53 : decode cX0_takeOut 53 = .ok (.iadd, 1) := by decide +kernel
theorem dX0_takeOut_54 : decode cX0_takeOut 54 = .ok (.aload_n 0, 1) := by decide +kernel
theorem dX0_takeOut_55 : decode cX0_takeOut 55 = .ok (.getfield 15, 3) := by decide +kernel
theorem dX0_takeOut_58 : decode cX0_takeOut 58 = .ok (.iload_n 1, 1) := by decide +kernel
theorem dX0_takeOut_59 : decode cX0_takeOut 59 = .ok (.aload_n 0, 1) := by decide +kernel
theorem dX0_takeOut_60 : decode cX0_takeOut 60 = .ok (.getfield 24, 3) := by decide +kernel
theorem dX0_takeOut_63 : decode cX0_takeOut 63 = .ok (.iload_n 1, 1) := by decide +kernel
theorem dX0_takeOut_64 : decode cX0_takeOut 64 = .ok (.isub, 1) := by decide +kernel
theorem dX0_takeOut_65 : decode cX0_takeOut 65 = .ok (.iload_n 2, 1) := by decide +kernel
theorem dX0_takeOut_66 : decode cX0_takeOut 66 = .ok (.isub, 1) := by decide +kernel
theorem dX0_takeOut_67 : decode cX0_takeOut 67 = .ok (.invokestatic 34, 3) := by decide +kernel
theorem dX0_takeOut_70 : decode cX0_takeOut 70 = .ok (.aload_n 0, 1) := by decide +kernel
theorem dX0_takeOut_71 : decode cX0_takeOut 71 = .ok (.iload_n 2, 1) := by decide +kernel
theorem dX0_takeOut_72 : decode cX0_takeOut 72 = .ok (.putfield 31, 3) := by decide +kernel
theorem dX0_takeOut_75 : decode cX0_takeOut 75 = .ok (.aload_n 0, 1) := by decide +kernel
theorem dX0_takeOut_76 : decode cX0_takeOut 76 = .ok (.dup, 1) := by decide +kernel
theorem dX0_takeOut_77 : decode cX0_takeOut 77 = .ok (.getfield 24, 3) := by decide +kernel
theorem dX0_takeOut_80 : decode cX0_takeOut 80 = .ok (.iload_n 2, 1) := by decide +kernel
theorem dX0_takeOut_81 : decode cX0_takeOut 81 = .ok (.isub, 1) := by decide +kernel
theorem dX0_takeOut_82 : decode cX0_takeOut 82 = .ok (.putfield 24, 3) := by decide +kernel
theorem dX0_takeOut_85 : decode cX0_takeOut 85 = .ok (.return_, 1) := by decide +kernel
theorem dX0_putBack_0 : decode cX0_putBack 0 = .ok (.iload_n 1, 1) := by decide +kernel
theorem dX0_putBack_1 : decode cX0_putBack 1 = .ok (.ifCond .lt 28, 3) := by decide +kernel
theorem dX0_putBack_4 : decode cX0_putBack 4 = .ok (.iload_n 1, 1) := by decide +kernel
theorem dX0_putBack_5 : decode cX0_putBack 5 = .ok (.aload_n 0, 1) := by decide +kernel
theorem dX0_putBack_6 : decode cX0_putBack 6 = .ok (.getfield 24, 3) := by decide +kernel
theorem dX0_putBack_9 : decode cX0_putBack 9 = .ok (.if_icmp .gt 20, 3) := by decide +kernel
theorem dX0_putBack_12 : decode cX0_putBack 12 = .ok (.aload_n 0, 1) := by decide +kernel
theorem dX0_putBack_13 : decode cX0_putBack 13 = .ok (.getfield 31, 3) := by decide +kernel
theorem dX0_putBack_16 : decode cX0_putBack 16 = .ok (.aload_n 0, 1) := by decide +kernel
theorem dX0_putBack_17 : decode cX0_putBack 17 = .ok (.getfield 15, 3) := by decide +kernel
theorem dX0_putBack_20 : decode cX0_putBack 20 = .ok (.arraylength, 1) := by decide +kernel
theorem dX0_putBack_21 : decode cX0_putBack 21 = .ok (.aload_n 0, 1) := by decide +kernel
theorem dX0_putBack_22 : decode cX0_putBack 22 = .ok (.getfield 24, 3) := by decide +kernel
theorem dX0_putBack_25 : decode cX0_putBack 25 = .ok (.isub, 1) := by decide +kernel
theorem dX0_putBack_26 : decode cX0_putBack 26 = .ok (.if_icmp .le 4, 3) := by decide +kernel
theorem dX0_putBack_29 : decode cX0_putBack 29 = .ok (.return_, 1) := by decide +kernel
theorem dX0_putBack_30 : decode cX0_putBack 30 = .ok (.aload_n 0, 1) := by decide +kernel
theorem dX0_putBack_31 : decode cX0_putBack 31 = .ok (.getfield 15, 3) := by decide +kernel
theorem dX0_putBack_34 : decode cX0_putBack 34 = .ok (.iload_n 1, 1) := by decide +kernel
theorem dX0_putBack_35 : decode cX0_putBack 35 = .ok (.aload_n 0, 1) := by decide +kernel
theorem dX0_putBack_36 : decode cX0_putBack 36 = .ok (.getfield 15, 3) := by decide +kernel
theorem dX0_putBack_39 : decode cX0_putBack 39 = .ok (.iload_n 1, 1) := by decide +kernel
theorem dX0_putBack_40 : decode cX0_putBack 40 = .ok (.aload_n 0, 1) := by decide +kernel
theorem dX0_putBack_41 : decode cX0_putBack 41 = .ok (.getfield 31, 3) := by decide +kernel
theorem dX0_putBack_44 : decode cX0_putBack 44 = .ok (.iadd, 1) := by decide +kernel
theorem dX0_putBack_45 : decode cX0_putBack 45 = .ok (.aload_n 0, 1) := by decide +kernel
theorem dX0_putBack_46 : decode cX0_putBack 46 = .ok (.getfield 24, 3) := by decide +kernel
theorem dX0_putBack_49 : decode cX0_putBack 49 = .ok (.iload_n 1, 1) := by decide +kernel
theorem dX0_putBack_50 : decode cX0_putBack 50 = .ok (.isub, 1) := by decide +kernel
theorem dX0_putBack_51 : decode cX0_putBack 51 = .ok (.invokestatic 34, 3) := by decide +kernel
theorem dX0_putBack_54 : decode cX0_putBack 54 = .ok (.aload_n 0, 1) := by decide +kernel
theorem dX0_putBack_55 : decode cX0_putBack 55 = .ok (.getfield 21, 3) := by decide +kernel
theorem dX0_putBack_58 : decode cX0_putBack 58 = .ok (.iconst 0, 1) := by decide +kernel
theorem dX0_putBack_59 : decode cX0_putBack 59 = .ok (.aload_n 0, 1) := by decide +kernel
theorem dX0_putBack_60 : decode cX0_putBack 60 = .ok (.getfield 15, 3) := by decide +kernel
theorem dX0_putBack_63 : decode cX0_putBack 63 = .ok (.iload_n 1, 1) := by decide +kernel
theorem dX0_putBack_64 : decode cX0_putBack 64 = .ok (.aload_n 0, 1) := by decide +kernel
theorem dX0_putBack_65 : decode cX0_putBack 65 = .ok (.getfield 31, 3) := by decide +kernel
theorem dX0_putBack_68 : decode cX0_putBack 68 = .ok (.invokestatic 34, 3) := by decide +kernel
theorem dX0_putBack_71 : decode cX0_putBack 71 = .ok (.aload_n 0, 1) := by decide +kernel
theorem dX0_putBack_72 : decode cX0_putBack 72 = .ok (.dup, 1) := by decide +kernel
theorem dX0_putBack_73 : decode cX0_putBack 73 = .ok (.getfield 24, 3) := by decide +kernel
theorem dX0_putBack_76 : decode cX0_putBack 76 = .ok (.aload_n 0, 1) := by decide +kernel
theorem dX0_putBack_77 : decode cX0_putBack 77 = .ok (.getfield 31, 3) := by decide +kernel
theorem dX0_putBack_80 : decode cX0_putBack 80 = .ok (.iadd, 1) := by decide +kernel
theorem dX0_putBack_81 : decode cX0_putBack 81 = .ok (.putfield 24, 3) := by decide +kernel
theorem dX0_putBack_84 : decode cX0_putBack 84 = .ok (.aload_n 0, 1) := by decide +kernel
theorem dX0_putBack_85 : decode cX0_putBack 85 = .ok (.iconst 0, 1) := by decide +kernel
theorem dX0_putBack_86 : decode cX0_putBack 86 = .ok (.putfield 31, 3) := by decide +kernel
theorem dX0_putBack_89 : decode cX0_putBack 89 = .ok (.return_, 1) := by decide +kernel
