theorem dX1_init_0 : decode cX1_init 0 = .ok (.aload_n 0, 1) := by decide +kernel
theorem dX1_init_1 : decode cX1_init 1 = .ok (.invokespecial 3, 3) := by decide +kernel
theorem dX1_init_4 : decode cX1_init 4 = .ok (.aload_n 0, 1) := by decide +kernel
theorem dX1_init_5 : decode cX1_init 5 = .ok (.sipush 600, 3) := by decide +kernel
theorem dX1_init_8 : decode cX1_init 8 = .ok (.newarray .int, 2) := by decide +kernel
theorem dX1_init_10 : decode cX1_init 10 = .ok (.putfield 9, 3) := by decide +kernel
theorem dX1_init_13 : decode cX1_init 13 = .ok (.aload_n 0, 1) := by decide +kernel
theorem dX1_init_14 : decode cX1_init 14 = .ok (.sipush 600, 3) := by decide +kernel
theorem dX1_init_17 : decode cX1_init 17 = .ok (.newarray .int, 2) := by decide +kernel
theorem dX1_init_19 : decode cX1_init 19 = .ok (.putfield 15, 3) := by decide +kernel
theorem dX1_init_22 : decode cX1_init 22 = .ok (.aload_n 0, 1) := by decide +kernel
theorem dX1_init_23 : decode cX1_init 23 = .ok (.sipush 600, 3) := by decide +kernel
theorem dX1_init_26 : decode cX1_init 26 = .ok (.newarray .int, 2) := by decide +kernel
theorem dX1_init_28 : decode cX1_init 28 = .ok (.putfield 18, 3) := by decide +kernel
theorem dX1_init_31 : decode cX1_init 31 = .ok (.aload_n 0, 1) := by decide +kernel
theorem dX1_init_32 : decode cX1_init 32 = .ok (.sipush 600, 3) := by decide +kernel
theorem dX1_init_35 : decode cX1_init 35 = .ok (.newarray .int, 2) := by decide +kernel
theorem dX1_init_37 : decode cX1_init 37 = .ok (.putfield 21, 3) := by decide +kernel
theorem dX1_init_40 : decode cX1_init 40 = .ok (.aload_n 0, 1) := by decide +kernel
theorem dX1_init_41 : decode cX1_init 41 = .ok (.sipush 600, 3) := by decide +kernel
theorem dX1_init_44 : decode cX1_init 44 = .ok (.newarray .int, 2) := by decide +kernel
theorem dX1_init_46 : decode cX1_init 46 = .ok (.putfield 24, 3) := by decide +kernel
theorem dX1_init_49 : decode cX1_init 49 = .ok (.return_, 1) := by decide +kernel
theorem dX1_append_0 : decode cX1_append 0 = .ok (.aload_n 0, 1) := by decide +kernel
theorem dX1_append_1 : decode cX1_append 1 = .ok (.getfield 27, 3) := by decide +kernel
theorem dX1_append_4 : decode cX1_append 4 = .ok (.sipush 600, 3) := by decide +kernel
theorem dX1_append_7 : decode cX1_append 7 = .ok (.if_icmp .ge 65, 3) := by decide +kernel
theorem dX1_append_10 : decode cX1_append 10 = .ok (.aload_n 0, 1) := by decide +kernel
theorem dX1_append_11 : decode cX1_append 11 = .ok (.getfield 9, 3) := by decide +kernel
theorem dX1_append_14 : decode cX1_append 14 = .ok (.aload_n 0, 1) := by decide +kernel
theorem dX1_append_15 : decode cX1_append 15 = .ok (.getfield 27, 3) := by decide +kernel
theorem dX1_append_18 : decode cX1_append 18 = .ok (.iload_n 1, 1) := by decide +kernel
theorem dX1_append_19 : decode cX1_append 19 = .ok (.iastore, 1) := by decide +kernel
theorem dX1_append_20 : decode cX1_append 20 = .ok (.aload_n 0, 1) := by decide +kernel
theorem dX1_append_21 : decode cX1_append 21 = .ok (.getfield 15, 3) := by decide +kernel
theorem dX1_append_24 : decode cX1_append 24 = .ok (.aload_n 0, 1) := by decide +kernel
theorem dX1_append_25 : decode cX1_append 25 = .ok (.getfield 27, 3) := by decide +kernel
theorem dX1_append_28 : decode cX1_append 28 = .ok (.iload_n 2, 1) := by decide +kernel
theorem dX1_append_29 : decode cX1_append 29 = .ok (.iastore, 1) := by decide +kernel
theorem dX1_append_30 : decode cX1_append 30 = .ok (.aload_n 0, 1) := by decide +kernel
theorem dX1_append_31 : decode cX1_append 31 = .ok (.getfield 18, 3) := by decide +kernel
theorem dX1_append_34 : decode cX1_append 34 = .ok (.aload_n 0, 1) := by decide +kernel
theorem dX1_append_35 : decode cX1_append 35 = .ok (.getfield 27, 3) := by decide +kernel
theorem dX1_append_38 : decode cX1_append 38 = .ok (.iload_n 3, 1) := by decide +kernel
theorem dX1_append_39 : decode cX1_append 39 = .ok (.iastore, 1) := by decide +kernel
theorem dX1_append_40 : decode cX1_append 40 = .ok (.aload_n 0, 1) := by decide +kernel
theorem dX1_append_41 : decode cX1_append 41 = .ok (.getfield 21, 3) := by decide +kernel
theorem dX1_append_44 : decode cX1_append 44 = .ok (.aload_n 0, 1) := by decide +kernel
theorem dX1_append_45 : decode cX1_append 45 = .ok (.getfield 27, 3) := by decide +kernel
theorem dX1_append_48 : decode cX1_append 48 = .ok (.iload 4, 2) := by decide +kernel
theorem dX1_append_50 : decode cX1_append 50 = .ok (.iastore, 1) := by decide +kernel
theorem dX1_append_51 : decode cX1_append 51 = .ok (.aload_n 0, 1) := by decide +kernel
theorem dX1_append_52 : decode cX1_append 52 = .ok (.getfield 24, 3) := by decide +kernel
theorem dX1_append_55 : decode cX1_append 55 = .ok (.aload_n 0, 1) := by decide +kernel
theorem dX1_append_56 : decode cX1_append 56 = .ok (.getfield 27, 3) := by decide +kernel
theorem dX1_append_59 : decode cX1_append 59 = .ok (.iload 5, 2) := by decide +kernel
theorem dX1_append_61 : decode cX1_append 61 = .ok (.iastore, 1) := by decide +kernel
theorem dX1_append_62 : decode cX1_append 62 = .ok (.aload_n 0, 1) := by decide +kernel
theorem dX1_append_63 : decode cX1_append 63 = .ok (.dup, 1) := by decide +kernel
theorem dX1_append_64 : decode cX1_append 64 = .ok (.getfield 27, 3) := by decide +kernel
theorem dX1_append_67 : decode cX1_append 67 = .ok (.iconst 1, 1) := by decide +kernel
theorem dX1_append_68 : decode cX1_append 68 = .ok (.iadd, 1) := by decide +kernel
theorem dX1_append_69 : decode cX1_append 69 = .ok (.putfield 27, 3) := by decide +kernel
theorem dX1_append_72 : decode cX1_append 72 = .ok (.return_, 1) := by decide +kernel
theorem dX1_get_0 : decode cX1_get 0 = .ok (.iload_n 1, 1) := by decide +kernel
theorem dX1_get_1 : decode cX1_get 1 = .ok (.ifCond .lt 11, 3) := by decide +kernel
theorem dX1_get_4 : decode cX1_get 4 = .ok (.iload_n 1, 1) := by decide +kernel
theorem dX1_get_5 : decode cX1_get 5 = .ok (.aload_n 0, 1) := by decide +kernel
theorem dX1_get_6 : decode cX1_get 6 = .ok (.getfield 27, 3) := by decide +kernel
theorem dX1_get_9 : decode cX1_get 9 = .ok (.if_icmp .lt 5, 3) := by decide +kernel
theorem dX1_get_12 : decode cX1_get 12 = .ok (.iconst (-1), 1) := by decide +kernel
theorem dX1_get_13 : decode cX1_get 13 = .ok (.ireturn, 1) := by decide +kernel
theorem dX1_get_14 : decode cX1_get 14 = .ok (.iload_n 2, 1) := by decide +kernel
theorem dX1_get_15 : decode cX1_get 15 = .ok (.tableswitch 57 0 3 #[29, 36, 43, 50], 29) := by decide +kernel
theorem dX1_get_44 : decode cX1_get 44 = .ok (.aload_n 0, 1) := by decide +kernel
theorem dX1_get_45 : decode cX1_get 45 = .ok (.getfield 9, 3) := by decide +kernel
theorem dX1_get_48 : decode cX1_get 48 = .ok (.iload_n 1, 1) := by decide +kernel
theorem dX1_get_49 : decode cX1_get 49 = .ok (.iaload, 1) := by decide +kernel
theorem dX1_get_50 : decode cX1_get 50 = .ok (.ireturn, 1) := by decide +kernel
theorem dX1_get_51 : decode cX1_get 51 = .ok (.aload_n 0, 1) := by decide +kernel
theorem dX1_get_52 : decode cX1_get 52 = .ok (.getfield 15, 3) := by decide +kernel
theorem dX1_get_55 : decode cX1_get 55 = .ok (.iload_n 1, 1) := by decide +kernel
theorem dX1_get_56 : decode cX1_get 56 = .ok (.iaload, 1) := by decide +kernel
theorem dX1_get_57 : decode cX1_get 57 = .ok (.ireturn, 1) := by decide +kernel
theorem dX1_get_58 : decode cX1_get 58 = .ok (.aload_n 0, 1) := by decide +kernel
theorem dX1_get_59 : decode cX1_get 59 = .ok (.getfield 18, 3) := by decide +kernel
theorem dX1_get_62 : decode cX1_get 62 = .ok (.iload_n 1, 1) := by decide +kernel
theorem dX1_get_63 : decode cX1_get 63 = .ok (.iaload, 1) := by decide +kernel
theorem dX1_get_64 : decode cX1_get 64 = .ok (.ireturn, 1) := by decide +kernel
theorem dX1_get_65 : decode cX1_get 65 = .ok (.aload_n 0, 1) := by decide +kernel
theorem dX1_get_66 : decode cX1_get 66 = .ok (.getfield 21, 3) := by decide +kernel
theorem dX1_get_69 : decode cX1_get 69 = .ok (.iload_n 1, 1) := by decide +kernel
theorem dX1_get_70 : decode cX1_get 70 = .ok (.iaload, 1) := by decide +kernel
theorem dX1_get_71 : decode cX1_get 71 = .ok (.ireturn, 1) := by decide +kernel
theorem dX1_get_72 : decode cX1_get 72 = .ok (.iconst (-1), 1) := by decide +kernel
theorem dX1_get_73 : decode cX1_get 73 = .ok (.ireturn, 1) := by decide +kernel
theorem dX1_copyLengths_0 : decode cX1_copyLengths 0 = .ok (.aload_n 0, 1) := by decide +kernel
theorem dX1_copyLengths_1 : decode cX1_copyLengths 1 = .ok (.getfield 27, 3) := by decide +kernel
theorem dX1_copyLengths_4 : decode cX1_copyLengths 4 = .ok (.aload_n 1, 1) := by decide +kernel
theorem dX1_copyLengths_5 : decode cX1_copyLengths 5 = .ok (.arraylength, 1) := by decide +kernel
theorem dX1_copyLengths_6 : decode cX1_copyLengths 6 = .ok (.invokestatic 31, 3) := by decide +kernel
theorem dX1_copyLengths_9 : decode cX1_copyLengths 9 = .ok (.istore_n 2, 1) := by decide +kernel
theorem dX1_copyLengths_10 : decode cX1_copyLengths 10 = .ok (.aload_n 0, 1) := by decide +kernel
theorem dX1_copyLengths_11 : decode cX1_copyLengths 11 = .ok (.getfield 24, 3) := by decide +kernel
theorem dX1_copyLengths_14 : decode cX1_copyLengths 14 = .ok (.iconst 0, 1) := by decide +kernel
theorem dX1_copyLengths_15 : decode cX1_copyLengths 15 = .ok (.aload_n 1, 1) := by decide +kernel
theorem dX1_copyLengths_16 : decode cX1_copyLengths 16 = .ok (.iconst 0, 1) := by decide +kernel
theorem dX1_copyLengths_17 : decode cX1_copyLengths 17 = .ok (.iload_n 2, 1) := by decide +kernel
theorem dX1_copyLengths_18 : decode cX1_copyLengths 18 = .ok (.invokestatic 37, 3) := by decide +kernel
theorem dX1_copyLengths_21 : decode cX1_copyLengths 21 = .ok (.iload_n 2, 1) := by decide +kernel
theorem dX1_copyLengths_22 : decode cX1_copyLengths 22 = .ok (.ireturn, 1) := by decide +kernel
