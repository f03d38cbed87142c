theorem dX6_init_0 : decode cX6_init 0 = .ok (.aload_n 0, 1) := by decide +kernel
theorem dX6_init_1 : decode cX6_init 1 = .ok (.invokespecial 3, 3) := by decide +kernel
theorem dX6_init_4 : decode cX6_init 4 = .ok (.aload_n 0, 1) := by decide +kernel
theorem dX6_init_5 : decode cX6_init 5 = .ok (.new 9, 3) := by decide +kernel
theorem dX6_init_8 : decode cX6_init 8 = .ok (.dup, 1) := by decide +kernel
theorem dX6_init_9 : decode cX6_init 9 = .ok (.sipush 1200, 3) := by decide +kernel
theorem dX6_init_12 : decode cX6_init 12 = .ok (.sipush 1200, 3) := by decide +kernel
theorem dX6_init_15 : decode cX6_init 15 = .ok (.invokespecial 11, 3) := by decide +kernel
theorem dX6_init_18 : decode cX6_init 18 = .ok (.putfield 14, 3) := by decide +kernel
theorem dX6_init_21 : decode cX6_init 21 = .ok (.aload_n 0, 1) := by decide +kernel
theorem dX6_init_22 : decode cX6_init 22 = .ok (.new 18, 3) := by decide +kernel
theorem dX6_init_25 : decode cX6_init 25 = .ok (.dup, 1) := by decide +kernel
theorem dX6_init_26 : decode cX6_init 26 = .ok (.aload_n 0, 1) := by decide +kernel
theorem dX6_init_27 : decode cX6_init 27 = .ok (.getfield 14, 3) := by decide +kernel
theorem dX6_init_30 : decode cX6_init 30 = .ok (.lload_n 1, 1) := by decide +kernel
theorem dX6_init_31 : decode cX6_init 31 = .ok (.invokespecial 20, 3) := by decide +kernel
theorem dX6_init_34 : decode cX6_init 34 = .ok (.putfield 23, 3) := by decide +kernel
theorem dX6_init_37 : decode cX6_init 37 = .ok (.aload_n 0, 1) := by decide +kernel
theorem dX6_init_38 : decode cX6_init 38 = .ok (.new 27, 3) := by decide +kernel
theorem dX6_init_41 : decode cX6_init 41 = .ok (.dup, 1) := by decide +kernel
theorem dX6_init_42 : decode cX6_init 42 = .ok (.aload_n 0, 1) := by decide +kernel
theorem dX6_init_43 : decode cX6_init 43 = .ok (.getfield 14, 3) := by decide +kernel
theorem dX6_init_46 : decode cX6_init 46 = .ok (.invokespecial 29, 3) := by decide +kernel
theorem dX6_init_49 : decode cX6_init 49 = .ok (.putfield 32, 3) := by decide +kernel
theorem dX6_init_52 : decode cX6_init 52 = .ok (.aload_n 0, 1) := by decide +kernel
theorem dX6_init_53 : decode cX6_init 53 = .ok (.sipush 600, 3) := by decide +kernel
theorem dX6_init_56 : decode cX6_init 56 = .ok (.newarray .int, 2) := by decide +kernel
theorem dX6_init_58 : decode cX6_init 58 = .ok (.putfield 36, 3) := by decide +kernel
theorem dX6_init_61 : decode cX6_init 61 = .ok (.return_, 1) := by decide +kernel
theorem dX6_feed_0 : decode cX6_feed 0 = .ok (.iload_n 1, 1) := by decide +kernel
theorem dX6_feed_1 : decode cX6_feed 1 = .ok (.iconst 1, 1) := by decide +kernel
theorem dX6_feed_2 : decode cX6_feed 2 = .ok (.if_icmp .lt 9, 3) := by decide +kernel
theorem dX6_feed_5 : decode cX6_feed 5 = .ok (.iload_n 1, 1) := by decide +kernel
theorem dX6_feed_6 : decode cX6_feed 6 = .ok (.bipush 8, 2) := by decide +kernel
theorem dX6_feed_8 : decode cX6_feed 8 = .ok (.if_icmp .le 6, 3) := by decide +kernel
theorem dX6_feed_11 : decode cX6_feed 11 = .ok (.bipush (-2), 2) := by decide +kernel
theorem dX6_feed_13 : decode cX6_feed 13 = .ok (.ireturn, 1) := by decide +kernel
theorem dX6_feed_14 : decode cX6_feed 14 = .ok (.aload_n 0, 1) := by decide +kernel
theorem dX6_feed_15 : decode cX6_feed 15 = .ok (.getfield 14, 3) := by decide +kernel
theorem dX6_feed_18 : decode cX6_feed 18 = .ok (.getfield 40, 3) := by decide +kernel
theorem dX6_feed_21 : decode cX6_feed 21 = .ok (.iload_n 1, 1) := by decide +kernel
theorem dX6_feed_22 : decode cX6_feed 22 = .ok (.iadd, 1) := by decide +kernel
theorem dX6_feed_23 : decode cX6_feed 23 = .ok (.sipush 1200, 3) := by decide +kernel
theorem dX6_feed_26 : decode cX6_feed 26 = .ok (.if_icmp .le 6, 3) := by decide +kernel
theorem dX6_feed_29 : decode cX6_feed 29 = .ok (.bipush (-4), 2) := by decide +kernel
theorem dX6_feed_31 : decode cX6_feed 31 = .ok (.ireturn, 1) := by decide +kernel
theorem dX6_feed_32 : decode cX6_feed 32 = .ok (.iload_n 1, 1) := by decide +kernel
theorem dX6_feed_33 : decode cX6_feed 33 = .ok (.iconst 1, 1) := by decide +kernel
theorem dX6_feed_34 : decode cX6_feed 34 = .ok (.isub, 1) := by decide +kernel
theorem dX6_feed_35 : decode cX6_feed 35 = .ok (.istore 4, 2) := by decide +kernel
theorem dX6_feed_37 : decode cX6_feed 37 = .ok (.iload 4, 2) := by decide +kernel
theorem dX6_feed_39 : decode cX6_feed 39 = .ok (.ifCond .lt 28, 3) := by decide +kernel
theorem dX6_feed_42 : decode cX6_feed 42 = .ok (.aload_n 0, 1) := by decide +kernel
theorem dX6_feed_43 : decode cX6_feed 43 = .ok (.getfield 14, 3) := by decide +kernel
theorem dX6_feed_46 : decode cX6_feed 46 = .ok (.lload_n 2, 1) := by decide +kernel
theorem dX6_feed_47 : decode cX6_feed 47 = .ok (.bipush 8, 2) := by decide +kernel
theorem dX6_feed_49 : decode cX6_feed 49 = .ok (.iload 4, 2) := by decide +kernel
theorem dX6_feed_51 : decode cX6_feed 51 = .ok (.imul, 1) := by decide +kernel
theorem dX6_feed_52 : decode cX6_feed 52 = .ok (.lushr, 1) := by decide +kernel
theorem dX6_feed_53 : decode cX6_feed 53 = .ok (.l2i, 1) := by decide +kernel
theorem dX6_feed_54 : decode cX6_feed 54 = .ok (.sipush 255, 3) := by decide +kernel
theorem dX6_feed_57 : decode cX6_feed 57 = .ok (.iand, 1) := by decide +kernel
theorem dX6_feed_58 : decode cX6_feed 58 = .ok (.invokevirtual 44, 3) := by decide +kernel
theorem dX6_feed_61 : decode cX6_feed 61 = .ok (.iinc 4 (-1), 3) := by decide +kernel
theorem dX6_feed_64 : decode cX6_feed 64 = .ok (.goto (-27), 3) := by decide +kernel
theorem dX6_feed_67 : decode cX6_feed 67 = .ok (.aload_n 0, 1) := by decide +kernel
theorem dX6_feed_68 : decode cX6_feed 68 = .ok (.getfield 14, 3) := by decide +kernel
theorem dX6_feed_71 : decode cX6_feed 71 = .ok (.getfield 40, 3) := by decide +kernel
theorem dX6_feed_74 : decode cX6_feed 74 = .ok (.ireturn, 1) := by decide +kernel
theorem dX6_cut_0 : decode cX6_cut 0 = .ok (.iload_n 1, 1) := by decide +kernel
theorem dX6_cut_1 : decode cX6_cut 1 = .ok (.ifCond .lt 14, 3) := by decide +kernel
theorem dX6_cut_4 : decode cX6_cut 4 = .ok (.iload_n 1, 1) := by decide +kernel
theorem dX6_cut_5 : decode cX6_cut 5 = .ok (.aload_n 0, 1) := by decide +kernel
theorem dX6_cut_6 : decode cX6_cut 6 = .ok (.getfield 14, 3) := by decide +kernel
theorem dX6_cut_9 : decode cX6_cut 9 = .ok (.getfield 40, 3) := by decide +kernel
theorem dX6_cut_12 : decode cX6_cut 12 = .ok (.if_icmp .le 6, 3) := by decide +kernel
theorem dX6_cut_15 : decode cX6_cut 15 = .ok (.bipush (-2), 2) := by decide +kernel
theorem dX6_cut_17 : decode cX6_cut 17 = .ok (.ireturn, 1) := by decide +kernel
theorem dX6_cut_18 : decode cX6_cut 18 = .ok (.aload_n 0, 1) := by decide +kernel
theorem dX6_cut_19 : decode cX6_cut 19 = .ok (.getfield 14, 3) := by decide +kernel
theorem dX6_cut_22 : decode cX6_cut 22 = .ok (.getfield 40, 3) := by decide +kernel
theorem dX6_cut_25 : decode cX6_cut 25 = .ok (.iload_n 1, 1) := by decide +kernel
theorem dX6_cut_26 : decode cX6_cut 26 = .ok (.isub, 1) := by decide +kernel
theorem dX6_cut_27 : decode cX6_cut 27 = .ok (.istore_n 2, 1) := by decide +kernel
theorem dX6_cut_28 : decode cX6_cut 28 = .ok (.aload_n 0, 1) := by decide +kernel
theorem dX6_cut_29 : decode cX6_cut 29 = .ok (.getfield 14, 3) := by decide +kernel
theorem dX6_cut_32 : decode cX6_cut 32 = .ok (.iload_n 1, 1) := by decide +kernel
theorem dX6_cut_33 : decode cX6_cut 33 = .ok (.invokevirtual 48, 3) := by decide +kernel
theorem dX6_cut_36 : decode cX6_cut 36 = .ok (.iload_n 2, 1) := by decide +kernel
theorem dX6_cut_37 : decode cX6_cut 37 = .ok (.ireturn, 1) := by decide +kernel
theorem dX6_alter_0 : decode cX6_alter 0 = .ok (.iload_n 1, 1) := by decide +kernel
theorem dX6_alter_1 : decode cX6_alter 1 = .ok (.ifCond .lt 25, 3) := by decide +kernel
theorem dX6_alter_4 : decode cX6_alter 4 = .ok (.iload_n 1, 1) := by decide +kernel
theorem dX6_alter_5 : decode cX6_alter 5 = .ok (.aload_n 0, 1) := by decide +kernel
theorem dX6_alter_6 : decode cX6_alter 6 = .ok (.getfield 14, 3) := by decide +kernel
theorem dX6_alter_9 : decode cX6_alter 9 = .ok (.getfield 40, 3) := by decide +kernel
theorem dX6_alter_12 : decode cX6_alter 12 = .ok (.if_icmp .ge 14, 3) := by decide +kernel
theorem dX6_alter_15 : decode cX6_alter 15 = .ok (.iload_n 2, 1) := by decide +kernel
theorem dX6_alter_16 : decode cX6_alter 16 = .ok (.ifCond .lt 10, 3) := by decide +kernel
theorem dX6_alter_19 : decode cX6_alter 19 = .ok (.iload_n 2, 1) := by decide +kernel
theorem dX6_alter_20 : decode cX6_alter 20 = .ok (.sipush 255, 3) := by decide +kernel
theorem dX6_alter_23 : decode cX6_alter 23 = .ok (.if_icmp .le 6, 3) := by decide +kernel
theorem dX6_alter_26 : decode cX6_alter 26 = .ok (.bipush (-2), 2) := by decide +kernel
theorem dX6_alter_28 : decode cX6_alter 28 = .ok (.ireturn, 1) := by decide +kernel
theorem dX6_alter_29 : decode cX6_alter 29 = .ok (.aload_n 0, 1) := by decide +kernel
theorem dX6_alter_30 : decode cX6_alter 30 = .ok (.getfield 14, 3) := by decide +kernel
theorem dX6_alter_33 : decode cX6_alter 33 = .ok (.iload_n 1, 1) := by decide +kernel
theorem dX6_alter_34 : decode cX6_alter 34 = .ok (.invokevirtual 51, 3) := by decide +kernel
theorem dX6_alter_37 : decode cX6_alter 37 = .ok (.istore_n 3, 1) := by decide +kernel
theorem dX6_alter_38 : decode cX6_alter 38 = .ok (.aload_n 0, 1) := by decide +kernel
theorem dX6_alter_39 : decode cX6_alter 39 = .ok (.getfield 14, 3) := by decide +kernel
theorem dX6_alter_42 : decode cX6_alter 42 = .ok (.iload_n 1, 1) := by decide +kernel
theorem dX6_alter_43 : decode cX6_alter 43 = .ok (.iload_n 2, 1) := by decide +kernel
theorem dX6_alter_44 : decode cX6_alter 44 = .ok (.invokevirtual 55, 3) := by decide +kernel
theorem dX6_alter_47 : decode cX6_alter 47 = .ok (.iload_n 3, 1) := by decide +kernel
theorem dX6_alter_48 : decode cX6_alter 48 = .ok (.ireturn, 1) := by decide +kernel
theorem dX6_at_0 : decode cX6_at 0 = .ok (.aload_n 0, 1) := by decide +kernel
theorem dX6_at_1 : decode cX6_at 1 = .ok (.getfield 14, 3) := by decide +kernel
theorem dX6_at_4 : decode cX6_at 4 = .ok (.iload_n 1, 1) := by decide +kernel
theorem dX6_at_5 : decode cX6_at 5 = .ok (.invokevirtual 51, 3) := by decide +kernel
theorem dX6_at_8 : decode cX6_at 8 = .ok (.ireturn, 1) := by decide +kernel
theorem dX6_mend_0 : decode cX6_mend 0 = .ok (.aload_n 0, 1) := by decide +kernel
theorem dX6_mend_1 : decode cX6_mend 1 = .ok (.getfield 14, 3) := by decide +kernel
theorem dX6_mend_4 : decode cX6_mend 4 = .ok (.getfield 40, 3) := by decide +kernel
theorem dX6_mend_7 : decode cX6_mend 7 = .ok (.ifCond .ne 6, 3) := by decide +kernel
theorem dX6_mend_10 : decode cX6_mend 10 = .ok (.bipush (-3), 2) := by decide +kernel
theorem dX6_mend_12 : decode cX6_mend 12 = .ok (.ireturn, 1) := by decide +kernel
theorem dX6_mend_13 : decode cX6_mend 13 = .ok (.aload_n 0, 1) := by decide +kernel
theorem dX6_mend_14 : decode cX6_mend 14 = .ok (.getfield 14, 3) := by decide +kernel
theorem dX6_mend_17 : decode cX6_mend 17 = .ok (.getfield 40, 3) := by decide +kernel
theorem dX6_mend_20 : decode cX6_mend 20 = .ok (.iconst 1, 1) := by decide +kernel
theorem dX6_mend_21 : decode cX6_mend 21 = .ok (.isub, 1) := by decide +kernel
theorem dX6_mend_22 : decode cX6_mend 22 = .ok (.istore_n 1, 1) := by decide +kernel
theorem dX6_mend_23 : decode cX6_mend 23 = .ok (.aload_n 0, 1) := by decide +kernel
theorem dX6_mend_24 : decode cX6_mend 24 = .ok (.getfield 14, 3) := by decide +kernel
theorem dX6_mend_27 : decode cX6_mend 27 = .ok (.iconst 0, 1) := by decide +kernel
theorem dX6_mend_28 : decode cX6_mend 28 = .ok (.iload_n 1, 1) := by decide +kernel
theorem dX6_mend_29 : decode cX6_mend 29 = .ok (.invokevirtual 58, 3) := by decide +kernel
theorem dX6_mend_32 : decode cX6_mend 32 = .ok (.istore_n 2, 1) := by decide +kernel
theorem dX6_mend_33 : decode cX6_mend 33 = .ok (.aload_n 0, 1) := by decide +kernel
theorem dX6_mend_34 : decode cX6_mend 34 = .ok (.getfield 14, 3) := by decide +kernel
theorem dX6_mend_37 : decode cX6_mend 37 = .ok (.iload_n 1, 1) := by decide +kernel
theorem dX6_mend_38 : decode cX6_mend 38 = .ok (.iload_n 2, 1) := by decide +kernel
theorem dX6_mend_39 : decode cX6_mend 39 = .ok (.invokevirtual 55, 3) := by decide +kernel
theorem dX6_mend_42 : decode cX6_mend 42 = .ok (.iload_n 2, 1) := by decide +kernel
theorem dX6_mend_43 : decode cX6_mend 43 = .ok (.ireturn, 1) := by decide +kernel
theorem dX6_draw_0 : decode cX6_draw 0 = .ok (.iload_n 1, 1) := by decide +kernel
theorem dX6_draw_1 : decode cX6_draw 1 = .ok (.ifCond .lt 19, 3) := by decide +kernel
theorem dX6_draw_4 : decode cX6_draw 4 = .ok (.iload_n 1, 1) := by decide +kernel
theorem dX6_draw_5 : decode cX6_draw 5 = .ok (.bipush 9, 2) := by decide +kernel
theorem dX6_draw_7 : decode cX6_draw 7 = .ok (.if_icmp .gt 13, 3) := by decide +kernel
theorem dX6_draw_10 : decode cX6_draw 10 = .ok (.iload_n 2, 1) := by decide +kernel
theorem dX6_draw_11 : decode cX6_draw 11 = .ok (.ifCond .lt 9, 3) := by decide +kernel
theorem dX6_draw_14 : decode cX6_draw 14 = .ok (.iload_n 2, 1) := by decide +kernel
theorem dX6_draw_15 : decode cX6_draw 15 = .ok (.bipush 60, 2) := by decide +kernel
theorem dX6_draw_17 : decode cX6_draw 17 = .ok (.if_icmp .le 6, 3) := by decide +kernel
theorem dX6_draw_20 : decode cX6_draw 20 = .ok (.bipush (-2), 2) := by decide +kernel
theorem dX6_draw_22 : decode cX6_draw 22 = .ok (.ireturn, 1) := by decide +kernel
theorem dX6_draw_23 : decode cX6_draw 23 = .ok (.aload_n 0, 1) := by decide +kernel
theorem dX6_draw_24 : decode cX6_draw 24 = .ok (.getfield 23, 3) := by decide +kernel
theorem dX6_draw_27 : decode cX6_draw 27 = .ok (.iload_n 1, 1) := by decide +kernel
theorem dX6_draw_28 : decode cX6_draw 28 = .ok (.iload_n 2, 1) := by decide +kernel
theorem dX6_draw_29 : decode cX6_draw 29 = .ok (.invokevirtual 62, 3) := by decide +kernel
theorem dX6_draw_32 : decode cX6_draw 32 = .ok (.aload_n 0, 1) := by decide +kernel
theorem dX6_draw_33 : decode cX6_draw 33 = .ok (.getfield 14, 3) := by decide +kernel
theorem dX6_draw_36 : decode cX6_draw 36 = .ok (.getfield 40, 3) := by decide +kernel
theorem dX6_draw_39 : decode cX6_draw 39 = .ok (.ireturn, 1) := by decide +kernel
theorem dX6_open_0 : decode cX6_open 0 = .ok (.iload_n 1, 1) := by decide +kernel
theorem dX6_open_1 : decode cX6_open 1 = .ok (.iload_n 2, 1) := by decide +kernel
theorem dX6_open_2 : decode cX6_open 2 = .ok (.iload_n 3, 1) := by decide +kernel
theorem dX6_open_3 : decode cX6_open 3 = .ok (.invokestatic 65, 3) := by decide +kernel
theorem dX6_open_6 : decode cX6_open 6 = .ok (.ifCond .ne 6, 3) := by decide +kernel
theorem dX6_open_9 : decode cX6_open 9 = .ok (.bipush (-2), 2) := by decide +kernel
theorem dX6_open_11 : decode cX6_open 11 = .ok (.ireturn, 1) := by decide +kernel
theorem dX6_open_12 : decode cX6_open 12 = .ok (.aload_n 0, 1) := by decide +kernel
theorem dX6_open_13 : decode cX6_open 13 = .ok (.getfield 32, 3) := by decide +kernel
theorem dX6_open_16 : decode cX6_open 16 = .ok (.iload_n 1, 1) := by decide +kernel
theorem dX6_open_17 : decode cX6_open 17 = .ok (.iload_n 2, 1) := by decide +kernel
theorem dX6_open_18 : decode cX6_open 18 = .ok (.iload_n 3, 1) := by decide +kernel
theorem dX6_open_19 : decode cX6_open 19 = .ok (.invokevirtual 69, 3) := by decide +kernel
theorem dX6_open_22 : decode cX6_open 22 = .ok (.istore 4, 2) := by decide +kernel
theorem dX6_open_24 : decode cX6_open 24 = .ok (.iload 4, 2) := by decide +kernel
theorem dX6_open_26 : decode cX6_open 26 = .ok (.ifCond .ne 16, 3) := by decide +kernel
theorem dX6_open_29 : decode cX6_open 29 = .ok (.aload_n 0, 1) := by decide +kernel
theorem dX6_open_30 : decode cX6_open 30 = .ok (.getfield 32, 3) := by decide +kernel
theorem dX6_open_33 : decode cX6_open 33 = .ok (.getfield 73, 3) := by decide +kernel
theorem dX6_open_36 : decode cX6_open 36 = .ok (.getfield 40, 3) := by decide +kernel
theorem dX6_open_39 : decode cX6_open 39 = .ok (.goto 8, 3) := by decide +kernel
theorem dX6_open_42 : decode cX6_open 42 = .ok (.bipush (-10), 2) := by decide +kernel
theorem dX6_open_44 : decode cX6_open 44 = .ok (.iload 4, 2) := by decide +kernel
theorem dX6_open_46 : decode cX6_open 46 = .ok (.isub, 1) := by decide +kernel
theorem dX6_open_47 : decode cX6_open 47 = .ok (.ireturn, 1) := by decide +kernel
theorem dX6_place_0 : decode cX6_place 0 = .ok (.aload_n 0, 1) := by decide +kernel
theorem dX6_place_1 : decode cX6_place 1 = .ok (.getfield 32, 3) := by decide +kernel
theorem dX6_place_4 : decode cX6_place 4 = .ok (.getfield 76, 3) := by decide +kernel
theorem dX6_place_7 : decode cX6_place 7 = .ok (.ireturn, 1) := by decide +kernel
theorem dX6_out_0 : decode cX6_out 0 = .ok (.aload_n 0, 1) := by decide +kernel
theorem dX6_out_1 : decode cX6_out 1 = .ok (.getfield 32, 3) := by decide +kernel
theorem dX6_out_4 : decode cX6_out 4 = .ok (.getfield 73, 3) := by decide +kernel
theorem dX6_out_7 : decode cX6_out 7 = .ok (.iload_n 1, 1) := by decide +kernel
theorem dX6_out_8 : decode cX6_out 8 = .ok (.invokevirtual 51, 3) := by decide +kernel
theorem dX6_out_11 : decode cX6_out 11 = .ok (.ireturn, 1) := by decide +kernel
theorem dX6_item_0 : decode cX6_item 0 = .ok (.iload_n 1, 1) := by decide +kernel
theorem dX6_item_1 : decode cX6_item 1 = .ok (.iconst (-1), 1) := by decide +kernel
theorem dX6_item_2 : decode cX6_item 2 = .ok (.if_icmp .ne 16, 3) := by decide +kernel
theorem dX6_item_5 : decode cX6_item 5 = .ok (.aload_n 0, 1) := by decide +kernel
theorem dX6_item_6 : decode cX6_item 6 = .ok (.getfield 32, 3) := by decide +kernel
theorem dX6_item_9 : decode cX6_item 9 = .ok (.getfield 79, 3) := by decide +kernel
theorem dX6_item_12 : decode cX6_item 12 = .ok (.getfield 83, 3) := by decide +kernel
theorem dX6_item_15 : decode cX6_item 15 = .ok (.goto 15, 3) := by decide +kernel
theorem dX6_item_18 : decode cX6_item 18 = .ok (.aload_n 0, 1) := by decide +kernel
theorem dX6_item_19 : decode cX6_item 19 = .ok (.getfield 32, 3) := by decide +kernel
theorem dX6_item_22 : decode cX6_item 22 = .ok (.getfield 79, 3) := by decide +kernel
theorem dX6_item_25 : decode cX6_item 25 = .ok (.iload_n 1, 1) := by decide +kernel
theorem dX6_item_26 : decode cX6_item 26 = .ok (.iload_n 2, 1) := by decide +kernel
theorem dX6_item_27 : decode cX6_item 27 = .ok (.invokevirtual 86, 3) := by decide +kernel
theorem dX6_item_30 : decode cX6_item 30 = .ok (.ireturn, 1) := by decide +kernel
theorem dX6_shrink_0 : decode cX6_shrink 0 = .ok (.iload_n 1, 1) := by decide +kernel
theorem dX6_shrink_1 : decode cX6_shrink 1 = .ok (.iload_n 2, 1) := by decide +kernel
theorem dX6_shrink_2 : decode cX6_shrink 2 = .ok (.iload_n 3, 1) := by decide +kernel
theorem dX6_shrink_3 : decode cX6_shrink 3 = .ok (.invokestatic 65, 3) := by decide +kernel
theorem dX6_shrink_6 : decode cX6_shrink 6 = .ok (.ifCond .ne 6, 3) := by decide +kernel
theorem dX6_shrink_9 : decode cX6_shrink 9 = .ok (.bipush (-2), 2) := by decide +kernel
theorem dX6_shrink_11 : decode cX6_shrink 11 = .ok (.ireturn, 1) := by decide +kernel
theorem dX6_shrink_12 : decode cX6_shrink 12 = .ok (.aload_n 0, 1) := by decide +kernel
theorem dX6_shrink_13 : decode cX6_shrink 13 = .ok (.getfield 32, 3) := by decide +kernel
theorem dX6_shrink_16 : decode cX6_shrink 16 = .ok (.iload_n 1, 1) := by decide +kernel
theorem dX6_shrink_17 : decode cX6_shrink 17 = .ok (.iload_n 2, 1) := by decide +kernel
theorem dX6_shrink_18 : decode cX6_shrink 18 = .ok (.iload_n 3, 1) := by decide +kernel
theorem dX6_shrink_19 : decode cX6_shrink 19 = .ok (.invokevirtual 69, 3) := by decide +kernel
theorem dX6_shrink_22 : decode cX6_shrink 22 = .ok (.istore 4, 2) := by decide +kernel
theorem dX6_shrink_24 : decode cX6_shrink 24 = .ok (.iload 4, 2) := by decide +kernel
theorem dX6_shrink_26 : decode cX6_shrink 26 = .ok (.ifCond .ne 6, 3) := by decide +kernel
theorem dX6_shrink_29 : decode cX6_shrink 29 = .ok (.bipush (-3), 2) := by decide +kernel
theorem dX6_shrink_31 : decode cX6_shrink 31 = .ok (.ireturn, 1) := by decide +kernel
theorem dX6_shrink_32 : decode cX6_shrink 32 = .ok (.aload_n 0, 1) := by decide +kernel
theorem dX6_shrink_33 : decode cX6_shrink 33 = .ok (.getfield 32, 3) := by decide +kernel
theorem dX6_shrink_36 : decode cX6_shrink 36 = .ok (.getfield 79, 3) := by decide +kernel
theorem dX6_shrink_39 : decode cX6_shrink 39 = .ok (.aload_n 0, 1) := by decide +kernel
theorem dX6_shrink_40 : decode cX6_shrink 40 = .ok (.getfield 36, 3) := by decide +kernel
theorem dX6_shrink_43 : decode cX6_shrink 43 = .ok (.invokevirtual 88, 3) := by decide +kernel
theorem dX6_shrink_46 : decode cX6_shrink 46 = .ok (.istore 5, 2) := by decide +kernel
theorem dX6_shrink_48 : decode cX6_shrink 48 = .ok (.iconst 2, 1) := by decide +kernel
theorem dX6_shrink_49 : decode cX6_shrink 49 = .ok (.istore 6, 2) := by decide +kernel
theorem dX6_shrink_51 : decode cX6_shrink 51 = .ok (.iconst 0, 1) := by decide +kernel
theorem dX6_shrink_52 : decode cX6_shrink 52 = .ok (.istore 7, 2) := by decide +kernel
theorem dX6_shrink_54 : decode cX6_shrink 54 = .ok (.iload 7, 2) := by decide +kernel
theorem dX6_shrink_56 : decode cX6_shrink 56 = .ok (.iload 5, 2) := by decide +kernel
theorem dX6_shrink_58 : decode cX6_shrink 58 = .ok (.if_icmp .ge 71, 3) := by decide +kernel
theorem dX6_shrink_61 : decode cX6_shrink 61 = .ok (.iload 7, 2) := by decide +kernel
theorem dX6_shrink_63 : decode cX6_shrink 63 = .ok (.aload_n 0, 1) := by decide +kernel
theorem dX6_shrink_64 : decode cX6_shrink 64 = .ok (.getfield 36, 3) := by decide +kernel
theorem dX6_shrink_67 : decode cX6_shrink 67 = .ok (.arraylength, 1) := by decide +kernel
theorem dX6_shrink_68 : decode cX6_shrink 68 = .ok (.if_icmp .ge 61, 3) := by decide +kernel
theorem dX6_shrink_71 : decode cX6_shrink 71 = .ok (.aload_n 0, 1) := by decide +kernel
theorem dX6_shrink_72 : decode cX6_shrink 72 = .ok (.getfield 14, 3) := by decide +kernel
theorem dX6_shrink_75 : decode cX6_shrink 75 = .ok (.iload 6, 2) := by decide +kernel
theorem dX6_shrink_77 : decode cX6_shrink 77 = .ok (.aload_n 0, 1) := by decide +kernel
theorem dX6_shrink_78 : decode cX6_shrink 78 = .ok (.getfield 36, 3) := by decide +kernel
theorem dX6_shrink_81 : decode cX6_shrink 81 = .ok (.iload 7, 2) := by decide +kernel
theorem dX6_shrink_83 : decode cX6_shrink 83 = .ok (.iaload, 1) := by decide +kernel
theorem dX6_shrink_84 : decode cX6_shrink 84 = .ok (.invokevirtual 92, 3) := by decide +kernel
theorem dX6_shrink_87 : decode cX6_shrink 87 = .ok (.aload_n 0, 1) := by decide +kernel
theorem dX6_shrink_88 : decode cX6_shrink 88 = .ok (.getfield 32, 3) := by decide +kernel
theorem dX6_shrink_91 : decode cX6_shrink 91 = .ok (.iload_n 1, 1) := by decide +kernel
theorem dX6_shrink_92 : decode cX6_shrink 92 = .ok (.iload_n 2, 1) := by decide +kernel
theorem dX6_shrink_93 : decode cX6_shrink 93 = .ok (.iload_n 3, 1) := by decide +kernel
theorem dX6_shrink_94 : decode cX6_shrink 94 = .ok (.invokevirtual 69, 3) := by decide +kernel
theorem dX6_shrink_97 : decode cX6_shrink 97 = .ok (.iload 4, 2) := by decide +kernel
theorem dX6_shrink_99 : decode cX6_shrink 99 = .ok (.if_icmp .eq 24, 3) := by decide +kernel
theorem dX6_shrink_102 : decode cX6_shrink 102 = .ok (.aload_n 0, 1) := by decide +kernel
theorem dX6_shrink_103 : decode cX6_shrink 103 = .ok (.getfield 14, 3) := by decide +kernel
theorem dX6_shrink_106 : decode cX6_shrink 106 = .ok (.iload 6, 2) := by decide +kernel
theorem dX6_shrink_108 : decode cX6_shrink 108 = .ok (.invokevirtual 95, 3) := by decide +kernel
theorem dX6_shrink_111 : decode cX6_shrink 111 = .ok (.iload 6, 2) := by decide +kernel
theorem dX6_shrink_113 : decode cX6_shrink 113 = .ok (.aload_n 0, 1) := by decide +kernel
theorem dX6_shrink_114 : decode cX6_shrink 114 = .ok (.getfield 36, 3) := by decide +kernel
theorem dX6_shrink_117 : decode cX6_shrink 117 = .ok (.iload 7, 2) := by decide +kernel
theorem dX6_shrink_119 : decode cX6_shrink 119 = .ok (.iaload, 1) := by decide +kernel
theorem dX6_shrink_120 : decode cX6_shrink 120 = .ok (.iadd, 1) := by decide +kernel
theorem dX6_shrink_121 : decode cX6_shrink 121 = .ok (.istore 6, 2) := by decide +kernel
theorem dX6_shrink_123 : decode cX6_shrink 123 = .ok (.iinc 7 1, 3) := by decide +kernel
theorem dX6_shrink_126 : decode cX6_shrink 126 = .ok (.goto (-72), 3) := by decide +kernel
theorem dX6_shrink_129 : decode cX6_shrink 129 = .ok (.aload_n 0, 1) := by decide +kernel
theorem dX6_shrink_130 : decode cX6_shrink 130 = .ok (.getfield 32, 3) := by decide +kernel
theorem dX6_shrink_133 : decode cX6_shrink 133 = .ok (.iload_n 1, 1) := by decide +kernel
theorem dX6_shrink_134 : decode cX6_shrink 134 = .ok (.iload_n 2, 1) := by decide +kernel
theorem dX6_shrink_135 : decode cX6_shrink 135 = .ok (.iload_n 3, 1) := by decide +kernel
theorem dX6_shrink_136 : decode cX6_shrink 136 = .ok (.invokevirtual 69, 3) := by decide +kernel
theorem dX6_shrink_139 : decode cX6_shrink 139 = .ok (.pop, 1) := by decide +kernel
theorem dX6_shrink_140 : decode cX6_shrink 140 = .ok (.aload_n 0, 1) := by decide +kernel
theorem dX6_shrink_141 : decode cX6_shrink 141 = .ok (.getfield 14, 3) := by decide +kernel
theorem dX6_shrink_144 : decode cX6_shrink 144 = .ok (.getfield 40, 3) := by decide +kernel
theorem dX6_shrink_147 : decode cX6_shrink 147 = .ok (.ireturn, 1) := by decide +kernel
theorem dX6_count_0 : decode cX6_count 0 = .ok (.iload_n 1, 1) := by decide +kernel
theorem dX6_count_1 : decode cX6_count 1 = .ok (.tableswitch 102 0 6 #[43, 51, 62, 70, 78, 86, 94], 43) := by decide +kernel
theorem dX6_count_44 : decode cX6_count 44 = .ok (.aload_n 0, 1) := by decide +kernel
theorem dX6_count_45 : decode cX6_count 45 = .ok (.getfield 14, 3) := by decide +kernel
theorem dX6_count_48 : decode cX6_count 48 = .ok (.getfield 40, 3) := by decide +kernel
theorem dX6_count_51 : decode cX6_count 51 = .ok (.ireturn, 1) := by decide +kernel
theorem dX6_count_52 : decode cX6_count 52 = .ok (.aload_n 0, 1) := by decide +kernel
theorem dX6_count_53 : decode cX6_count 53 = .ok (.getfield 32, 3) := by decide +kernel
theorem dX6_count_56 : decode cX6_count 56 = .ok (.getfield 73, 3) := by decide +kernel
theorem dX6_count_59 : decode cX6_count 59 = .ok (.getfield 40, 3) := by decide +kernel
theorem dX6_count_62 : decode cX6_count 62 = .ok (.ireturn, 1) := by decide +kernel
theorem dX6_count_63 : decode cX6_count 63 = .ok (.aload_n 0, 1) := by decide +kernel
theorem dX6_count_64 : decode cX6_count 64 = .ok (.getfield 32, 3) := by decide +kernel
theorem dX6_count_67 : decode cX6_count 67 = .ok (.getfield 98, 3) := by decide +kernel
theorem dX6_count_70 : decode cX6_count 70 = .ok (.ireturn, 1) := by decide +kernel
theorem dX6_count_71 : decode cX6_count 71 = .ok (.aload_n 0, 1) := by decide +kernel
theorem dX6_count_72 : decode cX6_count 72 = .ok (.getfield 32, 3) := by decide +kernel
theorem dX6_count_75 : decode cX6_count 75 = .ok (.getfield 101, 3) := by decide +kernel
theorem dX6_count_78 : decode cX6_count 78 = .ok (.ireturn, 1) := by decide +kernel
theorem dX6_count_79 : decode cX6_count 79 = .ok (.aload_n 0, 1) := by decide +kernel
theorem dX6_count_80 : decode cX6_count 80 = .ok (.getfield 32, 3) := by decide +kernel
theorem dX6_count_83 : decode cX6_count 83 = .ok (.getfield 104, 3) := by decide +kernel
theorem dX6_count_86 : decode cX6_count 86 = .ok (.ireturn, 1) := by decide +kernel
theorem dX6_count_87 : decode cX6_count 87 = .ok (.aload_n 0, 1) := by decide +kernel
theorem dX6_count_88 : decode cX6_count 88 = .ok (.getfield 32, 3) := by decide +kernel
theorem dX6_count_91 : decode cX6_count 91 = .ok (.getfield 107, 3) := by decide +kernel
theorem dX6_count_94 : decode cX6_count 94 = .ok (.ireturn, 1) := by decide +kernel
theorem dX6_count_95 : decode cX6_count 95 = .ok (.aload_n 0, 1) := by decide +kernel
theorem dX6_count_96 : decode cX6_count 96 = .ok (.getfield 32, 3) := by decide +kernel
theorem dX6_count_99 : decode cX6_count 99 = .ok (.getfield 110, 3) := by decide +kernel
theorem dX6_count_102 : decode cX6_count 102 = .ok (.ireturn, 1) := by decide +kernel
theorem dX6_count_103 : decode cX6_count 103 = .ok (.iconst (-1), 1) := by decide +kernel
theorem dX6_count_104 : decode cX6_count 104 = .ok (.ireturn, 1) := by decide +kernel
theorem dX6_areBounds_0 : decode cX6_areBounds 0 = .ok (.iload_n 0, 1) := by decide +kernel
theorem dX6_areBounds_1 : decode cX6_areBounds 1 = .ok (.ifCond .lt 35, 3) := by decide +kernel
theorem dX6_areBounds_4 : decode cX6_areBounds 4 = .ok (.iload_n 0, 1) := by decide +kernel
theorem dX6_areBounds_5 : decode cX6_areBounds 5 = .ok (.sipush 4000, 3) := by decide +kernel
theorem dX6_areBounds_8 : decode cX6_areBounds 8 = .ok (.if_icmp .gt 28, 3) := by decide +kernel
theorem dX6_areBounds_11 : decode cX6_areBounds 11 = .ok (.iload_n 1, 1) := by decide +kernel
theorem dX6_areBounds_12 : decode cX6_areBounds 12 = .ok (.ifCond .lt 24, 3) := by decide +kernel
theorem dX6_areBounds_15 : decode cX6_areBounds 15 = .ok (.iload_n 1, 1) := by decide +kernel
theorem dX6_areBounds_16 : decode cX6_areBounds 16 = .ok (.sipush 20000, 3) := by decide +kernel
theorem dX6_areBounds_19 : decode cX6_areBounds 19 = .ok (.if_icmp .gt 17, 3) := by decide +kernel
theorem dX6_areBounds_22 : decode cX6_areBounds 22 = .ok (.iload_n 2, 1) := by decide +kernel
theorem dX6_areBounds_23 : decode cX6_areBounds 23 = .ok (.ifCond .lt 13, 3) := by decide +kernel
theorem dX6_areBounds_26 : decode cX6_areBounds 26 = .ok (.iload_n 2, 1) := by decide +kernel
theorem dX6_areBounds_27 : decode cX6_areBounds 27 = .ok (.bipush 8, 2) := by decide +kernel
theorem dX6_areBounds_29 : decode cX6_areBounds 29 = .ok (.if_icmp .gt 7, 3) := by decide +kernel
theorem dX6_areBounds_32 : decode cX6_areBounds 32 = .ok (.iconst 1, 1) := by decide +kernel
theorem dX6_areBounds_33 : decode cX6_areBounds 33 = .ok (.goto 4, 3) := by decide +kernel
theorem dX6_areBounds_36 : decode cX6_areBounds 36 = .ok (.iconst 0, 1) := by decide +kernel
theorem dX6_areBounds_37 : decode cX6_areBounds 37 = .ok (.ireturn, 1) := by decide +kernel
