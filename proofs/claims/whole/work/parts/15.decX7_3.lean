theorem dX7_bits_185 : decode cX7_bits 185 = .ok (.iconst 0, 1) := by decide +kernel
theorem dX7_bits_186 : decode cX7_bits 186 = .ok (.istore 12, 2) := by decide +kernel
theorem dX7_bits_188 : decode cX7_bits 188 = .ok (.iinc 13 1, 3) := by decide +kernel
theorem dX7_bits_191 : decode cX7_bits 191 = .ok (.goto (-99), 3) := by decide +kernel
theorem dX7_bits_194 : decode cX7_bits 194 = .ok (.iload 11, 2) := by decide +kernel
theorem dX7_bits_196 : decode cX7_bits 196 = .ok (.ifCond .ne 17, 3) := by decide +kernel
theorem dX7_bits_199 : decode cX7_bits 199 = .ok (.iload 12, 2) := by decide +kernel
theorem dX7_bits_201 : decode cX7_bits 201 = .ok (.ifCond .ne 12, 3) := by decide +kernel
theorem dX7_bits_204 : decode cX7_bits 204 = .ok (.aload_n 0, 1) := by decide +kernel
theorem dX7_bits_205 : decode cX7_bits 205 = .ok (.bipush 7, 2) := by decide +kernel
theorem dX7_bits_207 : decode cX7_bits 207 = .ok (.iload 10, 2) := by decide +kernel
theorem dX7_bits_209 : decode cX7_bits 209 = .ok (.invokevirtual 131, 3) := by decide +kernel
theorem dX7_bits_212 : decode cX7_bits 212 = .ok (.return_, 1) := by decide +kernel
theorem dX7_bits_213 : decode cX7_bits 213 = .ok (.goto (-180), 3) := by decide +kernel
theorem dX7_bits_216 : decode cX7_bits 216 = .ok (.iinc 7 1, 3) := by decide +kernel
theorem dX7_bits_219 : decode cX7_bits 219 = .ok (.goto (-209), 3) := by decide +kernel
theorem dX7_bits_222 : decode cX7_bits 222 = .ok (.iload 6, 2) := by decide +kernel
theorem dX7_bits_224 : decode cX7_bits 224 = .ok (.bipush 7, 2) := by decide +kernel
theorem dX7_bits_226 : decode cX7_bits 226 = .ok (.iadd, 1) := by decide +kernel
theorem dX7_bits_227 : decode cX7_bits 227 = .ok (.bipush 8, 2) := by decide +kernel
theorem dX7_bits_229 : decode cX7_bits 229 = .ok (.idiv, 1) := by decide +kernel
theorem dX7_bits_230 : decode cX7_bits 230 = .ok (.istore 7, 2) := by decide +kernel
theorem dX7_bits_232 : decode cX7_bits 232 = .ok (.iload 6, 2) := by decide +kernel
theorem dX7_bits_234 : decode cX7_bits 234 = .ok (.bipush 8, 2) := by decide +kernel
theorem dX7_bits_236 : decode cX7_bits 236 = .ok (.iload 7, 2) := by decide +kernel
theorem dX7_bits_238 : decode cX7_bits 238 = .ok (.imul, 1) := by decide +kernel
theorem dX7_bits_239 : decode cX7_bits 239 = .ok (.if_icmp .ge 46, 3) := by decide +kernel
theorem dX7_bits_242 : decode cX7_bits 242 = .ok (.aload_n 0, 1) := by decide +kernel
theorem dX7_bits_243 : decode cX7_bits 243 = .ok (.getfield 7, 3) := by decide +kernel
theorem dX7_bits_246 : decode cX7_bits 246 = .ok (.iload 6, 2) := by decide +kernel
theorem dX7_bits_248 : decode cX7_bits 248 = .ok (.bipush 8, 2) := by decide +kernel
theorem dX7_bits_250 : decode cX7_bits 250 = .ok (.idiv, 1) := by decide +kernel
theorem dX7_bits_251 : decode cX7_bits 251 = .ok (.iaload, 1) := by decide +kernel
theorem dX7_bits_252 : decode cX7_bits 252 = .ok (.bipush 7, 2) := by decide +kernel
theorem dX7_bits_254 : decode cX7_bits 254 = .ok (.iload 6, 2) := by decide +kernel
theorem dX7_bits_256 : decode cX7_bits 256 = .ok (.bipush 8, 2) := by decide +kernel
theorem dX7_bits_258 : decode cX7_bits 258 = .ok (.irem, 1) := by decide +kernel
theorem dX7_bits_259 : decode cX7_bits 259 = .ok (.isub, 1) := by decide +kernel
theorem dX7_bits_260 : decode cX7_bits 260 = .ok (.ishr, 1) := by decide +kernel
theorem dX7_bits_261 : decode cX7_bits 261 = .ok (.iconst 1, 1) := by decide +kernel
theorem dX7_bits_262 : decode cX7_bits 262 = .ok (.iand, 1) := by decide +kernel
theorem dX7_bits_263 : decode cX7_bits 263 = .ok (.iconst 1, 1) := by decide +kernel
theorem dX7_bits_264 : decode cX7_bits 264 = .ok (.if_icmp .ne 15, 3) := by decide +kernel
theorem dX7_bits_267 : decode cX7_bits 267 = .ok (.aload_n 0, 1) := by decide +kernel
theorem dX7_bits_268 : decode cX7_bits 268 = .ok (.bipush 8, 2) := by decide +kernel
theorem dX7_bits_270 : decode cX7_bits 270 = .ok (.iload 6, 2) := by decide +kernel
theorem dX7_bits_272 : decode cX7_bits 272 = .ok (.bipush 8, 2) := by decide +kernel
theorem dX7_bits_274 : decode cX7_bits 274 = .ok (.idiv, 1) := by decide +kernel
theorem dX7_bits_275 : decode cX7_bits 275 = .ok (.invokevirtual 131, 3) := by decide +kernel
theorem dX7_bits_278 : decode cX7_bits 278 = .ok (.return_, 1) := by decide +kernel
theorem dX7_bits_279 : decode cX7_bits 279 = .ok (.iinc 6 1, 3) := by decide +kernel
theorem dX7_bits_282 : decode cX7_bits 282 = .ok (.goto (-50), 3) := by decide +kernel
theorem dX7_bits_285 : decode cX7_bits 285 = .ok (.aload_n 0, 1) := by decide +kernel
theorem dX7_bits_286 : decode cX7_bits 286 = .ok (.iload_n 1, 1) := by decide +kernel
theorem dX7_bits_287 : decode cX7_bits 287 = .ok (.iload 7, 2) := by decide +kernel
theorem dX7_bits_289 : decode cX7_bits 289 = .ok (.invokevirtual 163, 3) := by decide +kernel
theorem dX7_bits_292 : decode cX7_bits 292 = .ok (.return_, 1) := by decide +kernel
theorem dX7_reads_0 : decode cX7_reads 0 = .ok (.aload_n 0, 1) := by decide +kernel
theorem dX7_reads_1 : decode cX7_reads 1 = .ok (.dup, 1) := by decide +kernel
theorem dX7_reads_2 : decode cX7_reads 2 = .ok (.getfield 191, 3) := by decide +kernel
theorem dX7_reads_5 : decode cX7_reads 5 = .ok (.iconst 1, 1) := by decide +kernel
theorem dX7_reads_6 : decode cX7_reads 6 = .ok (.iadd, 1) := by decide +kernel
theorem dX7_reads_7 : decode cX7_reads 7 = .ok (.putfield 191, 3) := by decide +kernel
theorem dX7_reads_10 : decode cX7_reads 10 = .ok (.aload_n 0, 1) := by decide +kernel
theorem dX7_reads_11 : decode cX7_reads 11 = .ok (.iload_n 1, 1) := by decide +kernel
theorem dX7_reads_12 : decode cX7_reads 12 = .ok (.putfield 146, 3) := by decide +kernel
theorem dX7_reads_15 : decode cX7_reads 15 = .ok (.aload_n 0, 1) := by decide +kernel
theorem dX7_reads_16 : decode cX7_reads 16 = .ok (.iload_n 2, 1) := by decide +kernel
theorem dX7_reads_17 : decode cX7_reads 17 = .ok (.putfield 128, 3) := by decide +kernel
theorem dX7_reads_20 : decode cX7_reads 20 = .ok (.aload_n 0, 1) := by decide +kernel
theorem dX7_reads_21 : decode cX7_reads 21 = .ok (.iload_n 3, 1) := by decide +kernel
theorem dX7_reads_22 : decode cX7_reads 22 = .ok (.putfield 178, 3) := by decide +kernel
theorem dX7_reads_25 : decode cX7_reads 25 = .ok (.aload_n 0, 1) := by decide +kernel
theorem dX7_reads_26 : decode cX7_reads 26 = .ok (.iconst 0, 1) := by decide +kernel
theorem dX7_reads_27 : decode cX7_reads 27 = .ok (.putfield 140, 3) := by decide +kernel
theorem dX7_reads_30 : decode cX7_reads 30 = .ok (.aload_n 0, 1) := by decide +kernel
theorem dX7_reads_31 : decode cX7_reads 31 = .ok (.iconst 0, 1) := by decide +kernel
theorem dX7_reads_32 : decode cX7_reads 32 = .ok (.putfield 122, 3) := by decide +kernel
theorem dX7_reads_35 : decode cX7_reads 35 = .ok (.aload_n 0, 1) := by decide +kernel
theorem dX7_reads_36 : decode cX7_reads 36 = .ok (.iconst (-1), 1) := by decide +kernel
theorem dX7_reads_37 : decode cX7_reads 37 = .ok (.putfield 16, 3) := by decide +kernel
theorem dX7_reads_40 : decode cX7_reads 40 = .ok (.aload_n 0, 1) := by decide +kernel
theorem dX7_reads_41 : decode cX7_reads 41 = .ok (.iconst 0, 1) := by decide +kernel
theorem dX7_reads_42 : decode cX7_reads 42 = .ok (.putfield 125, 3) := by decide +kernel
theorem dX7_reads_45 : decode cX7_reads 45 = .ok (.aload_n 0, 1) := by decide +kernel
theorem dX7_reads_46 : decode cX7_reads 46 = .ok (.iconst 0, 1) := by decide +kernel
theorem dX7_reads_47 : decode cX7_reads 47 = .ok (.putfield 143, 3) := by decide +kernel
theorem dX7_reads_50 : decode cX7_reads 50 = .ok (.aload_n 0, 1) := by decide +kernel
theorem dX7_reads_51 : decode cX7_reads 51 = .ok (.iconst 0, 1) := by decide +kernel
theorem dX7_reads_52 : decode cX7_reads 52 = .ok (.putfield 134, 3) := by decide +kernel
theorem dX7_reads_55 : decode cX7_reads 55 = .ok (.aload_n 0, 1) := by decide +kernel
theorem dX7_reads_56 : decode cX7_reads 56 = .ok (.iconst 0, 1) := by decide +kernel
theorem dX7_reads_57 : decode cX7_reads 57 = .ok (.putfield 137, 3) := by decide +kernel
theorem dX7_reads_60 : decode cX7_reads 60 = .ok (.aload_n 0, 1) := by decide +kernel
theorem dX7_reads_61 : decode cX7_reads 61 = .ok (.getfield 32, 3) := by decide +kernel
theorem dX7_reads_64 : decode cX7_reads 64 = .ok (.iconst 0, 1) := by decide +kernel
theorem dX7_reads_65 : decode cX7_reads 65 = .ok (.iconst 0, 1) := by decide +kernel
theorem dX7_reads_66 : decode cX7_reads 66 = .ok (.iastore, 1) := by decide +kernel
theorem dX7_reads_67 : decode cX7_reads 67 = .ok (.aload_n 0, 1) := by decide +kernel
theorem dX7_reads_68 : decode cX7_reads 68 = .ok (.iconst 0, 1) := by decide +kernel
theorem dX7_reads_69 : decode cX7_reads 69 = .ok (.aload_n 0, 1) := by decide +kernel
theorem dX7_reads_70 : decode cX7_reads 70 = .ok (.getfield 78, 3) := by decide +kernel
theorem dX7_reads_73 : decode cX7_reads 73 = .ok (.invokevirtual 181, 3) := by decide +kernel
theorem dX7_reads_76 : decode cX7_reads 76 = .ok (.aload_n 0, 1) := by decide +kernel
theorem dX7_reads_77 : decode cX7_reads 77 = .ok (.getfield 122, 3) := by decide +kernel
theorem dX7_reads_80 : decode cX7_reads 80 = .ok (.ifCond .ne 17, 3) := by decide +kernel
theorem dX7_reads_83 : decode cX7_reads 83 = .ok (.aload_n 0, 1) := by decide +kernel
theorem dX7_reads_84 : decode cX7_reads 84 = .ok (.getfield 137, 3) := by decide +kernel
theorem dX7_reads_87 : decode cX7_reads 87 = .ok (.ifCond .le 10, 3) := by decide +kernel
theorem dX7_reads_90 : decode cX7_reads 90 = .ok (.aload_n 0, 1) := by decide +kernel
theorem dX7_reads_91 : decode cX7_reads 91 = .ok (.invokevirtual 194, 3) := by decide +kernel
theorem dX7_reads_94 : decode cX7_reads 94 = .ok (.goto (-18), 3) := by decide +kernel
theorem dX7_reads_97 : decode cX7_reads 97 = .ok (.return_, 1) := by decide +kernel
theorem dX7_isGood_0 : decode cX7_isGood 0 = .ok (.iload_n 0, 1) := by decide +kernel
theorem dX7_isGood_1 : decode cX7_isGood 1 = .ok (.i2l, 1) := by decide +kernel
theorem dX7_isGood_2 : decode cX7_isGood 2 = .ok (.lconst 0, 1) := by decide +kernel
theorem dX7_isGood_3 : decode cX7_isGood 3 = .ok (.ldc2_w 197, 3) := by decide +kernel
theorem dX7_isGood_6 : decode cX7_isGood 6 = .ok (.invokestatic 74, 3) := by decide +kernel
theorem dX7_isGood_9 : decode cX7_isGood 9 = .ok (.ifCond .eq 31, 3) := by decide +kernel
theorem dX7_isGood_12 : decode cX7_isGood 12 = .ok (.iload_n 1, 1) := by decide +kernel
theorem dX7_isGood_13 : decode cX7_isGood 13 = .ok (.i2l, 1) := by decide +kernel
theorem dX7_isGood_14 : decode cX7_isGood 14 = .ok (.lconst 0, 1) := by decide +kernel
theorem dX7_isGood_15 : decode cX7_isGood 15 = .ok (.ldc2_w 199, 3) := by decide +kernel
theorem dX7_isGood_18 : decode cX7_isGood 18 = .ok (.invokestatic 74, 3) := by decide +kernel
theorem dX7_isGood_21 : decode cX7_isGood 21 = .ok (.ifCond .eq 19, 3) := by decide +kernel
theorem dX7_isGood_24 : decode cX7_isGood 24 = .ok (.iload_n 2, 1) := by decide +kernel
theorem dX7_isGood_25 : decode cX7_isGood 25 = .ok (.i2l, 1) := by decide +kernel
theorem dX7_isGood_26 : decode cX7_isGood 26 = .ok (.lconst 0, 1) := by decide +kernel
theorem dX7_isGood_27 : decode cX7_isGood 27 = .ok (.ldc2_w 72, 3) := by decide +kernel
theorem dX7_isGood_30 : decode cX7_isGood 30 = .ok (.invokestatic 74, 3) := by decide +kernel
theorem dX7_isGood_33 : decode cX7_isGood 33 = .ok (.ifCond .eq 7, 3) := by decide +kernel
theorem dX7_isGood_36 : decode cX7_isGood 36 = .ok (.iconst 1, 1) := by decide +kernel
theorem dX7_isGood_37 : decode cX7_isGood 37 = .ok (.goto 4, 3) := by decide +kernel
theorem dX7_isGood_40 : decode cX7_isGood 40 = .ok (.iconst 0, 1) := by decide +kernel
theorem dX7_isGood_41 : decode cX7_isGood 41 = .ok (.ireturn, 1) := by decide +kernel
theorem dX7_open_0 : decode cX7_open 0 = .ok (.iload_n 1, 1) := by decide +kernel
theorem dX7_open_1 : decode cX7_open 1 = .ok (.iload_n 2, 1) := by decide +kernel
theorem dX7_open_2 : decode cX7_open 2 = .ok (.iload_n 3, 1) := by decide +kernel
theorem dX7_open_3 : decode cX7_open 3 = .ok (.invokestatic 201, 3) := by decide +kernel
theorem dX7_open_6 : decode cX7_open 6 = .ok (.ifCond .ne 6, 3) := by decide +kernel
theorem dX7_open_9 : decode cX7_open 9 = .ok (.bipush (-2), 2) := by decide +kernel
theorem dX7_open_11 : decode cX7_open 11 = .ok (.ireturn, 1) := by decide +kernel
theorem dX7_open_12 : decode cX7_open 12 = .ok (.aload_n 0, 1) := by decide +kernel
theorem dX7_open_13 : decode cX7_open 13 = .ok (.iload_n 1, 1) := by decide +kernel
theorem dX7_open_14 : decode cX7_open 14 = .ok (.iload_n 2, 1) := by decide +kernel
theorem dX7_open_15 : decode cX7_open 15 = .ok (.iload_n 3, 1) := by decide +kernel
theorem dX7_open_16 : decode cX7_open 16 = .ok (.invokevirtual 204, 3) := by decide +kernel
theorem dX7_open_19 : decode cX7_open 19 = .ok (.aload_n 0, 1) := by decide +kernel
theorem dX7_open_20 : decode cX7_open 20 = .ok (.getfield 122, 3) := by decide +kernel
theorem dX7_open_23 : decode cX7_open 23 = .ok (.ifCond .le 13, 3) := by decide +kernel
theorem dX7_open_26 : decode cX7_open 26 = .ok (.bipush (-10), 2) := by decide +kernel
theorem dX7_open_28 : decode cX7_open 28 = .ok (.aload_n 0, 1) := by decide +kernel
theorem dX7_open_29 : decode cX7_open 29 = .ok (.getfield 122, 3) := by decide +kernel
theorem dX7_open_32 : decode cX7_open 32 = .ok (.isub, 1) := by decide +kernel
theorem dX7_open_33 : decode cX7_open 33 = .ok (.goto 7, 3) := by decide +kernel
theorem dX7_open_36 : decode cX7_open 36 = .ok (.aload_n 0, 1) := by decide +kernel
theorem dX7_open_37 : decode cX7_open 37 = .ok (.getfield 140, 3) := by decide +kernel
theorem dX7_open_40 : decode cX7_open 40 = .ok (.ireturn, 1) := by decide +kernel
theorem dX7_place_0 : decode cX7_place 0 = .ok (.aload_n 0, 1) := by decide +kernel
theorem dX7_place_1 : decode cX7_place 1 = .ok (.getfield 16, 3) := by decide +kernel
theorem dX7_place_4 : decode cX7_place 4 = .ok (.ireturn, 1) := by decide +kernel
theorem dX7_out_0 : decode cX7_out 0 = .ok (.iload_n 1, 1) := by decide +kernel
theorem dX7_out_1 : decode cX7_out 1 = .ok (.i2l, 1) := by decide +kernel
theorem dX7_out_2 : decode cX7_out 2 = .ok (.lconst 0, 1) := by decide +kernel
theorem dX7_out_3 : decode cX7_out 3 = .ok (.aload_n 0, 1) := by decide +kernel
theorem dX7_out_4 : decode cX7_out 4 = .ok (.getfield 140, 3) := by decide +kernel
theorem dX7_out_7 : decode cX7_out 7 = .ok (.iconst 1, 1) := by decide +kernel
theorem dX7_out_8 : decode cX7_out 8 = .ok (.isub, 1) := by decide +kernel
theorem dX7_out_9 : decode cX7_out 9 = .ok (.i2l, 1) := by decide +kernel
theorem dX7_out_10 : decode cX7_out 10 = .ok (.invokestatic 74, 3) := by decide +kernel
theorem dX7_out_13 : decode cX7_out 13 = .ok (.ifCond .eq 12, 3) := by decide +kernel
theorem dX7_out_16 : decode cX7_out 16 = .ok (.aload_n 0, 1) := by decide +kernel
theorem dX7_out_17 : decode cX7_out 17 = .ok (.getfield 13, 3) := by decide +kernel
theorem dX7_out_20 : decode cX7_out 20 = .ok (.iload_n 1, 1) := by decide +kernel
theorem dX7_out_21 : decode cX7_out 21 = .ok (.iaload, 1) := by decide +kernel
theorem dX7_out_22 : decode cX7_out 22 = .ok (.goto 4, 3) := by decide +kernel
theorem dX7_out_25 : decode cX7_out 25 = .ok (.iconst (-1), 1) := by decide +kernel
theorem dX7_out_26 : decode cX7_out 26 = .ok (.ireturn, 1) := by decide +kernel
theorem dX7_item__0 : decode cX7_item_ 0 = .ok (.iload_n 1, 1) := by decide +kernel
theorem dX7_item__1 : decode cX7_item_ 1 = .ok (.iconst (-1), 1) := by decide +kernel
theorem dX7_item__2 : decode cX7_item_ 2 = .ok (.if_icmp .ne 10, 3) := by decide +kernel
theorem dX7_item__5 : decode cX7_item_ 5 = .ok (.aload_n 0, 1) := by decide +kernel
theorem dX7_item__6 : decode cX7_item_ 6 = .ok (.getfield 32, 3) := by decide +kernel
theorem dX7_item__9 : decode cX7_item_ 9 = .ok (.iconst 0, 1) := by decide +kernel
theorem dX7_item__10 : decode cX7_item_ 10 = .ok (.iaload, 1) := by decide +kernel
theorem dX7_item__11 : decode cX7_item_ 11 = .ok (.ireturn, 1) := by decide +kernel
theorem dX7_item__12 : decode cX7_item_ 12 = .ok (.iload_n 1, 1) := by decide +kernel
theorem dX7_item__13 : decode cX7_item_ 13 = .ok (.i2l, 1) := by decide +kernel
theorem dX7_item__14 : decode cX7_item_ 14 = .ok (.lconst 0, 1) := by decide +kernel
theorem dX7_item__15 : decode cX7_item_ 15 = .ok (.aload_n 0, 1) := by decide +kernel
theorem dX7_item__16 : decode cX7_item_ 16 = .ok (.getfield 32, 3) := by decide +kernel
theorem dX7_item__19 : decode cX7_item_ 19 = .ok (.iconst 0, 1) := by decide +kernel
theorem dX7_item__20 : decode cX7_item_ 20 = .ok (.iaload, 1) := by decide +kernel
theorem dX7_item__21 : decode cX7_item_ 21 = .ok (.iconst 1, 1) := by decide +kernel
theorem dX7_item__22 : decode cX7_item_ 22 = .ok (.isub, 1) := by decide +kernel
theorem dX7_item__23 : decode cX7_item_ 23 = .ok (.i2l, 1) := by decide +kernel
theorem dX7_item__24 : decode cX7_item_ 24 = .ok (.invokestatic 74, 3) := by decide +kernel
theorem dX7_item__27 : decode cX7_item_ 27 = .ok (.ifCond .ne 5, 3) := by decide +kernel
theorem dX7_item__30 : decode cX7_item_ 30 = .ok (.iconst (-1), 1) := by decide +kernel
theorem dX7_item__31 : decode cX7_item_ 31 = .ok (.ireturn, 1) := by decide +kernel
theorem dX7_item__32 : decode cX7_item_ 32 = .ok (.iload_n 2, 1) := by decide +kernel
theorem dX7_item__33 : decode cX7_item_ 33 = .ok (.tableswitch 59 0 3 #[31, 38, 45, 52], 31) := by decide +kernel
theorem dX7_item__64 : decode cX7_item_ 64 = .ok (.aload_n 0, 1) := by decide +kernel
theorem dX7_item__65 : decode cX7_item_ 65 = .ok (.getfield 47, 3) := by decide +kernel
theorem dX7_item__68 : decode cX7_item_ 68 = .ok (.iload_n 1, 1) := by decide +kernel
theorem dX7_item__69 : decode cX7_item_ 69 = .ok (.iaload, 1) := by decide +kernel
theorem dX7_item__70 : decode cX7_item_ 70 = .ok (.ireturn, 1) := by decide +kernel
theorem dX7_item__71 : decode cX7_item_ 71 = .ok (.aload_n 0, 1) := by decide +kernel
theorem dX7_item__72 : decode cX7_item_ 72 = .ok (.getfield 50, 3) := by decide +kernel
theorem dX7_item__75 : decode cX7_item_ 75 = .ok (.iload_n 1, 1) := by decide +kernel
theorem dX7_item__76 : decode cX7_item_ 76 = .ok (.iaload, 1) := by decide +kernel
theorem dX7_item__77 : decode cX7_item_ 77 = .ok (.ireturn, 1) := by decide +kernel
theorem dX7_item__78 : decode cX7_item_ 78 = .ok (.aload_n 0, 1) := by decide +kernel
theorem dX7_item__79 : decode cX7_item_ 79 = .ok (.getfield 53, 3) := by decide +kernel
theorem dX7_item__82 : decode cX7_item_ 82 = .ok (.iload_n 1, 1) := by decide +kernel
theorem dX7_item__83 : decode cX7_item_ 83 = .ok (.iaload, 1) := by decide +kernel
theorem dX7_item__84 : decode cX7_item_ 84 = .ok (.ireturn, 1) := by decide +kernel
theorem dX7_item__85 : decode cX7_item_ 85 = .ok (.aload_n 0, 1) := by decide +kernel
theorem dX7_item__86 : decode cX7_item_ 86 = .ok (.getfield 56, 3) := by decide +kernel
theorem dX7_item__89 : decode cX7_item_ 89 = .ok (.iload_n 1, 1) := by decide +kernel
theorem dX7_item__90 : decode cX7_item_ 90 = .ok (.iaload, 1) := by decide +kernel
theorem dX7_item__91 : decode cX7_item_ 91 = .ok (.ireturn, 1) := by decide +kernel
theorem dX7_item__92 : decode cX7_item_ 92 = .ok (.iconst (-1), 1) := by decide +kernel
theorem dX7_item__93 : decode cX7_item_ 93 = .ok (.ireturn, 1) := by decide +kernel
theorem dX7_shrink_0 : decode cX7_shrink 0 = .ok (.iload_n 1, 1) := by decide +kernel
theorem dX7_shrink_1 : decode cX7_shrink 1 = .ok (.iload_n 2, 1) := by decide +kernel
theorem dX7_shrink_2 : decode cX7_shrink 2 = .ok (.iload_n 3, 1) := by decide +kernel
theorem dX7_shrink_3 : decode cX7_shrink 3 = .ok (.invokestatic 201, 3) := by decide +kernel
theorem dX7_shrink_6 : decode cX7_shrink 6 = .ok (.ifCond .ne 6, 3) := by decide +kernel
theorem dX7_shrink_9 : decode cX7_shrink 9 = .ok (.bipush (-2), 2) := by decide +kernel
theorem dX7_shrink_11 : decode cX7_shrink 11 = .ok (.ireturn, 1) := by decide +kernel
theorem dX7_shrink_12 : decode cX7_shrink 12 = .ok (.aload_n 0, 1) := by decide +kernel
theorem dX7_shrink_13 : decode cX7_shrink 13 = .ok (.iload_n 1, 1) := by decide +kernel
theorem dX7_shrink_14 : decode cX7_shrink 14 = .ok (.iload_n 2, 1) := by decide +kernel
theorem dX7_shrink_15 : decode cX7_shrink 15 = .ok (.iload_n 3, 1) := by decide +kernel
theorem dX7_shrink_16 : decode cX7_shrink 16 = .ok (.invokevirtual 204, 3) := by decide +kernel
theorem dX7_shrink_19 : decode cX7_shrink 19 = .ok (.aload_n 0, 1) := by decide +kernel
theorem dX7_shrink_20 : decode cX7_shrink 20 = .ok (.getfield 122, 3) := by decide +kernel
theorem dX7_shrink_23 : decode cX7_shrink 23 = .ok (.ifCond .ne 6, 3) := by decide +kernel
theorem dX7_shrink_26 : decode cX7_shrink 26 = .ok (.bipush (-3), 2) := by decide +kernel
theorem dX7_shrink_28 : decode cX7_shrink 28 = .ok (.ireturn, 1) := by decide +kernel
theorem dX7_shrink_29 : decode cX7_shrink 29 = .ok (.aload_n 0, 1) := by decide +kernel
theorem dX7_shrink_30 : decode cX7_shrink 30 = .ok (.getfield 122, 3) := by decide +kernel
theorem dX7_shrink_33 : decode cX7_shrink 33 = .ok (.istore 4, 2) := by decide +kernel
theorem dX7_shrink_35 : decode cX7_shrink 35 = .ok (.aload_n 0, 1) := by decide +kernel
theorem dX7_shrink_36 : decode cX7_shrink 36 = .ok (.getfield 32, 3) := by decide +kernel
theorem dX7_shrink_39 : decode cX7_shrink 39 = .ok (.iconst 0, 1) := by decide +kernel
theorem dX7_shrink_40 : decode cX7_shrink 40 = .ok (.iaload, 1) := by decide +kernel
theorem dX7_shrink_41 : decode cX7_shrink 41 = .ok (.istore 5, 2) := by decide +kernel
theorem dX7_shrink_43 : decode cX7_shrink 43 = .ok (.iconst 0, 1) := by decide +kernel
theorem dX7_shrink_44 : decode cX7_shrink 44 = .ok (.istore 6, 2) := by decide +kernel
theorem dX7_shrink_46 : decode cX7_shrink 46 = .ok (.iload 6, 2) := by decide +kernel
theorem dX7_shrink_48 : decode cX7_shrink 48 = .ok (.iload 5, 2) := by decide +kernel
theorem dX7_shrink_50 : decode cX7_shrink 50 = .ok (.if_icmp .ge 23, 3) := by decide +kernel
theorem dX7_shrink_53 : decode cX7_shrink 53 = .ok (.aload_n 0, 1) := by decide +kernel
theorem dX7_shrink_54 : decode cX7_shrink 54 = .ok (.getfield 65, 3) := by decide +kernel
theorem dX7_shrink_57 : decode cX7_shrink 57 = .ok (.iload 6, 2) := by decide +kernel
theorem dX7_shrink_59 : decode cX7_shrink 59 = .ok (.aload_n 0, 1) := by decide +kernel
theorem dX7_shrink_60 : decode cX7_shrink 60 = .ok (.getfield 50, 3) := by decide +kernel
theorem dX7_shrink_63 : decode cX7_shrink 63 = .ok (.iload 6, 2) := by decide +kernel
theorem dX7_shrink_65 : decode cX7_shrink 65 = .ok (.iaload, 1) := by decide +kernel
theorem dX7_shrink_66 : decode cX7_shrink 66 = .ok (.iastore, 1) := by decide +kernel
theorem dX7_shrink_67 : decode cX7_shrink 67 = .ok (.iinc 6 1, 3) := by decide +kernel
theorem dX7_shrink_70 : decode cX7_shrink 70 = .ok (.goto (-24), 3) := by decide +kernel
theorem dX7_shrink_73 : decode cX7_shrink 73 = .ok (.aload_n 0, 1) := by decide +kernel
theorem dX7_shrink_74 : decode cX7_shrink 74 = .ok (.getfield 65, 3) := by decide +kernel
theorem dX7_shrink_77 : decode cX7_shrink 77 = .ok (.iload 5, 2) := by decide +kernel
theorem dX7_shrink_79 : decode cX7_shrink 79 = .ok (.aload_n 0, 1) := by decide +kernel
theorem dX7_shrink_80 : decode cX7_shrink 80 = .ok (.getfield 26, 3) := by decide +kernel
theorem dX7_shrink_83 : decode cX7_shrink 83 = .ok (.iconst 0, 1) := by decide +kernel
theorem dX7_shrink_84 : decode cX7_shrink 84 = .ok (.iaload, 1) := by decide +kernel
theorem dX7_shrink_85 : decode cX7_shrink 85 = .ok (.iastore, 1) := by decide +kernel
theorem dX7_shrink_86 : decode cX7_shrink 86 = .ok (.iconst 0, 1) := by decide +kernel
theorem dX7_shrink_87 : decode cX7_shrink 87 = .ok (.istore 6, 2) := by decide +kernel
theorem dX7_shrink_89 : decode cX7_shrink 89 = .ok (.iconst 0, 1) := by decide +kernel
theorem dX7_shrink_90 : decode cX7_shrink 90 = .ok (.istore 7, 2) := by decide +kernel
theorem dX7_shrink_92 : decode cX7_shrink 92 = .ok (.iload 7, 2) := by decide +kernel
theorem dX7_shrink_94 : decode cX7_shrink 94 = .ok (.iload 5, 2) := by decide +kernel
theorem dX7_shrink_96 : decode cX7_shrink 96 = .ok (.if_icmp .ge 189, 3) := by decide +kernel
theorem dX7_shrink_99 : decode cX7_shrink 99 = .ok (.aload_n 0, 1) := by decide +kernel
theorem dX7_shrink_100 : decode cX7_shrink 100 = .ok (.getfield 65, 3) := by decide +kernel
theorem dX7_shrink_103 : decode cX7_shrink 103 = .ok (.iload 7, 2) := by decide +kernel
theorem dX7_shrink_105 : decode cX7_shrink 105 = .ok (.iaload, 1) := by decide +kernel
theorem dX7_shrink_106 : decode cX7_shrink 106 = .ok (.iload 6, 2) := by decide +kernel
theorem dX7_shrink_108 : decode cX7_shrink 108 = .ok (.isub, 1) := by decide +kernel
theorem dX7_shrink_109 : decode cX7_shrink 109 = .ok (.istore 8, 2) := by decide +kernel
theorem dX7_shrink_111 : decode cX7_shrink 111 = .ok (.aload_n 0, 1) := by decide +kernel
theorem dX7_shrink_112 : decode cX7_shrink 112 = .ok (.getfield 65, 3) := by decide +kernel
theorem dX7_shrink_115 : decode cX7_shrink 115 = .ok (.iload 7, 2) := by decide +kernel
theorem dX7_shrink_117 : decode cX7_shrink 117 = .ok (.iconst 1, 1) := by decide +kernel
theorem dX7_shrink_118 : decode cX7_shrink 118 = .ok (.iadd, 1) := by decide +kernel
theorem dX7_shrink_119 : decode cX7_shrink 119 = .ok (.iaload, 1) := by decide +kernel
theorem dX7_shrink_120 : decode cX7_shrink 120 = .ok (.aload_n 0, 1) := by decide +kernel
theorem dX7_shrink_121 : decode cX7_shrink 121 = .ok (.getfield 65, 3) := by decide +kernel
theorem dX7_shrink_124 : decode cX7_shrink 124 = .ok (.iload 7, 2) := by decide +kernel
theorem dX7_shrink_126 : decode cX7_shrink 126 = .ok (.iaload, 1) := by decide +kernel
theorem dX7_shrink_127 : decode cX7_shrink 127 = .ok (.isub, 1) := by decide +kernel
theorem dX7_shrink_128 : decode cX7_shrink 128 = .ok (.istore 9, 2) := by decide +kernel
theorem dX7_shrink_130 : decode cX7_shrink 130 = .ok (.aload_n 0, 1) := by decide +kernel
theorem dX7_shrink_131 : decode cX7_shrink 131 = .ok (.getfield 78, 3) := by decide +kernel
theorem dX7_shrink_134 : decode cX7_shrink 134 = .ok (.istore 10, 2) := by decide +kernel
theorem dX7_shrink_136 : decode cX7_shrink 136 = .ok (.iconst 0, 1) := by decide +kernel
theorem dX7_shrink_137 : decode cX7_shrink 137 = .ok (.istore 11, 2) := by decide +kernel
theorem dX7_shrink_139 : decode cX7_shrink 139 = .ok (.iload 11, 2) := by decide +kernel
theorem dX7_shrink_141 : decode cX7_shrink 141 = .ok (.aload_n 0, 1) := by decide +kernel
theorem dX7_shrink_142 : decode cX7_shrink 142 = .ok (.getfield 78, 3) := by decide +kernel
theorem dX7_shrink_145 : decode cX7_shrink 145 = .ok (.if_icmp .ge 23, 3) := by decide +kernel
theorem dX7_shrink_148 : decode cX7_shrink 148 = .ok (.aload_n 0, 1) := by decide +kernel
theorem dX7_shrink_149 : decode cX7_shrink 149 = .ok (.getfield 62, 3) := by decide +kernel
theorem dX7_shrink_152 : decode cX7_shrink 152 = .ok (.iload 11, 2) := by decide +kernel
theorem dX7_shrink_154 : decode cX7_shrink 154 = .ok (.aload_n 0, 1) := by decide +kernel
theorem dX7_shrink_155 : decode cX7_shrink 155 = .ok (.getfield 7, 3) := by decide +kernel
theorem dX7_shrink_158 : decode cX7_shrink 158 = .ok (.iload 11, 2) := by decide +kernel
theorem dX7_shrink_160 : decode cX7_shrink 160 = .ok (.iaload, 1) := by decide +kernel
theorem dX7_shrink_161 : decode cX7_shrink 161 = .ok (.iastore, 1) := by decide +kernel
theorem dX7_shrink_162 : decode cX7_shrink 162 = .ok (.iinc 11 1, 3) := by decide +kernel
theorem dX7_shrink_165 : decode cX7_shrink 165 = .ok (.goto (-26), 3) := by decide +kernel
theorem dX7_shrink_168 : decode cX7_shrink 168 = .ok (.aload_n 0, 1) := by decide +kernel
theorem dX7_shrink_169 : decode cX7_shrink 169 = .ok (.dup, 1) := by decide +kernel
theorem dX7_shrink_170 : decode cX7_shrink 170 = .ok (.getfield 78, 3) := by decide +kernel
theorem dX7_shrink_173 : decode cX7_shrink 173 = .ok (.iload 9, 2) := by decide +kernel
theorem dX7_shrink_175 : decode cX7_shrink 175 = .ok (.isub, 1) := by decide +kernel
theorem dX7_shrink_176 : decode cX7_shrink 176 = .ok (.putfield 78, 3) := by decide +kernel
theorem dX7_shrink_179 : decode cX7_shrink 179 = .ok (.iload 8, 2) := by decide +kernel
theorem dX7_shrink_181 : decode cX7_shrink 181 = .ok (.istore 11, 2) := by decide +kernel
theorem dX7_shrink_183 : decode cX7_shrink 183 = .ok (.iload 11, 2) := by decide +kernel
theorem dX7_shrink_185 : decode cX7_shrink 185 = .ok (.aload_n 0, 1) := by decide +kernel
theorem dX7_shrink_186 : decode cX7_shrink 186 = .ok (.getfield 78, 3) := by decide +kernel
theorem dX7_shrink_189 : decode cX7_shrink 189 = .ok (.if_icmp .ge 26, 3) := by decide +kernel
theorem dX7_shrink_192 : decode cX7_shrink 192 = .ok (.aload_n 0, 1) := by decide +kernel
theorem dX7_shrink_193 : decode cX7_shrink 193 = .ok (.getfield 7, 3) := by decide +kernel
theorem dX7_shrink_196 : decode cX7_shrink 196 = .ok (.iload 11, 2) := by decide +kernel
theorem dX7_shrink_198 : decode cX7_shrink 198 = .ok (.aload_n 0, 1) := by decide +kernel
theorem dX7_shrink_199 : decode cX7_shrink 199 = .ok (.getfield 62, 3) := by decide +kernel
theorem dX7_shrink_202 : decode cX7_shrink 202 = .ok (.iload 11, 2) := by decide +kernel
theorem dX7_shrink_204 : decode cX7_shrink 204 = .ok (.iload 9, 2) := by decide +kernel
theorem dX7_shrink_206 : decode cX7_shrink 206 = .ok (.iadd, 1) := by decide +kernel
theorem dX7_shrink_207 : decode cX7_shrink 207 = .ok (.iaload, 1) := by decide +kernel
theorem dX7_shrink_208 : decode cX7_shrink 208 = .ok (.iastore, 1) := by decide +kernel
theorem dX7_shrink_209 : decode cX7_shrink 209 = .ok (.iinc 11 1, 3) := by decide +kernel
theorem dX7_shrink_212 : decode cX7_shrink 212 = .ok (.goto (-29), 3) := by decide +kernel
theorem dX7_shrink_215 : decode cX7_shrink 215 = .ok (.aload_n 0, 1) := by decide +kernel
theorem dX7_shrink_216 : decode cX7_shrink 216 = .ok (.iload_n 1, 1) := by decide +kernel
theorem dX7_shrink_217 : decode cX7_shrink 217 = .ok (.iload_n 2, 1) := by decide +kernel
theorem dX7_shrink_218 : decode cX7_shrink 218 = .ok (.iload_n 3, 1) := by decide +kernel
theorem dX7_shrink_219 : decode cX7_shrink 219 = .ok (.invokevirtual 204, 3) := by decide +kernel
theorem dX7_shrink_222 : decode cX7_shrink 222 = .ok (.aload_n 0, 1) := by decide +kernel
theorem dX7_shrink_223 : decode cX7_shrink 223 = .ok (.getfield 122, 3) := by decide +kernel
theorem dX7_shrink_226 : decode cX7_shrink 226 = .ok (.iload 4, 2) := by decide +kernel
theorem dX7_shrink_228 : decode cX7_shrink 228 = .ok (.if_icmp .ne 13, 3) := by decide +kernel
theorem dX7_shrink_231 : decode cX7_shrink 231 = .ok (.iload 6, 2) := by decide +kernel
theorem dX7_shrink_233 : decode cX7_shrink 233 = .ok (.iload 9, 2) := by decide +kernel
theorem dX7_shrink_235 : decode cX7_shrink 235 = .ok (.iadd, 1) := by decide +kernel
theorem dX7_shrink_236 : decode cX7_shrink 236 = .ok (.istore 6, 2) := by decide +kernel
theorem dX7_shrink_238 : decode cX7_shrink 238 = .ok (.goto 41, 3) := by decide +kernel
theorem dX7_shrink_241 : decode cX7_shrink 241 = .ok (.aload_n 0, 1) := by decide +kernel
theorem dX7_shrink_242 : decode cX7_shrink 242 = .ok (.iload 10, 2) := by decide +kernel
theorem dX7_shrink_244 : decode cX7_shrink 244 = .ok (.putfield 78, 3) := by decide +kernel
theorem dX7_shrink_247 : decode cX7_shrink 247 = .ok (.iconst 0, 1) := by decide +kernel
theorem dX7_shrink_248 : decode cX7_shrink 248 = .ok (.istore 11, 2) := by decide +kernel
theorem dX7_shrink_250 : decode cX7_shrink 250 = .ok (.iload 11, 2) := by decide +kernel
theorem dX7_shrink_252 : decode cX7_shrink 252 = .ok (.aload_n 0, 1) := by decide +kernel
theorem dX7_shrink_253 : decode cX7_shrink 253 = .ok (.getfield 78, 3) := by decide +kernel
theorem dX7_shrink_256 : decode cX7_shrink 256 = .ok (.if_icmp .ge 23, 3) := by decide +kernel
theorem dX7_shrink_259 : decode cX7_shrink 259 = .ok (.aload_n 0, 1) := by decide +kernel
theorem dX7_shrink_260 : decode cX7_shrink 260 = .ok (.getfield 7, 3) := by decide +kernel
theorem dX7_shrink_263 : decode cX7_shrink 263 = .ok (.iload 11, 2) := by decide +kernel
theorem dX7_shrink_265 : decode cX7_shrink 265 = .ok (.aload_n 0, 1) := by decide +kernel
theorem dX7_shrink_266 : decode cX7_shrink 266 = .ok (.getfield 62, 3) := by decide +kernel
theorem dX7_shrink_269 : decode cX7_shrink 269 = .ok (.iload 11, 2) := by decide +kernel
theorem dX7_shrink_271 : decode cX7_shrink 271 = .ok (.iaload, 1) := by decide +kernel
theorem dX7_shrink_272 : decode cX7_shrink 272 = .ok (.iastore, 1) := by decide +kernel
theorem dX7_shrink_273 : decode cX7_shrink 273 = .ok (.iinc 11 1, 3) := by decide +kernel
theorem dX7_shrink_276 : decode cX7_shrink 276 = .ok (.goto (-26), 3) := by decide +kernel
theorem dX7_shrink_279 : decode cX7_shrink 279 = .ok (.iinc 7 1, 3) := by decide +kernel
theorem dX7_shrink_282 : decode cX7_shrink 282 = .ok (.goto (-190), 3) := by decide +kernel
theorem dX7_shrink_285 : decode cX7_shrink 285 = .ok (.aload_n 0, 1) := by decide +kernel
theorem dX7_shrink_286 : decode cX7_shrink 286 = .ok (.iload_n 1, 1) := by decide +kernel
theorem dX7_shrink_287 : decode cX7_shrink 287 = .ok (.iload_n 2, 1) := by decide +kernel
theorem dX7_shrink_288 : decode cX7_shrink 288 = .ok (.iload_n 3, 1) := by decide +kernel
theorem dX7_shrink_289 : decode cX7_shrink 289 = .ok (.invokevirtual 204, 3) := by decide +kernel
theorem dX7_shrink_292 : decode cX7_shrink 292 = .ok (.aload_n 0, 1) := by decide +kernel
theorem dX7_shrink_293 : decode cX7_shrink 293 = .ok (.getfield 78, 3) := by decide +kernel
theorem dX7_shrink_296 : decode cX7_shrink 296 = .ok (.ireturn, 1) := by decide +kernel
theorem dX7_count_0 : decode cX7_count 0 = .ok (.iload_n 1, 1) := by decide +kernel
theorem dX7_count_1 : decode cX7_count 1 = .ok (.tableswitch 78 0 6 #[43, 48, 53, 58, 63, 68, 73], 43) := by decide +kernel
theorem dX7_count_44 : decode cX7_count 44 = .ok (.aload_n 0, 1) := by decide +kernel
theorem dX7_count_45 : decode cX7_count 45 = .ok (.getfield 78, 3) := by decide +kernel
theorem dX7_count_48 : decode cX7_count 48 = .ok (.ireturn, 1) := by decide +kernel
theorem dX7_count_49 : decode cX7_count 49 = .ok (.aload_n 0, 1) := by decide +kernel
theorem dX7_count_50 : decode cX7_count 50 = .ok (.getfield 140, 3) := by decide +kernel
theorem dX7_count_53 : decode cX7_count 53 = .ok (.ireturn, 1) := by decide +kernel
theorem dX7_count_54 : decode cX7_count 54 = .ok (.aload_n 0, 1) := by decide +kernel
theorem dX7_count_55 : decode cX7_count 55 = .ok (.getfield 125, 3) := by decide +kernel
theorem dX7_count_58 : decode cX7_count 58 = .ok (.ireturn, 1) := by decide +kernel
theorem dX7_count_59 : decode cX7_count 59 = .ok (.aload_n 0, 1) := by decide +kernel
theorem dX7_count_60 : decode cX7_count 60 = .ok (.getfield 143, 3) := by decide +kernel
theorem dX7_count_63 : decode cX7_count 63 = .ok (.ireturn, 1) := by decide +kernel
theorem dX7_count_64 : decode cX7_count 64 = .ok (.aload_n 0, 1) := by decide +kernel
theorem dX7_count_65 : decode cX7_count 65 = .ok (.getfield 134, 3) := by decide +kernel
theorem dX7_count_68 : decode cX7_count 68 = .ok (.ireturn, 1) := by decide +kernel
theorem dX7_count_69 : decode cX7_count 69 = .ok (.aload_n 0, 1) := by decide +kernel
theorem dX7_count_70 : decode cX7_count 70 = .ok (.getfield 122, 3) := by decide +kernel
theorem dX7_count_73 : decode cX7_count 73 = .ok (.ireturn, 1) := by decide +kernel
theorem dX7_count_74 : decode cX7_count 74 = .ok (.aload_n 0, 1) := by decide +kernel
theorem dX7_count_75 : decode cX7_count 75 = .ok (.getfield 191, 3) := by decide +kernel
theorem dX7_count_78 : decode cX7_count 78 = .ok (.ireturn, 1) := by decide +kernel
theorem dX7_count_79 : decode cX7_count 79 = .ok (.iconst (-1), 1) := by decide +kernel
theorem dX7_count_80 : decode cX7_count 80 = .ok (.ireturn, 1) := by decide +kernel
