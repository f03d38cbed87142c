section
-- ===== PART A: goes FIRST, ahead of the names: the tables' words, and 'selects' of the private methods out of them =====
/-- a private method of a class that the tables say can be made, by its rows of tables_1 -/
def lw_okq (q : MethodName × Nat) : Prop := (q.1.cls ≠ "java/lang/invoke/MethodHandle" ∧ q.1.cls ≠ "java/lang/invoke/VarHandle") ∧ Cond.instantiable q.1.cls q.2 ∈ tables_1 ∧ Cond.privateMethod q.1 ∈ tables_1 ∧ Cond.instanceMethod q.1 ∈ tables_1
theorem lw_p0 : lw_okq (⟨"BombFamilies$Maker", "makeLies", "(I)V"⟩, 2) := ⟨⟨by decide +kernel, by decide +kernel⟩, List.mem_of_getElem? (i := 46) (by decide +kernel), List.mem_of_getElem? (i := 273) (by decide +kernel), List.mem_of_getElem? (i := 274) (by decide +kernel)⟩
theorem lw_p1 : lw_okq (⟨"BombFamilies$Maker", "append", "(II)V"⟩, 2) := ⟨⟨by decide +kernel, by decide +kernel⟩, List.mem_of_getElem? (i := 46) (by decide +kernel), List.mem_of_getElem? (i := 277) (by decide +kernel), List.mem_of_getElem? (i := 278) (by decide +kernel)⟩
theorem lw_p2 : lw_okq (⟨"BombFamilies$Maker", "appendDrawn", "(I)V"⟩, 2) := ⟨⟨by decide +kernel, by decide +kernel⟩, List.mem_of_getElem? (i := 46) (by decide +kernel), List.mem_of_getElem? (i := 282) (by decide +kernel), List.mem_of_getElem? (i := 283) (by decide +kernel)⟩
theorem lw_p3 : lw_okq (⟨"BombFamilies$Maker", "next", "(I)I"⟩, 2) := ⟨⟨by decide +kernel, by decide +kernel⟩, List.mem_of_getElem? (i := 46) (by decide +kernel), List.mem_of_getElem? (i := 286) (by decide +kernel), List.mem_of_getElem? (i := 287) (by decide +kernel)⟩
theorem lw_p4 : lw_okq (⟨"BombFamilies$Maker", "appendEnd", "(I)V"⟩, 2) := ⟨⟨by decide +kernel, by decide +kernel⟩, List.mem_of_getElem? (i := 46) (by decide +kernel), List.mem_of_getElem? (i := 292) (by decide +kernel), List.mem_of_getElem? (i := 293) (by decide +kernel)⟩
theorem lw_p5 : lw_okq (⟨"BombFamilies$Maker", "makeRuns", "(I)V"⟩, 2) := ⟨⟨by decide +kernel, by decide +kernel⟩, List.mem_of_getElem? (i := 46) (by decide +kernel), List.mem_of_getElem? (i := 297) (by decide +kernel), List.mem_of_getElem? (i := 298) (by decide +kernel)⟩
theorem lw_p6 : lw_okq (⟨"BombFamilies$Maker", "append", "(III)V"⟩, 2) := ⟨⟨by decide +kernel, by decide +kernel⟩, List.mem_of_getElem? (i := 46) (by decide +kernel), List.mem_of_getElem? (i := 301) (by decide +kernel), List.mem_of_getElem? (i := 302) (by decide +kernel)⟩
theorem lw_p7 : lw_okq (⟨"BombFamilies$Maker", "makeOverlaps", "(I)V"⟩, 2) := ⟨⟨by decide +kernel, by decide +kernel⟩, List.mem_of_getElem? (i := 46) (by decide +kernel), List.mem_of_getElem? (i := 305) (by decide +kernel), List.mem_of_getElem? (i := 306) (by decide +kernel)⟩
theorem lw_p8 : lw_okq (⟨"BombFamilies$Maker", "makeDeep", "(I)V"⟩, 2) := ⟨⟨by decide +kernel, by decide +kernel⟩, List.mem_of_getElem? (i := 46) (by decide +kernel), List.mem_of_getElem? (i := 309) (by decide +kernel), List.mem_of_getElem? (i := 310) (by decide +kernel)⟩
theorem lw_p9 : lw_okq (⟨"BombFamilies$Maker", "makeEmpty", "(I)V"⟩, 2) := ⟨⟨by decide +kernel, by decide +kernel⟩, List.mem_of_getElem? (i := 46) (by decide +kernel), List.mem_of_getElem? (i := 313) (by decide +kernel), List.mem_of_getElem? (i := 314) (by decide +kernel)⟩
theorem lw_p10 : lw_okq (⟨"BombFamilies$Maker", "appendEmptyNotes", "(I)V"⟩, 2) := ⟨⟨by decide +kernel, by decide +kernel⟩, List.mem_of_getElem? (i := 46) (by decide +kernel), List.mem_of_getElem? (i := 317) (by decide +kernel), List.mem_of_getElem? (i := 318) (by decide +kernel)⟩
theorem lw_p11 : lw_okq (⟨"BombFamilies$Maker", "makeAgains", "(I)V"⟩, 2) := ⟨⟨by decide +kernel, by decide +kernel⟩, List.mem_of_getElem? (i := 46) (by decide +kernel), List.mem_of_getElem? (i := 321) (by decide +kernel), List.mem_of_getElem? (i := 322) (by decide +kernel)⟩
theorem lw_p12 : lw_okq (⟨"BombFamilies$Maker", "makeTables", "(I)V"⟩, 2) := ⟨⟨by decide +kernel, by decide +kernel⟩, List.mem_of_getElem? (i := 46) (by decide +kernel), List.mem_of_getElem? (i := 325) (by decide +kernel), List.mem_of_getElem? (i := 326) (by decide +kernel)⟩
theorem lw_p13 : lw_okq (⟨"BombFamilies$Maker", "makeDrawn", "(I)V"⟩, 2) := ⟨⟨by decide +kernel, by decide +kernel⟩, List.mem_of_getElem? (i := 46) (by decide +kernel), List.mem_of_getElem? (i := 329) (by decide +kernel), List.mem_of_getElem? (i := 330) (by decide +kernel)⟩
theorem lw_p14 : lw_okq (⟨"BombFamilies$Maker", "appendDrawnItem", "(I)V"⟩, 2) := ⟨⟨by decide +kernel, by decide +kernel⟩, List.mem_of_getElem? (i := 46) (by decide +kernel), List.mem_of_getElem? (i := 333) (by decide +kernel), List.mem_of_getElem? (i := 334) (by decide +kernel)⟩
theorem lw_p15 : lw_okq (⟨"BombFamilies$Maker", "appendCounted", "(II)V"⟩, 2) := ⟨⟨by decide +kernel, by decide +kernel⟩, List.mem_of_getElem? (i := 46) (by decide +kernel), List.mem_of_getElem? (i := 337) (by decide +kernel), List.mem_of_getElem? (i := 338) (by decide +kernel)⟩
def lw_privs_1 : List (MethodName × Nat) := [(⟨"BombFamilies$Maker", "makeLies", "(I)V"⟩, 2), (⟨"BombFamilies$Maker", "append", "(II)V"⟩, 2), (⟨"BombFamilies$Maker", "appendDrawn", "(I)V"⟩, 2), (⟨"BombFamilies$Maker", "next", "(I)I"⟩, 2), (⟨"BombFamilies$Maker", "appendEnd", "(I)V"⟩, 2), (⟨"BombFamilies$Maker", "makeRuns", "(I)V"⟩, 2), (⟨"BombFamilies$Maker", "append", "(III)V"⟩, 2), (⟨"BombFamilies$Maker", "makeOverlaps", "(I)V"⟩, 2), (⟨"BombFamilies$Maker", "makeDeep", "(I)V"⟩, 2), (⟨"BombFamilies$Maker", "makeEmpty", "(I)V"⟩, 2), (⟨"BombFamilies$Maker", "appendEmptyNotes", "(I)V"⟩, 2), (⟨"BombFamilies$Maker", "makeAgains", "(I)V"⟩, 2), (⟨"BombFamilies$Maker", "makeTables", "(I)V"⟩, 2), (⟨"BombFamilies$Maker", "makeDrawn", "(I)V"⟩, 2), (⟨"BombFamilies$Maker", "appendDrawnItem", "(I)V"⟩, 2), (⟨"BombFamilies$Maker", "appendCounted", "(II)V"⟩, 2)]
theorem lw_r1 : ∀ q ∈ lw_privs_1, lw_okq q := List.forall_mem_cons.mpr ⟨lw_p0, List.forall_mem_cons.mpr ⟨lw_p1, List.forall_mem_cons.mpr ⟨lw_p2, List.forall_mem_cons.mpr ⟨lw_p3, List.forall_mem_cons.mpr ⟨lw_p4, List.forall_mem_cons.mpr ⟨lw_p5, List.forall_mem_cons.mpr ⟨lw_p6, List.forall_mem_cons.mpr ⟨lw_p7, List.forall_mem_cons.mpr ⟨lw_p8, List.forall_mem_cons.mpr ⟨lw_p9, List.forall_mem_cons.mpr ⟨lw_p10, List.forall_mem_cons.mpr ⟨lw_p11, List.forall_mem_cons.mpr ⟨lw_p12, List.forall_mem_cons.mpr ⟨lw_p13, List.forall_mem_cons.mpr ⟨lw_p14, List.forall_mem_cons.mpr ⟨lw_p15, fun _ h => absurd h List.not_mem_nil⟩⟩⟩⟩⟩⟩⟩⟩⟩⟩⟩⟩⟩⟩⟩⟩
theorem lw_p16 : lw_okq (⟨"BombFamilies$Maker", "appendDrawnAgain", "(I)V"⟩, 2) := ⟨⟨by decide +kernel, by decide +kernel⟩, List.mem_of_getElem? (i := 46) (by decide +kernel), List.mem_of_getElem? (i := 341) (by decide +kernel), List.mem_of_getElem? (i := 342) (by decide +kernel)⟩
theorem lw_p17 : lw_okq (⟨"BombFamilies$Maker", "appendDrawnNest", "()V"⟩, 2) := ⟨⟨by decide +kernel, by decide +kernel⟩, List.mem_of_getElem? (i := 46) (by decide +kernel), List.mem_of_getElem? (i := 345) (by decide +kernel), List.mem_of_getElem? (i := 346) (by decide +kernel)⟩
theorem lw_p18 : lw_okq (⟨"BombFamilies$Maker", "cutEnd", "()V"⟩, 2) := ⟨⟨by decide +kernel, by decide +kernel⟩, List.mem_of_getElem? (i := 46) (by decide +kernel), List.mem_of_getElem? (i := 349) (by decide +kernel), List.mem_of_getElem? (i := 350) (by decide +kernel)⟩
theorem lw_p19 : lw_okq (⟨"BombFamilies$Maker", "spoilCheck", "()V"⟩, 2) := ⟨⟨by decide +kernel, by decide +kernel⟩, List.mem_of_getElem? (i := 46) (by decide +kernel), List.mem_of_getElem? (i := 353) (by decide +kernel), List.mem_of_getElem? (i := 354) (by decide +kernel)⟩
theorem lw_p20 : lw_okq (⟨"BombFamilies$Reader", "readPack", "(IIII)V"⟩, 18) := ⟨⟨by decide +kernel, by decide +kernel⟩, List.mem_of_getElem? (i := 59) (by decide +kernel), List.mem_of_getElem? (i := 371) (by decide +kernel), List.mem_of_getElem? (i := 372) (by decide +kernel)⟩
theorem lw_p21 : lw_okq (⟨"BombFamilies$Reader", "fail", "(II)V"⟩, 18) := ⟨⟨by decide +kernel, by decide +kernel⟩, List.mem_of_getElem? (i := 59) (by decide +kernel), List.mem_of_getElem? (i := 375) (by decide +kernel), List.mem_of_getElem? (i := 376) (by decide +kernel)⟩
theorem lw_p22 : lw_okq (⟨"BombFamilies$Reader", "pay", "(III)Z"⟩, 18) := ⟨⟨by decide +kernel, by decide +kernel⟩, List.mem_of_getElem? (i := 59) (by decide +kernel), List.mem_of_getElem? (i := 379) (by decide +kernel), List.mem_of_getElem? (i := 380) (by decide +kernel)⟩
theorem lw_p23 : lw_okq (⟨"BombFamilies$Reader", "canPay", "(III)Z"⟩, 18) := ⟨⟨by decide +kernel, by decide +kernel⟩, List.mem_of_getElem? (i := 59) (by decide +kernel), List.mem_of_getElem? (i := 383) (by decide +kernel), List.mem_of_getElem? (i := 384) (by decide +kernel)⟩
theorem lw_p24 : lw_okq (⟨"BombFamilies$Reader", "readMark", "(II)V"⟩, 18) := ⟨⟨by decide +kernel, by decide +kernel⟩, List.mem_of_getElem? (i := 59) (by decide +kernel), List.mem_of_getElem? (i := 392) (by decide +kernel), List.mem_of_getElem? (i := 393) (by decide +kernel)⟩
theorem lw_p25 : lw_okq (⟨"BombFamilies$Reader", "next", "(I)I"⟩, 18) := ⟨⟨by decide +kernel, by decide +kernel⟩, List.mem_of_getElem? (i := 59) (by decide +kernel), List.mem_of_getElem? (i := 396) (by decide +kernel), List.mem_of_getElem? (i := 397) (by decide +kernel)⟩
theorem lw_p26 : lw_okq (⟨"BombFamilies$Reader", "readCheck", "(LBombFamilies$Pack;)V"⟩, 18) := ⟨⟨by decide +kernel, by decide +kernel⟩, List.mem_of_getElem? (i := 59) (by decide +kernel), List.mem_of_getElem? (i := 401) (by decide +kernel), List.mem_of_getElem? (i := 402) (by decide +kernel)⟩
theorem lw_p27 : lw_okq (⟨"BombFamilies$Reader", "readItem", "(IILBombFamilies$Pack;I)V"⟩, 18) := ⟨⟨by decide +kernel, by decide +kernel⟩, List.mem_of_getElem? (i := 59) (by decide +kernel), List.mem_of_getElem? (i := 406) (by decide +kernel), List.mem_of_getElem? (i := 407) (by decide +kernel)⟩
theorem lw_p28 : lw_okq (⟨"BombFamilies$Reader", "readStored", "(II)V"⟩, 18) := ⟨⟨by decide +kernel, by decide +kernel⟩, List.mem_of_getElem? (i := 59) (by decide +kernel), List.mem_of_getElem? (i := 410) (by decide +kernel), List.mem_of_getElem? (i := 411) (by decide +kernel)⟩
theorem lw_p29 : lw_okq (⟨"BombFamilies$Reader", "hasBytes", "(II)Z"⟩, 18) := ⟨⟨by decide +kernel, by decide +kernel⟩, List.mem_of_getElem? (i := 59) (by decide +kernel), List.mem_of_getElem? (i := 414) (by decide +kernel), List.mem_of_getElem? (i := 415) (by decide +kernel)⟩
theorem lw_p30 : lw_okq (⟨"BombFamilies$Reader", "readRun", "(II)V"⟩, 18) := ⟨⟨by decide +kernel, by decide +kernel⟩, List.mem_of_getElem? (i := 59) (by decide +kernel), List.mem_of_getElem? (i := 419) (by decide +kernel), List.mem_of_getElem? (i := 420) (by decide +kernel)⟩
theorem lw_p31 : lw_okq (⟨"BombFamilies$Reader", "readCopy", "(ILBombFamilies$Pack;)V"⟩, 18) := ⟨⟨by decide +kernel, by decide +kernel⟩, List.mem_of_getElem? (i := 59) (by decide +kernel), List.mem_of_getElem? (i := 423) (by decide +kernel), List.mem_of_getElem? (i := 424) (by decide +kernel)⟩
def lw_privs_2 : List (MethodName × Nat) := [(⟨"BombFamilies$Maker", "appendDrawnAgain", "(I)V"⟩, 2), (⟨"BombFamilies$Maker", "appendDrawnNest", "()V"⟩, 2), (⟨"BombFamilies$Maker", "cutEnd", "()V"⟩, 2), (⟨"BombFamilies$Maker", "spoilCheck", "()V"⟩, 2), (⟨"BombFamilies$Reader", "readPack", "(IIII)V"⟩, 18), (⟨"BombFamilies$Reader", "fail", "(II)V"⟩, 18), (⟨"BombFamilies$Reader", "pay", "(III)Z"⟩, 18), (⟨"BombFamilies$Reader", "canPay", "(III)Z"⟩, 18), (⟨"BombFamilies$Reader", "readMark", "(II)V"⟩, 18), (⟨"BombFamilies$Reader", "next", "(I)I"⟩, 18), (⟨"BombFamilies$Reader", "readCheck", "(LBombFamilies$Pack;)V"⟩, 18), (⟨"BombFamilies$Reader", "readItem", "(IILBombFamilies$Pack;I)V"⟩, 18), (⟨"BombFamilies$Reader", "readStored", "(II)V"⟩, 18), (⟨"BombFamilies$Reader", "hasBytes", "(II)Z"⟩, 18), (⟨"BombFamilies$Reader", "readRun", "(II)V"⟩, 18), (⟨"BombFamilies$Reader", "readCopy", "(ILBombFamilies$Pack;)V"⟩, 18)]
theorem lw_r2 : ∀ q ∈ lw_privs_2, lw_okq q := List.forall_mem_cons.mpr ⟨lw_p16, List.forall_mem_cons.mpr ⟨lw_p17, List.forall_mem_cons.mpr ⟨lw_p18, List.forall_mem_cons.mpr ⟨lw_p19, List.forall_mem_cons.mpr ⟨lw_p20, List.forall_mem_cons.mpr ⟨lw_p21, List.forall_mem_cons.mpr ⟨lw_p22, List.forall_mem_cons.mpr ⟨lw_p23, List.forall_mem_cons.mpr ⟨lw_p24, List.forall_mem_cons.mpr ⟨lw_p25, List.forall_mem_cons.mpr ⟨lw_p26, List.forall_mem_cons.mpr ⟨lw_p27, List.forall_mem_cons.mpr ⟨lw_p28, List.forall_mem_cons.mpr ⟨lw_p29, List.forall_mem_cons.mpr ⟨lw_p30, List.forall_mem_cons.mpr ⟨lw_p31, fun _ h => absurd h List.not_mem_nil⟩⟩⟩⟩⟩⟩⟩⟩⟩⟩⟩⟩⟩⟩⟩⟩
theorem lw_p32 : lw_okq (⟨"BombFamilies$Reader", "readNest", "(ILBombFamilies$Pack;I)V"⟩, 18) := ⟨⟨by decide +kernel, by decide +kernel⟩, List.mem_of_getElem? (i := 59) (by decide +kernel), List.mem_of_getElem? (i := 427) (by decide +kernel), List.mem_of_getElem? (i := 428) (by decide +kernel)⟩
theorem lw_p33 : lw_okq (⟨"BombFamilies$Reader", "readNote", "(II)V"⟩, 18) := ⟨⟨by decide +kernel, by decide +kernel⟩, List.mem_of_getElem? (i := 59) (by decide +kernel), List.mem_of_getElem? (i := 431) (by decide +kernel), List.mem_of_getElem? (i := 432) (by decide +kernel)⟩
theorem lw_p34 : lw_okq (⟨"BombFamilies$Reader", "readAgain", "(ILBombFamilies$Pack;)V"⟩, 18) := ⟨⟨by decide +kernel, by decide +kernel⟩, List.mem_of_getElem? (i := 59) (by decide +kernel), List.mem_of_getElem? (i := 435) (by decide +kernel), List.mem_of_getElem? (i := 436) (by decide +kernel)⟩
theorem lw_p35 : lw_okq (⟨"BombFamilies$Reader", "readTable", "(II)I"⟩, 18) := ⟨⟨by decide +kernel, by decide +kernel⟩, List.mem_of_getElem? (i := 59) (by decide +kernel), List.mem_of_getElem? (i := 439) (by decide +kernel), List.mem_of_getElem? (i := 440) (by decide +kernel)⟩
theorem lw_p36 : lw_okq (⟨"BombFamilies$Reader", "readBits", "(II)V"⟩, 18) := ⟨⟨by decide +kernel, by decide +kernel⟩, List.mem_of_getElem? (i := 59) (by decide +kernel), List.mem_of_getElem? (i := 465) (by decide +kernel), List.mem_of_getElem? (i := 466) (by decide +kernel)⟩
theorem lw_p37 : lw_okq (⟨"BombFamilies$Reader", "nextSymbol", "(I)I"⟩, 18) := ⟨⟨by decide +kernel, by decide +kernel⟩, List.mem_of_getElem? (i := 59) (by decide +kernel), List.mem_of_getElem? (i := 469) (by decide +kernel), List.mem_of_getElem? (i := 470) (by decide +kernel)⟩
theorem lw_p38 : lw_okq (⟨"BombFamiliesModel", "lay", "(I)V"⟩, 31) := ⟨⟨by decide +kernel, by decide +kernel⟩, List.mem_of_getElem? (i := 525) (by decide +kernel), List.mem_of_getElem? (i := 634) (by decide +kernel), List.mem_of_getElem? (i := 635) (by decide +kernel)⟩
theorem lw_p39 : lw_okq (⟨"BombFamiliesModel", "sumOf", "(II)I"⟩, 31) := ⟨⟨by decide +kernel, by decide +kernel⟩, List.mem_of_getElem? (i := 525) (by decide +kernel), List.mem_of_getElem? (i := 654) (by decide +kernel), List.mem_of_getElem? (i := 655) (by decide +kernel)⟩
theorem lw_p40 : lw_okq (⟨"BombFamiliesModel", "deep", "(I)V"⟩, 31) := ⟨⟨by decide +kernel, by decide +kernel⟩, List.mem_of_getElem? (i := 525) (by decide +kernel), List.mem_of_getElem? (i := 664) (by decide +kernel), List.mem_of_getElem? (i := 665) (by decide +kernel)⟩
theorem lw_p41 : lw_okq (⟨"BombFamiliesModel", "lays", "(II)V"⟩, 31) := ⟨⟨by decide +kernel, by decide +kernel⟩, List.mem_of_getElem? (i := 525) (by decide +kernel), List.mem_of_getElem? (i := 668) (by decide +kernel), List.mem_of_getElem? (i := 669) (by decide +kernel)⟩
theorem lw_p42 : lw_okq (⟨"BombFamiliesModel", "some", "(II)V"⟩, 31) := ⟨⟨by decide +kernel, by decide +kernel⟩, List.mem_of_getElem? (i := 525) (by decide +kernel), List.mem_of_getElem? (i := 672) (by decide +kernel), List.mem_of_getElem? (i := 673) (by decide +kernel)⟩
theorem lw_p43 : lw_okq (⟨"BombFamiliesModel", "draws", "(I)I"⟩, 31) := ⟨⟨by decide +kernel, by decide +kernel⟩, List.mem_of_getElem? (i := 525) (by decide +kernel), List.mem_of_getElem? (i := 676) (by decide +kernel), List.mem_of_getElem? (i := 677) (by decide +kernel)⟩
theorem lw_p44 : lw_okq (⟨"BombFamiliesModel", "close", "(I)V"⟩, 31) := ⟨⟨by decide +kernel, by decide +kernel⟩, List.mem_of_getElem? (i := 525) (by decide +kernel), List.mem_of_getElem? (i := 682) (by decide +kernel), List.mem_of_getElem? (i := 683) (by decide +kernel)⟩
theorem lw_p45 : lw_okq (⟨"BombFamiliesModel", "family", "(II)V"⟩, 31) := ⟨⟨by decide +kernel, by decide +kernel⟩, List.mem_of_getElem? (i := 525) (by decide +kernel), List.mem_of_getElem? (i := 686) (by decide +kernel), List.mem_of_getElem? (i := 687) (by decide +kernel)⟩
theorem lw_p46 : lw_okq (⟨"BombFamiliesModel", "drawItem", "(I)V"⟩, 31) := ⟨⟨by decide +kernel, by decide +kernel⟩, List.mem_of_getElem? (i := 525) (by decide +kernel), List.mem_of_getElem? (i := 690) (by decide +kernel), List.mem_of_getElem? (i := 691) (by decide +kernel)⟩
theorem lw_p47 : lw_okq (⟨"BombFamiliesModel", "reads", "(III)V"⟩, 31) := ⟨⟨by decide +kernel, by decide +kernel⟩, List.mem_of_getElem? (i := 525) (by decide +kernel), List.mem_of_getElem? (i := 703) (by decide +kernel), List.mem_of_getElem? (i := 704) (by decide +kernel)⟩
def lw_privs_3 : List (MethodName × Nat) := [(⟨"BombFamilies$Reader", "readNest", "(ILBombFamilies$Pack;I)V"⟩, 18), (⟨"BombFamilies$Reader", "readNote", "(II)V"⟩, 18), (⟨"BombFamilies$Reader", "readAgain", "(ILBombFamilies$Pack;)V"⟩, 18), (⟨"BombFamilies$Reader", "readTable", "(II)I"⟩, 18), (⟨"BombFamilies$Reader", "readBits", "(II)V"⟩, 18), (⟨"BombFamilies$Reader", "nextSymbol", "(I)I"⟩, 18), (⟨"BombFamiliesModel", "lay", "(I)V"⟩, 31), (⟨"BombFamiliesModel", "sumOf", "(II)I"⟩, 31), (⟨"BombFamiliesModel", "deep", "(I)V"⟩, 31), (⟨"BombFamiliesModel", "lays", "(II)V"⟩, 31), (⟨"BombFamiliesModel", "some", "(II)V"⟩, 31), (⟨"BombFamiliesModel", "draws", "(I)I"⟩, 31), (⟨"BombFamiliesModel", "close", "(I)V"⟩, 31), (⟨"BombFamiliesModel", "family", "(II)V"⟩, 31), (⟨"BombFamiliesModel", "drawItem", "(I)V"⟩, 31), (⟨"BombFamiliesModel", "reads", "(III)V"⟩, 31)]
theorem lw_r3 : ∀ q ∈ lw_privs_3, lw_okq q := List.forall_mem_cons.mpr ⟨lw_p32, List.forall_mem_cons.mpr ⟨lw_p33, List.forall_mem_cons.mpr ⟨lw_p34, List.forall_mem_cons.mpr ⟨lw_p35, List.forall_mem_cons.mpr ⟨lw_p36, List.forall_mem_cons.mpr ⟨lw_p37, List.forall_mem_cons.mpr ⟨lw_p38, List.forall_mem_cons.mpr ⟨lw_p39, List.forall_mem_cons.mpr ⟨lw_p40, List.forall_mem_cons.mpr ⟨lw_p41, List.forall_mem_cons.mpr ⟨lw_p42, List.forall_mem_cons.mpr ⟨lw_p43, List.forall_mem_cons.mpr ⟨lw_p44, List.forall_mem_cons.mpr ⟨lw_p45, List.forall_mem_cons.mpr ⟨lw_p46, List.forall_mem_cons.mpr ⟨lw_p47, fun _ h => absurd h List.not_mem_nil⟩⟩⟩⟩⟩⟩⟩⟩⟩⟩⟩⟩⟩⟩⟩⟩
theorem lw_p48 : lw_okq (⟨"BombFamiliesModel", "begins", "(II)V"⟩, 31) := ⟨⟨by decide +kernel, by decide +kernel⟩, List.mem_of_getElem? (i := 525) (by decide +kernel), List.mem_of_getElem? (i := 707) (by decide +kernel), List.mem_of_getElem? (i := 708) (by decide +kernel)⟩
theorem lw_p49 : lw_okq (⟨"BombFamiliesModel", "fails", "(II)V"⟩, 31) := ⟨⟨by decide +kernel, by decide +kernel⟩, List.mem_of_getElem? (i := 525) (by decide +kernel), List.mem_of_getElem? (i := 711) (by decide +kernel), List.mem_of_getElem? (i := 712) (by decide +kernel)⟩
theorem lw_p50 : lw_okq (⟨"BombFamiliesModel", "item", "()V"⟩, 31) := ⟨⟨by decide +kernel, by decide +kernel⟩, List.mem_of_getElem? (i := 525) (by decide +kernel), List.mem_of_getElem? (i := 715) (by decide +kernel), List.mem_of_getElem? (i := 716) (by decide +kernel)⟩
theorem lw_p51 : lw_okq (⟨"BombFamiliesModel", "has", "(II)Z"⟩, 31) := ⟨⟨by decide +kernel, by decide +kernel⟩, List.mem_of_getElem? (i := 525) (by decide +kernel), List.mem_of_getElem? (i := 719) (by decide +kernel), List.mem_of_getElem? (i := 720) (by decide +kernel)⟩
theorem lw_p52 : lw_okq (⟨"BombFamiliesModel", "closes", "(II)V"⟩, 31) := ⟨⟨by decide +kernel, by decide +kernel⟩, List.mem_of_getElem? (i := 525) (by decide +kernel), List.mem_of_getElem? (i := 723) (by decide +kernel), List.mem_of_getElem? (i := 724) (by decide +kernel)⟩
theorem lw_p53 : lw_okq (⟨"BombFamiliesModel", "ends", "(II)V"⟩, 31) := ⟨⟨by decide +kernel, by decide +kernel⟩, List.mem_of_getElem? (i := 525) (by decide +kernel), List.mem_of_getElem? (i := 727) (by decide +kernel), List.mem_of_getElem? (i := 728) (by decide +kernel)⟩
theorem lw_p54 : lw_okq (⟨"BombFamiliesModel", "pays", "(III)Z"⟩, 31) := ⟨⟨by decide +kernel, by decide +kernel⟩, List.mem_of_getElem? (i := 525) (by decide +kernel), List.mem_of_getElem? (i := 731) (by decide +kernel), List.mem_of_getElem? (i := 732) (by decide +kernel)⟩
theorem lw_p55 : lw_okq (⟨"BombFamiliesModel", "comes", "(I)V"⟩, 31) := ⟨⟨by decide +kernel, by decide +kernel⟩, List.mem_of_getElem? (i := 525) (by decide +kernel), List.mem_of_getElem? (i := 735) (by decide +kernel), List.mem_of_getElem? (i := 736) (by decide +kernel)⟩
theorem lw_p56 : lw_okq (⟨"BombFamiliesModel", "copy", "(II)V"⟩, 31) := ⟨⟨by decide +kernel, by decide +kernel⟩, List.mem_of_getElem? (i := 525) (by decide +kernel), List.mem_of_getElem? (i := 739) (by decide +kernel), List.mem_of_getElem? (i := 740) (by decide +kernel)⟩
theorem lw_p57 : lw_okq (⟨"BombFamiliesModel", "nest", "(I)V"⟩, 31) := ⟨⟨by decide +kernel, by decide +kernel⟩, List.mem_of_getElem? (i := 525) (by decide +kernel), List.mem_of_getElem? (i := 743) (by decide +kernel), List.mem_of_getElem? (i := 744) (by decide +kernel)⟩
theorem lw_p58 : lw_okq (⟨"BombFamiliesModel", "again", "(II)V"⟩, 31) := ⟨⟨by decide +kernel, by decide +kernel⟩, List.mem_of_getElem? (i := 525) (by decide +kernel), List.mem_of_getElem? (i := 747) (by decide +kernel), List.mem_of_getElem? (i := 748) (by decide +kernel)⟩
theorem lw_p59 : lw_okq (⟨"BombFamiliesModel", "coded", "(II)V"⟩, 31) := ⟨⟨by decide +kernel, by decide +kernel⟩, List.mem_of_getElem? (i := 525) (by decide +kernel), List.mem_of_getElem? (i := 751) (by decide +kernel), List.mem_of_getElem? (i := 752) (by decide +kernel)⟩
theorem lw_p60 : lw_okq (⟨"BombFamiliesModel", "codesOf", "(II)Z"⟩, 31) := ⟨⟨by decide +kernel, by decide +kernel⟩, List.mem_of_getElem? (i := 525) (by decide +kernel), List.mem_of_getElem? (i := 755) (by decide +kernel), List.mem_of_getElem? (i := 756) (by decide +kernel)⟩
theorem lw_p61 : lw_okq (⟨"BombFamiliesModel", "bits", "(IIIII)V"⟩, 31) := ⟨⟨by decide +kernel, by decide +kernel⟩, List.mem_of_getElem? (i := 525) (by decide +kernel), List.mem_of_getElem? (i := 759) (by decide +kernel), List.mem_of_getElem? (i := 760) (by decide +kernel)⟩
def lw_privs_4 : List (MethodName × Nat) := [(⟨"BombFamiliesModel", "begins", "(II)V"⟩, 31), (⟨"BombFamiliesModel", "fails", "(II)V"⟩, 31), (⟨"BombFamiliesModel", "item", "()V"⟩, 31), (⟨"BombFamiliesModel", "has", "(II)Z"⟩, 31), (⟨"BombFamiliesModel", "closes", "(II)V"⟩, 31), (⟨"BombFamiliesModel", "ends", "(II)V"⟩, 31), (⟨"BombFamiliesModel", "pays", "(III)Z"⟩, 31), (⟨"BombFamiliesModel", "comes", "(I)V"⟩, 31), (⟨"BombFamiliesModel", "copy", "(II)V"⟩, 31), (⟨"BombFamiliesModel", "nest", "(I)V"⟩, 31), (⟨"BombFamiliesModel", "again", "(II)V"⟩, 31), (⟨"BombFamiliesModel", "coded", "(II)V"⟩, 31), (⟨"BombFamiliesModel", "codesOf", "(II)Z"⟩, 31), (⟨"BombFamiliesModel", "bits", "(IIIII)V"⟩, 31)]
theorem lw_r4 : ∀ q ∈ lw_privs_4, lw_okq q := List.forall_mem_cons.mpr ⟨lw_p48, List.forall_mem_cons.mpr ⟨lw_p49, List.forall_mem_cons.mpr ⟨lw_p50, List.forall_mem_cons.mpr ⟨lw_p51, List.forall_mem_cons.mpr ⟨lw_p52, List.forall_mem_cons.mpr ⟨lw_p53, List.forall_mem_cons.mpr ⟨lw_p54, List.forall_mem_cons.mpr ⟨lw_p55, List.forall_mem_cons.mpr ⟨lw_p56, List.forall_mem_cons.mpr ⟨lw_p57, List.forall_mem_cons.mpr ⟨lw_p58, List.forall_mem_cons.mpr ⟨lw_p59, List.forall_mem_cons.mpr ⟨lw_p60, List.forall_mem_cons.mpr ⟨lw_p61, fun _ h => absurd h List.not_mem_nil⟩⟩⟩⟩⟩⟩⟩⟩⟩⟩⟩⟩⟩⟩
def lw_privs : List (MethodName × Nat) := lw_privs_1 ++ (lw_privs_2 ++ (lw_privs_3 ++ (lw_privs_4)))
def lw_tbl : List Cond := k2_sels lw_privs ++ tables_1
theorem lw_privs_ok : ∀ q ∈ lw_privs, lw_okq q := by
  show ∀ q ∈ lw_privs_1 ++ (lw_privs_2 ++ (lw_privs_3 ++ (lw_privs_4))), lw_okq q
  exact List.forall_mem_append.mpr ⟨lw_r1, List.forall_mem_append.mpr ⟨lw_r2, List.forall_mem_append.mpr ⟨lw_r3, lw_r4⟩⟩⟩
end
section
def RX0 : String := "BombFamilies$Bytes"
def TX0 : u_T := fun k => match k with
  | 0 => ("BombFamilies$Bytes", "row", "[I", true)
  | 1 => ("BombFamilies$Bytes", "size", "I", false)
  | 2 => ("BombFamilies$Bytes", "taken", "[I", true)
  | _ => ("BombFamilies$Bytes", "takenSize", "I", false)
def tyX0 : Nat → FieldType := fun k => match k with
  | 0 => .array .int
  | 1 => .int
  | 2 => .array .int
  | _ => .int
theorem nmX0 : ∀ a, a < 4 → ∀ b, b < 4 → a ≠ b → (TX0 a).2.1 ≠ (TX0 b).2.1 := by decide +kernel
theorem tyX0_ok : ∀ k, k < 4 → parseFieldDescriptor (TX0 k).2.2.1 = some (tyX0 k) := by decide +kernel
abbrev cX0_init : ByteArray := prog_2_method_1_code
def yX0_init : MethodName := ⟨RX0, "<init>", "(II)V"⟩
abbrev cX0_get : ByteArray := prog_2_method_2_code
def yX0_get : MethodName := ⟨RX0, "get", "(I)I"⟩
abbrev cX0_put : ByteArray := prog_2_method_3_code
def yX0_put : MethodName := ⟨RX0, "put", "(II)V"⟩
abbrev cX0_append : ByteArray := prog_2_method_4_code
def yX0_append : MethodName := ⟨RX0, "append", "(I)V"⟩
abbrev cX0_keepFirst : ByteArray := prog_2_method_5_code
def yX0_keepFirst : MethodName := ⟨RX0, "keepFirst", "(I)V"⟩
abbrev cX0_checkOf : ByteArray := prog_2_method_6_code
def yX0_checkOf : MethodName := ⟨RX0, "checkOf", "(II)I"⟩
abbrev cX0_takeOut : ByteArray := prog_2_method_7_code
def yX0_takeOut : MethodName := ⟨RX0, "takeOut", "(II)V"⟩
abbrev cX0_putBack : ByteArray := prog_2_method_8_code
def yX0_putBack : MethodName := ⟨RX0, "putBack", "(I)V"⟩
def RX1 : String := "BombFamilies$Items"
def TX1 : u_T := fun k => match k with
  | 0 => ("BombFamilies$Items", "kinds", "[I", true)
  | 1 => ("BombFamilies$Items", "places", "[I", true)
  | 2 => ("BombFamilies$Items", "came", "[I", true)
  | 3 => ("BombFamilies$Items", "costs", "[I", true)
  | 4 => ("BombFamilies$Items", "lengths", "[I", true)
  | _ => ("BombFamilies$Items", "size", "I", false)
def tyX1 : Nat → FieldType := fun k => match k with
  | 0 => .array .int
  | 1 => .array .int
  | 2 => .array .int
  | 3 => .array .int
  | 4 => .array .int
  | _ => .int
theorem nmX1 : ∀ a, a < 6 → ∀ b, b < 6 → a ≠ b → (TX1 a).2.1 ≠ (TX1 b).2.1 := by decide +kernel
theorem tyX1_ok : ∀ k, k < 6 → parseFieldDescriptor (TX1 k).2.2.1 = some (tyX1 k) := by decide +kernel
abbrev cX1_init : ByteArray := prog_3_method_1_code
def yX1_init : MethodName := ⟨RX1, "<init>", "()V"⟩
abbrev cX1_append : ByteArray := prog_3_method_2_code
def yX1_append : MethodName := ⟨RX1, "append", "(IIIII)V"⟩
abbrev cX1_get : ByteArray := prog_3_method_3_code
def yX1_get : MethodName := ⟨RX1, "get", "(II)I"⟩
abbrev cX1_copyLengths : ByteArray := prog_3_method_4_code
def yX1_copyLengths : MethodName := ⟨RX1, "copyLengths", "([I)I"⟩
def RX2 : String := "BombFamilies$Maker"
def TX2 : u_T := fun k => match k with
  | 0 => ("BombFamilies$Maker", "tape", "LBombFamilies$Bytes;", true)
  | _ => ("BombFamilies$Maker", "seed", "J", false)
def tyX2 : Nat → FieldType := fun k => match k with
  | 0 => .object "BombFamilies$Bytes"
  | _ => .long
theorem nmX2 : ∀ a, a < 2 → ∀ b, b < 2 → a ≠ b → (TX2 a).2.1 ≠ (TX2 b).2.1 := by decide +kernel
theorem tyX2_ok : ∀ k, k < 2 → parseFieldDescriptor (TX2 k).2.2.1 = some (tyX2 k) := by decide +kernel
abbrev cX2_init : ByteArray := prog_4_method_1_code
def yX2_init : MethodName := ⟨RX2, "<init>", "(LBombFamilies$Bytes;J)V"⟩
abbrev cX2_make : ByteArray := prog_4_method_2_code
def yX2_make : MethodName := ⟨RX2, "make", "(II)V"⟩
abbrev cX2_next : ByteArray := prog_4_method_3_code
def yX2_next : MethodName := ⟨RX2, "next", "(I)I"⟩
abbrev cX2_append : ByteArray := prog_4_method_4_code
def yX2_append : MethodName := ⟨RX2, "append", "(II)V"⟩
abbrev cX2_append_ : ByteArray := prog_4_method_5_code
def yX2_append_ : MethodName := ⟨RX2, "append", "(III)V"⟩
abbrev cX2_appendDrawn : ByteArray := prog_4_method_6_code
def yX2_appendDrawn : MethodName := ⟨RX2, "appendDrawn", "(I)V"⟩
abbrev cX2_appendEnd : ByteArray := prog_4_method_7_code
def yX2_appendEnd : MethodName := ⟨RX2, "appendEnd", "(I)V"⟩
abbrev cX2_makeLies : ByteArray := prog_4_method_8_code
def yX2_makeLies : MethodName := ⟨RX2, "makeLies", "(I)V"⟩
abbrev cX2_makeRuns : ByteArray := prog_4_method_9_code
def yX2_makeRuns : MethodName := ⟨RX2, "makeRuns", "(I)V"⟩
abbrev cX2_makeOverlaps : ByteArray := prog_4_method_10_code
def yX2_makeOverlaps : MethodName := ⟨RX2, "makeOverlaps", "(I)V"⟩
abbrev cX2_makeDeep : ByteArray := prog_4_method_11_code
def yX2_makeDeep : MethodName := ⟨RX2, "makeDeep", "(I)V"⟩
abbrev cX2_makeEmpty : ByteArray := prog_4_method_12_code
def yX2_makeEmpty : MethodName := ⟨RX2, "makeEmpty", "(I)V"⟩
abbrev cX2_appendEmptyNotes : ByteArray := prog_4_method_13_code
def yX2_appendEmptyNotes : MethodName := ⟨RX2, "appendEmptyNotes", "(I)V"⟩
abbrev cX2_makeAgains : ByteArray := prog_4_method_14_code
def yX2_makeAgains : MethodName := ⟨RX2, "makeAgains", "(I)V"⟩
abbrev cX2_makeTables : ByteArray := prog_4_method_15_code
def yX2_makeTables : MethodName := ⟨RX2, "makeTables", "(I)V"⟩
abbrev cX2_cutEnd : ByteArray := prog_4_method_16_code
def yX2_cutEnd : MethodName := ⟨RX2, "cutEnd", "()V"⟩
abbrev cX2_spoilCheck : ByteArray := prog_4_method_17_code
def yX2_spoilCheck : MethodName := ⟨RX2, "spoilCheck", "()V"⟩
abbrev cX2_makeDrawn : ByteArray := prog_4_method_18_code
def yX2_makeDrawn : MethodName := ⟨RX2, "makeDrawn", "(I)V"⟩
abbrev cX2_appendDrawnItem : ByteArray := prog_4_method_19_code
def yX2_appendDrawnItem : MethodName := ⟨RX2, "appendDrawnItem", "(I)V"⟩
abbrev cX2_appendCounted : ByteArray := prog_4_method_20_code
def yX2_appendCounted : MethodName := ⟨RX2, "appendCounted", "(II)V"⟩
abbrev cX2_appendDrawnAgain : ByteArray := prog_4_method_21_code
def yX2_appendDrawnAgain : MethodName := ⟨RX2, "appendDrawnAgain", "(I)V"⟩
abbrev cX2_appendDrawnNest : ByteArray := prog_4_method_22_code
def yX2_appendDrawnNest : MethodName := ⟨RX2, "appendDrawnNest", "()V"⟩
def RX3 : String := "BombFamilies$Pack"
def TX3 : u_T := fun k => match k with
  | 0 => ("BombFamilies$Pack", "from", "I", false)
  | 1 => ("BombFamilies$Pack", "end", "I", false)
  | 2 => ("BombFamilies$Pack", "cameAhead", "I", false)
  | 3 => ("BombFamilies$Pack", "firstItem", "I", false)
  | _ => ("BombFamilies$Pack", "items", "I", false)
def tyX3 : Nat → FieldType := fun k => match k with
  | 0 => .int
  | 1 => .int
  | 2 => .int
  | 3 => .int
  | _ => .int
theorem nmX3 : ∀ a, a < 5 → ∀ b, b < 5 → a ≠ b → (TX3 a).2.1 ≠ (TX3 b).2.1 := by decide +kernel
theorem tyX3_ok : ∀ k, k < 5 → parseFieldDescriptor (TX3 k).2.2.1 = some (tyX3 k) := by decide +kernel
abbrev cX3_init : ByteArray := prog_5_method_1_code
def yX3_init : MethodName := ⟨RX3, "<init>", "()V"⟩
abbrev cX3_begin : ByteArray := prog_5_method_2_code
def yX3_begin : MethodName := ⟨RX3, "begin", "(IIII)V"⟩
def RX4 : String := "BombFamilies$Reader"
def TX4 : u_T := fun k => match k with
  | 0 => ("BombFamilies$Reader", "tape", "LBombFamilies$Bytes;", true)
  | 1 => ("BombFamilies$Reader", "out", "LBombFamilies$Bytes;", true)
  | 2 => ("BombFamilies$Reader", "items", "LBombFamilies$Items;", true)
  | 3 => ("BombFamilies$Reader", "table", "LBombFamilies$Table;", true)
  | 4 => ("BombFamilies$Reader", "packs", "[LBombFamilies$Pack;", true)
  | 5 => ("BombFamilies$Reader", "itemEnds", "[I", true)
  | 6 => ("BombFamilies$Reader", "most", "I", false)
  | 7 => ("BombFamilies$Reader", "steps", "I", false)
  | 8 => ("BombFamilies$Reader", "deep", "I", false)
  | 9 => ("BombFamilies$Reader", "spot", "I", false)
  | 10 => ("BombFamilies$Reader", "bitByte", "I", false)
  | 11 => ("BombFamilies$Reader", "bitsLeft", "I", false)
  | 12 => ("BombFamilies$Reader", "cost", "I", false)
  | 13 => ("BombFamilies$Reader", "deepest", "I", false)
  | 14 => ("BombFamilies$Reader", "begun", "I", false)
  | 15 => ("BombFamilies$Reader", "fault", "I", false)
  | 16 => ("BombFamilies$Reader", "faultPlace", "I", false)
  | _ => ("BombFamilies$Reader", "reads", "I", false)
def tyX4 : Nat → FieldType := fun k => match k with
  | 0 => .object "BombFamilies$Bytes"
  | 1 => .object "BombFamilies$Bytes"
  | 2 => .object "BombFamilies$Items"
  | 3 => .object "BombFamilies$Table"
  | 4 => .array (.object "BombFamilies$Pack")
  | 5 => .array .int
  | 6 => .int
  | 7 => .int
  | 8 => .int
  | 9 => .int
  | 10 => .int
  | 11 => .int
  | 12 => .int
  | 13 => .int
  | 14 => .int
  | 15 => .int
  | 16 => .int
  | _ => .int
theorem nmX4 : ∀ a, a < 18 → ∀ b, b < 18 → a ≠ b → (TX4 a).2.1 ≠ (TX4 b).2.1 := by decide +kernel
theorem tyX4_ok : ∀ k, k < 18 → parseFieldDescriptor (TX4 k).2.2.1 = some (tyX4 k) := by decide +kernel
abbrev cX4_init : ByteArray := prog_6_method_1_code
def yX4_init : MethodName := ⟨RX4, "<init>", "(LBombFamilies$Bytes;)V"⟩
abbrev cX4_read : ByteArray := prog_6_method_2_code
def yX4_read : MethodName := ⟨RX4, "read", "(III)I"⟩
abbrev cX4_fail : ByteArray := prog_6_method_3_code
def yX4_fail : MethodName := ⟨RX4, "fail", "(II)V"⟩
abbrev cX4_next : ByteArray := prog_6_method_4_code
def yX4_next : MethodName := ⟨RX4, "next", "(I)I"⟩
abbrev cX4_hasBytes : ByteArray := prog_6_method_5_code
def yX4_hasBytes : MethodName := ⟨RX4, "hasBytes", "(II)Z"⟩
abbrev cX4_canPay : ByteArray := prog_6_method_6_code
def yX4_canPay : MethodName := ⟨RX4, "canPay", "(III)Z"⟩
abbrev cX4_pay : ByteArray := prog_6_method_7_code
def yX4_pay : MethodName := ⟨RX4, "pay", "(III)Z"⟩
abbrev cX4_readPack : ByteArray := prog_6_method_8_code
def yX4_readPack : MethodName := ⟨RX4, "readPack", "(IIII)V"⟩
abbrev cX4_readMark : ByteArray := prog_6_method_9_code
def yX4_readMark : MethodName := ⟨RX4, "readMark", "(II)V"⟩
abbrev cX4_readCheck : ByteArray := prog_6_method_10_code
def yX4_readCheck : MethodName := ⟨RX4, "readCheck", "(LBombFamilies$Pack;)V"⟩
abbrev cX4_readItem : ByteArray := prog_6_method_11_code
def yX4_readItem : MethodName := ⟨RX4, "readItem", "(IILBombFamilies$Pack;I)V"⟩
abbrev cX4_readStored : ByteArray := prog_6_method_12_code
def yX4_readStored : MethodName := ⟨RX4, "readStored", "(II)V"⟩
abbrev cX4_readRun : ByteArray := prog_6_method_13_code
def yX4_readRun : MethodName := ⟨RX4, "readRun", "(II)V"⟩
abbrev cX4_readCopy : ByteArray := prog_6_method_14_code
def yX4_readCopy : MethodName := ⟨RX4, "readCopy", "(ILBombFamilies$Pack;)V"⟩
abbrev cX4_readNest : ByteArray := prog_6_method_15_code
def yX4_readNest : MethodName := ⟨RX4, "readNest", "(ILBombFamilies$Pack;I)V"⟩
abbrev cX4_readNote : ByteArray := prog_6_method_16_code
def yX4_readNote : MethodName := ⟨RX4, "readNote", "(II)V"⟩
abbrev cX4_readAgain : ByteArray := prog_6_method_17_code
def yX4_readAgain : MethodName := ⟨RX4, "readAgain", "(ILBombFamilies$Pack;)V"⟩
abbrev cX4_readTable : ByteArray := prog_6_method_18_code
def yX4_readTable : MethodName := ⟨RX4, "readTable", "(II)I"⟩
abbrev cX4_readBits : ByteArray := prog_6_method_19_code
def yX4_readBits : MethodName := ⟨RX4, "readBits", "(II)V"⟩
abbrev cX4_nextSymbol : ByteArray := prog_6_method_20_code
def yX4_nextSymbol : MethodName := ⟨RX4, "nextSymbol", "(I)I"⟩
def RX5 : String := "BombFamilies$Table"
def TX5 : u_T := fun k => match k with
  | 0 => ("BombFamilies$Table", "symbols", "[I", true)
  | 1 => ("BombFamilies$Table", "lengths", "[I", true)
  | 2 => ("BombFamilies$Table", "codes", "[I", true)
  | 3 => ("BombFamilies$Table", "width", "I", false)
  | _ => ("BombFamilies$Table", "longest", "I", false)
def tyX5 : Nat → FieldType := fun k => match k with
  | 0 => .array .int
  | 1 => .array .int
  | 2 => .array .int
  | 3 => .int
  | _ => .int
theorem nmX5 : ∀ a, a < 5 → ∀ b, b < 5 → a ≠ b → (TX5 a).2.1 ≠ (TX5 b).2.1 := by decide +kernel
theorem tyX5_ok : ∀ k, k < 5 → parseFieldDescriptor (TX5 k).2.2.1 = some (tyX5 k) := by decide +kernel
abbrev cX5_init : ByteArray := prog_7_method_1_code
def yX5_init : MethodName := ⟨RX5, "<init>", "()V"⟩
abbrev cX5_begin : ByteArray := prog_7_method_2_code
def yX5_begin : MethodName := ⟨RX5, "begin", "(I)V"⟩
abbrev cX5_putSymbol : ByteArray := prog_7_method_3_code
def yX5_putSymbol : MethodName := ⟨RX5, "putSymbol", "(II)V"⟩
abbrev cX5_putLength : ByteArray := prog_7_method_4_code
def yX5_putLength : MethodName := ⟨RX5, "putLength", "(II)V"⟩
abbrev cX5_isGood : ByteArray := prog_7_method_5_code
def yX5_isGood : MethodName := ⟨RX5, "isGood", "()Z"⟩
abbrev cX5_makeCodes : ByteArray := prog_7_method_6_code
def yX5_makeCodes : MethodName := ⟨RX5, "makeCodes", "()V"⟩
abbrev cX5_symbolOf : ByteArray := prog_7_method_7_code
def yX5_symbolOf : MethodName := ⟨RX5, "symbolOf", "(II)I"⟩
def RX6 : String := "BombFamilies"
def TX6 : u_T := fun k => match k with
  | 0 => ("BombFamilies", "tape", "LBombFamilies$Bytes;", true)
  | 1 => ("BombFamilies", "maker", "LBombFamilies$Maker;", true)
  | 2 => ("BombFamilies", "reader", "LBombFamilies$Reader;", true)
  | _ => ("BombFamilies", "tried", "[I", true)
def tyX6 : Nat → FieldType := fun k => match k with
  | 0 => .object "BombFamilies$Bytes"
  | 1 => .object "BombFamilies$Maker"
  | 2 => .object "BombFamilies$Reader"
  | _ => .array .int
theorem nmX6 : ∀ a, a < 4 → ∀ b, b < 4 → a ≠ b → (TX6 a).2.1 ≠ (TX6 b).2.1 := by decide +kernel
theorem tyX6_ok : ∀ k, k < 4 → parseFieldDescriptor (TX6 k).2.2.1 = some (tyX6 k) := by decide +kernel
abbrev cX6_init : ByteArray := prog_1_method_1_code
def yX6_init : MethodName := ⟨RX6, "<init>", "(J)V"⟩
abbrev cX6_feed : ByteArray := prog_1_method_2_code
def yX6_feed : MethodName := ⟨RX6, "feed", "(IJ)I"⟩
abbrev cX6_cut : ByteArray := prog_1_method_3_code
def yX6_cut : MethodName := ⟨RX6, "cut", "(I)I"⟩
abbrev cX6_alter : ByteArray := prog_1_method_4_code
def yX6_alter : MethodName := ⟨RX6, "alter", "(II)I"⟩
abbrev cX6_at : ByteArray := prog_1_method_5_code
def yX6_at : MethodName := ⟨RX6, "at", "(I)I"⟩
abbrev cX6_mend : ByteArray := prog_1_method_6_code
def yX6_mend : MethodName := ⟨RX6, "mend", "()I"⟩
abbrev cX6_draw : ByteArray := prog_1_method_7_code
def yX6_draw : MethodName := ⟨RX6, "draw", "(II)I"⟩
abbrev cX6_open : ByteArray := prog_1_method_8_code
def yX6_open : MethodName := ⟨RX6, "open", "(III)I"⟩
abbrev cX6_place : ByteArray := prog_1_method_9_code
def yX6_place : MethodName := ⟨RX6, "place", "()I"⟩
abbrev cX6_out : ByteArray := prog_1_method_10_code
def yX6_out : MethodName := ⟨RX6, "out", "(I)I"⟩
abbrev cX6_item : ByteArray := prog_1_method_11_code
def yX6_item : MethodName := ⟨RX6, "item", "(II)I"⟩
abbrev cX6_shrink : ByteArray := prog_1_method_12_code
def yX6_shrink : MethodName := ⟨RX6, "shrink", "(III)I"⟩
abbrev cX6_count : ByteArray := prog_1_method_13_code
def yX6_count : MethodName := ⟨RX6, "count", "(I)I"⟩
abbrev cX6_areBounds : ByteArray := prog_1_method_14_code
def yX6_areBounds : MethodName := ⟨RX6, "areBounds", "(III)Z"⟩
def RX7 : String := "BombFamiliesModel"
def TX7 : u_T := fun k => match k with
  | 0 => ("BombFamiliesModel", "seed", "J", false)
  | 1 => ("BombFamiliesModel", "tape", "[I", true)
  | 2 => ("BombFamiliesModel", "size", "I", false)
  | 3 => ("BombFamiliesModel", "out", "[I", true)
  | 4 => ("BombFamiliesModel", "outSize", "I", false)
  | 5 => ("BombFamiliesModel", "most", "I", false)
  | 6 => ("BombFamiliesModel", "limit", "I", false)
  | 7 => ("BombFamiliesModel", "deepest", "I", false)
  | 8 => ("BombFamiliesModel", "fault", "I", false)
  | 9 => ("BombFamiliesModel", "place", "I", false)
  | 10 => ("BombFamiliesModel", "used", "I", false)
  | 11 => ("BombFamiliesModel", "reached", "I", false)
  | 12 => ("BombFamiliesModel", "packs", "I", false)
  | 13 => ("BombFamiliesModel", "reads", "I", false)
  | 14 => ("BombFamiliesModel", "top", "I", false)
  | 15 => ("BombFamiliesModel", "from", "[I", true)
  | 16 => ("BombFamiliesModel", "end", "[I", true)
  | 17 => ("BombFamiliesModel", "next", "[I", true)
  | 18 => ("BombFamiliesModel", "outFrom", "[I", true)
  | 19 => ("BombFamiliesModel", "itemMany", "[I", true)
  | 20 => ("BombFamiliesModel", "came", "[I", true)
  | 21 => ("BombFamiliesModel", "itemAt", "[I", true)
  | 22 => ("BombFamiliesModel", "itemOut", "[I", true)
  | 23 => ("BombFamiliesModel", "itemUsed", "[I", true)
  | 24 => ("BombFamiliesModel", "kinds", "[I", true)
  | 25 => ("BombFamiliesModel", "places", "[I", true)
  | 26 => ("BombFamiliesModel", "cames", "[I", true)
  | 27 => ("BombFamiliesModel", "costs", "[I", true)
  | 28 => ("BombFamiliesModel", "codes", "[I", true)
  | 29 => ("BombFamiliesModel", "kept", "[I", true)
  | _ => ("BombFamiliesModel", "oldPlaces", "[I", true)
def tyX7 : Nat → FieldType := fun k => match k with
  | 0 => .long
  | 1 => .array .int
  | 2 => .int
  | 3 => .array .int
  | 4 => .int
  | 5 => .int
  | 6 => .int
  | 7 => .int
  | 8 => .int
  | 9 => .int
  | 10 => .int
  | 11 => .int
  | 12 => .int
  | 13 => .int
  | 14 => .int
  | 15 => .array .int
  | 16 => .array .int
  | 17 => .array .int
  | 18 => .array .int
  | 19 => .array .int
  | 20 => .array .int
  | 21 => .array .int
  | 22 => .array .int
  | 23 => .array .int
  | 24 => .array .int
  | 25 => .array .int
  | 26 => .array .int
  | 27 => .array .int
  | 28 => .array .int
  | 29 => .array .int
  | _ => .array .int
theorem nmX7 : ∀ a, a < 31 → ∀ b, b < 31 → a ≠ b → (TX7 a).2.1 ≠ (TX7 b).2.1 := by decide +kernel
theorem tyX7_ok : ∀ k, k < 31 → parseFieldDescriptor (TX7 k).2.2.1 = some (tyX7 k) := by decide +kernel
abbrev cX7_init : ByteArray := prog_9_method_1_code
def yX7_init : MethodName := ⟨RX7, "<init>", "(J)V"⟩
abbrev cX7_in : ByteArray := prog_9_method_2_code
def yX7_in : MethodName := ⟨RX7, "in", "(JJJ)Z"⟩
abbrev cX7_feed : ByteArray := prog_9_method_3_code
def yX7_feed : MethodName := ⟨RX7, "feed", "(IJ)I"⟩
abbrev cX7_lay : ByteArray := prog_9_method_4_code
def yX7_lay : MethodName := ⟨RX7, "lay", "(I)V"⟩
abbrev cX7_cut : ByteArray := prog_9_method_5_code
def yX7_cut : MethodName := ⟨RX7, "cut", "(I)I"⟩
abbrev cX7_alter : ByteArray := prog_9_method_6_code
def yX7_alter : MethodName := ⟨RX7, "alter", "(II)I"⟩
abbrev cX7_at : ByteArray := prog_9_method_7_code
def yX7_at : MethodName := ⟨RX7, "at", "(I)I"⟩
abbrev cX7_sumOf : ByteArray := prog_9_method_8_code
def yX7_sumOf : MethodName := ⟨RX7, "sumOf", "(II)I"⟩
abbrev cX7_mend : ByteArray := prog_9_method_9_code
def yX7_mend : MethodName := ⟨RX7, "mend", "()I"⟩
abbrev cX7_draws : ByteArray := prog_9_method_10_code
def yX7_draws : MethodName := ⟨RX7, "draws", "(I)I"⟩
abbrev cX7_lays : ByteArray := prog_9_method_11_code
def yX7_lays : MethodName := ⟨RX7, "lays", "(II)V"⟩
abbrev cX7_close : ByteArray := prog_9_method_12_code
def yX7_close : MethodName := ⟨RX7, "close", "(I)V"⟩
abbrev cX7_some : ByteArray := prog_9_method_13_code
def yX7_some : MethodName := ⟨RX7, "some", "(II)V"⟩
abbrev cX7_drawItem : ByteArray := prog_9_method_14_code
def yX7_drawItem : MethodName := ⟨RX7, "drawItem", "(I)V"⟩
abbrev cX7_deep : ByteArray := prog_9_method_15_code
def yX7_deep : MethodName := ⟨RX7, "deep", "(I)V"⟩
abbrev cX7_family : ByteArray := prog_9_method_16_code
def yX7_family : MethodName := ⟨RX7, "family", "(II)V"⟩
abbrev cX7_draw : ByteArray := prog_9_method_17_code
def yX7_draw : MethodName := ⟨RX7, "draw", "(II)I"⟩
abbrev cX7_fails : ByteArray := prog_9_method_18_code
def yX7_fails : MethodName := ⟨RX7, "fails", "(II)V"⟩
abbrev cX7_begins : ByteArray := prog_9_method_19_code
def yX7_begins : MethodName := ⟨RX7, "begins", "(II)V"⟩
abbrev cX7_ends : ByteArray := prog_9_method_20_code
def yX7_ends : MethodName := ⟨RX7, "ends", "(II)V"⟩
abbrev cX7_has : ByteArray := prog_9_method_21_code
def yX7_has : MethodName := ⟨RX7, "has", "(II)Z"⟩
abbrev cX7_pays : ByteArray := prog_9_method_22_code
def yX7_pays : MethodName := ⟨RX7, "pays", "(III)Z"⟩
abbrev cX7_comes : ByteArray := prog_9_method_23_code
def yX7_comes : MethodName := ⟨RX7, "comes", "(I)V"⟩
abbrev cX7_item : ByteArray := prog_9_method_24_code
def yX7_item : MethodName := ⟨RX7, "item", "()V"⟩
abbrev cX7_closes : ByteArray := prog_9_method_25_code
def yX7_closes : MethodName := ⟨RX7, "closes", "(II)V"⟩
abbrev cX7_copy : ByteArray := prog_9_method_26_code
def yX7_copy : MethodName := ⟨RX7, "copy", "(II)V"⟩
abbrev cX7_nest : ByteArray := prog_9_method_27_code
def yX7_nest : MethodName := ⟨RX7, "nest", "(I)V"⟩
abbrev cX7_again : ByteArray := prog_9_method_28_code
def yX7_again : MethodName := ⟨RX7, "again", "(II)V"⟩
abbrev cX7_codesOf : ByteArray := prog_9_method_29_code
def yX7_codesOf : MethodName := ⟨RX7, "codesOf", "(II)Z"⟩
abbrev cX7_coded : ByteArray := prog_9_method_30_code
def yX7_coded : MethodName := ⟨RX7, "coded", "(II)V"⟩
abbrev cX7_bits : ByteArray := prog_9_method_31_code
def yX7_bits : MethodName := ⟨RX7, "bits", "(IIIII)V"⟩
abbrev cX7_reads : ByteArray := prog_9_method_32_code
def yX7_reads : MethodName := ⟨RX7, "reads", "(III)V"⟩
abbrev cX7_isGood : ByteArray := prog_9_method_33_code
def yX7_isGood : MethodName := ⟨RX7, "isGood", "(III)Z"⟩
abbrev cX7_open : ByteArray := prog_9_method_34_code
def yX7_open : MethodName := ⟨RX7, "open", "(III)I"⟩
abbrev cX7_place : ByteArray := prog_9_method_35_code
def yX7_place : MethodName := ⟨RX7, "place", "()I"⟩
abbrev cX7_out : ByteArray := prog_9_method_36_code
def yX7_out : MethodName := ⟨RX7, "out", "(I)I"⟩
abbrev cX7_item_ : ByteArray := prog_9_method_37_code
def yX7_item_ : MethodName := ⟨RX7, "item", "(II)I"⟩
abbrev cX7_shrink : ByteArray := prog_9_method_38_code
def yX7_shrink : MethodName := ⟨RX7, "shrink", "(III)I"⟩
abbrev cX7_count : ByteArray := prog_9_method_39_code
def yX7_count : MethodName := ⟨RX7, "count", "(I)I"⟩
def RL : String := "BombFamiliesLaw"
abbrev cL_cell : ByteArray := method_2_code
def yL_cell : MethodName := ⟨RL, "cell", "([II)I"⟩
abbrev cL_law : ByteArray := code
def yL_law : MethodName := ⟨RL, "law", "([I)Z"⟩
abbrev vwCl : List vw_C := [(RX0, TX0, 4), (RX1, TX1, 6), (RX2, TX2, 2), (RX3, TX3, 5), (RX4, TX4, 18), (RX5, TX5, 5), (RX6, TX6, 4), (RX7, TX7, 31)]
end
section
theorem dL_cell_0 : decode cL_cell 0 = .ok (.iload_n 1, 1) := by decide +kernel
theorem dL_cell_1 : decode cL_cell 1 = .ok (.aload_n 0, 1) := by decide +kernel
theorem dL_cell_2 : decode cL_cell 2 = .ok (.arraylength, 1) := by decide +kernel
theorem dL_cell_3 : decode cL_cell 3 = .ok (.if_icmp .ge 9, 3) := by decide +kernel
theorem dL_cell_6 : decode cL_cell 6 = .ok (.aload_n 0, 1) := by decide +kernel
theorem dL_cell_7 : decode cL_cell 7 = .ok (.iload_n 1, 1) := by decide +kernel
theorem dL_cell_8 : decode cL_cell 8 = .ok (.iaload, 1) := by decide +kernel
theorem dL_cell_9 : decode cL_cell 9 = .ok (.goto 4, 3) := by decide +kernel
theorem dL_cell_12 : decode cL_cell 12 = .ok (.iconst 0, 1) := by decide +kernel
theorem dL_cell_13 : decode cL_cell 13 = .ok (.ireturn, 1) := by decide +kernel
theorem dL_law_0 : decode cL_law 0 = .ok (.new 7, 3) := by decide +kernel
theorem dL_law_3 : decode cL_law 3 = .ok (.dup, 1) := by decide +kernel
theorem dL_law_4 : decode cL_law 4 = .ok (.aload_n 0, 1) := by decide +kernel
theorem dL_law_5 : decode cL_law 5 = .ok (.iconst 0, 1) := by decide +kernel
theorem dL_law_6 : decode cL_law 6 = .ok (.invokestatic 9, 3) := by decide +kernel
theorem dL_law_9 : decode cL_law 9 = .ok (.i2l, 1) := by decide +kernel
theorem dL_law_10 : decode cL_law 10 = .ok (.invokespecial 15, 3) := by decide +kernel
theorem dL_law_13 : decode cL_law 13 = .ok (.astore_n 1, 1) := by decide +kernel
theorem dL_law_14 : decode cL_law 14 = .ok (.new 18, 3) := by decide +kernel
theorem dL_law_17 : decode cL_law 17 = .ok (.dup, 1) := by decide +kernel
theorem dL_law_18 : decode cL_law 18 = .ok (.aload_n 0, 1) := by decide +kernel
theorem dL_law_19 : decode cL_law 19 = .ok (.iconst 0, 1) := by decide +kernel
theorem dL_law_20 : decode cL_law 20 = .ok (.invokestatic 9, 3) := by decide +kernel
theorem dL_law_23 : decode cL_law 23 = .ok (.i2l, 1) := by decide +kernel
theorem dL_law_24 : decode cL_law 24 = .ok (.invokespecial 20, 3) := by decide +kernel
theorem dL_law_27 : decode cL_law 27 = .ok (.astore_n 2, 1) := by decide +kernel
theorem dL_law_28 : decode cL_law 28 = .ok (.iconst 1, 1) := by decide +kernel
theorem dL_law_29 : decode cL_law 29 = .ok (.istore_n 3, 1) := by decide +kernel
theorem dL_law_30 : decode cL_law 30 = .ok (.iload_n 3, 1) := by decide +kernel
theorem dL_law_31 : decode cL_law 31 = .ok (.aload_n 0, 1) := by decide +kernel
theorem dL_law_32 : decode cL_law 32 = .ok (.arraylength, 1) := by decide +kernel
theorem dL_law_33 : decode cL_law 33 = .ok (.iconst 4, 1) := by decide +kernel
theorem dL_law_34 : decode cL_law 34 = .ok (.isub, 1) := by decide +kernel
theorem dL_law_35 : decode cL_law 35 = .ok (.if_icmp .gt 445, 3) := by decide +kernel
theorem dL_law_38 : decode cL_law 38 = .ok (.aload_n 0, 1) := by decide +kernel
theorem dL_law_39 : decode cL_law 39 = .ok (.iload_n 3, 1) := by decide +kernel
theorem dL_law_40 : decode cL_law 40 = .ok (.iaload, 1) := by decide +kernel
theorem dL_law_41 : decode cL_law 41 = .ok (.bipush 15, 2) := by decide +kernel
theorem dL_law_43 : decode cL_law 43 = .ok (.iand, 1) := by decide +kernel
theorem dL_law_44 : decode cL_law 44 = .ok (.tableswitch 430 0 11 #[64, 127, 150, 183, 206, 219, 252, 295, 308, 331, 364, 407], 64) := by decide +kernel
theorem dL_law_108 : decode cL_law 108 = .ok (.aload_n 1, 1) := by decide +kernel
theorem dL_law_109 : decode cL_law 109 = .ok (.aload_n 0, 1) := by decide +kernel
theorem dL_law_110 : decode cL_law 110 = .ok (.iload_n 3, 1) := by decide +kernel
theorem dL_law_111 : decode cL_law 111 = .ok (.iconst 1, 1) := by decide +kernel
theorem dL_law_112 : decode cL_law 112 = .ok (.iadd, 1) := by decide +kernel
theorem dL_law_113 : decode cL_law 113 = .ok (.iaload, 1) := by decide +kernel
theorem dL_law_114 : decode cL_law 114 = .ok (.aload_n 0, 1) := by decide +kernel
theorem dL_law_115 : decode cL_law 115 = .ok (.iload_n 3, 1) := by decide +kernel
theorem dL_law_116 : decode cL_law 116 = .ok (.iconst 2, 1) := by decide +kernel
theorem dL_law_117 : decode cL_law 117 = .ok (.iadd, 1) := by decide +kernel
theorem dL_law_118 : decode cL_law 118 = .ok (.iaload, 1) := by decide +kernel
theorem dL_law_119 : decode cL_law 119 = .ok (.i2l, 1) := by decide +kernel
theorem dL_law_120 : decode cL_law 120 = .ok (.bipush 32, 2) := by decide +kernel
theorem dL_law_122 : decode cL_law 122 = .ok (.lshl, 1) := by decide +kernel
theorem dL_law_123 : decode cL_law 123 = .ok (.aload_n 0, 1) := by decide +kernel
theorem dL_law_124 : decode cL_law 124 = .ok (.iload_n 3, 1) := by decide +kernel
theorem dL_law_125 : decode cL_law 125 = .ok (.iconst 3, 1) := by decide +kernel
theorem dL_law_126 : decode cL_law 126 = .ok (.iadd, 1) := by decide +kernel
theorem dL_law_127 : decode cL_law 127 = .ok (.iaload, 1) := by decide +kernel
theorem dL_law_128 : decode cL_law 128 = .ok (.i2l, 1) := by decide +kernel
theorem dL_law_129 : decode cL_law 129 = .ok (.ldc2_w 21, 3) := by decide +kernel
theorem dL_law_132 : decode cL_law 132 = .ok (.land, 1) := by decide +kernel
theorem dL_law_133 : decode cL_law 133 = .ok (.lor, 1) := by decide +kernel
theorem dL_law_134 : decode cL_law 134 = .ok (.invokevirtual 23, 3) := by decide +kernel
theorem dL_law_137 : decode cL_law 137 = .ok (.aload_n 2, 1) := by decide +kernel
theorem dL_law_138 : decode cL_law 138 = .ok (.aload_n 0, 1) := by decide +kernel
theorem dL_law_139 : decode cL_law 139 = .ok (.iload_n 3, 1) := by decide +kernel
theorem dL_law_140 : decode cL_law 140 = .ok (.iconst 1, 1) := by decide +kernel
theorem dL_law_141 : decode cL_law 141 = .ok (.iadd, 1) := by decide +kernel
theorem dL_law_142 : decode cL_law 142 = .ok (.iaload, 1) := by decide +kernel
theorem dL_law_143 : decode cL_law 143 = .ok (.aload_n 0, 1) := by decide +kernel
theorem dL_law_144 : decode cL_law 144 = .ok (.iload_n 3, 1) := by decide +kernel
theorem dL_law_145 : decode cL_law 145 = .ok (.iconst 2, 1) := by decide +kernel
theorem dL_law_146 : decode cL_law 146 = .ok (.iadd, 1) := by decide +kernel
theorem dL_law_147 : decode cL_law 147 = .ok (.iaload, 1) := by decide +kernel
theorem dL_law_148 : decode cL_law 148 = .ok (.i2l, 1) := by decide +kernel
theorem dL_law_149 : decode cL_law 149 = .ok (.bipush 32, 2) := by decide +kernel
theorem dL_law_151 : decode cL_law 151 = .ok (.lshl, 1) := by decide +kernel
theorem dL_law_152 : decode cL_law 152 = .ok (.aload_n 0, 1) := by decide +kernel
theorem dL_law_153 : decode cL_law 153 = .ok (.iload_n 3, 1) := by decide +kernel
theorem dL_law_154 : decode cL_law 154 = .ok (.iconst 3, 1) := by decide +kernel
theorem dL_law_155 : decode cL_law 155 = .ok (.iadd, 1) := by decide +kernel
theorem dL_law_156 : decode cL_law 156 = .ok (.iaload, 1) := by decide +kernel
theorem dL_law_157 : decode cL_law 157 = .ok (.i2l, 1) := by decide +kernel
theorem dL_law_158 : decode cL_law 158 = .ok (.ldc2_w 21, 3) := by decide +kernel
theorem dL_law_161 : decode cL_law 161 = .ok (.land, 1) := by decide +kernel
theorem dL_law_162 : decode cL_law 162 = .ok (.lor, 1) := by decide +kernel
theorem dL_law_163 : decode cL_law 163 = .ok (.invokevirtual 27, 3) := by decide +kernel
theorem dL_law_166 : decode cL_law 166 = .ok (.if_icmp .eq 308, 3) := by decide +kernel
theorem dL_law_169 : decode cL_law 169 = .ok (.iconst 0, 1) := by decide +kernel
theorem dL_law_170 : decode cL_law 170 = .ok (.ireturn, 1) := by decide +kernel
theorem dL_law_171 : decode cL_law 171 = .ok (.aload_n 1, 1) := by decide +kernel
theorem dL_law_172 : decode cL_law 172 = .ok (.aload_n 0, 1) := by decide +kernel
theorem dL_law_173 : decode cL_law 173 = .ok (.iload_n 3, 1) := by decide +kernel
theorem dL_law_174 : decode cL_law 174 = .ok (.iconst 1, 1) := by decide +kernel
theorem dL_law_175 : decode cL_law 175 = .ok (.iadd, 1) := by decide +kernel
theorem dL_law_176 : decode cL_law 176 = .ok (.iaload, 1) := by decide +kernel
theorem dL_law_177 : decode cL_law 177 = .ok (.invokevirtual 28, 3) := by decide +kernel
theorem dL_law_180 : decode cL_law 180 = .ok (.aload_n 2, 1) := by decide +kernel
theorem dL_law_181 : decode cL_law 181 = .ok (.aload_n 0, 1) := by decide +kernel
theorem dL_law_182 : decode cL_law 182 = .ok (.iload_n 3, 1) := by decide +kernel
theorem dL_law_183 : decode cL_law 183 = .ok (.iconst 1, 1) := by decide +kernel
theorem dL_law_184 : decode cL_law 184 = .ok (.iadd, 1) := by decide +kernel
theorem dL_law_185 : decode cL_law 185 = .ok (.iaload, 1) := by decide +kernel
theorem dL_law_186 : decode cL_law 186 = .ok (.invokevirtual 32, 3) := by decide +kernel
theorem dL_law_189 : decode cL_law 189 = .ok (.if_icmp .eq 285, 3) := by decide +kernel
theorem dL_law_192 : decode cL_law 192 = .ok (.iconst 0, 1) := by decide +kernel
theorem dL_law_193 : decode cL_law 193 = .ok (.ireturn, 1) := by decide +kernel
theorem dL_law_194 : decode cL_law 194 = .ok (.aload_n 1, 1) := by decide +kernel
theorem dL_law_195 : decode cL_law 195 = .ok (.aload_n 0, 1) := by decide +kernel
theorem dL_law_196 : decode cL_law 196 = .ok (.iload_n 3, 1) := by decide +kernel
theorem dL_law_197 : decode cL_law 197 = .ok (.iconst 1, 1) := by decide +kernel
theorem dL_law_198 : decode cL_law 198 = .ok (.iadd, 1) := by decide +kernel
theorem dL_law_199 : decode cL_law 199 = .ok (.iaload, 1) := by decide +kernel
theorem dL_law_200 : decode cL_law 200 = .ok (.aload_n 0, 1) := by decide +kernel
theorem dL_law_201 : decode cL_law 201 = .ok (.iload_n 3, 1) := by decide +kernel
theorem dL_law_202 : decode cL_law 202 = .ok (.iconst 2, 1) := by decide +kernel
theorem dL_law_203 : decode cL_law 203 = .ok (.iadd, 1) := by decide +kernel
theorem dL_law_204 : decode cL_law 204 = .ok (.iaload, 1) := by decide +kernel
theorem dL_law_205 : decode cL_law 205 = .ok (.invokevirtual 33, 3) := by decide +kernel
theorem dL_law_208 : decode cL_law 208 = .ok (.aload_n 2, 1) := by decide +kernel
theorem dL_law_209 : decode cL_law 209 = .ok (.aload_n 0, 1) := by decide +kernel
theorem dL_law_210 : decode cL_law 210 = .ok (.iload_n 3, 1) := by decide +kernel
theorem dL_law_211 : decode cL_law 211 = .ok (.iconst 1, 1) := by decide +kernel
theorem dL_law_212 : decode cL_law 212 = .ok (.iadd, 1) := by decide +kernel
theorem dL_law_213 : decode cL_law 213 = .ok (.iaload, 1) := by decide +kernel
theorem dL_law_214 : decode cL_law 214 = .ok (.aload_n 0, 1) := by decide +kernel
theorem dL_law_215 : decode cL_law 215 = .ok (.iload_n 3, 1) := by decide +kernel
theorem dL_law_216 : decode cL_law 216 = .ok (.iconst 2, 1) := by decide +kernel
theorem dL_law_217 : decode cL_law 217 = .ok (.iadd, 1) := by decide +kernel
theorem dL_law_218 : decode cL_law 218 = .ok (.iaload, 1) := by decide +kernel
theorem dL_law_219 : decode cL_law 219 = .ok (.invokevirtual 37, 3) := by decide +kernel
theorem dL_law_222 : decode cL_law 222 = .ok (.if_icmp .eq 252, 3) := by decide +kernel
theorem dL_law_225 : decode cL_law 225 = .ok (.iconst 0, 1) := by decide +kernel
theorem dL_law_226 : decode cL_law 226 = .ok (.ireturn, 1) := by decide +kernel
theorem dL_law_227 : decode cL_law 227 = .ok (.aload_n 1, 1) := by decide +kernel
theorem dL_law_228 : decode cL_law 228 = .ok (.aload_n 0, 1) := by decide +kernel
theorem dL_law_229 : decode cL_law 229 = .ok (.iload_n 3, 1) := by decide +kernel
theorem dL_law_230 : decode cL_law 230 = .ok (.iconst 1, 1) := by decide +kernel
theorem dL_law_231 : decode cL_law 231 = .ok (.iadd, 1) := by decide +kernel
theorem dL_law_232 : decode cL_law 232 = .ok (.iaload, 1) := by decide +kernel
theorem dL_law_233 : decode cL_law 233 = .ok (.invokevirtual 38, 3) := by decide +kernel
theorem dL_law_236 : decode cL_law 236 = .ok (.aload_n 2, 1) := by decide +kernel
theorem dL_law_237 : decode cL_law 237 = .ok (.aload_n 0, 1) := by decide +kernel
theorem dL_law_238 : decode cL_law 238 = .ok (.iload_n 3, 1) := by decide +kernel
theorem dL_law_239 : decode cL_law 239 = .ok (.iconst 1, 1) := by decide +kernel
theorem dL_law_240 : decode cL_law 240 = .ok (.iadd, 1) := by decide +kernel
theorem dL_law_241 : decode cL_law 241 = .ok (.iaload, 1) := by decide +kernel
theorem dL_law_242 : decode cL_law 242 = .ok (.invokevirtual 41, 3) := by decide +kernel
theorem dL_law_245 : decode cL_law 245 = .ok (.if_icmp .eq 229, 3) := by decide +kernel
theorem dL_law_248 : decode cL_law 248 = .ok (.iconst 0, 1) := by decide +kernel
theorem dL_law_249 : decode cL_law 249 = .ok (.ireturn, 1) := by decide +kernel
theorem dL_law_250 : decode cL_law 250 = .ok (.aload_n 1, 1) := by decide +kernel
theorem dL_law_251 : decode cL_law 251 = .ok (.invokevirtual 42, 3) := by decide +kernel
theorem dL_law_254 : decode cL_law 254 = .ok (.aload_n 2, 1) := by decide +kernel
theorem dL_law_255 : decode cL_law 255 = .ok (.invokevirtual 46, 3) := by decide +kernel
theorem dL_law_258 : decode cL_law 258 = .ok (.if_icmp .eq 216, 3) := by decide +kernel
theorem dL_law_261 : decode cL_law 261 = .ok (.iconst 0, 1) := by decide +kernel
theorem dL_law_262 : decode cL_law 262 = .ok (.ireturn, 1) := by decide +kernel
theorem dL_law_263 : decode cL_law 263 = .ok (.aload_n 1, 1) := by decide +kernel
theorem dL_law_264 : decode cL_law 264 = .ok (.aload_n 0, 1) := by decide +kernel
theorem dL_law_265 : decode cL_law 265 = .ok (.iload_n 3, 1) := by decide +kernel
theorem dL_law_266 : decode cL_law 266 = .ok (.iconst 1, 1) := by decide +kernel
theorem dL_law_267 : decode cL_law 267 = .ok (.iadd, 1) := by decide +kernel
theorem dL_law_268 : decode cL_law 268 = .ok (.iaload, 1) := by decide +kernel
theorem dL_law_269 : decode cL_law 269 = .ok (.aload_n 0, 1) := by decide +kernel
theorem dL_law_270 : decode cL_law 270 = .ok (.iload_n 3, 1) := by decide +kernel
theorem dL_law_271 : decode cL_law 271 = .ok (.iconst 2, 1) := by decide +kernel
theorem dL_law_272 : decode cL_law 272 = .ok (.iadd, 1) := by decide +kernel
theorem dL_law_273 : decode cL_law 273 = .ok (.iaload, 1) := by decide +kernel
theorem dL_law_274 : decode cL_law 274 = .ok (.invokevirtual 47, 3) := by decide +kernel
theorem dL_law_277 : decode cL_law 277 = .ok (.aload_n 2, 1) := by decide +kernel
theorem dL_law_278 : decode cL_law 278 = .ok (.aload_n 0, 1) := by decide +kernel
theorem dL_law_279 : decode cL_law 279 = .ok (.iload_n 3, 1) := by decide +kernel
theorem dL_law_280 : decode cL_law 280 = .ok (.iconst 1, 1) := by decide +kernel
theorem dL_law_281 : decode cL_law 281 = .ok (.iadd, 1) := by decide +kernel
theorem dL_law_282 : decode cL_law 282 = .ok (.iaload, 1) := by decide +kernel
theorem dL_law_283 : decode cL_law 283 = .ok (.aload_n 0, 1) := by decide +kernel
theorem dL_law_284 : decode cL_law 284 = .ok (.iload_n 3, 1) := by decide +kernel
theorem dL_law_285 : decode cL_law 285 = .ok (.iconst 2, 1) := by decide +kernel
theorem dL_law_286 : decode cL_law 286 = .ok (.iadd, 1) := by decide +kernel
theorem dL_law_287 : decode cL_law 287 = .ok (.iaload, 1) := by decide +kernel
theorem dL_law_288 : decode cL_law 288 = .ok (.invokevirtual 50, 3) := by decide +kernel
theorem dL_law_291 : decode cL_law 291 = .ok (.if_icmp .eq 183, 3) := by decide +kernel
theorem dL_law_294 : decode cL_law 294 = .ok (.iconst 0, 1) := by decide +kernel
theorem dL_law_295 : decode cL_law 295 = .ok (.ireturn, 1) := by decide +kernel
theorem dL_law_296 : decode cL_law 296 = .ok (.aload_n 1, 1) := by decide +kernel
theorem dL_law_297 : decode cL_law 297 = .ok (.aload_n 0, 1) := by decide +kernel
theorem dL_law_298 : decode cL_law 298 = .ok (.iload_n 3, 1) := by decide +kernel
theorem dL_law_299 : decode cL_law 299 = .ok (.iconst 1, 1) := by decide +kernel
theorem dL_law_300 : decode cL_law 300 = .ok (.iadd, 1) := by decide +kernel
theorem dL_law_301 : decode cL_law 301 = .ok (.iaload, 1) := by decide +kernel
theorem dL_law_302 : decode cL_law 302 = .ok (.aload_n 0, 1) := by decide +kernel
theorem dL_law_303 : decode cL_law 303 = .ok (.iload_n 3, 1) := by decide +kernel
theorem dL_law_304 : decode cL_law 304 = .ok (.iconst 2, 1) := by decide +kernel
theorem dL_law_305 : decode cL_law 305 = .ok (.iadd, 1) := by decide +kernel
theorem dL_law_306 : decode cL_law 306 = .ok (.iaload, 1) := by decide +kernel
theorem dL_law_307 : decode cL_law 307 = .ok (.aload_n 0, 1) := by decide +kernel
theorem dL_law_308 : decode cL_law 308 = .ok (.iload_n 3, 1) := by decide +kernel
theorem dL_law_309 : decode cL_law 309 = .ok (.iconst 3, 1) := by decide +kernel
theorem dL_law_310 : decode cL_law 310 = .ok (.iadd, 1) := by decide +kernel
theorem dL_law_311 : decode cL_law 311 = .ok (.iaload, 1) := by decide +kernel
theorem dL_law_312 : decode cL_law 312 = .ok (.invokevirtual 51, 3) := by decide +kernel
theorem dL_law_315 : decode cL_law 315 = .ok (.aload_n 2, 1) := by decide +kernel
theorem dL_law_316 : decode cL_law 316 = .ok (.aload_n 0, 1) := by decide +kernel
theorem dL_law_317 : decode cL_law 317 = .ok (.iload_n 3, 1) := by decide +kernel
theorem dL_law_318 : decode cL_law 318 = .ok (.iconst 1, 1) := by decide +kernel
theorem dL_law_319 : decode cL_law 319 = .ok (.iadd, 1) := by decide +kernel
theorem dL_law_320 : decode cL_law 320 = .ok (.iaload, 1) := by decide +kernel
theorem dL_law_321 : decode cL_law 321 = .ok (.aload_n 0, 1) := by decide +kernel
theorem dL_law_322 : decode cL_law 322 = .ok (.iload_n 3, 1) := by decide +kernel
theorem dL_law_323 : decode cL_law 323 = .ok (.iconst 2, 1) := by decide +kernel
theorem dL_law_324 : decode cL_law 324 = .ok (.iadd, 1) := by decide +kernel
theorem dL_law_325 : decode cL_law 325 = .ok (.iaload, 1) := by decide +kernel
theorem dL_law_326 : decode cL_law 326 = .ok (.aload_n 0, 1) := by decide +kernel
theorem dL_law_327 : decode cL_law 327 = .ok (.iload_n 3, 1) := by decide +kernel
theorem dL_law_328 : decode cL_law 328 = .ok (.iconst 3, 1) := by decide +kernel
theorem dL_law_329 : decode cL_law 329 = .ok (.iadd, 1) := by decide +kernel
theorem dL_law_330 : decode cL_law 330 = .ok (.iaload, 1) := by decide +kernel
theorem dL_law_331 : decode cL_law 331 = .ok (.invokevirtual 55, 3) := by decide +kernel
theorem dL_law_334 : decode cL_law 334 = .ok (.if_icmp .eq 140, 3) := by decide +kernel
theorem dL_law_337 : decode cL_law 337 = .ok (.iconst 0, 1) := by decide +kernel
theorem dL_law_338 : decode cL_law 338 = .ok (.ireturn, 1) := by decide +kernel
theorem dL_law_339 : decode cL_law 339 = .ok (.aload_n 1, 1) := by decide +kernel
theorem dL_law_340 : decode cL_law 340 = .ok (.invokevirtual 56, 3) := by decide +kernel
theorem dL_law_343 : decode cL_law 343 = .ok (.aload_n 2, 1) := by decide +kernel
theorem dL_law_344 : decode cL_law 344 = .ok (.invokevirtual 59, 3) := by decide +kernel
theorem dL_law_347 : decode cL_law 347 = .ok (.if_icmp .eq 127, 3) := by decide +kernel
theorem dL_law_350 : decode cL_law 350 = .ok (.iconst 0, 1) := by decide +kernel
theorem dL_law_351 : decode cL_law 351 = .ok (.ireturn, 1) := by decide +kernel
theorem dL_law_352 : decode cL_law 352 = .ok (.aload_n 1, 1) := by decide +kernel
theorem dL_law_353 : decode cL_law 353 = .ok (.aload_n 0, 1) := by decide +kernel
theorem dL_law_354 : decode cL_law 354 = .ok (.iload_n 3, 1) := by decide +kernel
theorem dL_law_355 : decode cL_law 355 = .ok (.iconst 1, 1) := by decide +kernel
theorem dL_law_356 : decode cL_law 356 = .ok (.iadd, 1) := by decide +kernel
theorem dL_law_357 : decode cL_law 357 = .ok (.iaload, 1) := by decide +kernel
theorem dL_law_358 : decode cL_law 358 = .ok (.invokevirtual 60, 3) := by decide +kernel
theorem dL_law_361 : decode cL_law 361 = .ok (.aload_n 2, 1) := by decide +kernel
theorem dL_law_362 : decode cL_law 362 = .ok (.aload_n 0, 1) := by decide +kernel
theorem dL_law_363 : decode cL_law 363 = .ok (.iload_n 3, 1) := by decide +kernel
theorem dL_law_364 : decode cL_law 364 = .ok (.iconst 1, 1) := by decide +kernel
theorem dL_law_365 : decode cL_law 365 = .ok (.iadd, 1) := by decide +kernel
theorem dL_law_366 : decode cL_law 366 = .ok (.iaload, 1) := by decide +kernel
theorem dL_law_367 : decode cL_law 367 = .ok (.invokevirtual 63, 3) := by decide +kernel
theorem dL_law_370 : decode cL_law 370 = .ok (.if_icmp .eq 104, 3) := by decide +kernel
theorem dL_law_373 : decode cL_law 373 = .ok (.iconst 0, 1) := by decide +kernel
theorem dL_law_374 : decode cL_law 374 = .ok (.ireturn, 1) := by decide +kernel
theorem dL_law_375 : decode cL_law 375 = .ok (.aload_n 1, 1) := by decide +kernel
theorem dL_law_376 : decode cL_law 376 = .ok (.aload_n 0, 1) := by decide +kernel
theorem dL_law_377 : decode cL_law 377 = .ok (.iload_n 3, 1) := by decide +kernel
theorem dL_law_378 : decode cL_law 378 = .ok (.iconst 1, 1) := by decide +kernel
theorem dL_law_379 : decode cL_law 379 = .ok (.iadd, 1) := by decide +kernel
theorem dL_law_380 : decode cL_law 380 = .ok (.iaload, 1) := by decide +kernel
theorem dL_law_381 : decode cL_law 381 = .ok (.aload_n 0, 1) := by decide +kernel
theorem dL_law_382 : decode cL_law 382 = .ok (.iload_n 3, 1) := by decide +kernel
theorem dL_law_383 : decode cL_law 383 = .ok (.iconst 2, 1) := by decide +kernel
theorem dL_law_384 : decode cL_law 384 = .ok (.iadd, 1) := by decide +kernel
theorem dL_law_385 : decode cL_law 385 = .ok (.iaload, 1) := by decide +kernel
theorem dL_law_386 : decode cL_law 386 = .ok (.invokevirtual 64, 3) := by decide +kernel
theorem dL_law_389 : decode cL_law 389 = .ok (.aload_n 2, 1) := by decide +kernel
theorem dL_law_390 : decode cL_law 390 = .ok (.aload_n 0, 1) := by decide +kernel
theorem dL_law_391 : decode cL_law 391 = .ok (.iload_n 3, 1) := by decide +kernel
theorem dL_law_392 : decode cL_law 392 = .ok (.iconst 1, 1) := by decide +kernel
theorem dL_law_393 : decode cL_law 393 = .ok (.iadd, 1) := by decide +kernel
theorem dL_law_394 : decode cL_law 394 = .ok (.iaload, 1) := by decide +kernel
theorem dL_law_395 : decode cL_law 395 = .ok (.aload_n 0, 1) := by decide +kernel
theorem dL_law_396 : decode cL_law 396 = .ok (.iload_n 3, 1) := by decide +kernel
theorem dL_law_397 : decode cL_law 397 = .ok (.iconst 2, 1) := by decide +kernel
theorem dL_law_398 : decode cL_law 398 = .ok (.iadd, 1) := by decide +kernel
theorem dL_law_399 : decode cL_law 399 = .ok (.iaload, 1) := by decide +kernel
theorem dL_law_400 : decode cL_law 400 = .ok (.invokevirtual 67, 3) := by decide +kernel
theorem dL_law_403 : decode cL_law 403 = .ok (.if_icmp .eq 71, 3) := by decide +kernel
theorem dL_law_406 : decode cL_law 406 = .ok (.iconst 0, 1) := by decide +kernel
theorem dL_law_407 : decode cL_law 407 = .ok (.ireturn, 1) := by decide +kernel
theorem dL_law_408 : decode cL_law 408 = .ok (.aload_n 1, 1) := by decide +kernel
theorem dL_law_409 : decode cL_law 409 = .ok (.aload_n 0, 1) := by decide +kernel
theorem dL_law_410 : decode cL_law 410 = .ok (.iload_n 3, 1) := by decide +kernel
theorem dL_law_411 : decode cL_law 411 = .ok (.iconst 1, 1) := by decide +kernel
theorem dL_law_412 : decode cL_law 412 = .ok (.iadd, 1) := by decide +kernel
theorem dL_law_413 : decode cL_law 413 = .ok (.iaload, 1) := by decide +kernel
theorem dL_law_414 : decode cL_law 414 = .ok (.aload_n 0, 1) := by decide +kernel
theorem dL_law_415 : decode cL_law 415 = .ok (.iload_n 3, 1) := by decide +kernel
theorem dL_law_416 : decode cL_law 416 = .ok (.iconst 2, 1) := by decide +kernel
theorem dL_law_417 : decode cL_law 417 = .ok (.iadd, 1) := by decide +kernel
theorem dL_law_418 : decode cL_law 418 = .ok (.iaload, 1) := by decide +kernel
theorem dL_law_419 : decode cL_law 419 = .ok (.aload_n 0, 1) := by decide +kernel
theorem dL_law_420 : decode cL_law 420 = .ok (.iload_n 3, 1) := by decide +kernel
theorem dL_law_421 : decode cL_law 421 = .ok (.iconst 3, 1) := by decide +kernel
theorem dL_law_422 : decode cL_law 422 = .ok (.iadd, 1) := by decide +kernel
theorem dL_law_423 : decode cL_law 423 = .ok (.iaload, 1) := by decide +kernel
theorem dL_law_424 : decode cL_law 424 = .ok (.invokevirtual 68, 3) := by decide +kernel
theorem dL_law_427 : decode cL_law 427 = .ok (.aload_n 2, 1) := by decide +kernel
theorem dL_law_428 : decode cL_law 428 = .ok (.aload_n 0, 1) := by decide +kernel
theorem dL_law_429 : decode cL_law 429 = .ok (.iload_n 3, 1) := by decide +kernel
theorem dL_law_430 : decode cL_law 430 = .ok (.iconst 1, 1) := by decide +kernel
theorem dL_law_431 : decode cL_law 431 = .ok (.iadd, 1) := by decide +kernel
theorem dL_law_432 : decode cL_law 432 = .ok (.iaload, 1) := by decide +kernel
theorem dL_law_433 : decode cL_law 433 = .ok (.aload_n 0, 1) := by decide +kernel
theorem dL_law_434 : decode cL_law 434 = .ok (.iload_n 3, 1) := by decide +kernel
theorem dL_law_435 : decode cL_law 435 = .ok (.iconst 2, 1) := by decide +kernel
theorem dL_law_436 : decode cL_law 436 = .ok (.iadd, 1) := by decide +kernel
theorem dL_law_437 : decode cL_law 437 = .ok (.iaload, 1) := by decide +kernel
theorem dL_law_438 : decode cL_law 438 = .ok (.aload_n 0, 1) := by decide +kernel
theorem dL_law_439 : decode cL_law 439 = .ok (.iload_n 3, 1) := by decide +kernel
theorem dL_law_440 : decode cL_law 440 = .ok (.iconst 3, 1) := by decide +kernel
theorem dL_law_441 : decode cL_law 441 = .ok (.iadd, 1) := by decide +kernel
theorem dL_law_442 : decode cL_law 442 = .ok (.iaload, 1) := by decide +kernel
theorem dL_law_443 : decode cL_law 443 = .ok (.invokevirtual 71, 3) := by decide +kernel
theorem dL_law_446 : decode cL_law 446 = .ok (.if_icmp .eq 28, 3) := by decide +kernel
theorem dL_law_449 : decode cL_law 449 = .ok (.iconst 0, 1) := by decide +kernel
theorem dL_law_450 : decode cL_law 450 = .ok (.ireturn, 1) := by decide +kernel
theorem dL_law_451 : decode cL_law 451 = .ok (.aload_n 1, 1) := by decide +kernel
theorem dL_law_452 : decode cL_law 452 = .ok (.aload_n 0, 1) := by decide +kernel
theorem dL_law_453 : decode cL_law 453 = .ok (.iload_n 3, 1) := by decide +kernel
theorem dL_law_454 : decode cL_law 454 = .ok (.iconst 1, 1) := by decide +kernel
theorem dL_law_455 : decode cL_law 455 = .ok (.iadd, 1) := by decide +kernel
theorem dL_law_456 : decode cL_law 456 = .ok (.iaload, 1) := by decide +kernel
theorem dL_law_457 : decode cL_law 457 = .ok (.invokevirtual 72, 3) := by decide +kernel
theorem dL_law_460 : decode cL_law 460 = .ok (.aload_n 2, 1) := by decide +kernel
theorem dL_law_461 : decode cL_law 461 = .ok (.aload_n 0, 1) := by decide +kernel
theorem dL_law_462 : decode cL_law 462 = .ok (.iload_n 3, 1) := by decide +kernel
theorem dL_law_463 : decode cL_law 463 = .ok (.iconst 1, 1) := by decide +kernel
theorem dL_law_464 : decode cL_law 464 = .ok (.iadd, 1) := by decide +kernel
theorem dL_law_465 : decode cL_law 465 = .ok (.iaload, 1) := by decide +kernel
theorem dL_law_466 : decode cL_law 466 = .ok (.invokevirtual 75, 3) := by decide +kernel
theorem dL_law_469 : decode cL_law 469 = .ok (.if_icmp .eq 5, 3) := by decide +kernel
theorem dL_law_472 : decode cL_law 472 = .ok (.iconst 0, 1) := by decide +kernel
theorem dL_law_473 : decode cL_law 473 = .ok (.ireturn, 1) := by decide +kernel
theorem dL_law_474 : decode cL_law 474 = .ok (.iinc 3 4, 3) := by decide +kernel
theorem dL_law_477 : decode cL_law 477 = .ok (.goto (-447), 3) := by decide +kernel
theorem dL_law_480 : decode cL_law 480 = .ok (.iconst 1, 1) := by decide +kernel
theorem dL_law_481 : decode cL_law 481 = .ok (.ireturn, 1) := by decide +kernel
end
section
theorem dX0_init_0 : decode cX0_init 0 = .ok (.aload_n 0, 1) := by decide +kernel
theorem dX0_init_1 : decode cX0_init 1 = .ok (.invokespecial 3, 3) := by decide +kernel
theorem dX0_init_4 : decode cX0_init 4 = .ok (.aload_n 0, 1) := by decide +kernel
theorem dX0_init_5 : decode cX0_init 5 = .ok (.iconst 0, 1) := by decide +kernel
theorem dX0_init_6 : decode cX0_init 6 = .ok (.iload_n 1, 1) := by decide +kernel
theorem dX0_init_7 : decode cX0_init 7 = .ok (.invokestatic 9, 3) := by decide +kernel
theorem dX0_init_10 : decode cX0_init 10 = .ok (.newarray .int, 2) := by decide +kernel
theorem dX0_init_12 : decode cX0_init 12 = .ok (.putfield 15, 3) := by decide +kernel
theorem dX0_init_15 : decode cX0_init 15 = .ok (.aload_n 0, 1) := by decide +kernel
theorem dX0_init_16 : decode cX0_init 16 = .ok (.iconst 0, 1) := by decide +kernel
theorem dX0_init_17 : decode cX0_init 17 = .ok (.iload_n 2, 1) := by decide +kernel
theorem dX0_init_18 : decode cX0_init 18 = .ok (.invokestatic 9, 3) := by decide +kernel
theorem dX0_init_21 : decode cX0_init 21 = .ok (.newarray .int, 2) := by decide +kernel
theorem dX0_init_23 : decode cX0_init 23 = .ok (.putfield 21, 3) := by decide +kernel
theorem dX0_init_26 : decode cX0_init 26 = .ok (.return_, 1) := by decide +kernel
theorem dX0_get_0 : decode cX0_get 0 = .ok (.iload_n 1, 1) := by decide +kernel
theorem dX0_get_1 : decode cX0_get 1 = .ok (.ifCond .lt 20, 3) := by decide +kernel
theorem dX0_get_4 : decode cX0_get 4 = .ok (.iload_n 1, 1) := by decide +kernel
theorem dX0_get_5 : decode cX0_get 5 = .ok (.aload_n 0, 1) := by decide +kernel
theorem dX0_get_6 : decode cX0_get 6 = .ok (.getfield 24, 3) := by decide +kernel
theorem dX0_get_9 : decode cX0_get 9 = .ok (.if_icmp .ge 12, 3) := by decide +kernel
theorem dX0_get_12 : decode cX0_get 12 = .ok (.aload_n 0, 1) := by decide +kernel
theorem dX0_get_13 : decode cX0_get 13 = .ok (.getfield 15, 3) := by decide +kernel
theorem dX0_get_16 : decode cX0_get 16 = .ok (.iload_n 1, 1) := by decide +kernel
theorem dX0_get_17 : decode cX0_get 17 = .ok (.iaload, 1) := by decide +kernel
theorem dX0_get_18 : decode cX0_get 18 = .ok (.goto 4, 3) := by decide +kernel
theorem dX0_get_21 : decode cX0_get 21 = .ok (.iconst (-1), 1) := by decide +kernel
theorem dX0_get_22 : decode cX0_get 22 = .ok (.ireturn, 1) := by decide +kernel
theorem dX0_put_0 : decode cX0_put 0 = .ok (.iload_n 1, 1) := by decide +kernel
theorem dX0_put_1 : decode cX0_put 1 = .ok (.ifCond .lt 18, 3) := by decide +kernel
theorem dX0_put_4 : decode cX0_put 4 = .ok (.iload_n 1, 1) := by decide +kernel
theorem dX0_put_5 : decode cX0_put 5 = .ok (.aload_n 0, 1) := by decide +kernel
theorem dX0_put_6 : decode cX0_put 6 = .ok (.getfield 24, 3) := by decide +kernel
theorem dX0_put_9 : decode cX0_put 9 = .ok (.if_icmp .ge 10, 3) := by decide +kernel
theorem dX0_put_12 : decode cX0_put 12 = .ok (.aload_n 0, 1) := by decide +kernel
theorem dX0_put_13 : decode cX0_put 13 = .ok (.getfield 15, 3) := by decide +kernel
theorem dX0_put_16 : decode cX0_put 16 = .ok (.iload_n 1, 1) := by decide +kernel
theorem dX0_put_17 : decode cX0_put 17 = .ok (.iload_n 2, 1) := by decide +kernel
theorem dX0_put_18 : decode cX0_put 18 = .ok (.iastore, 1) := by decide +kernel
theorem dX0_put_19 : decode cX0_put 19 = .ok (.return_, 1) := by decide +kernel
theorem dX0_append_0 : decode cX0_append 0 = .ok (.aload_n 0, 1) := by decide +kernel
theorem dX0_append_1 : decode cX0_append 1 = .ok (.getfield 24, 3) := by decide +kernel
theorem dX0_append_4 : decode cX0_append 4 = .ok (.aload_n 0, 1) := by decide +kernel
theorem dX0_append_5 : decode cX0_append 5 = .ok (.getfield 15, 3) := by decide +kernel
theorem dX0_append_8 : decode cX0_append 8 = .ok (.arraylength, 1) := by decide +kernel
theorem dX0_append_9 : decode cX0_append 9 = .ok (.if_icmp .ge 23, 3) := by decide +kernel
theorem dX0_append_12 : decode cX0_append 12 = .ok (.aload_n 0, 1) := by decide +kernel
theorem dX0_append_13 : decode cX0_append 13 = .ok (.getfield 15, 3) := by decide +kernel
theorem dX0_append_16 : decode cX0_append 16 = .ok (.aload_n 0, 1) := by decide +kernel
theorem dX0_append_17 : decode cX0_append 17 = .ok (.getfield 24, 3) := by decide +kernel
theorem dX0_append_20 : decode cX0_append 20 = .ok (.iload_n 1, 1) := by decide +kernel
theorem dX0_append_21 : decode cX0_append 21 = .ok (.iastore, 1) := by decide +kernel
theorem dX0_append_22 : decode cX0_append 22 = .ok (.aload_n 0, 1) := by decide +kernel
theorem dX0_append_23 : decode cX0_append 23 = .ok (.dup, 1) := by decide +kernel
theorem dX0_append_24 : decode cX0_append 24 = .ok (.getfield 24, 3) := by decide +kernel
theorem dX0_append_27 : decode cX0_append 27 = .ok (.iconst 1, 1) := by decide +kernel
theorem dX0_append_28 : decode cX0_append 28 = .ok (.iadd, 1) := by decide +kernel
theorem dX0_append_29 : decode cX0_append 29 = .ok (.putfield 24, 3) := by decide +kernel
theorem dX0_append_32 : decode cX0_append 32 = .ok (.return_, 1) := by decide +kernel
theorem dX0_keepFirst_0 : decode cX0_keepFirst 0 = .ok (.aload_n 0, 1) := by decide +kernel
theorem dX0_keepFirst_1 : decode cX0_keepFirst 1 = .ok (.iconst 0, 1) := by decide +kernel
theorem dX0_keepFirst_2 : decode cX0_keepFirst 2 = .ok (.iload_n 1, 1) := by decide +kernel
theorem dX0_keepFirst_3 : decode cX0_keepFirst 3 = .ok (.aload_n 0, 1) := by decide +kernel
theorem dX0_keepFirst_4 : decode cX0_keepFirst 4 = .ok (.getfield 24, 3) := by decide +kernel
theorem dX0_keepFirst_7 : decode cX0_keepFirst 7 = .ok (.invokestatic 28, 3) := by decide +kernel
theorem dX0_keepFirst_10 : decode cX0_keepFirst 10 = .ok (.invokestatic 9, 3) := by decide +kernel
theorem dX0_keepFirst_13 : decode cX0_keepFirst 13 = .ok (.putfield 24, 3) := by decide +kernel
theorem dX0_keepFirst_16 : decode cX0_keepFirst 16 = .ok (.return_, 1) := by decide +kernel
theorem dX0_checkOf_0 : decode cX0_checkOf 0 = .ok (.iconst 0, 1) := by decide +kernel
theorem dX0_checkOf_1 : decode cX0_checkOf 1 = .ok (.istore_n 3, 1) := by decide +kernel
theorem dX0_checkOf_2 : decode cX0_checkOf 2 = .ok (.iconst 0, 1) := by decide +kernel
theorem dX0_checkOf_3 : decode cX0_checkOf 3 = .ok (.iload_n 1, 1) := by decide +kernel
theorem dX0_checkOf_4 : decode cX0_checkOf 4 = .ok (.invokestatic 9, 3) := by decide +kernel
theorem dX0_checkOf_7 : decode cX0_checkOf 7 = .ok (.istore 4, 2) := by decide +kernel
theorem dX0_checkOf_9 : decode cX0_checkOf 9 = .ok (.iload 4, 2) := by decide +kernel
theorem dX0_checkOf_11 : decode cX0_checkOf 11 = .ok (.iload_n 2, 1) := by decide +kernel
theorem dX0_checkOf_12 : decode cX0_checkOf 12 = .ok (.if_icmp .ge 28, 3) := by decide +kernel
theorem dX0_checkOf_15 : decode cX0_checkOf 15 = .ok (.iload 4, 2) := by decide +kernel
theorem dX0_checkOf_17 : decode cX0_checkOf 17 = .ok (.aload_n 0, 1) := by decide +kernel
theorem dX0_checkOf_18 : decode cX0_checkOf 18 = .ok (.getfield 24, 3) := by decide +kernel
theorem dX0_checkOf_21 : decode cX0_checkOf 21 = .ok (.if_icmp .ge 19, 3) := by decide +kernel
theorem dX0_checkOf_24 : decode cX0_checkOf 24 = .ok (.iload_n 3, 1) := by decide +kernel
theorem dX0_checkOf_25 : decode cX0_checkOf 25 = .ok (.aload_n 0, 1) := by decide +kernel
theorem dX0_checkOf_26 : decode cX0_checkOf 26 = .ok (.getfield 15, 3) := by decide +kernel
theorem dX0_checkOf_29 : decode cX0_checkOf 29 = .ok (.iload 4, 2) := by decide +kernel
theorem dX0_checkOf_31 : decode cX0_checkOf 31 = .ok (.iaload, 1) := by decide +kernel
theorem dX0_checkOf_32 : decode cX0_checkOf 32 = .ok (.iadd, 1) := by decide +kernel
theorem dX0_checkOf_33 : decode cX0_checkOf 33 = .ok (.istore_n 3, 1) := by decide +kernel
theorem dX0_checkOf_34 : decode cX0_checkOf 34 = .ok (.iinc 4 1, 3) := by decide +kernel
theorem dX0_checkOf_37 : decode cX0_checkOf 37 = .ok (.goto (-28), 3) := by decide +kernel
theorem dX0_checkOf_40 : decode cX0_checkOf 40 = .ok (.iload_n 3, 1) := by decide +kernel
theorem dX0_checkOf_41 : decode cX0_checkOf 41 = .ok (.sipush 255, 3) := by decide +kernel
theorem dX0_checkOf_44 : decode cX0_checkOf 44 = .ok (.iand, 1) := by decide +kernel
theorem dX0_checkOf_45 : decode cX0_checkOf 45 = .ok (.ireturn, 1) := by decide +kernel
theorem dX0_takeOut_0 : decode cX0_takeOut 0 = .ok (.aload_n 0, 1) := by decide +kernel
theorem dX0_takeOut_1 : decode cX0_takeOut 1 = .ok (.iconst 0, 1) := by decide +kernel
theorem dX0_takeOut_2 : decode cX0_takeOut 2 = .ok (.putfield 31, 3) := by decide +kernel
theorem dX0_takeOut_5 : decode cX0_takeOut 5 = .ok (.iload_n 1, 1) := by decide +kernel
theorem dX0_takeOut_6 : decode cX0_takeOut 6 = .ok (.ifCond .lt 26, 3) := by decide +kernel
theorem dX0_takeOut_9 : decode cX0_takeOut 9 = .ok (.iload_n 2, 1) := by decide +kernel
theorem dX0_takeOut_10 : decode cX0_takeOut 10 = .ok (.ifCond .lt 22, 3) := by decide +kernel
theorem dX0_takeOut_13 : decode cX0_takeOut 13 = .ok (.iload_n 2, 1) := by decide +kernel
theorem dX0_takeOut_14 : decode cX0_takeOut 14 = .ok (.aload_n 0, 1) := by decide +kernel
theorem dX0_takeOut_15 : decode cX0_takeOut 15 = .ok (.getfield 21, 3) := by decide +kernel
theorem dX0_takeOut_18 : decode cX0_takeOut 18 = .ok (.arraylength, 1) := by decide +kernel
theorem dX0_takeOut_19 : decode cX0_takeOut 19 = .ok (.if_icmp .gt 13, 3) := by decide +kernel
theorem dX0_takeOut_22 : decode cX0_takeOut 22 = .ok (.iload_n 2, 1) := by decide +kernel
theorem dX0_takeOut_23 : decode cX0_takeOut 23 = .ok (.aload_n 0, 1) := by decide +kernel
theorem dX0_takeOut_24 : decode cX0_takeOut 24 = .ok (.getfield 24, 3) := by decide +kernel
theorem dX0_takeOut_27 : decode cX0_takeOut 27 = .ok (.iload_n 1, 1) := by decide +kernel
theorem dX0_takeOut_28 : decode cX0_takeOut 28 = .ok (.isub, 1) := by decide +kernel
theorem dX0_takeOut_29 : decode cX0_takeOut 29 = .ok (.if_icmp .le 4, 3) := by decide +kernel
theorem dX0_takeOut_32 : decode cX0_takeOut 32 = .ok (.return_, 1) := by decide +kernel
theorem dX0_takeOut_33 : decode cX0_takeOut 33 = .ok (.aload_n 0, 1) := by decide +kernel
theorem dX0_takeOut_34 : decode cX0_takeOut 34 = .ok (.getfield 15, 3) := by decide +kernel
theorem dX0_takeOut_37 : decode cX0_takeOut 37 = .ok (.iload_n 1, 1) := by decide +kernel
theorem dX0_takeOut_38 : decode cX0_takeOut 38 = .ok (.aload_n 0, 1) := by decide +kernel
theorem dX0_takeOut_39 : decode cX0_takeOut 39 = .ok (.getfield 21, 3) := by decide +kernel
theorem dX0_takeOut_42 : decode cX0_takeOut 42 = .ok (.iconst 0, 1) := by decide +kernel
theorem dX0_takeOut_43 : decode cX0_takeOut 43 = .ok (.iload_n 2, 1) := by decide +kernel
theorem dX0_takeOut_44 : decode cX0_takeOut 44 = .ok (.invokestatic 34, 3) := by decide +kernel
theorem dX0_takeOut_47 : decode cX0_takeOut 47 = .ok (.aload_n 0, 1) := by decide +kernel
theorem dX0_takeOut_48 : decode cX0_takeOut 48 = .ok (.getfield 15, 3) := by decide +kernel
theorem dX0_takeOut_51 : decode cX0_takeOut 51 = .ok (.iload_n 1, 1) := by decide +kernel
theorem dX0_takeOut_52 : decode cX0_takeOut 52 = .ok (.iload_n 2, 1) := by decide +kernel
theorem dX0_takeOut_53 : decode cX0_takeOut 53 = .ok (.iadd, 1) := by decide +kernel
theorem dX0_takeOut_54 : decode cX0_takeOut 54 = .ok (.aload_n 0, 1) := by decide +kernel
theorem dX0_takeOut_55 : decode cX0_takeOut 55 = .ok (.getfield 15, 3) := by decide +kernel
theorem dX0_takeOut_58 : decode cX0_takeOut 58 = .ok (.iload_n 1, 1) := by decide +kernel
theorem dX0_takeOut_59 : decode cX0_takeOut 59 = .ok (.aload_n 0, 1) := by decide +kernel
theorem dX0_takeOut_60 : decode cX0_takeOut 60 = .ok (.getfield 24, 3) := by decide +kernel
theorem dX0_takeOut_63 : decode cX0_takeOut 63 = .ok (.iload_n 1, 1) := by decide +kernel
theorem dX0_takeOut_64 : decode cX0_takeOut 64 = .ok (.isub, 1) := by decide +kernel
theorem dX0_takeOut_65 : decode cX0_takeOut 65 = .ok (.iload_n 2, 1) := by decide +kernel
theorem dX0_takeOut_66 : decode cX0_takeOut 66 = .ok (.isub, 1) := by decide +kernel
theorem dX0_takeOut_67 : decode cX0_takeOut 67 = .ok (.invokestatic 34, 3) := by decide +kernel
theorem dX0_takeOut_70 : decode cX0_takeOut 70 = .ok (.aload_n 0, 1) := by decide +kernel
theorem dX0_takeOut_71 : decode cX0_takeOut 71 = .ok (.iload_n 2, 1) := by decide +kernel
theorem dX0_takeOut_72 : decode cX0_takeOut 72 = .ok (.putfield 31, 3) := by decide +kernel
theorem dX0_takeOut_75 : decode cX0_takeOut 75 = .ok (.aload_n 0, 1) := by decide +kernel
theorem dX0_takeOut_76 : decode cX0_takeOut 76 = .ok (.dup, 1) := by decide +kernel
theorem dX0_takeOut_77 : decode cX0_takeOut 77 = .ok (.getfield 24, 3) := by decide +kernel
theorem dX0_takeOut_80 : decode cX0_takeOut 80 = .ok (.iload_n 2, 1) := by decide +kernel
theorem dX0_takeOut_81 : decode cX0_takeOut 81 = .ok (.isub, 1) := by decide +kernel
theorem dX0_takeOut_82 : decode cX0_takeOut 82 = .ok (.putfield 24, 3) := by decide +kernel
theorem dX0_takeOut_85 : decode cX0_takeOut 85 = .ok (.return_, 1) := by decide +kernel
theorem dX0_putBack_0 : decode cX0_putBack 0 = .ok (.iload_n 1, 1) := by decide +kernel
theorem dX0_putBack_1 : decode cX0_putBack 1 = .ok (.ifCond .lt 28, 3) := by decide +kernel
theorem dX0_putBack_4 : decode cX0_putBack 4 = .ok (.iload_n 1, 1) := by decide +kernel
theorem dX0_putBack_5 : decode cX0_putBack 5 = .ok (.aload_n 0, 1) := by decide +kernel
theorem dX0_putBack_6 : decode cX0_putBack 6 = .ok (.getfield 24, 3) := by decide +kernel
theorem dX0_putBack_9 : decode cX0_putBack 9 = .ok (.if_icmp .gt 20, 3) := by decide +kernel
theorem dX0_putBack_12 : decode cX0_putBack 12 = .ok (.aload_n 0, 1) := by decide +kernel
theorem dX0_putBack_13 : decode cX0_putBack 13 = .ok (.getfield 31, 3) := by decide +kernel
theorem dX0_putBack_16 : decode cX0_putBack 16 = .ok (.aload_n 0, 1) := by decide +kernel
theorem dX0_putBack_17 : decode cX0_putBack 17 = .ok (.getfield 15, 3) := by decide +kernel
theorem dX0_putBack_20 : decode cX0_putBack 20 = .ok (.arraylength, 1) := by decide +kernel
theorem dX0_putBack_21 : decode cX0_putBack 21 = .ok (.aload_n 0, 1) := by decide +kernel
theorem dX0_putBack_22 : decode cX0_putBack 22 = .ok (.getfield 24, 3) := by decide +kernel
theorem dX0_putBack_25 : decode cX0_putBack 25 = .ok (.isub, 1) := by decide +kernel
theorem dX0_putBack_26 : decode cX0_putBack 26 = .ok (.if_icmp .le 4, 3) := by decide +kernel
theorem dX0_putBack_29 : decode cX0_putBack 29 = .ok (.return_, 1) := by decide +kernel
theorem dX0_putBack_30 : decode cX0_putBack 30 = .ok (.aload_n 0, 1) := by decide +kernel
theorem dX0_putBack_31 : decode cX0_putBack 31 = .ok (.getfield 15, 3) := by decide +kernel
theorem dX0_putBack_34 : decode cX0_putBack 34 = .ok (.iload_n 1, 1) := by decide +kernel
theorem dX0_putBack_35 : decode cX0_putBack 35 = .ok (.aload_n 0, 1) := by decide +kernel
theorem dX0_putBack_36 : decode cX0_putBack 36 = .ok (.getfield 15, 3) := by decide +kernel
theorem dX0_putBack_39 : decode cX0_putBack 39 = .ok (.iload_n 1, 1) := by decide +kernel
theorem dX0_putBack_40 : decode cX0_putBack 40 = .ok (.aload_n 0, 1) := by decide +kernel
theorem dX0_putBack_41 : decode cX0_putBack 41 = .ok (.getfield 31, 3) := by decide +kernel
theorem dX0_putBack_44 : decode cX0_putBack 44 = .ok (.iadd, 1) := by decide +kernel
theorem dX0_putBack_45 : decode cX0_putBack 45 = .ok (.aload_n 0, 1) := by decide +kernel
theorem dX0_putBack_46 : decode cX0_putBack 46 = .ok (.getfield 24, 3) := by decide +kernel
theorem dX0_putBack_49 : decode cX0_putBack 49 = .ok (.iload_n 1, 1) := by decide +kernel
theorem dX0_putBack_50 : decode cX0_putBack 50 = .ok (.isub, 1) := by decide +kernel
theorem dX0_putBack_51 : decode cX0_putBack 51 = .ok (.invokestatic 34, 3) := by decide +kernel
theorem dX0_putBack_54 : decode cX0_putBack 54 = .ok (.aload_n 0, 1) := by decide +kernel
theorem dX0_putBack_55 : decode cX0_putBack 55 = .ok (.getfield 21, 3) := by decide +kernel
theorem dX0_putBack_58 : decode cX0_putBack 58 = .ok (.iconst 0, 1) := by decide +kernel
theorem dX0_putBack_59 : decode cX0_putBack 59 = .ok (.aload_n 0, 1) := by decide +kernel
theorem dX0_putBack_60 : decode cX0_putBack 60 = .ok (.getfield 15, 3) := by decide +kernel
theorem dX0_putBack_63 : decode cX0_putBack 63 = .ok (.iload_n 1, 1) := by decide +kernel
theorem dX0_putBack_64 : decode cX0_putBack 64 = .ok (.aload_n 0, 1) := by decide +kernel
theorem dX0_putBack_65 : decode cX0_putBack 65 = .ok (.getfield 31, 3) := by decide +kernel
theorem dX0_putBack_68 : decode cX0_putBack 68 = .ok (.invokestatic 34, 3) := by decide +kernel
theorem dX0_putBack_71 : decode cX0_putBack 71 = .ok (.aload_n 0, 1) := by decide +kernel
theorem dX0_putBack_72 : decode cX0_putBack 72 = .ok (.dup, 1) := by decide +kernel
theorem dX0_putBack_73 : decode cX0_putBack 73 = .ok (.getfield 24, 3) := by decide +kernel
theorem dX0_putBack_76 : decode cX0_putBack 76 = .ok (.aload_n 0, 1) := by decide +kernel
theorem dX0_putBack_77 : decode cX0_putBack 77 = .ok (.getfield 31, 3) := by decide +kernel
theorem dX0_putBack_80 : decode cX0_putBack 80 = .ok (.iadd, 1) := by decide +kernel
theorem dX0_putBack_81 : decode cX0_putBack 81 = .ok (.putfield 24, 3) := by decide +kernel
theorem dX0_putBack_84 : decode cX0_putBack 84 = .ok (.aload_n 0, 1) := by decide +kernel
theorem dX0_putBack_85 : decode cX0_putBack 85 = .ok (.iconst 0, 1) := by decide +kernel
theorem dX0_putBack_86 : decode cX0_putBack 86 = .ok (.putfield 31, 3) := by decide +kernel
theorem dX0_putBack_89 : decode cX0_putBack 89 = .ok (.return_, 1) := by decide +kernel
end
section
theorem dX1_init_0 : decode cX1_init 0 = .ok (.aload_n 0, 1) := by decide +kernel
theorem dX1_init_1 : decode cX1_init 1 = .ok (.invokespecial 3, 3) := by decide +kernel
theorem dX1_init_4 : decode cX1_init 4 = .ok (.aload_n 0, 1) := by decide +kernel
theorem dX1_init_5 : decode cX1_init 5 = .ok (.sipush 600, 3) := by decide +kernel
theorem dX1_init_8 : decode cX1_init 8 = .ok (.newarray .int, 2) := by decide +kernel
theorem dX1_init_10 : decode cX1_init 10 = .ok (.putfield 9, 3) := by decide +kernel
theorem dX1_init_13 : decode cX1_init 13 = .ok (.aload_n 0, 1) := by decide +kernel
theorem dX1_init_14 : decode cX1_init 14 = .ok (.sipush 600, 3) := by decide +kernel
theorem dX1_init_17 : decode cX1_init 17 = .ok (.newarray .int, 2) := by decide +kernel
theorem dX1_init_19 : decode cX1_init 19 = .ok (.putfield 15, 3) := by decide +kernel
theorem dX1_init_22 : decode cX1_init 22 = .ok (.aload_n 0, 1) := by decide +kernel
theorem dX1_init_23 : decode cX1_init 23 = .ok (.sipush 600, 3) := by decide +kernel
theorem dX1_init_26 : decode cX1_init 26 = .ok (.newarray .int, 2) := by decide +kernel
theorem dX1_init_28 : decode cX1_init 28 = .ok (.putfield 18, 3) := by decide +kernel
theorem dX1_init_31 : decode cX1_init 31 = .ok (.aload_n 0, 1) := by decide +kernel
theorem dX1_init_32 : decode cX1_init 32 = .ok (.sipush 600, 3) := by decide +kernel
theorem dX1_init_35 : decode cX1_init 35 = .ok (.newarray .int, 2) := by decide +kernel
theorem dX1_init_37 : decode cX1_init 37 = .ok (.putfield 21, 3) := by decide +kernel
theorem dX1_init_40 : decode cX1_init 40 = .ok (.aload_n 0, 1) := by decide +kernel
theorem dX1_init_41 : decode cX1_init 41 = .ok (.sipush 600, 3) := by decide +kernel
theorem dX1_init_44 : decode cX1_init 44 = .ok (.newarray .int, 2) := by decide +kernel
theorem dX1_init_46 : decode cX1_init 46 = .ok (.putfield 24, 3) := by decide +kernel
theorem dX1_init_49 : decode cX1_init 49 = .ok (.return_, 1) := by decide +kernel
theorem dX1_append_0 : decode cX1_append 0 = .ok (.aload_n 0, 1) := by decide +kernel
theorem dX1_append_1 : decode cX1_append 1 = .ok (.getfield 27, 3) := by decide +kernel
theorem dX1_append_4 : decode cX1_append 4 = .ok (.sipush 600, 3) := by decide +kernel
theorem dX1_append_7 : decode cX1_append 7 = .ok (.if_icmp .ge 65, 3) := by decide +kernel
theorem dX1_append_10 : decode cX1_append 10 = .ok (.aload_n 0, 1) := by decide +kernel
theorem dX1_append_11 : decode cX1_append 11 = .ok (.getfield 9, 3) := by decide +kernel
theorem dX1_append_14 : decode cX1_append 14 = .ok (.aload_n 0, 1) := by decide +kernel
theorem dX1_append_15 : decode cX1_append 15 = .ok (.getfield 27, 3) := by decide +kernel
theorem dX1_append_18 : decode cX1_append 18 = .ok (.iload_n 1, 1) := by decide +kernel
theorem dX1_append_19 : decode cX1_append 19 = .ok (.iastore, 1) := by decide +kernel
theorem dX1_append_20 : decode cX1_append 20 = .ok (.aload_n 0, 1) := by decide +kernel
theorem dX1_append_21 : decode cX1_append 21 = .ok (.getfield 15, 3) := by decide +kernel
theorem dX1_append_24 : decode cX1_append 24 = .ok (.aload_n 0, 1) := by decide +kernel
theorem dX1_append_25 : decode cX1_append 25 = .ok (.getfield 27, 3) := by decide +kernel
theorem dX1_append_28 : decode cX1_append 28 = .ok (.iload_n 2, 1) := by decide +kernel
theorem dX1_append_29 : decode cX1_append 29 = .ok (.iastore, 1) := by decide +kernel
theorem dX1_append_30 : decode cX1_append 30 = .ok (.aload_n 0, 1) := by decide +kernel
theorem dX1_append_31 : decode cX1_append 31 = .ok (.getfield 18, 3) := by decide +kernel
theorem dX1_append_34 : decode cX1_append 34 = .ok (.aload_n 0, 1) := by decide +kernel
theorem dX1_append_35 : decode cX1_append 35 = .ok (.getfield 27, 3) := by decide +kernel
theorem dX1_append_38 : decode cX1_append 38 = .ok (.iload_n 3, 1) := by decide +kernel
theorem dX1_append_39 : decode cX1_append 39 = .ok (.iastore, 1) := by decide +kernel
theorem dX1_append_40 : decode cX1_append 40 = .ok (.aload_n 0, 1) := by decide +kernel
theorem dX1_append_41 : decode cX1_append 41 = .ok (.getfield 21, 3) := by decide +kernel
theorem dX1_append_44 : decode cX1_append 44 = .ok (.aload_n 0, 1) := by decide +kernel
theorem dX1_append_45 : decode cX1_append 45 = .ok (.getfield 27, 3) := by decide +kernel
theorem dX1_append_48 : decode cX1_append 48 = .ok (.iload 4, 2) := by decide +kernel
theorem dX1_append_50 : decode cX1_append 50 = .ok (.iastore, 1) := by decide +kernel
theorem dX1_append_51 : decode cX1_append 51 = .ok (.aload_n 0, 1) := by decide +kernel
theorem dX1_append_52 : decode cX1_append 52 = .ok (.getfield 24, 3) := by decide +kernel
theorem dX1_append_55 : decode cX1_append 55 = .ok (.aload_n 0, 1) := by decide +kernel
theorem dX1_append_56 : decode cX1_append 56 = .ok (.getfield 27, 3) := by decide +kernel
theorem dX1_append_59 : decode cX1_append 59 = .ok (.iload 5, 2) := by decide +kernel
theorem dX1_append_61 : decode cX1_append 61 = .ok (.iastore, 1) := by decide +kernel
theorem dX1_append_62 : decode cX1_append 62 = .ok (.aload_n 0, 1) := by decide +kernel
theorem dX1_append_63 : decode cX1_append 63 = .ok (.dup, 1) := by decide +kernel
theorem dX1_append_64 : decode cX1_append 64 = .ok (.getfield 27, 3) := by decide +kernel
theorem dX1_append_67 : decode cX1_append 67 = .ok (.iconst 1, 1) := by decide +kernel
theorem dX1_append_68 : decode cX1_append 68 = .ok (.iadd, 1) := by decide +kernel
theorem dX1_append_69 : decode cX1_append 69 = .ok (.putfield 27, 3) := by decide +kernel
theorem dX1_append_72 : decode cX1_append 72 = .ok (.return_, 1) := by decide +kernel
theorem dX1_get_0 : decode cX1_get 0 = .ok (.iload_n 1, 1) := by decide +kernel
theorem dX1_get_1 : decode cX1_get 1 = .ok (.ifCond .lt 11, 3) := by decide +kernel
theorem dX1_get_4 : decode cX1_get 4 = .ok (.iload_n 1, 1) := by decide +kernel
theorem dX1_get_5 : decode cX1_get 5 = .ok (.aload_n 0, 1) := by decide +kernel
theorem dX1_get_6 : decode cX1_get 6 = .ok (.getfield 27, 3) := by decide +kernel
theorem dX1_get_9 : decode cX1_get 9 = .ok (.if_icmp .lt 5, 3) := by decide +kernel
theorem dX1_get_12 : decode cX1_get 12 = .ok (.iconst (-1), 1) := by decide +kernel
theorem dX1_get_13 : decode cX1_get 13 = .ok (.ireturn, 1) := by decide +kernel
theorem dX1_get_14 : decode cX1_get 14 = .ok (.iload_n 2, 1) := by decide +kernel
theorem dX1_get_15 : decode cX1_get 15 = .ok (.tableswitch 57 0 3 #[29, 36, 43, 50], 29) := by decide +kernel
theorem dX1_get_44 : decode cX1_get 44 = .ok (.aload_n 0, 1) := by decide +kernel
theorem dX1_get_45 : decode cX1_get 45 = .ok (.getfield 9, 3) := by decide +kernel
theorem dX1_get_48 : decode cX1_get 48 = .ok (.iload_n 1, 1) := by decide +kernel
theorem dX1_get_49 : decode cX1_get 49 = .ok (.iaload, 1) := by decide +kernel
theorem dX1_get_50 : decode cX1_get 50 = .ok (.ireturn, 1) := by decide +kernel
theorem dX1_get_51 : decode cX1_get 51 = .ok (.aload_n 0, 1) := by decide +kernel
theorem dX1_get_52 : decode cX1_get 52 = .ok (.getfield 15, 3) := by decide +kernel
theorem dX1_get_55 : decode cX1_get 55 = .ok (.iload_n 1, 1) := by decide +kernel
theorem dX1_get_56 : decode cX1_get 56 = .ok (.iaload, 1) := by decide +kernel
theorem dX1_get_57 : decode cX1_get 57 = .ok (.ireturn, 1) := by decide +kernel
theorem dX1_get_58 : decode cX1_get 58 = .ok (.aload_n 0, 1) := by decide +kernel
theorem dX1_get_59 : decode cX1_get 59 = .ok (.getfield 18, 3) := by decide +kernel
theorem dX1_get_62 : decode cX1_get 62 = .ok (.iload_n 1, 1) := by decide +kernel
theorem dX1_get_63 : decode cX1_get 63 = .ok (.iaload, 1) := by decide +kernel
theorem dX1_get_64 : decode cX1_get 64 = .ok (.ireturn, 1) := by decide +kernel
theorem dX1_get_65 : decode cX1_get 65 = .ok (.aload_n 0, 1) := by decide +kernel
theorem dX1_get_66 : decode cX1_get 66 = .ok (.getfield 21, 3) := by decide +kernel
theorem dX1_get_69 : decode cX1_get 69 = .ok (.iload_n 1, 1) := by decide +kernel
theorem dX1_get_70 : decode cX1_get 70 = .ok (.iaload, 1) := by decide +kernel
theorem dX1_get_71 : decode cX1_get 71 = .ok (.ireturn, 1) := by decide +kernel
theorem dX1_get_72 : decode cX1_get 72 = .ok (.iconst (-1), 1) := by decide +kernel
theorem dX1_get_73 : decode cX1_get 73 = .ok (.ireturn, 1) := by decide +kernel
theorem dX1_copyLengths_0 : decode cX1_copyLengths 0 = .ok (.aload_n 0, 1) := by decide +kernel
theorem dX1_copyLengths_1 : decode cX1_copyLengths 1 = .ok (.getfield 27, 3) := by decide +kernel
theorem dX1_copyLengths_4 : decode cX1_copyLengths 4 = .ok (.aload_n 1, 1) := by decide +kernel
theorem dX1_copyLengths_5 : decode cX1_copyLengths 5 = .ok (.arraylength, 1) := by decide +kernel
theorem dX1_copyLengths_6 : decode cX1_copyLengths 6 = .ok (.invokestatic 31, 3) := by decide +kernel
theorem dX1_copyLengths_9 : decode cX1_copyLengths 9 = .ok (.istore_n 2, 1) := by decide +kernel
theorem dX1_copyLengths_10 : decode cX1_copyLengths 10 = .ok (.aload_n 0, 1) := by decide +kernel
theorem dX1_copyLengths_11 : decode cX1_copyLengths 11 = .ok (.getfield 24, 3) := by decide +kernel
theorem dX1_copyLengths_14 : decode cX1_copyLengths 14 = .ok (.iconst 0, 1) := by decide +kernel
theorem dX1_copyLengths_15 : decode cX1_copyLengths 15 = .ok (.aload_n 1, 1) := by decide +kernel
theorem dX1_copyLengths_16 : decode cX1_copyLengths 16 = .ok (.iconst 0, 1) := by decide +kernel
theorem dX1_copyLengths_17 : decode cX1_copyLengths 17 = .ok (.iload_n 2, 1) := by decide +kernel
theorem dX1_copyLengths_18 : decode cX1_copyLengths 18 = .ok (.invokestatic 37, 3) := by decide +kernel
theorem dX1_copyLengths_21 : decode cX1_copyLengths 21 = .ok (.iload_n 2, 1) := by decide +kernel
theorem dX1_copyLengths_22 : decode cX1_copyLengths 22 = .ok (.ireturn, 1) := by decide +kernel
end
section
theorem dX2_init_0 : decode cX2_init 0 = .ok (.aload_n 0, 1) := by decide +kernel
theorem dX2_init_1 : decode cX2_init 1 = .ok (.invokespecial 3, 3) := by decide +kernel
theorem dX2_init_4 : decode cX2_init 4 = .ok (.aload_n 0, 1) := by decide +kernel
theorem dX2_init_5 : decode cX2_init 5 = .ok (.aload_n 1, 1) := by decide +kernel
theorem dX2_init_6 : decode cX2_init 6 = .ok (.putfield 9, 3) := by decide +kernel
theorem dX2_init_9 : decode cX2_init 9 = .ok (.aload_n 0, 1) := by decide +kernel
theorem dX2_init_10 : decode cX2_init 10 = .ok (.lload_n 2, 1) := by decide +kernel
theorem dX2_init_11 : decode cX2_init 11 = .ok (.putfield 15, 3) := by decide +kernel
theorem dX2_init_14 : decode cX2_init 14 = .ok (.return_, 1) := by decide +kernel
theorem dX2_make_0 : decode cX2_make 0 = .ok (.aload_n 0, 1) := by decide +kernel
theorem dX2_make_1 : decode cX2_make 1 = .ok (.getfield 9, 3) := by decide +kernel
theorem dX2_make_4 : decode cX2_make 4 = .ok (.iconst 0, 1) := by decide +kernel
theorem dX2_make_5 : decode cX2_make 5 = .ok (.invokevirtual 19, 3) := by decide +kernel
theorem dX2_make_8 : decode cX2_make 8 = .ok (.iload_n 1, 1) := by decide +kernel
theorem dX2_make_9 : decode cX2_make 9 = .ok (.tableswitch 131 0 8 #[51, 59, 67, 75, 83, 91, 99, 107, 119], 51) := by decide +kernel
theorem dX2_make_60 : decode cX2_make 60 = .ok (.aload_n 0, 1) := by decide +kernel
theorem dX2_make_61 : decode cX2_make 61 = .ok (.iload_n 2, 1) := by decide +kernel
theorem dX2_make_62 : decode cX2_make 62 = .ok (.invokevirtual 25, 3) := by decide +kernel
theorem dX2_make_65 : decode cX2_make 65 = .ok (.goto 80, 3) := by decide +kernel
theorem dX2_make_68 : decode cX2_make 68 = .ok (.aload_n 0, 1) := by decide +kernel
theorem dX2_make_69 : decode cX2_make 69 = .ok (.iload_n 2, 1) := by decide +kernel
theorem dX2_make_70 : decode cX2_make 70 = .ok (.invokevirtual 28, 3) := by decide +kernel
theorem dX2_make_73 : decode cX2_make 73 = .ok (.goto 72, 3) := by decide +kernel
theorem dX2_make_76 : decode cX2_make 76 = .ok (.aload_n 0, 1) := by decide +kernel
theorem dX2_make_77 : decode cX2_make 77 = .ok (.iload_n 2, 1) := by decide +kernel
theorem dX2_make_78 : decode cX2_make 78 = .ok (.invokevirtual 31, 3) := by decide +kernel
theorem dX2_make_81 : decode cX2_make 81 = .ok (.goto 64, 3) := by decide +kernel
theorem dX2_make_84 : decode cX2_make 84 = .ok (.aload_n 0, 1) := by decide +kernel
theorem dX2_make_85 : decode cX2_make 85 = .ok (.iload_n 2, 1) := by decide +kernel
theorem dX2_make_86 : decode cX2_make 86 = .ok (.invokevirtual 34, 3) := by decide +kernel
theorem dX2_make_89 : decode cX2_make 89 = .ok (.goto 56, 3) := by decide +kernel
theorem dX2_make_92 : decode cX2_make 92 = .ok (.aload_n 0, 1) := by decide +kernel
theorem dX2_make_93 : decode cX2_make 93 = .ok (.iload_n 2, 1) := by decide +kernel
theorem dX2_make_94 : decode cX2_make 94 = .ok (.invokevirtual 37, 3) := by decide +kernel
theorem dX2_make_97 : decode cX2_make 97 = .ok (.goto 48, 3) := by decide +kernel
theorem dX2_make_100 : decode cX2_make 100 = .ok (.aload_n 0, 1) := by decide +kernel
theorem dX2_make_101 : decode cX2_make 101 = .ok (.iload_n 2, 1) := by decide +kernel
theorem dX2_make_102 : decode cX2_make 102 = .ok (.invokevirtual 40, 3) := by decide +kernel
theorem dX2_make_105 : decode cX2_make 105 = .ok (.goto 40, 3) := by decide +kernel
theorem dX2_make_108 : decode cX2_make 108 = .ok (.aload_n 0, 1) := by decide +kernel
theorem dX2_make_109 : decode cX2_make 109 = .ok (.iload_n 2, 1) := by decide +kernel
theorem dX2_make_110 : decode cX2_make 110 = .ok (.invokevirtual 43, 3) := by decide +kernel
theorem dX2_make_113 : decode cX2_make 113 = .ok (.goto 32, 3) := by decide +kernel
theorem dX2_make_116 : decode cX2_make 116 = .ok (.aload_n 0, 1) := by decide +kernel
theorem dX2_make_117 : decode cX2_make 117 = .ok (.iload_n 2, 1) := by decide +kernel
theorem dX2_make_118 : decode cX2_make 118 = .ok (.invokevirtual 46, 3) := by decide +kernel
theorem dX2_make_121 : decode cX2_make 121 = .ok (.aload_n 0, 1) := by decide +kernel
theorem dX2_make_122 : decode cX2_make 122 = .ok (.invokevirtual 49, 3) := by decide +kernel
theorem dX2_make_125 : decode cX2_make 125 = .ok (.goto 20, 3) := by decide +kernel
theorem dX2_make_128 : decode cX2_make 128 = .ok (.aload_n 0, 1) := by decide +kernel
theorem dX2_make_129 : decode cX2_make 129 = .ok (.iload_n 2, 1) := by decide +kernel
theorem dX2_make_130 : decode cX2_make 130 = .ok (.invokevirtual 46, 3) := by decide +kernel
theorem dX2_make_133 : decode cX2_make 133 = .ok (.aload_n 0, 1) := by decide +kernel
theorem dX2_make_134 : decode cX2_make 134 = .ok (.invokevirtual 52, 3) := by decide +kernel
theorem dX2_make_137 : decode cX2_make 137 = .ok (.goto 8, 3) := by decide +kernel
theorem dX2_make_140 : decode cX2_make 140 = .ok (.aload_n 0, 1) := by decide +kernel
theorem dX2_make_141 : decode cX2_make 141 = .ok (.iload_n 2, 1) := by decide +kernel
theorem dX2_make_142 : decode cX2_make 142 = .ok (.invokevirtual 46, 3) := by decide +kernel
theorem dX2_make_145 : decode cX2_make 145 = .ok (.return_, 1) := by decide +kernel
theorem dX2_next_0 : decode cX2_next 0 = .ok (.aload_n 0, 1) := by decide +kernel
theorem dX2_next_1 : decode cX2_next 1 = .ok (.aload_n 0, 1) := by decide +kernel
theorem dX2_next_2 : decode cX2_next 2 = .ok (.getfield 15, 3) := by decide +kernel
theorem dX2_next_5 : decode cX2_next 5 = .ok (.ldc2_w 55, 3) := by decide +kernel
theorem dX2_next_8 : decode cX2_next 8 = .ok (.lmul, 1) := by decide +kernel
theorem dX2_next_9 : decode cX2_next 9 = .ok (.ldc2_w 57, 3) := by decide +kernel
theorem dX2_next_12 : decode cX2_next 12 = .ok (.ladd, 1) := by decide +kernel
theorem dX2_next_13 : decode cX2_next 13 = .ok (.putfield 15, 3) := by decide +kernel
theorem dX2_next_16 : decode cX2_next 16 = .ok (.iload_n 1, 1) := by decide +kernel
theorem dX2_next_17 : decode cX2_next 17 = .ok (.iconst 1, 1) := by decide +kernel
theorem dX2_next_18 : decode cX2_next 18 = .ok (.if_icmp .ge 7, 3) := by decide +kernel
theorem dX2_next_21 : decode cX2_next 21 = .ok (.iconst 0, 1) := by decide +kernel
theorem dX2_next_22 : decode cX2_next 22 = .ok (.goto 14, 3) := by decide +kernel
theorem dX2_next_25 : decode cX2_next 25 = .ok (.aload_n 0, 1) := by decide +kernel
theorem dX2_next_26 : decode cX2_next 26 = .ok (.getfield 15, 3) := by decide +kernel
theorem dX2_next_29 : decode cX2_next 29 = .ok (.bipush 31, 2) := by decide +kernel
theorem dX2_next_31 : decode cX2_next 31 = .ok (.lushr, 1) := by decide +kernel
theorem dX2_next_32 : decode cX2_next 32 = .ok (.iload_n 1, 1) := by decide +kernel
theorem dX2_next_33 : decode cX2_next 33 = .ok (.i2l, 1) := by decide +kernel
theorem dX2_next_34 : decode cX2_next 34 = .ok (.lrem, 1) := by decide +kernel
theorem dX2_next_35 : decode cX2_next 35 = .ok (.l2i, 1) := by decide +kernel
theorem dX2_next_36 : decode cX2_next 36 = .ok (.ireturn, 1) := by decide +kernel
theorem dX2_append_0 : decode cX2_append 0 = .ok (.aload_n 0, 1) := by decide +kernel
theorem dX2_append_1 : decode cX2_append 1 = .ok (.getfield 9, 3) := by decide +kernel
theorem dX2_append_4 : decode cX2_append 4 = .ok (.iload_n 1, 1) := by decide +kernel
theorem dX2_append_5 : decode cX2_append 5 = .ok (.invokevirtual 59, 3) := by decide +kernel
theorem dX2_append_8 : decode cX2_append 8 = .ok (.aload_n 0, 1) := by decide +kernel
theorem dX2_append_9 : decode cX2_append 9 = .ok (.getfield 9, 3) := by decide +kernel
theorem dX2_append_12 : decode cX2_append 12 = .ok (.iload_n 2, 1) := by decide +kernel
theorem dX2_append_13 : decode cX2_append 13 = .ok (.invokevirtual 59, 3) := by decide +kernel
theorem dX2_append_16 : decode cX2_append 16 = .ok (.return_, 1) := by decide +kernel
theorem dX2_append__0 : decode cX2_append_ 0 = .ok (.aload_n 0, 1) := by decide +kernel
theorem dX2_append__1 : decode cX2_append_ 1 = .ok (.getfield 9, 3) := by decide +kernel
theorem dX2_append__4 : decode cX2_append_ 4 = .ok (.iload_n 1, 1) := by decide +kernel
theorem dX2_append__5 : decode cX2_append_ 5 = .ok (.invokevirtual 59, 3) := by decide +kernel
theorem dX2_append__8 : decode cX2_append_ 8 = .ok (.aload_n 0, 1) := by decide +kernel
theorem dX2_append__9 : decode cX2_append_ 9 = .ok (.getfield 9, 3) := by decide +kernel
theorem dX2_append__12 : decode cX2_append_ 12 = .ok (.iload_n 2, 1) := by decide +kernel
theorem dX2_append__13 : decode cX2_append_ 13 = .ok (.invokevirtual 59, 3) := by decide +kernel
theorem dX2_append__16 : decode cX2_append_ 16 = .ok (.aload_n 0, 1) := by decide +kernel
theorem dX2_append__17 : decode cX2_append_ 17 = .ok (.getfield 9, 3) := by decide +kernel
theorem dX2_append__20 : decode cX2_append_ 20 = .ok (.iload_n 3, 1) := by decide +kernel
theorem dX2_append__21 : decode cX2_append_ 21 = .ok (.invokevirtual 59, 3) := by decide +kernel
theorem dX2_append__24 : decode cX2_append_ 24 = .ok (.return_, 1) := by decide +kernel
theorem dX2_appendDrawn_0 : decode cX2_appendDrawn 0 = .ok (.iconst 0, 1) := by decide +kernel
theorem dX2_appendDrawn_1 : decode cX2_appendDrawn 1 = .ok (.istore_n 2, 1) := by decide +kernel
theorem dX2_appendDrawn_2 : decode cX2_appendDrawn 2 = .ok (.iload_n 2, 1) := by decide +kernel
theorem dX2_appendDrawn_3 : decode cX2_appendDrawn 3 = .ok (.iload_n 1, 1) := by decide +kernel
theorem dX2_appendDrawn_4 : decode cX2_appendDrawn 4 = .ok (.if_icmp .ge 23, 3) := by decide +kernel
theorem dX2_appendDrawn_7 : decode cX2_appendDrawn 7 = .ok (.aload_n 0, 1) := by decide +kernel
theorem dX2_appendDrawn_8 : decode cX2_appendDrawn 8 = .ok (.getfield 9, 3) := by decide +kernel
theorem dX2_appendDrawn_11 : decode cX2_appendDrawn 11 = .ok (.aload_n 0, 1) := by decide +kernel
theorem dX2_appendDrawn_12 : decode cX2_appendDrawn 12 = .ok (.sipush 256, 3) := by decide +kernel
theorem dX2_appendDrawn_15 : decode cX2_appendDrawn 15 = .ok (.invokevirtual 62, 3) := by decide +kernel
theorem dX2_appendDrawn_18 : decode cX2_appendDrawn 18 = .ok (.invokevirtual 59, 3) := by decide +kernel
theorem dX2_appendDrawn_21 : decode cX2_appendDrawn 21 = .ok (.iinc 2 1, 3) := by decide +kernel
theorem dX2_appendDrawn_24 : decode cX2_appendDrawn 24 = .ok (.goto (-22), 3) := by decide +kernel
theorem dX2_appendDrawn_27 : decode cX2_appendDrawn 27 = .ok (.return_, 1) := by decide +kernel
theorem dX2_appendEnd_0 : decode cX2_appendEnd 0 = .ok (.aload_n 0, 1) := by decide +kernel
theorem dX2_appendEnd_1 : decode cX2_appendEnd 1 = .ok (.getfield 9, 3) := by decide +kernel
theorem dX2_appendEnd_4 : decode cX2_appendEnd 4 = .ok (.iconst 0, 1) := by decide +kernel
theorem dX2_appendEnd_5 : decode cX2_appendEnd 5 = .ok (.invokevirtual 59, 3) := by decide +kernel
theorem dX2_appendEnd_8 : decode cX2_appendEnd 8 = .ok (.aload_n 0, 1) := by decide +kernel
theorem dX2_appendEnd_9 : decode cX2_appendEnd 9 = .ok (.getfield 9, 3) := by decide +kernel
theorem dX2_appendEnd_12 : decode cX2_appendEnd 12 = .ok (.aload_n 0, 1) := by decide +kernel
theorem dX2_appendEnd_13 : decode cX2_appendEnd 13 = .ok (.getfield 9, 3) := by decide +kernel
theorem dX2_appendEnd_16 : decode cX2_appendEnd 16 = .ok (.iload_n 1, 1) := by decide +kernel
theorem dX2_appendEnd_17 : decode cX2_appendEnd 17 = .ok (.aload_n 0, 1) := by decide +kernel
theorem dX2_appendEnd_18 : decode cX2_appendEnd 18 = .ok (.getfield 9, 3) := by decide +kernel
theorem dX2_appendEnd_21 : decode cX2_appendEnd 21 = .ok (.getfield 66, 3) := by decide +kernel
theorem dX2_appendEnd_24 : decode cX2_appendEnd 24 = .ok (.invokevirtual 70, 3) := by decide +kernel
theorem dX2_appendEnd_27 : decode cX2_appendEnd 27 = .ok (.invokevirtual 59, 3) := by decide +kernel
theorem dX2_appendEnd_30 : decode cX2_appendEnd 30 = .ok (.return_, 1) := by decide +kernel
theorem dX2_makeLies_0 : decode cX2_makeLies 0 = .ok (.aload_n 0, 1) := by decide +kernel
theorem dX2_makeLies_1 : decode cX2_makeLies 1 = .ok (.bipush 80, 2) := by decide +kernel
theorem dX2_makeLies_3 : decode cX2_makeLies 3 = .ok (.bipush 75, 2) := by decide +kernel
theorem dX2_makeLies_5 : decode cX2_makeLies 5 = .ok (.invokevirtual 74, 3) := by decide +kernel
theorem dX2_makeLies_8 : decode cX2_makeLies 8 = .ok (.aload_n 0, 1) := by decide +kernel
theorem dX2_makeLies_9 : decode cX2_makeLies 9 = .ok (.iconst 1, 1) := by decide +kernel
theorem dX2_makeLies_10 : decode cX2_makeLies 10 = .ok (.sipush 255, 3) := by decide +kernel
theorem dX2_makeLies_13 : decode cX2_makeLies 13 = .ok (.invokevirtual 74, 3) := by decide +kernel
theorem dX2_makeLies_16 : decode cX2_makeLies 16 = .ok (.aload_n 0, 1) := by decide +kernel
theorem dX2_makeLies_17 : decode cX2_makeLies 17 = .ok (.iload_n 1, 1) := by decide +kernel
theorem dX2_makeLies_18 : decode cX2_makeLies 18 = .ok (.invokevirtual 77, 3) := by decide +kernel
theorem dX2_makeLies_21 : decode cX2_makeLies 21 = .ok (.aload_n 0, 1) := by decide +kernel
theorem dX2_makeLies_22 : decode cX2_makeLies 22 = .ok (.iconst 0, 1) := by decide +kernel
theorem dX2_makeLies_23 : decode cX2_makeLies 23 = .ok (.invokevirtual 80, 3) := by decide +kernel
theorem dX2_makeLies_26 : decode cX2_makeLies 26 = .ok (.return_, 1) := by decide +kernel
theorem dX2_makeRuns_0 : decode cX2_makeRuns 0 = .ok (.aload_n 0, 1) := by decide +kernel
theorem dX2_makeRuns_1 : decode cX2_makeRuns 1 = .ok (.bipush 80, 2) := by decide +kernel
theorem dX2_makeRuns_3 : decode cX2_makeRuns 3 = .ok (.bipush 75, 2) := by decide +kernel
theorem dX2_makeRuns_5 : decode cX2_makeRuns 5 = .ok (.invokevirtual 74, 3) := by decide +kernel
theorem dX2_makeRuns_8 : decode cX2_makeRuns 8 = .ok (.iconst 0, 1) := by decide +kernel
theorem dX2_makeRuns_9 : decode cX2_makeRuns 9 = .ok (.istore_n 2, 1) := by decide +kernel
theorem dX2_makeRuns_10 : decode cX2_makeRuns 10 = .ok (.iload_n 2, 1) := by decide +kernel
theorem dX2_makeRuns_11 : decode cX2_makeRuns 11 = .ok (.iload_n 1, 1) := by decide +kernel
theorem dX2_makeRuns_12 : decode cX2_makeRuns 12 = .ok (.if_icmp .ge 24, 3) := by decide +kernel
theorem dX2_makeRuns_15 : decode cX2_makeRuns 15 = .ok (.aload_n 0, 1) := by decide +kernel
theorem dX2_makeRuns_16 : decode cX2_makeRuns 16 = .ok (.iconst 2, 1) := by decide +kernel
theorem dX2_makeRuns_17 : decode cX2_makeRuns 17 = .ok (.sipush 255, 3) := by decide +kernel
theorem dX2_makeRuns_20 : decode cX2_makeRuns 20 = .ok (.aload_n 0, 1) := by decide +kernel
theorem dX2_makeRuns_21 : decode cX2_makeRuns 21 = .ok (.sipush 256, 3) := by decide +kernel
theorem dX2_makeRuns_24 : decode cX2_makeRuns 24 = .ok (.invokevirtual 62, 3) := by decide +kernel
theorem dX2_makeRuns_27 : decode cX2_makeRuns 27 = .ok (.invokevirtual 83, 3) := by decide +kernel
theorem dX2_makeRuns_30 : decode cX2_makeRuns 30 = .ok (.iinc 2 1, 3) := by decide +kernel
theorem dX2_makeRuns_33 : decode cX2_makeRuns 33 = .ok (.goto (-23), 3) := by decide +kernel
theorem dX2_makeRuns_36 : decode cX2_makeRuns 36 = .ok (.aload_n 0, 1) := by decide +kernel
theorem dX2_makeRuns_37 : decode cX2_makeRuns 37 = .ok (.iconst 0, 1) := by decide +kernel
theorem dX2_makeRuns_38 : decode cX2_makeRuns 38 = .ok (.invokevirtual 80, 3) := by decide +kernel
theorem dX2_makeRuns_41 : decode cX2_makeRuns 41 = .ok (.return_, 1) := by decide +kernel
theorem dX2_makeOverlaps_0 : decode cX2_makeOverlaps 0 = .ok (.aload_n 0, 1) := by decide +kernel
theorem dX2_makeOverlaps_1 : decode cX2_makeOverlaps 1 = .ok (.bipush 80, 2) := by decide +kernel
theorem dX2_makeOverlaps_3 : decode cX2_makeOverlaps 3 = .ok (.bipush 75, 2) := by decide +kernel
theorem dX2_makeOverlaps_5 : decode cX2_makeOverlaps 5 = .ok (.invokevirtual 74, 3) := by decide +kernel
theorem dX2_makeOverlaps_8 : decode cX2_makeOverlaps 8 = .ok (.aload_n 0, 1) := by decide +kernel
theorem dX2_makeOverlaps_9 : decode cX2_makeOverlaps 9 = .ok (.iconst 1, 1) := by decide +kernel
theorem dX2_makeOverlaps_10 : decode cX2_makeOverlaps 10 = .ok (.iconst 1, 1) := by decide +kernel
theorem dX2_makeOverlaps_11 : decode cX2_makeOverlaps 11 = .ok (.aload_n 0, 1) := by decide +kernel
theorem dX2_makeOverlaps_12 : decode cX2_makeOverlaps 12 = .ok (.sipush 256, 3) := by decide +kernel
theorem dX2_makeOverlaps_15 : decode cX2_makeOverlaps 15 = .ok (.invokevirtual 62, 3) := by decide +kernel
theorem dX2_makeOverlaps_18 : decode cX2_makeOverlaps 18 = .ok (.invokevirtual 83, 3) := by decide +kernel
theorem dX2_makeOverlaps_21 : decode cX2_makeOverlaps 21 = .ok (.iconst 0, 1) := by decide +kernel
theorem dX2_makeOverlaps_22 : decode cX2_makeOverlaps 22 = .ok (.istore_n 2, 1) := by decide +kernel
theorem dX2_makeOverlaps_23 : decode cX2_makeOverlaps 23 = .ok (.iload_n 2, 1) := by decide +kernel
theorem dX2_makeOverlaps_24 : decode cX2_makeOverlaps 24 = .ok (.iload_n 1, 1) := by decide +kernel
theorem dX2_makeOverlaps_25 : decode cX2_makeOverlaps 25 = .ok (.if_icmp .ge 18, 3) := by decide +kernel
theorem dX2_makeOverlaps_28 : decode cX2_makeOverlaps 28 = .ok (.aload_n 0, 1) := by decide +kernel
theorem dX2_makeOverlaps_29 : decode cX2_makeOverlaps 29 = .ok (.iconst 3, 1) := by decide +kernel
theorem dX2_makeOverlaps_30 : decode cX2_makeOverlaps 30 = .ok (.iconst 1, 1) := by decide +kernel
theorem dX2_makeOverlaps_31 : decode cX2_makeOverlaps 31 = .ok (.sipush 255, 3) := by decide +kernel
theorem dX2_makeOverlaps_34 : decode cX2_makeOverlaps 34 = .ok (.invokevirtual 83, 3) := by decide +kernel
theorem dX2_makeOverlaps_37 : decode cX2_makeOverlaps 37 = .ok (.iinc 2 1, 3) := by decide +kernel
theorem dX2_makeOverlaps_40 : decode cX2_makeOverlaps 40 = .ok (.goto (-17), 3) := by decide +kernel
theorem dX2_makeOverlaps_43 : decode cX2_makeOverlaps 43 = .ok (.aload_n 0, 1) := by decide +kernel
theorem dX2_makeOverlaps_44 : decode cX2_makeOverlaps 44 = .ok (.iconst 0, 1) := by decide +kernel
theorem dX2_makeOverlaps_45 : decode cX2_makeOverlaps 45 = .ok (.invokevirtual 80, 3) := by decide +kernel
theorem dX2_makeOverlaps_48 : decode cX2_makeOverlaps 48 = .ok (.return_, 1) := by decide +kernel
theorem dX2_makeDeep_0 : decode cX2_makeDeep 0 = .ok (.iload_n 1, 1) := by decide +kernel
theorem dX2_makeDeep_1 : decode cX2_makeDeep 1 = .ok (.iconst 1, 1) := by decide +kernel
theorem dX2_makeDeep_2 : decode cX2_makeDeep 2 = .ok (.isub, 1) := by decide +kernel
theorem dX2_makeDeep_3 : decode cX2_makeDeep 3 = .ok (.istore_n 2, 1) := by decide +kernel
theorem dX2_makeDeep_4 : decode cX2_makeDeep 4 = .ok (.iload_n 2, 1) := by decide +kernel
theorem dX2_makeDeep_5 : decode cX2_makeDeep 5 = .ok (.ifCond .lt 39, 3) := by decide +kernel
theorem dX2_makeDeep_8 : decode cX2_makeDeep 8 = .ok (.bipush 7, 2) := by decide +kernel
theorem dX2_makeDeep_10 : decode cX2_makeDeep 10 = .ok (.bipush 7, 2) := by decide +kernel
theorem dX2_makeDeep_12 : decode cX2_makeDeep 12 = .ok (.iload_n 2, 1) := by decide +kernel
theorem dX2_makeDeep_13 : decode cX2_makeDeep 13 = .ok (.imul, 1) := by decide +kernel
theorem dX2_makeDeep_14 : decode cX2_makeDeep 14 = .ok (.iadd, 1) := by decide +kernel
theorem dX2_makeDeep_15 : decode cX2_makeDeep 15 = .ok (.istore_n 3, 1) := by decide +kernel
theorem dX2_makeDeep_16 : decode cX2_makeDeep 16 = .ok (.aload_n 0, 1) := by decide +kernel
theorem dX2_makeDeep_17 : decode cX2_makeDeep 17 = .ok (.bipush 80, 2) := by decide +kernel
theorem dX2_makeDeep_19 : decode cX2_makeDeep 19 = .ok (.bipush 75, 2) := by decide +kernel
theorem dX2_makeDeep_21 : decode cX2_makeDeep 21 = .ok (.invokevirtual 74, 3) := by decide +kernel
theorem dX2_makeDeep_24 : decode cX2_makeDeep 24 = .ok (.aload_n 0, 1) := by decide +kernel
theorem dX2_makeDeep_25 : decode cX2_makeDeep 25 = .ok (.iconst 4, 1) := by decide +kernel
theorem dX2_makeDeep_26 : decode cX2_makeDeep 26 = .ok (.iload_n 3, 1) := by decide +kernel
theorem dX2_makeDeep_27 : decode cX2_makeDeep 27 = .ok (.bipush 8, 2) := by decide +kernel
theorem dX2_makeDeep_29 : decode cX2_makeDeep 29 = .ok (.ishr, 1) := by decide +kernel
theorem dX2_makeDeep_30 : decode cX2_makeDeep 30 = .ok (.iload_n 3, 1) := by decide +kernel
theorem dX2_makeDeep_31 : decode cX2_makeDeep 31 = .ok (.sipush 255, 3) := by decide +kernel
theorem dX2_makeDeep_34 : decode cX2_makeDeep 34 = .ok (.iand, 1) := by decide +kernel
theorem dX2_makeDeep_35 : decode cX2_makeDeep 35 = .ok (.invokevirtual 83, 3) := by decide +kernel
theorem dX2_makeDeep_38 : decode cX2_makeDeep 38 = .ok (.iinc 2 (-1), 3) := by decide +kernel
theorem dX2_makeDeep_41 : decode cX2_makeDeep 41 = .ok (.goto (-37), 3) := by decide +kernel
theorem dX2_makeDeep_44 : decode cX2_makeDeep 44 = .ok (.aload_n 0, 1) := by decide +kernel
theorem dX2_makeDeep_45 : decode cX2_makeDeep 45 = .ok (.bipush 80, 2) := by decide +kernel
theorem dX2_makeDeep_47 : decode cX2_makeDeep 47 = .ok (.bipush 75, 2) := by decide +kernel
theorem dX2_makeDeep_49 : decode cX2_makeDeep 49 = .ok (.invokevirtual 74, 3) := by decide +kernel
theorem dX2_makeDeep_52 : decode cX2_makeDeep 52 = .ok (.aload_n 0, 1) := by decide +kernel
theorem dX2_makeDeep_53 : decode cX2_makeDeep 53 = .ok (.iconst 1, 1) := by decide +kernel
theorem dX2_makeDeep_54 : decode cX2_makeDeep 54 = .ok (.iconst 1, 1) := by decide +kernel
theorem dX2_makeDeep_55 : decode cX2_makeDeep 55 = .ok (.aload_n 0, 1) := by decide +kernel
theorem dX2_makeDeep_56 : decode cX2_makeDeep 56 = .ok (.sipush 256, 3) := by decide +kernel
theorem dX2_makeDeep_59 : decode cX2_makeDeep 59 = .ok (.invokevirtual 62, 3) := by decide +kernel
theorem dX2_makeDeep_62 : decode cX2_makeDeep 62 = .ok (.invokevirtual 83, 3) := by decide +kernel
theorem dX2_makeDeep_65 : decode cX2_makeDeep 65 = .ok (.iload_n 1, 1) := by decide +kernel
theorem dX2_makeDeep_66 : decode cX2_makeDeep 66 = .ok (.istore_n 2, 1) := by decide +kernel
theorem dX2_makeDeep_67 : decode cX2_makeDeep 67 = .ok (.iload_n 2, 1) := by decide +kernel
theorem dX2_makeDeep_68 : decode cX2_makeDeep 68 = .ok (.ifCond .lt 16, 3) := by decide +kernel
theorem dX2_makeDeep_71 : decode cX2_makeDeep 71 = .ok (.aload_n 0, 1) := by decide +kernel
theorem dX2_makeDeep_72 : decode cX2_makeDeep 72 = .ok (.iconst 5, 1) := by decide +kernel
theorem dX2_makeDeep_73 : decode cX2_makeDeep 73 = .ok (.iload_n 2, 1) := by decide +kernel
theorem dX2_makeDeep_74 : decode cX2_makeDeep 74 = .ok (.imul, 1) := by decide +kernel
theorem dX2_makeDeep_75 : decode cX2_makeDeep 75 = .ok (.invokevirtual 80, 3) := by decide +kernel
theorem dX2_makeDeep_78 : decode cX2_makeDeep 78 = .ok (.iinc 2 (-1), 3) := by decide +kernel
theorem dX2_makeDeep_81 : decode cX2_makeDeep 81 = .ok (.goto (-14), 3) := by decide +kernel
theorem dX2_makeDeep_84 : decode cX2_makeDeep 84 = .ok (.return_, 1) := by decide +kernel
theorem dX2_makeEmpty_0 : decode cX2_makeEmpty 0 = .ok (.aload_n 0, 1) := by decide +kernel
theorem dX2_makeEmpty_1 : decode cX2_makeEmpty 1 = .ok (.bipush 80, 2) := by decide +kernel
theorem dX2_makeEmpty_3 : decode cX2_makeEmpty 3 = .ok (.bipush 75, 2) := by decide +kernel
theorem dX2_makeEmpty_5 : decode cX2_makeEmpty 5 = .ok (.invokevirtual 74, 3) := by decide +kernel
theorem dX2_makeEmpty_8 : decode cX2_makeEmpty 8 = .ok (.aload_n 0, 1) := by decide +kernel
theorem dX2_makeEmpty_9 : decode cX2_makeEmpty 9 = .ok (.iload_n 1, 1) := by decide +kernel
theorem dX2_makeEmpty_10 : decode cX2_makeEmpty 10 = .ok (.invokevirtual 86, 3) := by decide +kernel
theorem dX2_makeEmpty_13 : decode cX2_makeEmpty 13 = .ok (.aload_n 0, 1) := by decide +kernel
theorem dX2_makeEmpty_14 : decode cX2_makeEmpty 14 = .ok (.iconst 0, 1) := by decide +kernel
theorem dX2_makeEmpty_15 : decode cX2_makeEmpty 15 = .ok (.invokevirtual 80, 3) := by decide +kernel
theorem dX2_makeEmpty_18 : decode cX2_makeEmpty 18 = .ok (.return_, 1) := by decide +kernel
theorem dX2_appendEmptyNotes_0 : decode cX2_appendEmptyNotes 0 = .ok (.iconst 0, 1) := by decide +kernel
theorem dX2_appendEmptyNotes_1 : decode cX2_appendEmptyNotes 1 = .ok (.istore_n 2, 1) := by decide +kernel
theorem dX2_appendEmptyNotes_2 : decode cX2_appendEmptyNotes 2 = .ok (.iload_n 2, 1) := by decide +kernel
theorem dX2_appendEmptyNotes_3 : decode cX2_appendEmptyNotes 3 = .ok (.iload_n 1, 1) := by decide +kernel
theorem dX2_appendEmptyNotes_4 : decode cX2_appendEmptyNotes 4 = .ok (.if_icmp .ge 15, 3) := by decide +kernel
theorem dX2_appendEmptyNotes_7 : decode cX2_appendEmptyNotes 7 = .ok (.aload_n 0, 1) := by decide +kernel
theorem dX2_appendEmptyNotes_8 : decode cX2_appendEmptyNotes 8 = .ok (.iconst 5, 1) := by decide +kernel
theorem dX2_appendEmptyNotes_9 : decode cX2_appendEmptyNotes 9 = .ok (.iconst 0, 1) := by decide +kernel
theorem dX2_appendEmptyNotes_10 : decode cX2_appendEmptyNotes 10 = .ok (.invokevirtual 74, 3) := by decide +kernel
theorem dX2_appendEmptyNotes_13 : decode cX2_appendEmptyNotes 13 = .ok (.iinc 2 1, 3) := by decide +kernel
theorem dX2_appendEmptyNotes_16 : decode cX2_appendEmptyNotes 16 = .ok (.goto (-14), 3) := by decide +kernel
theorem dX2_appendEmptyNotes_19 : decode cX2_appendEmptyNotes 19 = .ok (.return_, 1) := by decide +kernel
theorem dX2_makeAgains_0 : decode cX2_makeAgains 0 = .ok (.aload_n 0, 1) := by decide +kernel
theorem dX2_makeAgains_1 : decode cX2_makeAgains 1 = .ok (.bipush 80, 2) := by decide +kernel
theorem dX2_makeAgains_3 : decode cX2_makeAgains 3 = .ok (.bipush 75, 2) := by decide +kernel
theorem dX2_makeAgains_5 : decode cX2_makeAgains 5 = .ok (.invokevirtual 74, 3) := by decide +kernel
theorem dX2_makeAgains_8 : decode cX2_makeAgains 8 = .ok (.aload_n 0, 1) := by decide +kernel
theorem dX2_makeAgains_9 : decode cX2_makeAgains 9 = .ok (.iconst 2, 1) := by decide +kernel
theorem dX2_makeAgains_10 : decode cX2_makeAgains 10 = .ok (.iconst 1, 1) := by decide +kernel
theorem dX2_makeAgains_11 : decode cX2_makeAgains 11 = .ok (.aload_n 0, 1) := by decide +kernel
theorem dX2_makeAgains_12 : decode cX2_makeAgains 12 = .ok (.sipush 256, 3) := by decide +kernel
theorem dX2_makeAgains_15 : decode cX2_makeAgains 15 = .ok (.invokevirtual 62, 3) := by decide +kernel
theorem dX2_makeAgains_18 : decode cX2_makeAgains 18 = .ok (.invokevirtual 83, 3) := by decide +kernel
theorem dX2_makeAgains_21 : decode cX2_makeAgains 21 = .ok (.iconst 0, 1) := by decide +kernel
theorem dX2_makeAgains_22 : decode cX2_makeAgains 22 = .ok (.istore_n 2, 1) := by decide +kernel
theorem dX2_makeAgains_23 : decode cX2_makeAgains 23 = .ok (.iload_n 2, 1) := by decide +kernel
theorem dX2_makeAgains_24 : decode cX2_makeAgains 24 = .ok (.iload_n 1, 1) := by decide +kernel
theorem dX2_makeAgains_25 : decode cX2_makeAgains 25 = .ok (.if_icmp .ge 16, 3) := by decide +kernel
theorem dX2_makeAgains_28 : decode cX2_makeAgains 28 = .ok (.aload_n 0, 1) := by decide +kernel
theorem dX2_makeAgains_29 : decode cX2_makeAgains 29 = .ok (.bipush 6, 2) := by decide +kernel
theorem dX2_makeAgains_31 : decode cX2_makeAgains 31 = .ok (.iload_n 2, 1) := by decide +kernel
theorem dX2_makeAgains_32 : decode cX2_makeAgains 32 = .ok (.invokevirtual 74, 3) := by decide +kernel
theorem dX2_makeAgains_35 : decode cX2_makeAgains 35 = .ok (.iinc 2 1, 3) := by decide +kernel
theorem dX2_makeAgains_38 : decode cX2_makeAgains 38 = .ok (.goto (-15), 3) := by decide +kernel
theorem dX2_makeAgains_41 : decode cX2_makeAgains 41 = .ok (.aload_n 0, 1) := by decide +kernel
theorem dX2_makeAgains_42 : decode cX2_makeAgains 42 = .ok (.iconst 0, 1) := by decide +kernel
theorem dX2_makeAgains_43 : decode cX2_makeAgains 43 = .ok (.invokevirtual 80, 3) := by decide +kernel
theorem dX2_makeAgains_46 : decode cX2_makeAgains 46 = .ok (.return_, 1) := by decide +kernel
theorem dX2_makeTables_0 : decode cX2_makeTables 0 = .ok (.aload_n 0, 1) := by decide +kernel
theorem dX2_makeTables_1 : decode cX2_makeTables 1 = .ok (.bipush 80, 2) := by decide +kernel
theorem dX2_makeTables_3 : decode cX2_makeTables 3 = .ok (.bipush 75, 2) := by decide +kernel
theorem dX2_makeTables_5 : decode cX2_makeTables 5 = .ok (.invokevirtual 74, 3) := by decide +kernel
theorem dX2_makeTables_8 : decode cX2_makeTables 8 = .ok (.aload_n 0, 1) := by decide +kernel
theorem dX2_makeTables_9 : decode cX2_makeTables 9 = .ok (.bipush 7, 2) := by decide +kernel
theorem dX2_makeTables_11 : decode cX2_makeTables 11 = .ok (.bipush 8, 2) := by decide +kernel
theorem dX2_makeTables_13 : decode cX2_makeTables 13 = .ok (.invokevirtual 74, 3) := by decide +kernel
theorem dX2_makeTables_16 : decode cX2_makeTables 16 = .ok (.iconst 0, 1) := by decide +kernel
theorem dX2_makeTables_17 : decode cX2_makeTables 17 = .ok (.istore_n 2, 1) := by decide +kernel
theorem dX2_makeTables_18 : decode cX2_makeTables 18 = .ok (.iload_n 2, 1) := by decide +kernel
theorem dX2_makeTables_19 : decode cX2_makeTables 19 = .ok (.bipush 8, 2) := by decide +kernel
theorem dX2_makeTables_21 : decode cX2_makeTables 21 = .ok (.if_icmp .ge 17, 3) := by decide +kernel
theorem dX2_makeTables_24 : decode cX2_makeTables 24 = .ok (.aload_n 0, 1) := by decide +kernel
theorem dX2_makeTables_25 : decode cX2_makeTables 25 = .ok (.getfield 9, 3) := by decide +kernel
theorem dX2_makeTables_28 : decode cX2_makeTables 28 = .ok (.iload_n 2, 1) := by decide +kernel
theorem dX2_makeTables_29 : decode cX2_makeTables 29 = .ok (.invokevirtual 59, 3) := by decide +kernel
theorem dX2_makeTables_32 : decode cX2_makeTables 32 = .ok (.iinc 2 1, 3) := by decide +kernel
theorem dX2_makeTables_35 : decode cX2_makeTables 35 = .ok (.goto (-17), 3) := by decide +kernel
theorem dX2_makeTables_38 : decode cX2_makeTables 38 = .ok (.iconst 0, 1) := by decide +kernel
theorem dX2_makeTables_39 : decode cX2_makeTables 39 = .ok (.istore_n 2, 1) := by decide +kernel
theorem dX2_makeTables_40 : decode cX2_makeTables 40 = .ok (.iload_n 2, 1) := by decide +kernel
theorem dX2_makeTables_41 : decode cX2_makeTables 41 = .ok (.bipush 8, 2) := by decide +kernel
theorem dX2_makeTables_43 : decode cX2_makeTables 43 = .ok (.if_icmp .ge 22, 3) := by decide +kernel
theorem dX2_makeTables_46 : decode cX2_makeTables 46 = .ok (.aload_n 0, 1) := by decide +kernel
theorem dX2_makeTables_47 : decode cX2_makeTables 47 = .ok (.getfield 9, 3) := by decide +kernel
theorem dX2_makeTables_50 : decode cX2_makeTables 50 = .ok (.aload_n 0, 1) := by decide +kernel
theorem dX2_makeTables_51 : decode cX2_makeTables 51 = .ok (.bipush 8, 2) := by decide +kernel
theorem dX2_makeTables_53 : decode cX2_makeTables 53 = .ok (.invokevirtual 62, 3) := by decide +kernel
theorem dX2_makeTables_56 : decode cX2_makeTables 56 = .ok (.invokevirtual 59, 3) := by decide +kernel
theorem dX2_makeTables_59 : decode cX2_makeTables 59 = .ok (.iinc 2 1, 3) := by decide +kernel
theorem dX2_makeTables_62 : decode cX2_makeTables 62 = .ok (.goto (-22), 3) := by decide +kernel
theorem dX2_makeTables_65 : decode cX2_makeTables 65 = .ok (.aload_n 0, 1) := by decide +kernel
theorem dX2_makeTables_66 : decode cX2_makeTables 66 = .ok (.getfield 9, 3) := by decide +kernel
theorem dX2_makeTables_69 : decode cX2_makeTables 69 = .ok (.iconst 0, 1) := by decide +kernel
theorem dX2_makeTables_70 : decode cX2_makeTables 70 = .ok (.invokevirtual 59, 3) := by decide +kernel
theorem dX2_makeTables_73 : decode cX2_makeTables 73 = .ok (.aload_n 0, 1) := by decide +kernel
theorem dX2_makeTables_74 : decode cX2_makeTables 74 = .ok (.iload_n 1, 1) := by decide +kernel
theorem dX2_makeTables_75 : decode cX2_makeTables 75 = .ok (.invokevirtual 86, 3) := by decide +kernel
theorem dX2_makeTables_78 : decode cX2_makeTables 78 = .ok (.aload_n 0, 1) := by decide +kernel
theorem dX2_makeTables_79 : decode cX2_makeTables 79 = .ok (.iconst 0, 1) := by decide +kernel
theorem dX2_makeTables_80 : decode cX2_makeTables 80 = .ok (.invokevirtual 80, 3) := by decide +kernel
theorem dX2_makeTables_83 : decode cX2_makeTables 83 = .ok (.return_, 1) := by decide +kernel
theorem dX2_cutEnd_0 : decode cX2_cutEnd 0 = .ok (.iconst 1, 1) := by decide +kernel
theorem dX2_cutEnd_1 : decode cX2_cutEnd 1 = .ok (.aload_n 0, 1) := by decide +kernel
theorem dX2_cutEnd_2 : decode cX2_cutEnd 2 = .ok (.iconst 4, 1) := by decide +kernel
theorem dX2_cutEnd_3 : decode cX2_cutEnd 3 = .ok (.invokevirtual 62, 3) := by decide +kernel
theorem dX2_cutEnd_6 : decode cX2_cutEnd 6 = .ok (.iadd, 1) := by decide +kernel
theorem dX2_cutEnd_7 : decode cX2_cutEnd 7 = .ok (.istore_n 1, 1) := by decide +kernel
theorem dX2_cutEnd_8 : decode cX2_cutEnd 8 = .ok (.aload_n 0, 1) := by decide +kernel
theorem dX2_cutEnd_9 : decode cX2_cutEnd 9 = .ok (.getfield 9, 3) := by decide +kernel
theorem dX2_cutEnd_12 : decode cX2_cutEnd 12 = .ok (.aload_n 0, 1) := by decide +kernel
theorem dX2_cutEnd_13 : decode cX2_cutEnd 13 = .ok (.getfield 9, 3) := by decide +kernel
theorem dX2_cutEnd_16 : decode cX2_cutEnd 16 = .ok (.getfield 66, 3) := by decide +kernel
theorem dX2_cutEnd_19 : decode cX2_cutEnd 19 = .ok (.iload_n 1, 1) := by decide +kernel
theorem dX2_cutEnd_20 : decode cX2_cutEnd 20 = .ok (.isub, 1) := by decide +kernel
theorem dX2_cutEnd_21 : decode cX2_cutEnd 21 = .ok (.invokevirtual 19, 3) := by decide +kernel
theorem dX2_cutEnd_24 : decode cX2_cutEnd 24 = .ok (.return_, 1) := by decide +kernel
theorem dX2_spoilCheck_0 : decode cX2_spoilCheck 0 = .ok (.aload_n 0, 1) := by decide +kernel
theorem dX2_spoilCheck_1 : decode cX2_spoilCheck 1 = .ok (.getfield 9, 3) := by decide +kernel
theorem dX2_spoilCheck_4 : decode cX2_spoilCheck 4 = .ok (.getfield 66, 3) := by decide +kernel
theorem dX2_spoilCheck_7 : decode cX2_spoilCheck 7 = .ok (.iconst 1, 1) := by decide +kernel
theorem dX2_spoilCheck_8 : decode cX2_spoilCheck 8 = .ok (.isub, 1) := by decide +kernel
theorem dX2_spoilCheck_9 : decode cX2_spoilCheck 9 = .ok (.istore_n 1, 1) := by decide +kernel
theorem dX2_spoilCheck_10 : decode cX2_spoilCheck 10 = .ok (.aload_n 0, 1) := by decide +kernel
theorem dX2_spoilCheck_11 : decode cX2_spoilCheck 11 = .ok (.getfield 9, 3) := by decide +kernel
theorem dX2_spoilCheck_14 : decode cX2_spoilCheck 14 = .ok (.iload_n 1, 1) := by decide +kernel
theorem dX2_spoilCheck_15 : decode cX2_spoilCheck 15 = .ok (.aload_n 0, 1) := by decide +kernel
theorem dX2_spoilCheck_16 : decode cX2_spoilCheck 16 = .ok (.getfield 9, 3) := by decide +kernel
theorem dX2_spoilCheck_19 : decode cX2_spoilCheck 19 = .ok (.iload_n 1, 1) := by decide +kernel
theorem dX2_spoilCheck_20 : decode cX2_spoilCheck 20 = .ok (.invokevirtual 89, 3) := by decide +kernel
theorem dX2_spoilCheck_23 : decode cX2_spoilCheck 23 = .ok (.iconst 1, 1) := by decide +kernel
theorem dX2_spoilCheck_24 : decode cX2_spoilCheck 24 = .ok (.iadd, 1) := by decide +kernel
theorem dX2_spoilCheck_25 : decode cX2_spoilCheck 25 = .ok (.sipush 255, 3) := by decide +kernel
theorem dX2_spoilCheck_28 : decode cX2_spoilCheck 28 = .ok (.iand, 1) := by decide +kernel
theorem dX2_spoilCheck_29 : decode cX2_spoilCheck 29 = .ok (.invokevirtual 92, 3) := by decide +kernel
theorem dX2_spoilCheck_32 : decode cX2_spoilCheck 32 = .ok (.return_, 1) := by decide +kernel
theorem dX2_makeDrawn_0 : decode cX2_makeDrawn 0 = .ok (.aload_n 0, 1) := by decide +kernel
theorem dX2_makeDrawn_1 : decode cX2_makeDrawn 1 = .ok (.bipush 80, 2) := by decide +kernel
theorem dX2_makeDrawn_3 : decode cX2_makeDrawn 3 = .ok (.bipush 75, 2) := by decide +kernel
theorem dX2_makeDrawn_5 : decode cX2_makeDrawn 5 = .ok (.invokevirtual 74, 3) := by decide +kernel
theorem dX2_makeDrawn_8 : decode cX2_makeDrawn 8 = .ok (.iconst 0, 1) := by decide +kernel
theorem dX2_makeDrawn_9 : decode cX2_makeDrawn 9 = .ok (.istore_n 2, 1) := by decide +kernel
theorem dX2_makeDrawn_10 : decode cX2_makeDrawn 10 = .ok (.iload_n 2, 1) := by decide +kernel
theorem dX2_makeDrawn_11 : decode cX2_makeDrawn 11 = .ok (.iload_n 1, 1) := by decide +kernel
theorem dX2_makeDrawn_12 : decode cX2_makeDrawn 12 = .ok (.if_icmp .ge 14, 3) := by decide +kernel
theorem dX2_makeDrawn_15 : decode cX2_makeDrawn 15 = .ok (.aload_n 0, 1) := by decide +kernel
theorem dX2_makeDrawn_16 : decode cX2_makeDrawn 16 = .ok (.iload_n 2, 1) := by decide +kernel
theorem dX2_makeDrawn_17 : decode cX2_makeDrawn 17 = .ok (.invokevirtual 95, 3) := by decide +kernel
theorem dX2_makeDrawn_20 : decode cX2_makeDrawn 20 = .ok (.iinc 2 1, 3) := by decide +kernel
theorem dX2_makeDrawn_23 : decode cX2_makeDrawn 23 = .ok (.goto (-13), 3) := by decide +kernel
theorem dX2_makeDrawn_26 : decode cX2_makeDrawn 26 = .ok (.aload_n 0, 1) := by decide +kernel
theorem dX2_makeDrawn_27 : decode cX2_makeDrawn 27 = .ok (.iconst 0, 1) := by decide +kernel
theorem dX2_makeDrawn_28 : decode cX2_makeDrawn 28 = .ok (.invokevirtual 80, 3) := by decide +kernel
theorem dX2_makeDrawn_31 : decode cX2_makeDrawn 31 = .ok (.return_, 1) := by decide +kernel
theorem dX2_appendDrawnItem_0 : decode cX2_appendDrawnItem 0 = .ok (.aload_n 0, 1) := by decide +kernel
theorem dX2_appendDrawnItem_1 : decode cX2_appendDrawnItem 1 = .ok (.bipush 6, 2) := by decide +kernel
theorem dX2_appendDrawnItem_3 : decode cX2_appendDrawnItem 3 = .ok (.invokevirtual 62, 3) := by decide +kernel
theorem dX2_appendDrawnItem_6 : decode cX2_appendDrawnItem 6 = .ok (.tableswitch 113 0 4 #[34, 50, 71, 92, 105], 34) := by decide +kernel
theorem dX2_appendDrawnItem_40 : decode cX2_appendDrawnItem 40 = .ok (.aload_n 0, 1) := by decide +kernel
theorem dX2_appendDrawnItem_41 : decode cX2_appendDrawnItem 41 = .ok (.iconst 1, 1) := by decide +kernel
theorem dX2_appendDrawnItem_42 : decode cX2_appendDrawnItem 42 = .ok (.iconst 1, 1) := by decide +kernel
theorem dX2_appendDrawnItem_43 : decode cX2_appendDrawnItem 43 = .ok (.aload_n 0, 1) := by decide +kernel
theorem dX2_appendDrawnItem_44 : decode cX2_appendDrawnItem 44 = .ok (.bipush 6, 2) := by decide +kernel
theorem dX2_appendDrawnItem_46 : decode cX2_appendDrawnItem 46 = .ok (.invokevirtual 62, 3) := by decide +kernel
theorem dX2_appendDrawnItem_49 : decode cX2_appendDrawnItem 49 = .ok (.iadd, 1) := by decide +kernel
theorem dX2_appendDrawnItem_50 : decode cX2_appendDrawnItem 50 = .ok (.invokevirtual 98, 3) := by decide +kernel
theorem dX2_appendDrawnItem_53 : decode cX2_appendDrawnItem 53 = .ok (.goto 70, 3) := by decide +kernel
theorem dX2_appendDrawnItem_56 : decode cX2_appendDrawnItem 56 = .ok (.aload_n 0, 1) := by decide +kernel
theorem dX2_appendDrawnItem_57 : decode cX2_appendDrawnItem 57 = .ok (.iconst 2, 1) := by decide +kernel
theorem dX2_appendDrawnItem_58 : decode cX2_appendDrawnItem 58 = .ok (.aload_n 0, 1) := by decide +kernel
theorem dX2_appendDrawnItem_59 : decode cX2_appendDrawnItem 59 = .ok (.bipush 20, 2) := by decide +kernel
theorem dX2_appendDrawnItem_61 : decode cX2_appendDrawnItem 61 = .ok (.invokevirtual 62, 3) := by decide +kernel
theorem dX2_appendDrawnItem_64 : decode cX2_appendDrawnItem 64 = .ok (.aload_n 0, 1) := by decide +kernel
theorem dX2_appendDrawnItem_65 : decode cX2_appendDrawnItem 65 = .ok (.sipush 256, 3) := by decide +kernel
theorem dX2_appendDrawnItem_68 : decode cX2_appendDrawnItem 68 = .ok (.invokevirtual 62, 3) := by decide +kernel
theorem dX2_appendDrawnItem_71 : decode cX2_appendDrawnItem 71 = .ok (.invokevirtual 83, 3) := by decide +kernel
theorem dX2_appendDrawnItem_74 : decode cX2_appendDrawnItem 74 = .ok (.goto 49, 3) := by decide +kernel
theorem dX2_appendDrawnItem_77 : decode cX2_appendDrawnItem 77 = .ok (.aload_n 0, 1) := by decide +kernel
theorem dX2_appendDrawnItem_78 : decode cX2_appendDrawnItem 78 = .ok (.iconst 3, 1) := by decide +kernel
theorem dX2_appendDrawnItem_79 : decode cX2_appendDrawnItem 79 = .ok (.iconst 1, 1) := by decide +kernel
theorem dX2_appendDrawnItem_80 : decode cX2_appendDrawnItem 80 = .ok (.aload_n 0, 1) := by decide +kernel
theorem dX2_appendDrawnItem_81 : decode cX2_appendDrawnItem 81 = .ok (.iconst 4, 1) := by decide +kernel
theorem dX2_appendDrawnItem_82 : decode cX2_appendDrawnItem 82 = .ok (.invokevirtual 62, 3) := by decide +kernel
theorem dX2_appendDrawnItem_85 : decode cX2_appendDrawnItem 85 = .ok (.iadd, 1) := by decide +kernel
theorem dX2_appendDrawnItem_86 : decode cX2_appendDrawnItem 86 = .ok (.aload_n 0, 1) := by decide +kernel
theorem dX2_appendDrawnItem_87 : decode cX2_appendDrawnItem 87 = .ok (.bipush 12, 2) := by decide +kernel
theorem dX2_appendDrawnItem_89 : decode cX2_appendDrawnItem 89 = .ok (.invokevirtual 62, 3) := by decide +kernel
theorem dX2_appendDrawnItem_92 : decode cX2_appendDrawnItem 92 = .ok (.invokevirtual 83, 3) := by decide +kernel
theorem dX2_appendDrawnItem_95 : decode cX2_appendDrawnItem 95 = .ok (.goto 28, 3) := by decide +kernel
theorem dX2_appendDrawnItem_98 : decode cX2_appendDrawnItem 98 = .ok (.aload_n 0, 1) := by decide +kernel
theorem dX2_appendDrawnItem_99 : decode cX2_appendDrawnItem 99 = .ok (.iconst 5, 1) := by decide +kernel
theorem dX2_appendDrawnItem_100 : decode cX2_appendDrawnItem 100 = .ok (.aload_n 0, 1) := by decide +kernel
theorem dX2_appendDrawnItem_101 : decode cX2_appendDrawnItem 101 = .ok (.iconst 4, 1) := by decide +kernel
theorem dX2_appendDrawnItem_102 : decode cX2_appendDrawnItem 102 = .ok (.invokevirtual 62, 3) := by decide +kernel
theorem dX2_appendDrawnItem_105 : decode cX2_appendDrawnItem 105 = .ok (.invokevirtual 98, 3) := by decide +kernel
theorem dX2_appendDrawnItem_108 : decode cX2_appendDrawnItem 108 = .ok (.goto 15, 3) := by decide +kernel
theorem dX2_appendDrawnItem_111 : decode cX2_appendDrawnItem 111 = .ok (.aload_n 0, 1) := by decide +kernel
theorem dX2_appendDrawnItem_112 : decode cX2_appendDrawnItem 112 = .ok (.iload_n 1, 1) := by decide +kernel
theorem dX2_appendDrawnItem_113 : decode cX2_appendDrawnItem 113 = .ok (.invokevirtual 101, 3) := by decide +kernel
theorem dX2_appendDrawnItem_116 : decode cX2_appendDrawnItem 116 = .ok (.goto 7, 3) := by decide +kernel
theorem dX2_appendDrawnItem_119 : decode cX2_appendDrawnItem 119 = .ok (.aload_n 0, 1) := by decide +kernel
theorem dX2_appendDrawnItem_120 : decode cX2_appendDrawnItem 120 = .ok (.invokevirtual 104, 3) := by decide +kernel
theorem dX2_appendDrawnItem_123 : decode cX2_appendDrawnItem 123 = .ok (.return_, 1) := by decide +kernel
theorem dX2_appendCounted_0 : decode cX2_appendCounted 0 = .ok (.aload_n 0, 1) := by decide +kernel
theorem dX2_appendCounted_1 : decode cX2_appendCounted 1 = .ok (.iload_n 1, 1) := by decide +kernel
theorem dX2_appendCounted_2 : decode cX2_appendCounted 2 = .ok (.iload_n 2, 1) := by decide +kernel
theorem dX2_appendCounted_3 : decode cX2_appendCounted 3 = .ok (.invokevirtual 74, 3) := by decide +kernel
theorem dX2_appendCounted_6 : decode cX2_appendCounted 6 = .ok (.aload_n 0, 1) := by decide +kernel
theorem dX2_appendCounted_7 : decode cX2_appendCounted 7 = .ok (.iload_n 2, 1) := by decide +kernel
theorem dX2_appendCounted_8 : decode cX2_appendCounted 8 = .ok (.invokevirtual 77, 3) := by decide +kernel
theorem dX2_appendCounted_11 : decode cX2_appendCounted 11 = .ok (.return_, 1) := by decide +kernel
theorem dX2_appendDrawnAgain_0 : decode cX2_appendDrawnAgain 0 = .ok (.iload_n 1, 1) := by decide +kernel
theorem dX2_appendDrawnAgain_1 : decode cX2_appendDrawnAgain 1 = .ok (.ifCond .le 17, 3) := by decide +kernel
theorem dX2_appendDrawnAgain_4 : decode cX2_appendDrawnAgain 4 = .ok (.aload_n 0, 1) := by decide +kernel
theorem dX2_appendDrawnAgain_5 : decode cX2_appendDrawnAgain 5 = .ok (.bipush 6, 2) := by decide +kernel
theorem dX2_appendDrawnAgain_7 : decode cX2_appendDrawnAgain 7 = .ok (.aload_n 0, 1) := by decide +kernel
theorem dX2_appendDrawnAgain_8 : decode cX2_appendDrawnAgain 8 = .ok (.iload_n 1, 1) := by decide +kernel
theorem dX2_appendDrawnAgain_9 : decode cX2_appendDrawnAgain 9 = .ok (.invokevirtual 62, 3) := by decide +kernel
theorem dX2_appendDrawnAgain_12 : decode cX2_appendDrawnAgain 12 = .ok (.invokevirtual 74, 3) := by decide +kernel
theorem dX2_appendDrawnAgain_15 : decode cX2_appendDrawnAgain 15 = .ok (.goto 16, 3) := by decide +kernel
theorem dX2_appendDrawnAgain_18 : decode cX2_appendDrawnAgain 18 = .ok (.aload_n 0, 1) := by decide +kernel
theorem dX2_appendDrawnAgain_19 : decode cX2_appendDrawnAgain 19 = .ok (.iconst 1, 1) := by decide +kernel
theorem dX2_appendDrawnAgain_20 : decode cX2_appendDrawnAgain 20 = .ok (.iconst 1, 1) := by decide +kernel
theorem dX2_appendDrawnAgain_21 : decode cX2_appendDrawnAgain 21 = .ok (.aload_n 0, 1) := by decide +kernel
theorem dX2_appendDrawnAgain_22 : decode cX2_appendDrawnAgain 22 = .ok (.sipush 256, 3) := by decide +kernel
theorem dX2_appendDrawnAgain_25 : decode cX2_appendDrawnAgain 25 = .ok (.invokevirtual 62, 3) := by decide +kernel
theorem dX2_appendDrawnAgain_28 : decode cX2_appendDrawnAgain 28 = .ok (.invokevirtual 83, 3) := by decide +kernel
theorem dX2_appendDrawnAgain_31 : decode cX2_appendDrawnAgain 31 = .ok (.return_, 1) := by decide +kernel
theorem dX2_appendDrawnNest_0 : decode cX2_appendDrawnNest 0 = .ok (.aload_n 0, 1) := by decide +kernel
theorem dX2_appendDrawnNest_1 : decode cX2_appendDrawnNest 1 = .ok (.iconst 5, 1) := by decide +kernel
theorem dX2_appendDrawnNest_2 : decode cX2_appendDrawnNest 2 = .ok (.invokevirtual 62, 3) := by decide +kernel
theorem dX2_appendDrawnNest_5 : decode cX2_appendDrawnNest 5 = .ok (.istore_n 1, 1) := by decide +kernel
theorem dX2_appendDrawnNest_6 : decode cX2_appendDrawnNest 6 = .ok (.aload_n 0, 1) := by decide +kernel
theorem dX2_appendDrawnNest_7 : decode cX2_appendDrawnNest 7 = .ok (.iconst 4, 1) := by decide +kernel
theorem dX2_appendDrawnNest_8 : decode cX2_appendDrawnNest 8 = .ok (.iconst 0, 1) := by decide +kernel
theorem dX2_appendDrawnNest_9 : decode cX2_appendDrawnNest 9 = .ok (.bipush 6, 2) := by decide +kernel
theorem dX2_appendDrawnNest_11 : decode cX2_appendDrawnNest 11 = .ok (.iload_n 1, 1) := by decide +kernel
theorem dX2_appendDrawnNest_12 : decode cX2_appendDrawnNest 12 = .ok (.iadd, 1) := by decide +kernel
theorem dX2_appendDrawnNest_13 : decode cX2_appendDrawnNest 13 = .ok (.invokevirtual 83, 3) := by decide +kernel
theorem dX2_appendDrawnNest_16 : decode cX2_appendDrawnNest 16 = .ok (.aload_n 0, 1) := by decide +kernel
theorem dX2_appendDrawnNest_17 : decode cX2_appendDrawnNest 17 = .ok (.getfield 9, 3) := by decide +kernel
theorem dX2_appendDrawnNest_20 : decode cX2_appendDrawnNest 20 = .ok (.getfield 66, 3) := by decide +kernel
theorem dX2_appendDrawnNest_23 : decode cX2_appendDrawnNest 23 = .ok (.istore_n 2, 1) := by decide +kernel
theorem dX2_appendDrawnNest_24 : decode cX2_appendDrawnNest 24 = .ok (.aload_n 0, 1) := by decide +kernel
theorem dX2_appendDrawnNest_25 : decode cX2_appendDrawnNest 25 = .ok (.bipush 80, 2) := by decide +kernel
theorem dX2_appendDrawnNest_27 : decode cX2_appendDrawnNest 27 = .ok (.bipush 75, 2) := by decide +kernel
theorem dX2_appendDrawnNest_29 : decode cX2_appendDrawnNest 29 = .ok (.invokevirtual 74, 3) := by decide +kernel
theorem dX2_appendDrawnNest_32 : decode cX2_appendDrawnNest 32 = .ok (.aload_n 0, 1) := by decide +kernel
theorem dX2_appendDrawnNest_33 : decode cX2_appendDrawnNest 33 = .ok (.iconst 1, 1) := by decide +kernel
theorem dX2_appendDrawnNest_34 : decode cX2_appendDrawnNest 34 = .ok (.iload_n 1, 1) := by decide +kernel
theorem dX2_appendDrawnNest_35 : decode cX2_appendDrawnNest 35 = .ok (.invokevirtual 98, 3) := by decide +kernel
theorem dX2_appendDrawnNest_38 : decode cX2_appendDrawnNest 38 = .ok (.aload_n 0, 1) := by decide +kernel
theorem dX2_appendDrawnNest_39 : decode cX2_appendDrawnNest 39 = .ok (.iload_n 2, 1) := by decide +kernel
theorem dX2_appendDrawnNest_40 : decode cX2_appendDrawnNest 40 = .ok (.invokevirtual 80, 3) := by decide +kernel
theorem dX2_appendDrawnNest_43 : decode cX2_appendDrawnNest 43 = .ok (.return_, 1) := by decide +kernel
end
section
theorem dX3_init_0 : decode cX3_init 0 = .ok (.aload_n 0, 1) := by decide +kernel
theorem dX3_init_1 : decode cX3_init 1 = .ok (.invokespecial 1, 3) := by decide +kernel
theorem dX3_init_4 : decode cX3_init 4 = .ok (.return_, 1) := by decide +kernel
theorem dX3_begin_0 : decode cX3_begin 0 = .ok (.aload_n 0, 1) := by decide +kernel
theorem dX3_begin_1 : decode cX3_begin 1 = .ok (.iload_n 1, 1) := by decide +kernel
theorem dX3_begin_2 : decode cX3_begin 2 = .ok (.putfield 7, 3) := by decide +kernel
theorem dX3_begin_5 : decode cX3_begin 5 = .ok (.aload_n 0, 1) := by decide +kernel
theorem dX3_begin_6 : decode cX3_begin 6 = .ok (.iload_n 2, 1) := by decide +kernel
theorem dX3_begin_7 : decode cX3_begin 7 = .ok (.putfield 13, 3) := by decide +kernel
theorem dX3_begin_10 : decode cX3_begin 10 = .ok (.aload_n 0, 1) := by decide +kernel
theorem dX3_begin_11 : decode cX3_begin 11 = .ok (.iload_n 3, 1) := by decide +kernel
theorem dX3_begin_12 : decode cX3_begin 12 = .ok (.putfield 16, 3) := by decide +kernel
theorem dX3_begin_15 : decode cX3_begin 15 = .ok (.aload_n 0, 1) := by decide +kernel
theorem dX3_begin_16 : decode cX3_begin 16 = .ok (.iload 4, 2) := by decide +kernel
theorem dX3_begin_18 : decode cX3_begin 18 = .ok (.putfield 19, 3) := by decide +kernel
theorem dX3_begin_21 : decode cX3_begin 21 = .ok (.aload_n 0, 1) := by decide +kernel
theorem dX3_begin_22 : decode cX3_begin 22 = .ok (.iconst 0, 1) := by decide +kernel
theorem dX3_begin_23 : decode cX3_begin 23 = .ok (.putfield 22, 3) := by decide +kernel
theorem dX3_begin_26 : decode cX3_begin 26 = .ok (.return_, 1) := by decide +kernel
end
section
theorem dX4_init_0 : decode cX4_init 0 = .ok (.aload_n 0, 1) := by decide +kernel
theorem dX4_init_1 : decode cX4_init 1 = .ok (.invokespecial 3, 3) := by decide +kernel
theorem dX4_init_4 : decode cX4_init 4 = .ok (.aload_n 0, 1) := by decide +kernel
theorem dX4_init_5 : decode cX4_init 5 = .ok (.aload_n 1, 1) := by decide +kernel
theorem dX4_init_6 : decode cX4_init 6 = .ok (.putfield 9, 3) := by decide +kernel
theorem dX4_init_9 : decode cX4_init 9 = .ok (.aload_n 0, 1) := by decide +kernel
theorem dX4_init_10 : decode cX4_init 10 = .ok (.new 15, 3) := by decide +kernel
theorem dX4_init_13 : decode cX4_init 13 = .ok (.dup, 1) := by decide +kernel
theorem dX4_init_14 : decode cX4_init 14 = .ok (.sipush 4000, 3) := by decide +kernel
theorem dX4_init_17 : decode cX4_init 17 = .ok (.iconst 0, 1) := by decide +kernel
theorem dX4_init_18 : decode cX4_init 18 = .ok (.invokespecial 17, 3) := by decide +kernel
theorem dX4_init_21 : decode cX4_init 21 = .ok (.putfield 20, 3) := by decide +kernel
theorem dX4_init_24 : decode cX4_init 24 = .ok (.aload_n 0, 1) := by decide +kernel
theorem dX4_init_25 : decode cX4_init 25 = .ok (.new 23, 3) := by decide +kernel
theorem dX4_init_28 : decode cX4_init 28 = .ok (.dup, 1) := by decide +kernel
theorem dX4_init_29 : decode cX4_init 29 = .ok (.invokespecial 25, 3) := by decide +kernel
theorem dX4_init_32 : decode cX4_init 32 = .ok (.putfield 26, 3) := by decide +kernel
theorem dX4_init_35 : decode cX4_init 35 = .ok (.aload_n 0, 1) := by decide +kernel
theorem dX4_init_36 : decode cX4_init 36 = .ok (.new 30, 3) := by decide +kernel
theorem dX4_init_39 : decode cX4_init 39 = .ok (.dup, 1) := by decide +kernel
theorem dX4_init_40 : decode cX4_init 40 = .ok (.invokespecial 32, 3) := by decide +kernel
theorem dX4_init_43 : decode cX4_init 43 = .ok (.putfield 33, 3) := by decide +kernel
theorem dX4_init_46 : decode cX4_init 46 = .ok (.aload_n 0, 1) := by decide +kernel
theorem dX4_init_47 : decode cX4_init 47 = .ok (.bipush 9, 2) := by decide +kernel
theorem dX4_init_49 : decode cX4_init 49 = .ok (.anewarray 37, 3) := by decide +kernel
theorem dX4_init_52 : decode cX4_init 52 = .ok (.putfield 39, 3) := by decide +kernel
theorem dX4_init_55 : decode cX4_init 55 = .ok (.iconst 0, 1) := by decide +kernel
theorem dX4_init_56 : decode cX4_init 56 = .ok (.istore_n 2, 1) := by decide +kernel
theorem dX4_init_57 : decode cX4_init 57 = .ok (.iload_n 2, 1) := by decide +kernel
theorem dX4_init_58 : decode cX4_init 58 = .ok (.aload_n 0, 1) := by decide +kernel
theorem dX4_init_59 : decode cX4_init 59 = .ok (.getfield 39, 3) := by decide +kernel
theorem dX4_init_62 : decode cX4_init 62 = .ok (.arraylength, 1) := by decide +kernel
theorem dX4_init_63 : decode cX4_init 63 = .ok (.if_icmp .ge 22, 3) := by decide +kernel
theorem dX4_init_66 : decode cX4_init 66 = .ok (.aload_n 0, 1) := by decide +kernel
theorem dX4_init_67 : decode cX4_init 67 = .ok (.getfield 39, 3) := by decide +kernel
theorem dX4_init_70 : decode cX4_init 70 = .ok (.iload_n 2, 1) := by decide +kernel
theorem dX4_init_71 : decode cX4_init 71 = .ok (.new 37, 3) := by decide +kernel
theorem dX4_init_74 : decode cX4_init 74 = .ok (.dup, 1) := by decide +kernel
theorem dX4_init_75 : decode cX4_init 75 = .ok (.invokespecial 43, 3) := by decide +kernel
theorem dX4_init_78 : decode cX4_init 78 = .ok (.aastore, 1) := by decide +kernel
theorem dX4_init_79 : decode cX4_init 79 = .ok (.iinc 2 1, 3) := by decide +kernel
theorem dX4_init_82 : decode cX4_init 82 = .ok (.goto (-25), 3) := by decide +kernel
theorem dX4_init_85 : decode cX4_init 85 = .ok (.aload_n 0, 1) := by decide +kernel
theorem dX4_init_86 : decode cX4_init 86 = .ok (.sipush 600, 3) := by decide +kernel
theorem dX4_init_89 : decode cX4_init 89 = .ok (.newarray .int, 2) := by decide +kernel
theorem dX4_init_91 : decode cX4_init 91 = .ok (.putfield 44, 3) := by decide +kernel
theorem dX4_init_94 : decode cX4_init 94 = .ok (.aload_n 0, 1) := by decide +kernel
theorem dX4_init_95 : decode cX4_init 95 = .ok (.iconst (-1), 1) := by decide +kernel
theorem dX4_init_96 : decode cX4_init 96 = .ok (.putfield 48, 3) := by decide +kernel
theorem dX4_init_99 : decode cX4_init 99 = .ok (.return_, 1) := by decide +kernel
theorem dX4_read_0 : decode cX4_read 0 = .ok (.aload_n 0, 1) := by decide +kernel
theorem dX4_read_1 : decode cX4_read 1 = .ok (.iload_n 1, 1) := by decide +kernel
theorem dX4_read_2 : decode cX4_read 2 = .ok (.putfield 52, 3) := by decide +kernel
theorem dX4_read_5 : decode cX4_read 5 = .ok (.aload_n 0, 1) := by decide +kernel
theorem dX4_read_6 : decode cX4_read 6 = .ok (.iload_n 2, 1) := by decide +kernel
theorem dX4_read_7 : decode cX4_read 7 = .ok (.putfield 55, 3) := by decide +kernel
theorem dX4_read_10 : decode cX4_read 10 = .ok (.aload_n 0, 1) := by decide +kernel
theorem dX4_read_11 : decode cX4_read 11 = .ok (.iload_n 3, 1) := by decide +kernel
theorem dX4_read_12 : decode cX4_read 12 = .ok (.putfield 58, 3) := by decide +kernel
theorem dX4_read_15 : decode cX4_read 15 = .ok (.aload_n 0, 1) := by decide +kernel
theorem dX4_read_16 : decode cX4_read 16 = .ok (.iconst 0, 1) := by decide +kernel
theorem dX4_read_17 : decode cX4_read 17 = .ok (.putfield 61, 3) := by decide +kernel
theorem dX4_read_20 : decode cX4_read 20 = .ok (.aload_n 0, 1) := by decide +kernel
theorem dX4_read_21 : decode cX4_read 21 = .ok (.iconst 0, 1) := by decide +kernel
theorem dX4_read_22 : decode cX4_read 22 = .ok (.putfield 64, 3) := by decide +kernel
theorem dX4_read_25 : decode cX4_read 25 = .ok (.aload_n 0, 1) := by decide +kernel
theorem dX4_read_26 : decode cX4_read 26 = .ok (.iconst 0, 1) := by decide +kernel
theorem dX4_read_27 : decode cX4_read 27 = .ok (.putfield 67, 3) := by decide +kernel
theorem dX4_read_30 : decode cX4_read 30 = .ok (.aload_n 0, 1) := by decide +kernel
theorem dX4_read_31 : decode cX4_read 31 = .ok (.iconst 0, 1) := by decide +kernel
theorem dX4_read_32 : decode cX4_read 32 = .ok (.putfield 70, 3) := by decide +kernel
theorem dX4_read_35 : decode cX4_read 35 = .ok (.aload_n 0, 1) := by decide +kernel
theorem dX4_read_36 : decode cX4_read 36 = .ok (.iconst (-1), 1) := by decide +kernel
theorem dX4_read_37 : decode cX4_read 37 = .ok (.putfield 48, 3) := by decide +kernel
theorem dX4_read_40 : decode cX4_read 40 = .ok (.aload_n 0, 1) := by decide +kernel
theorem dX4_read_41 : decode cX4_read 41 = .ok (.getfield 26, 3) := by decide +kernel
theorem dX4_read_44 : decode cX4_read 44 = .ok (.iconst 0, 1) := by decide +kernel
theorem dX4_read_45 : decode cX4_read 45 = .ok (.putfield 73, 3) := by decide +kernel
theorem dX4_read_48 : decode cX4_read 48 = .ok (.aload_n 0, 1) := by decide +kernel
theorem dX4_read_49 : decode cX4_read 49 = .ok (.getfield 20, 3) := by decide +kernel
theorem dX4_read_52 : decode cX4_read 52 = .ok (.iconst 0, 1) := by decide +kernel
theorem dX4_read_53 : decode cX4_read 53 = .ok (.invokevirtual 76, 3) := by decide +kernel
theorem dX4_read_56 : decode cX4_read 56 = .ok (.aload_n 0, 1) := by decide +kernel
theorem dX4_read_57 : decode cX4_read 57 = .ok (.dup, 1) := by decide +kernel
theorem dX4_read_58 : decode cX4_read 58 = .ok (.getfield 80, 3) := by decide +kernel
theorem dX4_read_61 : decode cX4_read 61 = .ok (.iconst 1, 1) := by decide +kernel
theorem dX4_read_62 : decode cX4_read 62 = .ok (.iadd, 1) := by decide +kernel
theorem dX4_read_63 : decode cX4_read 63 = .ok (.putfield 80, 3) := by decide +kernel
theorem dX4_read_66 : decode cX4_read 66 = .ok (.aload_n 0, 1) := by decide +kernel
theorem dX4_read_67 : decode cX4_read 67 = .ok (.iconst 0, 1) := by decide +kernel
theorem dX4_read_68 : decode cX4_read 68 = .ok (.aload_n 0, 1) := by decide +kernel
theorem dX4_read_69 : decode cX4_read 69 = .ok (.getfield 9, 3) := by decide +kernel
theorem dX4_read_72 : decode cX4_read 72 = .ok (.getfield 83, 3) := by decide +kernel
theorem dX4_read_75 : decode cX4_read 75 = .ok (.iconst 0, 1) := by decide +kernel
theorem dX4_read_76 : decode cX4_read 76 = .ok (.iconst 0, 1) := by decide +kernel
theorem dX4_read_77 : decode cX4_read 77 = .ok (.invokevirtual 84, 3) := by decide +kernel
theorem dX4_read_80 : decode cX4_read 80 = .ok (.aload_n 0, 1) := by decide +kernel
theorem dX4_read_81 : decode cX4_read 81 = .ok (.getfield 70, 3) := by decide +kernel
theorem dX4_read_84 : decode cX4_read 84 = .ok (.ireturn, 1) := by decide +kernel
theorem dX4_fail_0 : decode cX4_fail 0 = .ok (.aload_n 0, 1) := by decide +kernel
theorem dX4_fail_1 : decode cX4_fail 1 = .ok (.getfield 70, 3) := by decide +kernel
theorem dX4_fail_4 : decode cX4_fail 4 = .ok (.ifCond .ne 13, 3) := by decide +kernel
theorem dX4_fail_7 : decode cX4_fail 7 = .ok (.aload_n 0, 1) := by decide +kernel
theorem dX4_fail_8 : decode cX4_fail 8 = .ok (.iload_n 1, 1) := by decide +kernel
theorem dX4_fail_9 : decode cX4_fail 9 = .ok (.putfield 70, 3) := by decide +kernel
theorem dX4_fail_12 : decode cX4_fail 12 = .ok (.aload_n 0, 1) := by decide +kernel
theorem dX4_fail_13 : decode cX4_fail 13 = .ok (.iload_n 2, 1) := by decide +kernel
theorem dX4_fail_14 : decode cX4_fail 14 = .ok (.putfield 48, 3) := by decide +kernel
theorem dX4_fail_17 : decode cX4_fail 17 = .ok (.return_, 1) := by decide +kernel
theorem dX4_next_0 : decode cX4_next 0 = .ok (.aload_n 0, 1) := by decide +kernel
theorem dX4_next_1 : decode cX4_next 1 = .ok (.getfield 88, 3) := by decide +kernel
theorem dX4_next_4 : decode cX4_next 4 = .ok (.iload_n 1, 1) := by decide +kernel
theorem dX4_next_5 : decode cX4_next 5 = .ok (.if_icmp .lt 11, 3) := by decide +kernel
theorem dX4_next_8 : decode cX4_next 8 = .ok (.aload_n 0, 1) := by decide +kernel
theorem dX4_next_9 : decode cX4_next 9 = .ok (.iconst 3, 1) := by decide +kernel
theorem dX4_next_10 : decode cX4_next 10 = .ok (.iload_n 1, 1) := by decide +kernel
theorem dX4_next_11 : decode cX4_next 11 = .ok (.invokevirtual 91, 3) := by decide +kernel
theorem dX4_next_14 : decode cX4_next 14 = .ok (.iconst (-1), 1) := by decide +kernel
theorem dX4_next_15 : decode cX4_next 15 = .ok (.ireturn, 1) := by decide +kernel
theorem dX4_next_16 : decode cX4_next 16 = .ok (.aload_n 0, 1) := by decide +kernel
theorem dX4_next_17 : decode cX4_next 17 = .ok (.getfield 9, 3) := by decide +kernel
theorem dX4_next_20 : decode cX4_next 20 = .ok (.aload_n 0, 1) := by decide +kernel
theorem dX4_next_21 : decode cX4_next 21 = .ok (.getfield 88, 3) := by decide +kernel
theorem dX4_next_24 : decode cX4_next 24 = .ok (.invokevirtual 94, 3) := by decide +kernel
theorem dX4_next_27 : decode cX4_next 27 = .ok (.istore_n 2, 1) := by decide +kernel
theorem dX4_next_28 : decode cX4_next 28 = .ok (.aload_n 0, 1) := by decide +kernel
theorem dX4_next_29 : decode cX4_next 29 = .ok (.dup, 1) := by decide +kernel
theorem dX4_next_30 : decode cX4_next 30 = .ok (.getfield 88, 3) := by decide +kernel
theorem dX4_next_33 : decode cX4_next 33 = .ok (.iconst 1, 1) := by decide +kernel
theorem dX4_next_34 : decode cX4_next 34 = .ok (.iadd, 1) := by decide +kernel
theorem dX4_next_35 : decode cX4_next 35 = .ok (.putfield 88, 3) := by decide +kernel
theorem dX4_next_38 : decode cX4_next 38 = .ok (.iload_n 2, 1) := by decide +kernel
theorem dX4_next_39 : decode cX4_next 39 = .ok (.ireturn, 1) := by decide +kernel
theorem dX4_hasBytes_0 : decode cX4_hasBytes 0 = .ok (.iload_n 1, 1) := by decide +kernel
theorem dX4_hasBytes_1 : decode cX4_hasBytes 1 = .ok (.iload_n 2, 1) := by decide +kernel
theorem dX4_hasBytes_2 : decode cX4_hasBytes 2 = .ok (.aload_n 0, 1) := by decide +kernel
theorem dX4_hasBytes_3 : decode cX4_hasBytes 3 = .ok (.getfield 88, 3) := by decide +kernel
theorem dX4_hasBytes_6 : decode cX4_hasBytes 6 = .ok (.isub, 1) := by decide +kernel
theorem dX4_hasBytes_7 : decode cX4_hasBytes 7 = .ok (.if_icmp .le 11, 3) := by decide +kernel
theorem dX4_hasBytes_10 : decode cX4_hasBytes 10 = .ok (.aload_n 0, 1) := by decide +kernel
theorem dX4_hasBytes_11 : decode cX4_hasBytes 11 = .ok (.iconst 3, 1) := by decide +kernel
theorem dX4_hasBytes_12 : decode cX4_hasBytes 12 = .ok (.iload_n 2, 1) := by decide +kernel
theorem dX4_hasBytes_13 : decode cX4_hasBytes 13 = .ok (.invokevirtual 91, 3) := by decide +kernel
theorem dX4_hasBytes_16 : decode cX4_hasBytes 16 = .ok (.iconst 0, 1) := by decide +kernel
theorem dX4_hasBytes_17 : decode cX4_hasBytes 17 = .ok (.ireturn, 1) := by decide +kernel
theorem dX4_hasBytes_18 : decode cX4_hasBytes 18 = .ok (.iconst 1, 1) := by decide +kernel
theorem dX4_hasBytes_19 : decode cX4_hasBytes 19 = .ok (.ireturn, 1) := by decide +kernel
theorem dX4_canPay_0 : decode cX4_canPay 0 = .ok (.aload_n 0, 1) := by decide +kernel
theorem dX4_canPay_1 : decode cX4_canPay 1 = .ok (.getfield 20, 3) := by decide +kernel
theorem dX4_canPay_4 : decode cX4_canPay 4 = .ok (.getfield 83, 3) := by decide +kernel
theorem dX4_canPay_7 : decode cX4_canPay 7 = .ok (.iload_n 2, 1) := by decide +kernel
theorem dX4_canPay_8 : decode cX4_canPay 8 = .ok (.iadd, 1) := by decide +kernel
theorem dX4_canPay_9 : decode cX4_canPay 9 = .ok (.aload_n 0, 1) := by decide +kernel
theorem dX4_canPay_10 : decode cX4_canPay 10 = .ok (.getfield 52, 3) := by decide +kernel
theorem dX4_canPay_13 : decode cX4_canPay 13 = .ok (.if_icmp .le 12, 3) := by decide +kernel
theorem dX4_canPay_16 : decode cX4_canPay 16 = .ok (.aload_n 0, 1) := by decide +kernel
theorem dX4_canPay_17 : decode cX4_canPay 17 = .ok (.bipush 11, 2) := by decide +kernel
theorem dX4_canPay_19 : decode cX4_canPay 19 = .ok (.iload_n 1, 1) := by decide +kernel
theorem dX4_canPay_20 : decode cX4_canPay 20 = .ok (.invokevirtual 91, 3) := by decide +kernel
theorem dX4_canPay_23 : decode cX4_canPay 23 = .ok (.iconst 0, 1) := by decide +kernel
theorem dX4_canPay_24 : decode cX4_canPay 24 = .ok (.ireturn, 1) := by decide +kernel
theorem dX4_canPay_25 : decode cX4_canPay 25 = .ok (.aload_n 0, 1) := by decide +kernel
theorem dX4_canPay_26 : decode cX4_canPay 26 = .ok (.getfield 61, 3) := by decide +kernel
theorem dX4_canPay_29 : decode cX4_canPay 29 = .ok (.iload_n 3, 1) := by decide +kernel
theorem dX4_canPay_30 : decode cX4_canPay 30 = .ok (.iadd, 1) := by decide +kernel
theorem dX4_canPay_31 : decode cX4_canPay 31 = .ok (.aload_n 0, 1) := by decide +kernel
theorem dX4_canPay_32 : decode cX4_canPay 32 = .ok (.getfield 55, 3) := by decide +kernel
theorem dX4_canPay_35 : decode cX4_canPay 35 = .ok (.if_icmp .le 12, 3) := by decide +kernel
theorem dX4_canPay_38 : decode cX4_canPay 38 = .ok (.aload_n 0, 1) := by decide +kernel
theorem dX4_canPay_39 : decode cX4_canPay 39 = .ok (.bipush 12, 2) := by decide +kernel
theorem dX4_canPay_41 : decode cX4_canPay 41 = .ok (.iload_n 1, 1) := by decide +kernel
theorem dX4_canPay_42 : decode cX4_canPay 42 = .ok (.invokevirtual 91, 3) := by decide +kernel
theorem dX4_canPay_45 : decode cX4_canPay 45 = .ok (.iconst 0, 1) := by decide +kernel
theorem dX4_canPay_46 : decode cX4_canPay 46 = .ok (.ireturn, 1) := by decide +kernel
theorem dX4_canPay_47 : decode cX4_canPay 47 = .ok (.iconst 1, 1) := by decide +kernel
theorem dX4_canPay_48 : decode cX4_canPay 48 = .ok (.ireturn, 1) := by decide +kernel
theorem dX4_pay_0 : decode cX4_pay 0 = .ok (.aload_n 0, 1) := by decide +kernel
theorem dX4_pay_1 : decode cX4_pay 1 = .ok (.iload_n 1, 1) := by decide +kernel
theorem dX4_pay_2 : decode cX4_pay 2 = .ok (.iload_n 2, 1) := by decide +kernel
theorem dX4_pay_3 : decode cX4_pay 3 = .ok (.iload_n 3, 1) := by decide +kernel
theorem dX4_pay_4 : decode cX4_pay 4 = .ok (.invokevirtual 98, 3) := by decide +kernel
theorem dX4_pay_7 : decode cX4_pay 7 = .ok (.ifCond .ne 5, 3) := by decide +kernel
theorem dX4_pay_10 : decode cX4_pay 10 = .ok (.iconst 0, 1) := by decide +kernel
theorem dX4_pay_11 : decode cX4_pay 11 = .ok (.ireturn, 1) := by decide +kernel
theorem dX4_pay_12 : decode cX4_pay 12 = .ok (.aload_n 0, 1) := by decide +kernel
theorem dX4_pay_13 : decode cX4_pay 13 = .ok (.dup, 1) := by decide +kernel
theorem dX4_pay_14 : decode cX4_pay 14 = .ok (.getfield 61, 3) := by decide +kernel
theorem dX4_pay_17 : decode cX4_pay 17 = .ok (.iload_n 3, 1) := by decide +kernel
theorem dX4_pay_18 : decode cX4_pay 18 = .ok (.iadd, 1) := by decide +kernel
theorem dX4_pay_19 : decode cX4_pay 19 = .ok (.putfield 61, 3) := by decide +kernel
theorem dX4_pay_22 : decode cX4_pay 22 = .ok (.iconst 1, 1) := by decide +kernel
theorem dX4_pay_23 : decode cX4_pay 23 = .ok (.ireturn, 1) := by decide +kernel
theorem dX4_readPack_0 : decode cX4_readPack 0 = .ok (.iload_n 3, 1) := by decide +kernel
theorem dX4_readPack_1 : decode cX4_readPack 1 = .ok (.ifCond .lt 12, 3) := by decide +kernel
theorem dX4_readPack_4 : decode cX4_readPack 4 = .ok (.iload_n 3, 1) := by decide +kernel
theorem dX4_readPack_5 : decode cX4_readPack 5 = .ok (.aload_n 0, 1) := by decide +kernel
theorem dX4_readPack_6 : decode cX4_readPack 6 = .ok (.getfield 39, 3) := by decide +kernel
theorem dX4_readPack_9 : decode cX4_readPack 9 = .ok (.arraylength, 1) := by decide +kernel
theorem dX4_readPack_10 : decode cX4_readPack 10 = .ok (.if_icmp .lt 11, 3) := by decide +kernel
theorem dX4_readPack_13 : decode cX4_readPack 13 = .ok (.aload_n 0, 1) := by decide +kernel
theorem dX4_readPack_14 : decode cX4_readPack 14 = .ok (.bipush 13, 2) := by decide +kernel
theorem dX4_readPack_16 : decode cX4_readPack 16 = .ok (.iload_n 1, 1) := by decide +kernel
theorem dX4_readPack_17 : decode cX4_readPack 17 = .ok (.invokevirtual 91, 3) := by decide +kernel
theorem dX4_readPack_20 : decode cX4_readPack 20 = .ok (.return_, 1) := by decide +kernel
theorem dX4_readPack_21 : decode cX4_readPack 21 = .ok (.aload_n 0, 1) := by decide +kernel
theorem dX4_readPack_22 : decode cX4_readPack 22 = .ok (.iload_n 1, 1) := by decide +kernel
theorem dX4_readPack_23 : decode cX4_readPack 23 = .ok (.iconst 0, 1) := by decide +kernel
theorem dX4_readPack_24 : decode cX4_readPack 24 = .ok (.iconst 4, 1) := by decide +kernel
theorem dX4_readPack_25 : decode cX4_readPack 25 = .ok (.invokevirtual 102, 3) := by decide +kernel
theorem dX4_readPack_28 : decode cX4_readPack 28 = .ok (.ifCond .ne 4, 3) := by decide +kernel
theorem dX4_readPack_31 : decode cX4_readPack 31 = .ok (.return_, 1) := by decide +kernel
theorem dX4_readPack_32 : decode cX4_readPack 32 = .ok (.aload_n 0, 1) := by decide +kernel
theorem dX4_readPack_33 : decode cX4_readPack 33 = .ok (.dup, 1) := by decide +kernel
theorem dX4_readPack_34 : decode cX4_readPack 34 = .ok (.getfield 67, 3) := by decide +kernel
theorem dX4_readPack_37 : decode cX4_readPack 37 = .ok (.iconst 1, 1) := by decide +kernel
theorem dX4_readPack_38 : decode cX4_readPack 38 = .ok (.iadd, 1) := by decide +kernel
theorem dX4_readPack_39 : decode cX4_readPack 39 = .ok (.putfield 67, 3) := by decide +kernel
theorem dX4_readPack_42 : decode cX4_readPack 42 = .ok (.aload_n 0, 1) := by decide +kernel
theorem dX4_readPack_43 : decode cX4_readPack 43 = .ok (.aload_n 0, 1) := by decide +kernel
theorem dX4_readPack_44 : decode cX4_readPack 44 = .ok (.getfield 64, 3) := by decide +kernel
theorem dX4_readPack_47 : decode cX4_readPack 47 = .ok (.iload_n 3, 1) := by decide +kernel
theorem dX4_readPack_48 : decode cX4_readPack 48 = .ok (.invokestatic 105, 3) := by decide +kernel
theorem dX4_readPack_51 : decode cX4_readPack 51 = .ok (.putfield 64, 3) := by decide +kernel
theorem dX4_readPack_54 : decode cX4_readPack 54 = .ok (.aload_n 0, 1) := by decide +kernel
theorem dX4_readPack_55 : decode cX4_readPack 55 = .ok (.getfield 39, 3) := by decide +kernel
theorem dX4_readPack_58 : decode cX4_readPack 58 = .ok (.iload_n 3, 1) := by decide +kernel
theorem dX4_readPack_59 : decode cX4_readPack 59 = .ok (.aaload, 1) := by decide +kernel
theorem dX4_readPack_60 : decode cX4_readPack 60 = .ok (.astore 5, 2) := by decide +kernel
theorem dX4_readPack_62 : decode cX4_readPack 62 = .ok (.aload 5, 2) := by decide +kernel
theorem dX4_readPack_64 : decode cX4_readPack 64 = .ok (.iload_n 1, 1) := by decide +kernel
theorem dX4_readPack_65 : decode cX4_readPack 65 = .ok (.iload_n 2, 1) := by decide +kernel
theorem dX4_readPack_66 : decode cX4_readPack 66 = .ok (.aload_n 0, 1) := by decide +kernel
theorem dX4_readPack_67 : decode cX4_readPack 67 = .ok (.getfield 20, 3) := by decide +kernel
theorem dX4_readPack_70 : decode cX4_readPack 70 = .ok (.getfield 83, 3) := by decide +kernel
theorem dX4_readPack_73 : decode cX4_readPack 73 = .ok (.iload 4, 2) := by decide +kernel
theorem dX4_readPack_75 : decode cX4_readPack 75 = .ok (.invokevirtual 111, 3) := by decide +kernel
theorem dX4_readPack_78 : decode cX4_readPack 78 = .ok (.aload_n 0, 1) := by decide +kernel
theorem dX4_readPack_79 : decode cX4_readPack 79 = .ok (.iload_n 1, 1) := by decide +kernel
theorem dX4_readPack_80 : decode cX4_readPack 80 = .ok (.putfield 88, 3) := by decide +kernel
theorem dX4_readPack_83 : decode cX4_readPack 83 = .ok (.aload_n 0, 1) := by decide +kernel
theorem dX4_readPack_84 : decode cX4_readPack 84 = .ok (.bipush 80, 2) := by decide +kernel
theorem dX4_readPack_86 : decode cX4_readPack 86 = .ok (.iload_n 2, 1) := by decide +kernel
theorem dX4_readPack_87 : decode cX4_readPack 87 = .ok (.invokevirtual 114, 3) := by decide +kernel
theorem dX4_readPack_90 : decode cX4_readPack 90 = .ok (.aload_n 0, 1) := by decide +kernel
theorem dX4_readPack_91 : decode cX4_readPack 91 = .ok (.bipush 75, 2) := by decide +kernel
theorem dX4_readPack_93 : decode cX4_readPack 93 = .ok (.iload_n 2, 1) := by decide +kernel
theorem dX4_readPack_94 : decode cX4_readPack 94 = .ok (.invokevirtual 114, 3) := by decide +kernel
theorem dX4_readPack_97 : decode cX4_readPack 97 = .ok (.iconst 0, 1) := by decide +kernel
theorem dX4_readPack_98 : decode cX4_readPack 98 = .ok (.istore 6, 2) := by decide +kernel
theorem dX4_readPack_100 : decode cX4_readPack 100 = .ok (.iload 6, 2) := by decide +kernel
theorem dX4_readPack_102 : decode cX4_readPack 102 = .ok (.sipush 1200, 3) := by decide +kernel
theorem dX4_readPack_105 : decode cX4_readPack 105 = .ok (.if_icmp .gt 58, 3) := by decide +kernel
theorem dX4_readPack_108 : decode cX4_readPack 108 = .ok (.aload_n 0, 1) := by decide +kernel
theorem dX4_readPack_109 : decode cX4_readPack 109 = .ok (.getfield 70, 3) := by decide +kernel
theorem dX4_readPack_112 : decode cX4_readPack 112 = .ok (.ifCond .ne 51, 3) := by decide +kernel
theorem dX4_readPack_115 : decode cX4_readPack 115 = .ok (.aload_n 0, 1) := by decide +kernel
theorem dX4_readPack_116 : decode cX4_readPack 116 = .ok (.getfield 88, 3) := by decide +kernel
theorem dX4_readPack_119 : decode cX4_readPack 119 = .ok (.istore 7, 2) := by decide +kernel
theorem dX4_readPack_121 : decode cX4_readPack 121 = .ok (.aload_n 0, 1) := by decide +kernel
theorem dX4_readPack_122 : decode cX4_readPack 122 = .ok (.iload_n 2, 1) := by decide +kernel
theorem dX4_readPack_123 : decode cX4_readPack 123 = .ok (.invokevirtual 117, 3) := by decide +kernel
theorem dX4_readPack_126 : decode cX4_readPack 126 = .ok (.istore 8, 2) := by decide +kernel
theorem dX4_readPack_128 : decode cX4_readPack 128 = .ok (.iload 8, 2) := by decide +kernel
theorem dX4_readPack_130 : decode cX4_readPack 130 = .ok (.ifCond .ne 10, 3) := by decide +kernel
theorem dX4_readPack_133 : decode cX4_readPack 133 = .ok (.aload_n 0, 1) := by decide +kernel
theorem dX4_readPack_134 : decode cX4_readPack 134 = .ok (.aload 5, 2) := by decide +kernel
theorem dX4_readPack_136 : decode cX4_readPack 136 = .ok (.invokevirtual 120, 3) := by decide +kernel
theorem dX4_readPack_139 : decode cX4_readPack 139 = .ok (.return_, 1) := by decide +kernel
theorem dX4_readPack_140 : decode cX4_readPack 140 = .ok (.iload 8, 2) := by decide +kernel
theorem dX4_readPack_142 : decode cX4_readPack 142 = .ok (.iconst (-1), 1) := by decide +kernel
theorem dX4_readPack_143 : decode cX4_readPack 143 = .ok (.if_icmp .eq 14, 3) := by decide +kernel
theorem dX4_readPack_146 : decode cX4_readPack 146 = .ok (.aload_n 0, 1) := by decide +kernel
theorem dX4_readPack_147 : decode cX4_readPack 147 = .ok (.iload 8, 2) := by decide +kernel
theorem dX4_readPack_149 : decode cX4_readPack 149 = .ok (.iload 7, 2) := by decide +kernel
theorem dX4_readPack_151 : decode cX4_readPack 151 = .ok (.aload 5, 2) := by decide +kernel
theorem dX4_readPack_153 : decode cX4_readPack 153 = .ok (.iload_n 3, 1) := by decide +kernel
theorem dX4_readPack_154 : decode cX4_readPack 154 = .ok (.invokevirtual 124, 3) := by decide +kernel
theorem dX4_readPack_157 : decode cX4_readPack 157 = .ok (.iinc 6 1, 3) := by decide +kernel
theorem dX4_readPack_160 : decode cX4_readPack 160 = .ok (.goto (-60), 3) := by decide +kernel
theorem dX4_readPack_163 : decode cX4_readPack 163 = .ok (.return_, 1) := by decide +kernel
theorem dX4_readMark_0 : decode cX4_readMark 0 = .ok (.aload_n 0, 1) := by decide +kernel
theorem dX4_readMark_1 : decode cX4_readMark 1 = .ok (.getfield 70, 3) := by decide +kernel
theorem dX4_readMark_4 : decode cX4_readMark 4 = .ok (.ifCond .eq 4, 3) := by decide +kernel
theorem dX4_readMark_7 : decode cX4_readMark 7 = .ok (.return_, 1) := by decide +kernel
theorem dX4_readMark_8 : decode cX4_readMark 8 = .ok (.aload_n 0, 1) := by decide +kernel
theorem dX4_readMark_9 : decode cX4_readMark 9 = .ok (.iload_n 2, 1) := by decide +kernel
theorem dX4_readMark_10 : decode cX4_readMark 10 = .ok (.invokevirtual 117, 3) := by decide +kernel
theorem dX4_readMark_13 : decode cX4_readMark 13 = .ok (.istore_n 3, 1) := by decide +kernel
theorem dX4_readMark_14 : decode cX4_readMark 14 = .ok (.iload_n 3, 1) := by decide +kernel
theorem dX4_readMark_15 : decode cX4_readMark 15 = .ok (.iconst (-1), 1) := by decide +kernel
theorem dX4_readMark_16 : decode cX4_readMark 16 = .ok (.if_icmp .eq 19, 3) := by decide +kernel
theorem dX4_readMark_19 : decode cX4_readMark 19 = .ok (.iload_n 3, 1) := by decide +kernel
theorem dX4_readMark_20 : decode cX4_readMark 20 = .ok (.iload_n 1, 1) := by decide +kernel
theorem dX4_readMark_21 : decode cX4_readMark 21 = .ok (.if_icmp .eq 14, 3) := by decide +kernel
theorem dX4_readMark_24 : decode cX4_readMark 24 = .ok (.aload_n 0, 1) := by decide +kernel
theorem dX4_readMark_25 : decode cX4_readMark 25 = .ok (.iconst 1, 1) := by decide +kernel
theorem dX4_readMark_26 : decode cX4_readMark 26 = .ok (.aload_n 0, 1) := by decide +kernel
theorem dX4_readMark_27 : decode cX4_readMark 27 = .ok (.getfield 88, 3) := by decide +kernel
theorem dX4_readMark_30 : decode cX4_readMark 30 = .ok (.iconst 1, 1) := by decide +kernel
theorem dX4_readMark_31 : decode cX4_readMark 31 = .ok (.isub, 1) := by decide +kernel
theorem dX4_readMark_32 : decode cX4_readMark 32 = .ok (.invokevirtual 91, 3) := by decide +kernel
theorem dX4_readMark_35 : decode cX4_readMark 35 = .ok (.return_, 1) := by decide +kernel
theorem dX4_readCheck_0 : decode cX4_readCheck 0 = .ok (.aload_n 0, 1) := by decide +kernel
theorem dX4_readCheck_1 : decode cX4_readCheck 1 = .ok (.getfield 88, 3) := by decide +kernel
theorem dX4_readCheck_4 : decode cX4_readCheck 4 = .ok (.istore_n 2, 1) := by decide +kernel
theorem dX4_readCheck_5 : decode cX4_readCheck 5 = .ok (.aload_n 0, 1) := by decide +kernel
theorem dX4_readCheck_6 : decode cX4_readCheck 6 = .ok (.aload_n 1, 1) := by decide +kernel
theorem dX4_readCheck_7 : decode cX4_readCheck 7 = .ok (.getfield 128, 3) := by decide +kernel
theorem dX4_readCheck_10 : decode cX4_readCheck 10 = .ok (.invokevirtual 117, 3) := by decide +kernel
theorem dX4_readCheck_13 : decode cX4_readCheck 13 = .ok (.istore_n 3, 1) := by decide +kernel
theorem dX4_readCheck_14 : decode cX4_readCheck 14 = .ok (.iload_n 3, 1) := by decide +kernel
theorem dX4_readCheck_15 : decode cX4_readCheck 15 = .ok (.iconst (-1), 1) := by decide +kernel
theorem dX4_readCheck_16 : decode cX4_readCheck 16 = .ok (.if_icmp .ne 4, 3) := by decide +kernel
theorem dX4_readCheck_19 : decode cX4_readCheck 19 = .ok (.return_, 1) := by decide +kernel
theorem dX4_readCheck_20 : decode cX4_readCheck 20 = .ok (.iload_n 3, 1) := by decide +kernel
theorem dX4_readCheck_21 : decode cX4_readCheck 21 = .ok (.aload_n 0, 1) := by decide +kernel
theorem dX4_readCheck_22 : decode cX4_readCheck 22 = .ok (.getfield 9, 3) := by decide +kernel
theorem dX4_readCheck_25 : decode cX4_readCheck 25 = .ok (.aload_n 1, 1) := by decide +kernel
theorem dX4_readCheck_26 : decode cX4_readCheck 26 = .ok (.getfield 131, 3) := by decide +kernel
theorem dX4_readCheck_29 : decode cX4_readCheck 29 = .ok (.iload_n 2, 1) := by decide +kernel
theorem dX4_readCheck_30 : decode cX4_readCheck 30 = .ok (.invokevirtual 134, 3) := by decide +kernel
theorem dX4_readCheck_33 : decode cX4_readCheck 33 = .ok (.if_icmp .eq 13, 3) := by decide +kernel
theorem dX4_readCheck_36 : decode cX4_readCheck 36 = .ok (.aload_n 0, 1) := by decide +kernel
theorem dX4_readCheck_37 : decode cX4_readCheck 37 = .ok (.bipush 9, 2) := by decide +kernel
theorem dX4_readCheck_39 : decode cX4_readCheck 39 = .ok (.iload_n 2, 1) := by decide +kernel
theorem dX4_readCheck_40 : decode cX4_readCheck 40 = .ok (.invokevirtual 91, 3) := by decide +kernel
theorem dX4_readCheck_43 : decode cX4_readCheck 43 = .ok (.goto 24, 3) := by decide +kernel
theorem dX4_readCheck_46 : decode cX4_readCheck 46 = .ok (.aload_n 0, 1) := by decide +kernel
theorem dX4_readCheck_47 : decode cX4_readCheck 47 = .ok (.getfield 88, 3) := by decide +kernel
theorem dX4_readCheck_50 : decode cX4_readCheck 50 = .ok (.aload_n 1, 1) := by decide +kernel
theorem dX4_readCheck_51 : decode cX4_readCheck 51 = .ok (.getfield 128, 3) := by decide +kernel
theorem dX4_readCheck_54 : decode cX4_readCheck 54 = .ok (.if_icmp .ge 13, 3) := by decide +kernel
theorem dX4_readCheck_57 : decode cX4_readCheck 57 = .ok (.aload_n 0, 1) := by decide +kernel
theorem dX4_readCheck_58 : decode cX4_readCheck 58 = .ok (.bipush 10, 2) := by decide +kernel
theorem dX4_readCheck_60 : decode cX4_readCheck 60 = .ok (.aload_n 0, 1) := by decide +kernel
theorem dX4_readCheck_61 : decode cX4_readCheck 61 = .ok (.getfield 88, 3) := by decide +kernel
theorem dX4_readCheck_64 : decode cX4_readCheck 64 = .ok (.invokevirtual 91, 3) := by decide +kernel
theorem dX4_readCheck_67 : decode cX4_readCheck 67 = .ok (.return_, 1) := by decide +kernel
theorem dX4_readItem_0 : decode cX4_readItem 0 = .ok (.aload_n 0, 1) := by decide +kernel
theorem dX4_readItem_1 : decode cX4_readItem 1 = .ok (.getfield 20, 3) := by decide +kernel
theorem dX4_readItem_4 : decode cX4_readItem 4 = .ok (.getfield 83, 3) := by decide +kernel
theorem dX4_readItem_7 : decode cX4_readItem 7 = .ok (.istore 5, 2) := by decide +kernel
theorem dX4_readItem_9 : decode cX4_readItem 9 = .ok (.aload_n 0, 1) := by decide +kernel
theorem dX4_readItem_10 : decode cX4_readItem 10 = .ok (.getfield 61, 3) := by decide +kernel
theorem dX4_readItem_13 : decode cX4_readItem 13 = .ok (.istore 6, 2) := by decide +kernel
theorem dX4_readItem_15 : decode cX4_readItem 15 = .ok (.iload_n 1, 1) := by decide +kernel
theorem dX4_readItem_16 : decode cX4_readItem 16 = .ok (.tableswitch 129 1 7 #[44, 56, 68, 77, 88, 100, 109], 44) := by decide +kernel
theorem dX4_readItem_60 : decode cX4_readItem 60 = .ok (.aload_n 0, 1) := by decide +kernel
theorem dX4_readItem_61 : decode cX4_readItem 61 = .ok (.iload_n 2, 1) := by decide +kernel
theorem dX4_readItem_62 : decode cX4_readItem 62 = .ok (.aload_n 3, 1) := by decide +kernel
theorem dX4_readItem_63 : decode cX4_readItem 63 = .ok (.getfield 128, 3) := by decide +kernel
theorem dX4_readItem_66 : decode cX4_readItem 66 = .ok (.invokevirtual 137, 3) := by decide +kernel
theorem dX4_readItem_69 : decode cX4_readItem 69 = .ok (.goto 82, 3) := by decide +kernel
theorem dX4_readItem_72 : decode cX4_readItem 72 = .ok (.aload_n 0, 1) := by decide +kernel
theorem dX4_readItem_73 : decode cX4_readItem 73 = .ok (.iload_n 2, 1) := by decide +kernel
theorem dX4_readItem_74 : decode cX4_readItem 74 = .ok (.aload_n 3, 1) := by decide +kernel
theorem dX4_readItem_75 : decode cX4_readItem 75 = .ok (.getfield 128, 3) := by decide +kernel
theorem dX4_readItem_78 : decode cX4_readItem 78 = .ok (.invokevirtual 140, 3) := by decide +kernel
theorem dX4_readItem_81 : decode cX4_readItem 81 = .ok (.goto 70, 3) := by decide +kernel
theorem dX4_readItem_84 : decode cX4_readItem 84 = .ok (.aload_n 0, 1) := by decide +kernel
theorem dX4_readItem_85 : decode cX4_readItem 85 = .ok (.iload_n 2, 1) := by decide +kernel
theorem dX4_readItem_86 : decode cX4_readItem 86 = .ok (.aload_n 3, 1) := by decide +kernel
theorem dX4_readItem_87 : decode cX4_readItem 87 = .ok (.invokevirtual 143, 3) := by decide +kernel
theorem dX4_readItem_90 : decode cX4_readItem 90 = .ok (.goto 61, 3) := by decide +kernel
theorem dX4_readItem_93 : decode cX4_readItem 93 = .ok (.aload_n 0, 1) := by decide +kernel
theorem dX4_readItem_94 : decode cX4_readItem 94 = .ok (.iload_n 2, 1) := by decide +kernel
theorem dX4_readItem_95 : decode cX4_readItem 95 = .ok (.aload_n 3, 1) := by decide +kernel
theorem dX4_readItem_96 : decode cX4_readItem 96 = .ok (.iload 4, 2) := by decide +kernel
theorem dX4_readItem_98 : decode cX4_readItem 98 = .ok (.invokevirtual 147, 3) := by decide +kernel
theorem dX4_readItem_101 : decode cX4_readItem 101 = .ok (.goto 50, 3) := by decide +kernel
theorem dX4_readItem_104 : decode cX4_readItem 104 = .ok (.aload_n 0, 1) := by decide +kernel
theorem dX4_readItem_105 : decode cX4_readItem 105 = .ok (.iload_n 2, 1) := by decide +kernel
theorem dX4_readItem_106 : decode cX4_readItem 106 = .ok (.aload_n 3, 1) := by decide +kernel
theorem dX4_readItem_107 : decode cX4_readItem 107 = .ok (.getfield 128, 3) := by decide +kernel
theorem dX4_readItem_110 : decode cX4_readItem 110 = .ok (.invokevirtual 151, 3) := by decide +kernel
theorem dX4_readItem_113 : decode cX4_readItem 113 = .ok (.goto 38, 3) := by decide +kernel
theorem dX4_readItem_116 : decode cX4_readItem 116 = .ok (.aload_n 0, 1) := by decide +kernel
theorem dX4_readItem_117 : decode cX4_readItem 117 = .ok (.iload_n 2, 1) := by decide +kernel
theorem dX4_readItem_118 : decode cX4_readItem 118 = .ok (.aload_n 3, 1) := by decide +kernel
theorem dX4_readItem_119 : decode cX4_readItem 119 = .ok (.invokevirtual 154, 3) := by decide +kernel
theorem dX4_readItem_122 : decode cX4_readItem 122 = .ok (.goto 29, 3) := by decide +kernel
theorem dX4_readItem_125 : decode cX4_readItem 125 = .ok (.aload_n 0, 1) := by decide +kernel
theorem dX4_readItem_126 : decode cX4_readItem 126 = .ok (.aload_n 0, 1) := by decide +kernel
theorem dX4_readItem_127 : decode cX4_readItem 127 = .ok (.iload_n 2, 1) := by decide +kernel
theorem dX4_readItem_128 : decode cX4_readItem 128 = .ok (.aload_n 3, 1) := by decide +kernel
theorem dX4_readItem_129 : decode cX4_readItem 129 = .ok (.getfield 128, 3) := by decide +kernel
theorem dX4_readItem_132 : decode cX4_readItem 132 = .ok (.invokevirtual 157, 3) := by decide +kernel
theorem dX4_readItem_135 : decode cX4_readItem 135 = .ok (.aload_n 3, 1) := by decide +kernel
theorem dX4_readItem_136 : decode cX4_readItem 136 = .ok (.getfield 128, 3) := by decide +kernel
theorem dX4_readItem_139 : decode cX4_readItem 139 = .ok (.invokevirtual 160, 3) := by decide +kernel
theorem dX4_readItem_142 : decode cX4_readItem 142 = .ok (.goto 9, 3) := by decide +kernel
theorem dX4_readItem_145 : decode cX4_readItem 145 = .ok (.aload_n 0, 1) := by decide +kernel
theorem dX4_readItem_146 : decode cX4_readItem 146 = .ok (.iconst 2, 1) := by decide +kernel
theorem dX4_readItem_147 : decode cX4_readItem 147 = .ok (.iload_n 2, 1) := by decide +kernel
theorem dX4_readItem_148 : decode cX4_readItem 148 = .ok (.invokevirtual 91, 3) := by decide +kernel
theorem dX4_readItem_151 : decode cX4_readItem 151 = .ok (.aload_n 0, 1) := by decide +kernel
theorem dX4_readItem_152 : decode cX4_readItem 152 = .ok (.getfield 70, 3) := by decide +kernel
theorem dX4_readItem_155 : decode cX4_readItem 155 = .ok (.ifCond .eq 4, 3) := by decide +kernel
theorem dX4_readItem_158 : decode cX4_readItem 158 = .ok (.return_, 1) := by decide +kernel
theorem dX4_readItem_159 : decode cX4_readItem 159 = .ok (.aload_n 3, 1) := by decide +kernel
theorem dX4_readItem_160 : decode cX4_readItem 160 = .ok (.getfield 163, 3) := by decide +kernel
theorem dX4_readItem_163 : decode cX4_readItem 163 = .ok (.aload_n 3, 1) := by decide +kernel
theorem dX4_readItem_164 : decode cX4_readItem 164 = .ok (.getfield 166, 3) := by decide +kernel
theorem dX4_readItem_167 : decode cX4_readItem 167 = .ok (.iadd, 1) := by decide +kernel
theorem dX4_readItem_168 : decode cX4_readItem 168 = .ok (.istore 7, 2) := by decide +kernel
theorem dX4_readItem_170 : decode cX4_readItem 170 = .ok (.iload 7, 2) := by decide +kernel
theorem dX4_readItem_172 : decode cX4_readItem 172 = .ok (.ifCond .lt 27, 3) := by decide +kernel
theorem dX4_readItem_175 : decode cX4_readItem 175 = .ok (.iload 7, 2) := by decide +kernel
theorem dX4_readItem_177 : decode cX4_readItem 177 = .ok (.aload_n 0, 1) := by decide +kernel
theorem dX4_readItem_178 : decode cX4_readItem 178 = .ok (.getfield 44, 3) := by decide +kernel
theorem dX4_readItem_181 : decode cX4_readItem 181 = .ok (.arraylength, 1) := by decide +kernel
theorem dX4_readItem_182 : decode cX4_readItem 182 = .ok (.if_icmp .ge 17, 3) := by decide +kernel
theorem dX4_readItem_185 : decode cX4_readItem 185 = .ok (.aload_n 0, 1) := by decide +kernel
theorem dX4_readItem_186 : decode cX4_readItem 186 = .ok (.getfield 44, 3) := by decide +kernel
theorem dX4_readItem_189 : decode cX4_readItem 189 = .ok (.iload 7, 2) := by decide +kernel
theorem dX4_readItem_191 : decode cX4_readItem 191 = .ok (.aload_n 0, 1) := by decide +kernel
theorem dX4_readItem_192 : decode cX4_readItem 192 = .ok (.getfield 20, 3) := by decide +kernel
theorem dX4_readItem_195 : decode cX4_readItem 195 = .ok (.getfield 83, 3) := by decide +kernel
theorem dX4_readItem_198 : decode cX4_readItem 198 = .ok (.iastore, 1) := by decide +kernel
theorem dX4_readItem_199 : decode cX4_readItem 199 = .ok (.aload_n 3, 1) := by decide +kernel
theorem dX4_readItem_200 : decode cX4_readItem 200 = .ok (.dup, 1) := by decide +kernel
theorem dX4_readItem_201 : decode cX4_readItem 201 = .ok (.getfield 166, 3) := by decide +kernel
theorem dX4_readItem_204 : decode cX4_readItem 204 = .ok (.iconst 1, 1) := by decide +kernel
theorem dX4_readItem_205 : decode cX4_readItem 205 = .ok (.iadd, 1) := by decide +kernel
theorem dX4_readItem_206 : decode cX4_readItem 206 = .ok (.putfield 166, 3) := by decide +kernel
theorem dX4_readItem_209 : decode cX4_readItem 209 = .ok (.iload 4, 2) := by decide +kernel
theorem dX4_readItem_211 : decode cX4_readItem 211 = .ok (.ifCond .ne 35, 3) := by decide +kernel
theorem dX4_readItem_214 : decode cX4_readItem 214 = .ok (.aload_n 0, 1) := by decide +kernel
theorem dX4_readItem_215 : decode cX4_readItem 215 = .ok (.getfield 26, 3) := by decide +kernel
theorem dX4_readItem_218 : decode cX4_readItem 218 = .ok (.iload_n 1, 1) := by decide +kernel
theorem dX4_readItem_219 : decode cX4_readItem 219 = .ok (.iload_n 2, 1) := by decide +kernel
theorem dX4_readItem_220 : decode cX4_readItem 220 = .ok (.aload_n 0, 1) := by decide +kernel
theorem dX4_readItem_221 : decode cX4_readItem 221 = .ok (.getfield 20, 3) := by decide +kernel
theorem dX4_readItem_224 : decode cX4_readItem 224 = .ok (.getfield 83, 3) := by decide +kernel
theorem dX4_readItem_227 : decode cX4_readItem 227 = .ok (.iload 5, 2) := by decide +kernel
theorem dX4_readItem_229 : decode cX4_readItem 229 = .ok (.isub, 1) := by decide +kernel
theorem dX4_readItem_230 : decode cX4_readItem 230 = .ok (.aload_n 0, 1) := by decide +kernel
theorem dX4_readItem_231 : decode cX4_readItem 231 = .ok (.getfield 61, 3) := by decide +kernel
theorem dX4_readItem_234 : decode cX4_readItem 234 = .ok (.iload 6, 2) := by decide +kernel
theorem dX4_readItem_236 : decode cX4_readItem 236 = .ok (.isub, 1) := by decide +kernel
theorem dX4_readItem_237 : decode cX4_readItem 237 = .ok (.aload_n 0, 1) := by decide +kernel
theorem dX4_readItem_238 : decode cX4_readItem 238 = .ok (.getfield 88, 3) := by decide +kernel
theorem dX4_readItem_241 : decode cX4_readItem 241 = .ok (.iload_n 2, 1) := by decide +kernel
theorem dX4_readItem_242 : decode cX4_readItem 242 = .ok (.isub, 1) := by decide +kernel
theorem dX4_readItem_243 : decode cX4_readItem 243 = .ok (.invokevirtual 168, 3) := by decide +kernel
theorem dX4_readItem_246 : decode cX4_readItem 246 = .ok (.return_, 1) := by decide +kernel
theorem dX4_readStored_0 : decode cX4_readStored 0 = .ok (.aload_n 0, 1) := by decide +kernel
theorem dX4_readStored_1 : decode cX4_readStored 1 = .ok (.iload_n 2, 1) := by decide +kernel
theorem dX4_readStored_2 : decode cX4_readStored 2 = .ok (.invokevirtual 117, 3) := by decide +kernel
theorem dX4_readStored_5 : decode cX4_readStored 5 = .ok (.istore_n 3, 1) := by decide +kernel
theorem dX4_readStored_6 : decode cX4_readStored 6 = .ok (.iload_n 3, 1) := by decide +kernel
theorem dX4_readStored_7 : decode cX4_readStored 7 = .ok (.iconst (-1), 1) := by decide +kernel
theorem dX4_readStored_8 : decode cX4_readStored 8 = .ok (.if_icmp .eq 26, 3) := by decide +kernel
theorem dX4_readStored_11 : decode cX4_readStored 11 = .ok (.aload_n 0, 1) := by decide +kernel
theorem dX4_readStored_12 : decode cX4_readStored 12 = .ok (.iload_n 3, 1) := by decide +kernel
theorem dX4_readStored_13 : decode cX4_readStored 13 = .ok (.iload_n 2, 1) := by decide +kernel
theorem dX4_readStored_14 : decode cX4_readStored 14 = .ok (.invokevirtual 172, 3) := by decide +kernel
theorem dX4_readStored_17 : decode cX4_readStored 17 = .ok (.ifCond .eq 17, 3) := by decide +kernel
theorem dX4_readStored_20 : decode cX4_readStored 20 = .ok (.aload_n 0, 1) := by decide +kernel
theorem dX4_readStored_21 : decode cX4_readStored 21 = .ok (.iload_n 1, 1) := by decide +kernel
theorem dX4_readStored_22 : decode cX4_readStored 22 = .ok (.iload_n 3, 1) := by decide +kernel
theorem dX4_readStored_23 : decode cX4_readStored 23 = .ok (.iconst 2, 1) := by decide +kernel
theorem dX4_readStored_24 : decode cX4_readStored 24 = .ok (.iload_n 3, 1) := by decide +kernel
theorem dX4_readStored_25 : decode cX4_readStored 25 = .ok (.iadd, 1) := by decide +kernel
theorem dX4_readStored_26 : decode cX4_readStored 26 = .ok (.iload_n 3, 1) := by decide +kernel
theorem dX4_readStored_27 : decode cX4_readStored 27 = .ok (.iadd, 1) := by decide +kernel
theorem dX4_readStored_28 : decode cX4_readStored 28 = .ok (.invokevirtual 102, 3) := by decide +kernel
theorem dX4_readStored_31 : decode cX4_readStored 31 = .ok (.ifCond .ne 4, 3) := by decide +kernel
theorem dX4_readStored_34 : decode cX4_readStored 34 = .ok (.return_, 1) := by decide +kernel
theorem dX4_readStored_35 : decode cX4_readStored 35 = .ok (.iconst 0, 1) := by decide +kernel
theorem dX4_readStored_36 : decode cX4_readStored 36 = .ok (.istore 4, 2) := by decide +kernel
theorem dX4_readStored_38 : decode cX4_readStored 38 = .ok (.iload 4, 2) := by decide +kernel
theorem dX4_readStored_40 : decode cX4_readStored 40 = .ok (.iload_n 3, 1) := by decide +kernel
theorem dX4_readStored_41 : decode cX4_readStored 41 = .ok (.if_icmp .ge 30, 3) := by decide +kernel
theorem dX4_readStored_44 : decode cX4_readStored 44 = .ok (.aload_n 0, 1) := by decide +kernel
theorem dX4_readStored_45 : decode cX4_readStored 45 = .ok (.getfield 20, 3) := by decide +kernel
theorem dX4_readStored_48 : decode cX4_readStored 48 = .ok (.aload_n 0, 1) := by decide +kernel
theorem dX4_readStored_49 : decode cX4_readStored 49 = .ok (.getfield 9, 3) := by decide +kernel
theorem dX4_readStored_52 : decode cX4_readStored 52 = .ok (.aload_n 0, 1) := by decide +kernel
theorem dX4_readStored_53 : decode cX4_readStored 53 = .ok (.getfield 88, 3) := by decide +kernel
theorem dX4_readStored_56 : decode cX4_readStored 56 = .ok (.iload 4, 2) := by decide +kernel
theorem dX4_readStored_58 : decode cX4_readStored 58 = .ok (.iadd, 1) := by decide +kernel
theorem dX4_readStored_59 : decode cX4_readStored 59 = .ok (.invokevirtual 94, 3) := by decide +kernel
theorem dX4_readStored_62 : decode cX4_readStored 62 = .ok (.invokevirtual 176, 3) := by decide +kernel
theorem dX4_readStored_65 : decode cX4_readStored 65 = .ok (.iinc 4 1, 3) := by decide +kernel
theorem dX4_readStored_68 : decode cX4_readStored 68 = .ok (.goto (-30), 3) := by decide +kernel
theorem dX4_readStored_71 : decode cX4_readStored 71 = .ok (.aload_n 0, 1) := by decide +kernel
theorem dX4_readStored_72 : decode cX4_readStored 72 = .ok (.dup, 1) := by decide +kernel
theorem dX4_readStored_73 : decode cX4_readStored 73 = .ok (.getfield 88, 3) := by decide +kernel
theorem dX4_readStored_76 : decode cX4_readStored 76 = .ok (.iload_n 3, 1) := by decide +kernel
theorem dX4_readStored_77 : decode cX4_readStored 77 = .ok (.iadd, 1) := by decide +kernel
theorem dX4_readStored_78 : decode cX4_readStored 78 = .ok (.putfield 88, 3) := by decide +kernel
theorem dX4_readStored_81 : decode cX4_readStored 81 = .ok (.return_, 1) := by decide +kernel
theorem dX4_readRun_0 : decode cX4_readRun 0 = .ok (.aload_n 0, 1) := by decide +kernel
theorem dX4_readRun_1 : decode cX4_readRun 1 = .ok (.iload_n 2, 1) := by decide +kernel
theorem dX4_readRun_2 : decode cX4_readRun 2 = .ok (.invokevirtual 117, 3) := by decide +kernel
theorem dX4_readRun_5 : decode cX4_readRun 5 = .ok (.istore_n 3, 1) := by decide +kernel
theorem dX4_readRun_6 : decode cX4_readRun 6 = .ok (.aload_n 0, 1) := by decide +kernel
theorem dX4_readRun_7 : decode cX4_readRun 7 = .ok (.iload_n 2, 1) := by decide +kernel
theorem dX4_readRun_8 : decode cX4_readRun 8 = .ok (.invokevirtual 117, 3) := by decide +kernel
theorem dX4_readRun_11 : decode cX4_readRun 11 = .ok (.istore 4, 2) := by decide +kernel
theorem dX4_readRun_13 : decode cX4_readRun 13 = .ok (.iload_n 3, 1) := by decide +kernel
theorem dX4_readRun_14 : decode cX4_readRun 14 = .ok (.iconst (-1), 1) := by decide +kernel
theorem dX4_readRun_15 : decode cX4_readRun 15 = .ok (.if_icmp .eq 21, 3) := by decide +kernel
theorem dX4_readRun_18 : decode cX4_readRun 18 = .ok (.iload 4, 2) := by decide +kernel
theorem dX4_readRun_20 : decode cX4_readRun 20 = .ok (.iconst (-1), 1) := by decide +kernel
theorem dX4_readRun_21 : decode cX4_readRun 21 = .ok (.if_icmp .eq 15, 3) := by decide +kernel
theorem dX4_readRun_24 : decode cX4_readRun 24 = .ok (.aload_n 0, 1) := by decide +kernel
theorem dX4_readRun_25 : decode cX4_readRun 25 = .ok (.iload_n 1, 1) := by decide +kernel
theorem dX4_readRun_26 : decode cX4_readRun 26 = .ok (.iload_n 3, 1) := by decide +kernel
theorem dX4_readRun_27 : decode cX4_readRun 27 = .ok (.iconst 3, 1) := by decide +kernel
theorem dX4_readRun_28 : decode cX4_readRun 28 = .ok (.iload_n 3, 1) := by decide +kernel
theorem dX4_readRun_29 : decode cX4_readRun 29 = .ok (.iadd, 1) := by decide +kernel
theorem dX4_readRun_30 : decode cX4_readRun 30 = .ok (.invokevirtual 102, 3) := by decide +kernel
theorem dX4_readRun_33 : decode cX4_readRun 33 = .ok (.ifCond .ne 4, 3) := by decide +kernel
theorem dX4_readRun_36 : decode cX4_readRun 36 = .ok (.return_, 1) := by decide +kernel
theorem dX4_readRun_37 : decode cX4_readRun 37 = .ok (.iconst 0, 1) := by decide +kernel
theorem dX4_readRun_38 : decode cX4_readRun 38 = .ok (.istore 5, 2) := by decide +kernel
theorem dX4_readRun_40 : decode cX4_readRun 40 = .ok (.iload 5, 2) := by decide +kernel
theorem dX4_readRun_42 : decode cX4_readRun 42 = .ok (.iload_n 3, 1) := by decide +kernel
theorem dX4_readRun_43 : decode cX4_readRun 43 = .ok (.if_icmp .ge 18, 3) := by decide +kernel
theorem dX4_readRun_46 : decode cX4_readRun 46 = .ok (.aload_n 0, 1) := by decide +kernel
theorem dX4_readRun_47 : decode cX4_readRun 47 = .ok (.getfield 20, 3) := by decide +kernel
theorem dX4_readRun_50 : decode cX4_readRun 50 = .ok (.iload 4, 2) := by decide +kernel
theorem dX4_readRun_52 : decode cX4_readRun 52 = .ok (.invokevirtual 176, 3) := by decide +kernel
theorem dX4_readRun_55 : decode cX4_readRun 55 = .ok (.iinc 5 1, 3) := by decide +kernel
theorem dX4_readRun_58 : decode cX4_readRun 58 = .ok (.goto (-18), 3) := by decide +kernel
theorem dX4_readRun_61 : decode cX4_readRun 61 = .ok (.return_, 1) := by decide +kernel
theorem dX4_readCopy_0 : decode cX4_readCopy 0 = .ok (.aload_n 0, 1) := by decide +kernel
theorem dX4_readCopy_1 : decode cX4_readCopy 1 = .ok (.aload_n 2, 1) := by decide +kernel
theorem dX4_readCopy_2 : decode cX4_readCopy 2 = .ok (.getfield 128, 3) := by decide +kernel
theorem dX4_readCopy_5 : decode cX4_readCopy 5 = .ok (.invokevirtual 117, 3) := by decide +kernel
theorem dX4_readCopy_8 : decode cX4_readCopy 8 = .ok (.istore_n 3, 1) := by decide +kernel
theorem dX4_readCopy_9 : decode cX4_readCopy 9 = .ok (.iload_n 3, 1) := by decide +kernel
theorem dX4_readCopy_10 : decode cX4_readCopy 10 = .ok (.iconst (-1), 1) := by decide +kernel
theorem dX4_readCopy_11 : decode cX4_readCopy 11 = .ok (.if_icmp .ne 4, 3) := by decide +kernel
theorem dX4_readCopy_14 : decode cX4_readCopy 14 = .ok (.return_, 1) := by decide +kernel
theorem dX4_readCopy_15 : decode cX4_readCopy 15 = .ok (.iload_n 3, 1) := by decide +kernel
theorem dX4_readCopy_16 : decode cX4_readCopy 16 = .ok (.ifCond .eq 19, 3) := by decide +kernel
theorem dX4_readCopy_19 : decode cX4_readCopy 19 = .ok (.iload_n 3, 1) := by decide +kernel
theorem dX4_readCopy_20 : decode cX4_readCopy 20 = .ok (.aload_n 0, 1) := by decide +kernel
theorem dX4_readCopy_21 : decode cX4_readCopy 21 = .ok (.getfield 20, 3) := by decide +kernel
theorem dX4_readCopy_24 : decode cX4_readCopy 24 = .ok (.getfield 83, 3) := by decide +kernel
theorem dX4_readCopy_27 : decode cX4_readCopy 27 = .ok (.aload_n 2, 1) := by decide +kernel
theorem dX4_readCopy_28 : decode cX4_readCopy 28 = .ok (.getfield 178, 3) := by decide +kernel
theorem dX4_readCopy_31 : decode cX4_readCopy 31 = .ok (.isub, 1) := by decide +kernel
theorem dX4_readCopy_32 : decode cX4_readCopy 32 = .ok (.if_icmp .le 15, 3) := by decide +kernel
theorem dX4_readCopy_35 : decode cX4_readCopy 35 = .ok (.aload_n 0, 1) := by decide +kernel
theorem dX4_readCopy_36 : decode cX4_readCopy 36 = .ok (.iconst 4, 1) := by decide +kernel
theorem dX4_readCopy_37 : decode cX4_readCopy 37 = .ok (.aload_n 0, 1) := by decide +kernel
theorem dX4_readCopy_38 : decode cX4_readCopy 38 = .ok (.getfield 88, 3) := by decide +kernel
theorem dX4_readCopy_41 : decode cX4_readCopy 41 = .ok (.iconst 1, 1) := by decide +kernel
theorem dX4_readCopy_42 : decode cX4_readCopy 42 = .ok (.isub, 1) := by decide +kernel
theorem dX4_readCopy_43 : decode cX4_readCopy 43 = .ok (.invokevirtual 91, 3) := by decide +kernel
theorem dX4_readCopy_46 : decode cX4_readCopy 46 = .ok (.return_, 1) := by decide +kernel
theorem dX4_readCopy_47 : decode cX4_readCopy 47 = .ok (.aload_n 0, 1) := by decide +kernel
theorem dX4_readCopy_48 : decode cX4_readCopy 48 = .ok (.aload_n 2, 1) := by decide +kernel
theorem dX4_readCopy_49 : decode cX4_readCopy 49 = .ok (.getfield 128, 3) := by decide +kernel
theorem dX4_readCopy_52 : decode cX4_readCopy 52 = .ok (.invokevirtual 117, 3) := by decide +kernel
theorem dX4_readCopy_55 : decode cX4_readCopy 55 = .ok (.istore 4, 2) := by decide +kernel
theorem dX4_readCopy_57 : decode cX4_readCopy 57 = .ok (.iload 4, 2) := by decide +kernel
theorem dX4_readCopy_59 : decode cX4_readCopy 59 = .ok (.iconst (-1), 1) := by decide +kernel
theorem dX4_readCopy_60 : decode cX4_readCopy 60 = .ok (.if_icmp .eq 17, 3) := by decide +kernel
theorem dX4_readCopy_63 : decode cX4_readCopy 63 = .ok (.aload_n 0, 1) := by decide +kernel
theorem dX4_readCopy_64 : decode cX4_readCopy 64 = .ok (.iload_n 1, 1) := by decide +kernel
theorem dX4_readCopy_65 : decode cX4_readCopy 65 = .ok (.iload 4, 2) := by decide +kernel
theorem dX4_readCopy_67 : decode cX4_readCopy 67 = .ok (.iconst 3, 1) := by decide +kernel
theorem dX4_readCopy_68 : decode cX4_readCopy 68 = .ok (.iload 4, 2) := by decide +kernel
theorem dX4_readCopy_70 : decode cX4_readCopy 70 = .ok (.iadd, 1) := by decide +kernel
theorem dX4_readCopy_71 : decode cX4_readCopy 71 = .ok (.invokevirtual 102, 3) := by decide +kernel
theorem dX4_readCopy_74 : decode cX4_readCopy 74 = .ok (.ifCond .ne 4, 3) := by decide +kernel
theorem dX4_readCopy_77 : decode cX4_readCopy 77 = .ok (.return_, 1) := by decide +kernel
theorem dX4_readCopy_78 : decode cX4_readCopy 78 = .ok (.iconst 0, 1) := by decide +kernel
theorem dX4_readCopy_79 : decode cX4_readCopy 79 = .ok (.istore 5, 2) := by decide +kernel
theorem dX4_readCopy_81 : decode cX4_readCopy 81 = .ok (.iload 5, 2) := by decide +kernel
theorem dX4_readCopy_83 : decode cX4_readCopy 83 = .ok (.iload 4, 2) := by decide +kernel
theorem dX4_readCopy_85 : decode cX4_readCopy 85 = .ok (.if_icmp .ge 32, 3) := by decide +kernel
theorem dX4_readCopy_88 : decode cX4_readCopy 88 = .ok (.aload_n 0, 1) := by decide +kernel
theorem dX4_readCopy_89 : decode cX4_readCopy 89 = .ok (.getfield 20, 3) := by decide +kernel
theorem dX4_readCopy_92 : decode cX4_readCopy 92 = .ok (.aload_n 0, 1) := by decide +kernel
theorem dX4_readCopy_93 : decode cX4_readCopy 93 = .ok (.getfield 20, 3) := by decide +kernel
theorem dX4_readCopy_96 : decode cX4_readCopy 96 = .ok (.aload_n 0, 1) := by decide +kernel
theorem dX4_readCopy_97 : decode cX4_readCopy 97 = .ok (.getfield 20, 3) := by decide +kernel
theorem dX4_readCopy_100 : decode cX4_readCopy 100 = .ok (.getfield 83, 3) := by decide +kernel
theorem dX4_readCopy_103 : decode cX4_readCopy 103 = .ok (.iload_n 3, 1) := by decide +kernel
theorem dX4_readCopy_104 : decode cX4_readCopy 104 = .ok (.isub, 1) := by decide +kernel
theorem dX4_readCopy_105 : decode cX4_readCopy 105 = .ok (.invokevirtual 94, 3) := by decide +kernel
theorem dX4_readCopy_108 : decode cX4_readCopy 108 = .ok (.invokevirtual 176, 3) := by decide +kernel
theorem dX4_readCopy_111 : decode cX4_readCopy 111 = .ok (.iinc 5 1, 3) := by decide +kernel
theorem dX4_readCopy_114 : decode cX4_readCopy 114 = .ok (.goto (-33), 3) := by decide +kernel
theorem dX4_readCopy_117 : decode cX4_readCopy 117 = .ok (.return_, 1) := by decide +kernel
theorem dX4_readNest_0 : decode cX4_readNest 0 = .ok (.aload_n 0, 1) := by decide +kernel
theorem dX4_readNest_1 : decode cX4_readNest 1 = .ok (.aload_n 2, 1) := by decide +kernel
theorem dX4_readNest_2 : decode cX4_readNest 2 = .ok (.getfield 128, 3) := by decide +kernel
theorem dX4_readNest_5 : decode cX4_readNest 5 = .ok (.invokevirtual 117, 3) := by decide +kernel
theorem dX4_readNest_8 : decode cX4_readNest 8 = .ok (.istore 4, 2) := by decide +kernel
theorem dX4_readNest_10 : decode cX4_readNest 10 = .ok (.aload_n 0, 1) := by decide +kernel
theorem dX4_readNest_11 : decode cX4_readNest 11 = .ok (.aload_n 2, 1) := by decide +kernel
theorem dX4_readNest_12 : decode cX4_readNest 12 = .ok (.getfield 128, 3) := by decide +kernel
theorem dX4_readNest_15 : decode cX4_readNest 15 = .ok (.invokevirtual 117, 3) := by decide +kernel
end
section
theorem dX4_readNest_18 : decode cX4_readNest 18 = .ok (.istore 5, 2) := by decide +kernel
theorem dX4_readNest_20 : decode cX4_readNest 20 = .ok (.iload 4, 2) := by decide +kernel
theorem dX4_readNest_22 : decode cX4_readNest 22 = .ok (.iconst (-1), 1) := by decide +kernel
theorem dX4_readNest_23 : decode cX4_readNest 23 = .ok (.if_icmp .eq 9, 3) := by decide +kernel
theorem dX4_readNest_26 : decode cX4_readNest 26 = .ok (.iload 5, 2) := by decide +kernel
theorem dX4_readNest_28 : decode cX4_readNest 28 = .ok (.iconst (-1), 1) := by decide +kernel
theorem dX4_readNest_29 : decode cX4_readNest 29 = .ok (.if_icmp .ne 4, 3) := by decide +kernel
theorem dX4_readNest_32 : decode cX4_readNest 32 = .ok (.return_, 1) := by decide +kernel
theorem dX4_readNest_33 : decode cX4_readNest 33 = .ok (.sipush 256, 3) := by decide +kernel
theorem dX4_readNest_36 : decode cX4_readNest 36 = .ok (.iload 4, 2) := by decide +kernel
theorem dX4_readNest_38 : decode cX4_readNest 38 = .ok (.imul, 1) := by decide +kernel
theorem dX4_readNest_39 : decode cX4_readNest 39 = .ok (.iload 5, 2) := by decide +kernel
theorem dX4_readNest_41 : decode cX4_readNest 41 = .ok (.iadd, 1) := by decide +kernel
theorem dX4_readNest_42 : decode cX4_readNest 42 = .ok (.istore 6, 2) := by decide +kernel
theorem dX4_readNest_44 : decode cX4_readNest 44 = .ok (.aload_n 0, 1) := by decide +kernel
theorem dX4_readNest_45 : decode cX4_readNest 45 = .ok (.iload 6, 2) := by decide +kernel
theorem dX4_readNest_47 : decode cX4_readNest 47 = .ok (.aload_n 2, 1) := by decide +kernel
theorem dX4_readNest_48 : decode cX4_readNest 48 = .ok (.getfield 128, 3) := by decide +kernel
theorem dX4_readNest_51 : decode cX4_readNest 51 = .ok (.invokevirtual 172, 3) := by decide +kernel
theorem dX4_readNest_54 : decode cX4_readNest 54 = .ok (.ifCond .eq 13, 3) := by decide +kernel
theorem dX4_readNest_57 : decode cX4_readNest 57 = .ok (.aload_n 0, 1) := by decide +kernel
theorem dX4_readNest_58 : decode cX4_readNest 58 = .ok (.iload_n 1, 1) := by decide +kernel
theorem dX4_readNest_59 : decode cX4_readNest 59 = .ok (.iconst 0, 1) := by decide +kernel
theorem dX4_readNest_60 : decode cX4_readNest 60 = .ok (.iconst 3, 1) := by decide +kernel
theorem dX4_readNest_61 : decode cX4_readNest 61 = .ok (.invokevirtual 98, 3) := by decide +kernel
theorem dX4_readNest_64 : decode cX4_readNest 64 = .ok (.ifCond .ne 4, 3) := by decide +kernel
theorem dX4_readNest_67 : decode cX4_readNest 67 = .ok (.return_, 1) := by decide +kernel
theorem dX4_readNest_68 : decode cX4_readNest 68 = .ok (.iload_n 3, 1) := by decide +kernel
theorem dX4_readNest_69 : decode cX4_readNest 69 = .ok (.iconst 1, 1) := by decide +kernel
theorem dX4_readNest_70 : decode cX4_readNest 70 = .ok (.iadd, 1) := by decide +kernel
theorem dX4_readNest_71 : decode cX4_readNest 71 = .ok (.aload_n 0, 1) := by decide +kernel
theorem dX4_readNest_72 : decode cX4_readNest 72 = .ok (.getfield 58, 3) := by decide +kernel
theorem dX4_readNest_75 : decode cX4_readNest 75 = .ok (.if_icmp .le 11, 3) := by decide +kernel
theorem dX4_readNest_78 : decode cX4_readNest 78 = .ok (.aload_n 0, 1) := by decide +kernel
theorem dX4_readNest_79 : decode cX4_readNest 79 = .ok (.bipush 13, 2) := by decide +kernel
theorem dX4_readNest_81 : decode cX4_readNest 81 = .ok (.iload_n 1, 1) := by decide +kernel
theorem dX4_readNest_82 : decode cX4_readNest 82 = .ok (.invokevirtual 91, 3) := by decide +kernel
theorem dX4_readNest_85 : decode cX4_readNest 85 = .ok (.return_, 1) := by decide +kernel
theorem dX4_readNest_86 : decode cX4_readNest 86 = .ok (.aload_n 0, 1) := by decide +kernel
theorem dX4_readNest_87 : decode cX4_readNest 87 = .ok (.dup, 1) := by decide +kernel
theorem dX4_readNest_88 : decode cX4_readNest 88 = .ok (.getfield 61, 3) := by decide +kernel
theorem dX4_readNest_91 : decode cX4_readNest 91 = .ok (.iconst 3, 1) := by decide +kernel
theorem dX4_readNest_92 : decode cX4_readNest 92 = .ok (.iadd, 1) := by decide +kernel
theorem dX4_readNest_93 : decode cX4_readNest 93 = .ok (.putfield 61, 3) := by decide +kernel
theorem dX4_readNest_96 : decode cX4_readNest 96 = .ok (.aload_n 0, 1) := by decide +kernel
theorem dX4_readNest_97 : decode cX4_readNest 97 = .ok (.aload_n 0, 1) := by decide +kernel
theorem dX4_readNest_98 : decode cX4_readNest 98 = .ok (.getfield 88, 3) := by decide +kernel
theorem dX4_readNest_101 : decode cX4_readNest 101 = .ok (.aload_n 0, 1) := by decide +kernel
theorem dX4_readNest_102 : decode cX4_readNest 102 = .ok (.getfield 88, 3) := by decide +kernel
theorem dX4_readNest_105 : decode cX4_readNest 105 = .ok (.iload 6, 2) := by decide +kernel
theorem dX4_readNest_107 : decode cX4_readNest 107 = .ok (.iadd, 1) := by decide +kernel
theorem dX4_readNest_108 : decode cX4_readNest 108 = .ok (.iload_n 3, 1) := by decide +kernel
theorem dX4_readNest_109 : decode cX4_readNest 109 = .ok (.iconst 1, 1) := by decide +kernel
theorem dX4_readNest_110 : decode cX4_readNest 110 = .ok (.iadd, 1) := by decide +kernel
theorem dX4_readNest_111 : decode cX4_readNest 111 = .ok (.aload_n 2, 1) := by decide +kernel
theorem dX4_readNest_112 : decode cX4_readNest 112 = .ok (.getfield 163, 3) := by decide +kernel
theorem dX4_readNest_115 : decode cX4_readNest 115 = .ok (.aload_n 2, 1) := by decide +kernel
theorem dX4_readNest_116 : decode cX4_readNest 116 = .ok (.getfield 166, 3) := by decide +kernel
theorem dX4_readNest_119 : decode cX4_readNest 119 = .ok (.iadd, 1) := by decide +kernel
theorem dX4_readNest_120 : decode cX4_readNest 120 = .ok (.invokevirtual 84, 3) := by decide +kernel
theorem dX4_readNest_123 : decode cX4_readNest 123 = .ok (.return_, 1) := by decide +kernel
theorem dX4_readNote_0 : decode cX4_readNote 0 = .ok (.aload_n 0, 1) := by decide +kernel
theorem dX4_readNote_1 : decode cX4_readNote 1 = .ok (.iload_n 2, 1) := by decide +kernel
theorem dX4_readNote_2 : decode cX4_readNote 2 = .ok (.invokevirtual 117, 3) := by decide +kernel
theorem dX4_readNote_5 : decode cX4_readNote 5 = .ok (.istore_n 3, 1) := by decide +kernel
theorem dX4_readNote_6 : decode cX4_readNote 6 = .ok (.iload_n 3, 1) := by decide +kernel
theorem dX4_readNote_7 : decode cX4_readNote 7 = .ok (.iconst (-1), 1) := by decide +kernel
theorem dX4_readNote_8 : decode cX4_readNote 8 = .ok (.if_icmp .eq 34, 3) := by decide +kernel
theorem dX4_readNote_11 : decode cX4_readNote 11 = .ok (.aload_n 0, 1) := by decide +kernel
theorem dX4_readNote_12 : decode cX4_readNote 12 = .ok (.iload_n 3, 1) := by decide +kernel
theorem dX4_readNote_13 : decode cX4_readNote 13 = .ok (.iload_n 2, 1) := by decide +kernel
theorem dX4_readNote_14 : decode cX4_readNote 14 = .ok (.invokevirtual 172, 3) := by decide +kernel
theorem dX4_readNote_17 : decode cX4_readNote 17 = .ok (.ifCond .eq 25, 3) := by decide +kernel
theorem dX4_readNote_20 : decode cX4_readNote 20 = .ok (.aload_n 0, 1) := by decide +kernel
theorem dX4_readNote_21 : decode cX4_readNote 21 = .ok (.iload_n 1, 1) := by decide +kernel
theorem dX4_readNote_22 : decode cX4_readNote 22 = .ok (.iconst 0, 1) := by decide +kernel
theorem dX4_readNote_23 : decode cX4_readNote 23 = .ok (.iconst 2, 1) := by decide +kernel
theorem dX4_readNote_24 : decode cX4_readNote 24 = .ok (.iload_n 3, 1) := by decide +kernel
theorem dX4_readNote_25 : decode cX4_readNote 25 = .ok (.iadd, 1) := by decide +kernel
theorem dX4_readNote_26 : decode cX4_readNote 26 = .ok (.invokevirtual 102, 3) := by decide +kernel
theorem dX4_readNote_29 : decode cX4_readNote 29 = .ok (.ifCond .eq 13, 3) := by decide +kernel
theorem dX4_readNote_32 : decode cX4_readNote 32 = .ok (.aload_n 0, 1) := by decide +kernel
theorem dX4_readNote_33 : decode cX4_readNote 33 = .ok (.dup, 1) := by decide +kernel
theorem dX4_readNote_34 : decode cX4_readNote 34 = .ok (.getfield 88, 3) := by decide +kernel
theorem dX4_readNote_37 : decode cX4_readNote 37 = .ok (.iload_n 3, 1) := by decide +kernel
theorem dX4_readNote_38 : decode cX4_readNote 38 = .ok (.iadd, 1) := by decide +kernel
theorem dX4_readNote_39 : decode cX4_readNote 39 = .ok (.putfield 88, 3) := by decide +kernel
theorem dX4_readNote_42 : decode cX4_readNote 42 = .ok (.return_, 1) := by decide +kernel
theorem dX4_readAgain_0 : decode cX4_readAgain 0 = .ok (.aload_n 0, 1) := by decide +kernel
theorem dX4_readAgain_1 : decode cX4_readAgain 1 = .ok (.aload_n 2, 1) := by decide +kernel
theorem dX4_readAgain_2 : decode cX4_readAgain 2 = .ok (.getfield 128, 3) := by decide +kernel
theorem dX4_readAgain_5 : decode cX4_readAgain 5 = .ok (.invokevirtual 117, 3) := by decide +kernel
theorem dX4_readAgain_8 : decode cX4_readAgain 8 = .ok (.istore_n 3, 1) := by decide +kernel
theorem dX4_readAgain_9 : decode cX4_readAgain 9 = .ok (.iload_n 3, 1) := by decide +kernel
theorem dX4_readAgain_10 : decode cX4_readAgain 10 = .ok (.iconst (-1), 1) := by decide +kernel
theorem dX4_readAgain_11 : decode cX4_readAgain 11 = .ok (.if_icmp .ne 4, 3) := by decide +kernel
theorem dX4_readAgain_14 : decode cX4_readAgain 14 = .ok (.return_, 1) := by decide +kernel
theorem dX4_readAgain_15 : decode cX4_readAgain 15 = .ok (.aload_n 2, 1) := by decide +kernel
theorem dX4_readAgain_16 : decode cX4_readAgain 16 = .ok (.getfield 163, 3) := by decide +kernel
theorem dX4_readAgain_19 : decode cX4_readAgain 19 = .ok (.iload_n 3, 1) := by decide +kernel
theorem dX4_readAgain_20 : decode cX4_readAgain 20 = .ok (.iadd, 1) := by decide +kernel
theorem dX4_readAgain_21 : decode cX4_readAgain 21 = .ok (.istore 4, 2) := by decide +kernel
theorem dX4_readAgain_23 : decode cX4_readAgain 23 = .ok (.iload_n 3, 1) := by decide +kernel
theorem dX4_readAgain_24 : decode cX4_readAgain 24 = .ok (.aload_n 2, 1) := by decide +kernel
theorem dX4_readAgain_25 : decode cX4_readAgain 25 = .ok (.getfield 166, 3) := by decide +kernel
theorem dX4_readAgain_28 : decode cX4_readAgain 28 = .ok (.if_icmp .ge 18, 3) := by decide +kernel
theorem dX4_readAgain_31 : decode cX4_readAgain 31 = .ok (.iload 4, 2) := by decide +kernel
theorem dX4_readAgain_33 : decode cX4_readAgain 33 = .ok (.ifCond .lt 13, 3) := by decide +kernel
theorem dX4_readAgain_36 : decode cX4_readAgain 36 = .ok (.iload 4, 2) := by decide +kernel
theorem dX4_readAgain_38 : decode cX4_readAgain 38 = .ok (.aload_n 0, 1) := by decide +kernel
theorem dX4_readAgain_39 : decode cX4_readAgain 39 = .ok (.getfield 44, 3) := by decide +kernel
theorem dX4_readAgain_42 : decode cX4_readAgain 42 = .ok (.arraylength, 1) := by decide +kernel
theorem dX4_readAgain_43 : decode cX4_readAgain 43 = .ok (.if_icmp .lt 15, 3) := by decide +kernel
theorem dX4_readAgain_46 : decode cX4_readAgain 46 = .ok (.aload_n 0, 1) := by decide +kernel
theorem dX4_readAgain_47 : decode cX4_readAgain 47 = .ok (.iconst 5, 1) := by decide +kernel
theorem dX4_readAgain_48 : decode cX4_readAgain 48 = .ok (.aload_n 0, 1) := by decide +kernel
theorem dX4_readAgain_49 : decode cX4_readAgain 49 = .ok (.getfield 88, 3) := by decide +kernel
theorem dX4_readAgain_52 : decode cX4_readAgain 52 = .ok (.iconst 1, 1) := by decide +kernel
theorem dX4_readAgain_53 : decode cX4_readAgain 53 = .ok (.isub, 1) := by decide +kernel
theorem dX4_readAgain_54 : decode cX4_readAgain 54 = .ok (.invokevirtual 91, 3) := by decide +kernel
theorem dX4_readAgain_57 : decode cX4_readAgain 57 = .ok (.return_, 1) := by decide +kernel
theorem dX4_readAgain_58 : decode cX4_readAgain 58 = .ok (.aload_n 0, 1) := by decide +kernel
theorem dX4_readAgain_59 : decode cX4_readAgain 59 = .ok (.getfield 44, 3) := by decide +kernel
theorem dX4_readAgain_62 : decode cX4_readAgain 62 = .ok (.iload 4, 2) := by decide +kernel
theorem dX4_readAgain_64 : decode cX4_readAgain 64 = .ok (.iaload, 1) := by decide +kernel
theorem dX4_readAgain_65 : decode cX4_readAgain 65 = .ok (.aload_n 2, 1) := by decide +kernel
theorem dX4_readAgain_66 : decode cX4_readAgain 66 = .ok (.getfield 178, 3) := by decide +kernel
theorem dX4_readAgain_69 : decode cX4_readAgain 69 = .ok (.isub, 1) := by decide +kernel
theorem dX4_readAgain_70 : decode cX4_readAgain 70 = .ok (.istore 5, 2) := by decide +kernel
theorem dX4_readAgain_72 : decode cX4_readAgain 72 = .ok (.aload_n 0, 1) := by decide +kernel
theorem dX4_readAgain_73 : decode cX4_readAgain 73 = .ok (.iload_n 1, 1) := by decide +kernel
theorem dX4_readAgain_74 : decode cX4_readAgain 74 = .ok (.iload 5, 2) := by decide +kernel
theorem dX4_readAgain_76 : decode cX4_readAgain 76 = .ok (.iconst 2, 1) := by decide +kernel
theorem dX4_readAgain_77 : decode cX4_readAgain 77 = .ok (.iload 5, 2) := by decide +kernel
theorem dX4_readAgain_79 : decode cX4_readAgain 79 = .ok (.iadd, 1) := by decide +kernel
theorem dX4_readAgain_80 : decode cX4_readAgain 80 = .ok (.invokevirtual 102, 3) := by decide +kernel
theorem dX4_readAgain_83 : decode cX4_readAgain 83 = .ok (.ifCond .ne 4, 3) := by decide +kernel
theorem dX4_readAgain_86 : decode cX4_readAgain 86 = .ok (.return_, 1) := by decide +kernel
theorem dX4_readAgain_87 : decode cX4_readAgain 87 = .ok (.iconst 0, 1) := by decide +kernel
theorem dX4_readAgain_88 : decode cX4_readAgain 88 = .ok (.istore 6, 2) := by decide +kernel
theorem dX4_readAgain_90 : decode cX4_readAgain 90 = .ok (.iload 6, 2) := by decide +kernel
theorem dX4_readAgain_92 : decode cX4_readAgain 92 = .ok (.iload 5, 2) := by decide +kernel
theorem dX4_readAgain_94 : decode cX4_readAgain 94 = .ok (.if_icmp .ge 30, 3) := by decide +kernel
theorem dX4_readAgain_97 : decode cX4_readAgain 97 = .ok (.aload_n 0, 1) := by decide +kernel
theorem dX4_readAgain_98 : decode cX4_readAgain 98 = .ok (.getfield 20, 3) := by decide +kernel
theorem dX4_readAgain_101 : decode cX4_readAgain 101 = .ok (.aload_n 0, 1) := by decide +kernel
theorem dX4_readAgain_102 : decode cX4_readAgain 102 = .ok (.getfield 20, 3) := by decide +kernel
theorem dX4_readAgain_105 : decode cX4_readAgain 105 = .ok (.aload_n 2, 1) := by decide +kernel
theorem dX4_readAgain_106 : decode cX4_readAgain 106 = .ok (.getfield 178, 3) := by decide +kernel
theorem dX4_readAgain_109 : decode cX4_readAgain 109 = .ok (.iload 6, 2) := by decide +kernel
theorem dX4_readAgain_111 : decode cX4_readAgain 111 = .ok (.iadd, 1) := by decide +kernel
theorem dX4_readAgain_112 : decode cX4_readAgain 112 = .ok (.invokevirtual 94, 3) := by decide +kernel
theorem dX4_readAgain_115 : decode cX4_readAgain 115 = .ok (.invokevirtual 176, 3) := by decide +kernel
theorem dX4_readAgain_118 : decode cX4_readAgain 118 = .ok (.iinc 6 1, 3) := by decide +kernel
theorem dX4_readAgain_121 : decode cX4_readAgain 121 = .ok (.goto (-31), 3) := by decide +kernel
theorem dX4_readAgain_124 : decode cX4_readAgain 124 = .ok (.return_, 1) := by decide +kernel
theorem dX4_readTable_0 : decode cX4_readTable 0 = .ok (.aload_n 0, 1) := by decide +kernel
theorem dX4_readTable_1 : decode cX4_readTable 1 = .ok (.iload_n 2, 1) := by decide +kernel
theorem dX4_readTable_2 : decode cX4_readTable 2 = .ok (.invokevirtual 117, 3) := by decide +kernel
theorem dX4_readTable_5 : decode cX4_readTable 5 = .ok (.istore_n 3, 1) := by decide +kernel
theorem dX4_readTable_6 : decode cX4_readTable 6 = .ok (.iload_n 3, 1) := by decide +kernel
theorem dX4_readTable_7 : decode cX4_readTable 7 = .ok (.iconst (-1), 1) := by decide +kernel
theorem dX4_readTable_8 : decode cX4_readTable 8 = .ok (.if_icmp .ne 5, 3) := by decide +kernel
theorem dX4_readTable_11 : decode cX4_readTable 11 = .ok (.iconst (-1), 1) := by decide +kernel
theorem dX4_readTable_12 : decode cX4_readTable 12 = .ok (.ireturn, 1) := by decide +kernel
theorem dX4_readTable_13 : decode cX4_readTable 13 = .ok (.iload_n 3, 1) := by decide +kernel
theorem dX4_readTable_14 : decode cX4_readTable 14 = .ok (.iconst 1, 1) := by decide +kernel
theorem dX4_readTable_15 : decode cX4_readTable 15 = .ok (.if_icmp .lt 9, 3) := by decide +kernel
theorem dX4_readTable_18 : decode cX4_readTable 18 = .ok (.iload_n 3, 1) := by decide +kernel
theorem dX4_readTable_19 : decode cX4_readTable 19 = .ok (.bipush 8, 2) := by decide +kernel
theorem dX4_readTable_21 : decode cX4_readTable 21 = .ok (.if_icmp .le 17, 3) := by decide +kernel
theorem dX4_readTable_24 : decode cX4_readTable 24 = .ok (.aload_n 0, 1) := by decide +kernel
theorem dX4_readTable_25 : decode cX4_readTable 25 = .ok (.bipush 6, 2) := by decide +kernel
theorem dX4_readTable_27 : decode cX4_readTable 27 = .ok (.aload_n 0, 1) := by decide +kernel
theorem dX4_readTable_28 : decode cX4_readTable 28 = .ok (.getfield 88, 3) := by decide +kernel
theorem dX4_readTable_31 : decode cX4_readTable 31 = .ok (.iconst 1, 1) := by decide +kernel
theorem dX4_readTable_32 : decode cX4_readTable 32 = .ok (.isub, 1) := by decide +kernel
theorem dX4_readTable_33 : decode cX4_readTable 33 = .ok (.invokevirtual 91, 3) := by decide +kernel
theorem dX4_readTable_36 : decode cX4_readTable 36 = .ok (.iconst (-1), 1) := by decide +kernel
theorem dX4_readTable_37 : decode cX4_readTable 37 = .ok (.ireturn, 1) := by decide +kernel
theorem dX4_readTable_38 : decode cX4_readTable 38 = .ok (.aload_n 0, 1) := by decide +kernel
theorem dX4_readTable_39 : decode cX4_readTable 39 = .ok (.getfield 33, 3) := by decide +kernel
theorem dX4_readTable_42 : decode cX4_readTable 42 = .ok (.iload_n 3, 1) := by decide +kernel
theorem dX4_readTable_43 : decode cX4_readTable 43 = .ok (.invokevirtual 181, 3) := by decide +kernel
theorem dX4_readTable_46 : decode cX4_readTable 46 = .ok (.iconst 0, 1) := by decide +kernel
theorem dX4_readTable_47 : decode cX4_readTable 47 = .ok (.istore 4, 2) := by decide +kernel
theorem dX4_readTable_49 : decode cX4_readTable 49 = .ok (.iload 4, 2) := by decide +kernel
theorem dX4_readTable_51 : decode cX4_readTable 51 = .ok (.iload_n 3, 1) := by decide +kernel
theorem dX4_readTable_52 : decode cX4_readTable 52 = .ok (.if_icmp .ge 23, 3) := by decide +kernel
theorem dX4_readTable_55 : decode cX4_readTable 55 = .ok (.aload_n 0, 1) := by decide +kernel
theorem dX4_readTable_56 : decode cX4_readTable 56 = .ok (.getfield 33, 3) := by decide +kernel
theorem dX4_readTable_59 : decode cX4_readTable 59 = .ok (.iload 4, 2) := by decide +kernel
theorem dX4_readTable_61 : decode cX4_readTable 61 = .ok (.aload_n 0, 1) := by decide +kernel
theorem dX4_readTable_62 : decode cX4_readTable 62 = .ok (.iload_n 2, 1) := by decide +kernel
theorem dX4_readTable_63 : decode cX4_readTable 63 = .ok (.invokevirtual 117, 3) := by decide +kernel
theorem dX4_readTable_66 : decode cX4_readTable 66 = .ok (.invokevirtual 183, 3) := by decide +kernel
theorem dX4_readTable_69 : decode cX4_readTable 69 = .ok (.iinc 4 1, 3) := by decide +kernel
theorem dX4_readTable_72 : decode cX4_readTable 72 = .ok (.goto (-23), 3) := by decide +kernel
theorem dX4_readTable_75 : decode cX4_readTable 75 = .ok (.aload_n 0, 1) := by decide +kernel
theorem dX4_readTable_76 : decode cX4_readTable 76 = .ok (.getfield 88, 3) := by decide +kernel
theorem dX4_readTable_79 : decode cX4_readTable 79 = .ok (.istore 4, 2) := by decide +kernel
theorem dX4_readTable_81 : decode cX4_readTable 81 = .ok (.iconst 0, 1) := by decide +kernel
theorem dX4_readTable_82 : decode cX4_readTable 82 = .ok (.istore 5, 2) := by decide +kernel
theorem dX4_readTable_84 : decode cX4_readTable 84 = .ok (.iload 5, 2) := by decide +kernel
theorem dX4_readTable_86 : decode cX4_readTable 86 = .ok (.iload_n 3, 1) := by decide +kernel
theorem dX4_readTable_87 : decode cX4_readTable 87 = .ok (.if_icmp .ge 53, 3) := by decide +kernel
theorem dX4_readTable_90 : decode cX4_readTable 90 = .ok (.aload_n 0, 1) := by decide +kernel
theorem dX4_readTable_91 : decode cX4_readTable 91 = .ok (.getfield 70, 3) := by decide +kernel
theorem dX4_readTable_94 : decode cX4_readTable 94 = .ok (.ifCond .ne 46, 3) := by decide +kernel
theorem dX4_readTable_97 : decode cX4_readTable 97 = .ok (.aload_n 0, 1) := by decide +kernel
theorem dX4_readTable_98 : decode cX4_readTable 98 = .ok (.iload_n 2, 1) := by decide +kernel
theorem dX4_readTable_99 : decode cX4_readTable 99 = .ok (.invokevirtual 117, 3) := by decide +kernel
theorem dX4_readTable_102 : decode cX4_readTable 102 = .ok (.istore 6, 2) := by decide +kernel
theorem dX4_readTable_104 : decode cX4_readTable 104 = .ok (.iload 6, 2) := by decide +kernel
theorem dX4_readTable_106 : decode cX4_readTable 106 = .ok (.bipush 7, 2) := by decide +kernel
theorem dX4_readTable_108 : decode cX4_readTable 108 = .ok (.if_icmp .le 15, 3) := by decide +kernel
theorem dX4_readTable_111 : decode cX4_readTable 111 = .ok (.aload_n 0, 1) := by decide +kernel
theorem dX4_readTable_112 : decode cX4_readTable 112 = .ok (.bipush 6, 2) := by decide +kernel
theorem dX4_readTable_114 : decode cX4_readTable 114 = .ok (.aload_n 0, 1) := by decide +kernel
theorem dX4_readTable_115 : decode cX4_readTable 115 = .ok (.getfield 88, 3) := by decide +kernel
theorem dX4_readTable_118 : decode cX4_readTable 118 = .ok (.iconst 1, 1) := by decide +kernel
theorem dX4_readTable_119 : decode cX4_readTable 119 = .ok (.isub, 1) := by decide +kernel
theorem dX4_readTable_120 : decode cX4_readTable 120 = .ok (.invokevirtual 91, 3) := by decide +kernel
theorem dX4_readTable_123 : decode cX4_readTable 123 = .ok (.aload_n 0, 1) := by decide +kernel
theorem dX4_readTable_124 : decode cX4_readTable 124 = .ok (.getfield 33, 3) := by decide +kernel
theorem dX4_readTable_127 : decode cX4_readTable 127 = .ok (.iload 5, 2) := by decide +kernel
theorem dX4_readTable_129 : decode cX4_readTable 129 = .ok (.iload 6, 2) := by decide +kernel
theorem dX4_readTable_131 : decode cX4_readTable 131 = .ok (.invokevirtual 186, 3) := by decide +kernel
theorem dX4_readTable_134 : decode cX4_readTable 134 = .ok (.iinc 5 1, 3) := by decide +kernel
theorem dX4_readTable_137 : decode cX4_readTable 137 = .ok (.goto (-53), 3) := by decide +kernel
theorem dX4_readTable_140 : decode cX4_readTable 140 = .ok (.aload_n 0, 1) := by decide +kernel
theorem dX4_readTable_141 : decode cX4_readTable 141 = .ok (.getfield 70, 3) := by decide +kernel
theorem dX4_readTable_144 : decode cX4_readTable 144 = .ok (.ifCond .ne 21, 3) := by decide +kernel
theorem dX4_readTable_147 : decode cX4_readTable 147 = .ok (.aload_n 0, 1) := by decide +kernel
theorem dX4_readTable_148 : decode cX4_readTable 148 = .ok (.getfield 33, 3) := by decide +kernel
theorem dX4_readTable_151 : decode cX4_readTable 151 = .ok (.invokevirtual 189, 3) := by decide +kernel
theorem dX4_readTable_154 : decode cX4_readTable 154 = .ok (.ifCond .ne 11, 3) := by decide +kernel
theorem dX4_readTable_157 : decode cX4_readTable 157 = .ok (.aload_n 0, 1) := by decide +kernel
theorem dX4_readTable_158 : decode cX4_readTable 158 = .ok (.bipush 6, 2) := by decide +kernel
theorem dX4_readTable_160 : decode cX4_readTable 160 = .ok (.iload 4, 2) := by decide +kernel
theorem dX4_readTable_162 : decode cX4_readTable 162 = .ok (.invokevirtual 91, 3) := by decide +kernel
theorem dX4_readTable_165 : decode cX4_readTable 165 = .ok (.aload_n 0, 1) := by decide +kernel
theorem dX4_readTable_166 : decode cX4_readTable 166 = .ok (.getfield 70, 3) := by decide +kernel
theorem dX4_readTable_169 : decode cX4_readTable 169 = .ok (.ifCond .eq 5, 3) := by decide +kernel
theorem dX4_readTable_172 : decode cX4_readTable 172 = .ok (.iconst (-1), 1) := by decide +kernel
theorem dX4_readTable_173 : decode cX4_readTable 173 = .ok (.ireturn, 1) := by decide +kernel
theorem dX4_readTable_174 : decode cX4_readTable 174 = .ok (.aload_n 0, 1) := by decide +kernel
theorem dX4_readTable_175 : decode cX4_readTable 175 = .ok (.getfield 33, 3) := by decide +kernel
theorem dX4_readTable_178 : decode cX4_readTable 178 = .ok (.invokevirtual 193, 3) := by decide +kernel
theorem dX4_readTable_181 : decode cX4_readTable 181 = .ok (.aload_n 0, 1) := by decide +kernel
theorem dX4_readTable_182 : decode cX4_readTable 182 = .ok (.iload_n 2, 1) := by decide +kernel
theorem dX4_readTable_183 : decode cX4_readTable 183 = .ok (.invokevirtual 117, 3) := by decide +kernel
theorem dX4_readTable_186 : decode cX4_readTable 186 = .ok (.istore 5, 2) := by decide +kernel
theorem dX4_readTable_188 : decode cX4_readTable 188 = .ok (.iload 5, 2) := by decide +kernel
theorem dX4_readTable_190 : decode cX4_readTable 190 = .ok (.iconst (-1), 1) := by decide +kernel
theorem dX4_readTable_191 : decode cX4_readTable 191 = .ok (.if_icmp .eq 28, 3) := by decide +kernel
theorem dX4_readTable_194 : decode cX4_readTable 194 = .ok (.aload_n 0, 1) := by decide +kernel
theorem dX4_readTable_195 : decode cX4_readTable 195 = .ok (.iload_n 1, 1) := by decide +kernel
theorem dX4_readTable_196 : decode cX4_readTable 196 = .ok (.iload 5, 2) := by decide +kernel
theorem dX4_readTable_198 : decode cX4_readTable 198 = .ok (.iconst 3, 1) := by decide +kernel
theorem dX4_readTable_199 : decode cX4_readTable 199 = .ok (.iconst 2, 1) := by decide +kernel
theorem dX4_readTable_200 : decode cX4_readTable 200 = .ok (.iload_n 3, 1) := by decide +kernel
theorem dX4_readTable_201 : decode cX4_readTable 201 = .ok (.imul, 1) := by decide +kernel
theorem dX4_readTable_202 : decode cX4_readTable 202 = .ok (.iadd, 1) := by decide +kernel
theorem dX4_readTable_203 : decode cX4_readTable 203 = .ok (.iconst 2, 1) := by decide +kernel
theorem dX4_readTable_204 : decode cX4_readTable 204 = .ok (.iload 5, 2) := by decide +kernel
theorem dX4_readTable_206 : decode cX4_readTable 206 = .ok (.imul, 1) := by decide +kernel
theorem dX4_readTable_207 : decode cX4_readTable 207 = .ok (.iadd, 1) := by decide +kernel
theorem dX4_readTable_208 : decode cX4_readTable 208 = .ok (.invokevirtual 102, 3) := by decide +kernel
theorem dX4_readTable_211 : decode cX4_readTable 211 = .ok (.ifCond .eq 8, 3) := by decide +kernel
theorem dX4_readTable_214 : decode cX4_readTable 214 = .ok (.iload 5, 2) := by decide +kernel
theorem dX4_readTable_216 : decode cX4_readTable 216 = .ok (.goto 4, 3) := by decide +kernel
theorem dX4_readTable_219 : decode cX4_readTable 219 = .ok (.iconst (-1), 1) := by decide +kernel
theorem dX4_readTable_220 : decode cX4_readTable 220 = .ok (.ireturn, 1) := by decide +kernel
theorem dX4_readBits_0 : decode cX4_readBits 0 = .ok (.aload_n 0, 1) := by decide +kernel
theorem dX4_readBits_1 : decode cX4_readBits 1 = .ok (.iconst 0, 1) := by decide +kernel
theorem dX4_readBits_2 : decode cX4_readBits 2 = .ok (.putfield 196, 3) := by decide +kernel
theorem dX4_readBits_5 : decode cX4_readBits 5 = .ok (.aload_n 0, 1) := by decide +kernel
theorem dX4_readBits_6 : decode cX4_readBits 6 = .ok (.iconst 0, 1) := by decide +kernel
theorem dX4_readBits_7 : decode cX4_readBits 7 = .ok (.putfield 199, 3) := by decide +kernel
theorem dX4_readBits_10 : decode cX4_readBits 10 = .ok (.iconst 0, 1) := by decide +kernel
theorem dX4_readBits_11 : decode cX4_readBits 11 = .ok (.istore_n 3, 1) := by decide +kernel
theorem dX4_readBits_12 : decode cX4_readBits 12 = .ok (.iload_n 3, 1) := by decide +kernel
theorem dX4_readBits_13 : decode cX4_readBits 13 = .ok (.iload_n 1, 1) := by decide +kernel
theorem dX4_readBits_14 : decode cX4_readBits 14 = .ok (.if_icmp .ge 32, 3) := by decide +kernel
theorem dX4_readBits_17 : decode cX4_readBits 17 = .ok (.aload_n 0, 1) := by decide +kernel
theorem dX4_readBits_18 : decode cX4_readBits 18 = .ok (.iload_n 2, 1) := by decide +kernel
theorem dX4_readBits_19 : decode cX4_readBits 19 = .ok (.invokevirtual 202, 3) := by decide +kernel
theorem dX4_readBits_22 : decode cX4_readBits 22 = .ok (.istore 4, 2) := by decide +kernel
theorem dX4_readBits_24 : decode cX4_readBits 24 = .ok (.iload 4, 2) := by decide +kernel
theorem dX4_readBits_26 : decode cX4_readBits 26 = .ok (.iconst (-1), 1) := by decide +kernel
theorem dX4_readBits_27 : decode cX4_readBits 27 = .ok (.if_icmp .ne 4, 3) := by decide +kernel
theorem dX4_readBits_30 : decode cX4_readBits 30 = .ok (.return_, 1) := by decide +kernel
theorem dX4_readBits_31 : decode cX4_readBits 31 = .ok (.aload_n 0, 1) := by decide +kernel
theorem dX4_readBits_32 : decode cX4_readBits 32 = .ok (.getfield 20, 3) := by decide +kernel
theorem dX4_readBits_35 : decode cX4_readBits 35 = .ok (.iload 4, 2) := by decide +kernel
theorem dX4_readBits_37 : decode cX4_readBits 37 = .ok (.invokevirtual 176, 3) := by decide +kernel
theorem dX4_readBits_40 : decode cX4_readBits 40 = .ok (.iinc 3 1, 3) := by decide +kernel
theorem dX4_readBits_43 : decode cX4_readBits 43 = .ok (.goto (-31), 3) := by decide +kernel
theorem dX4_readBits_46 : decode cX4_readBits 46 = .ok (.aload_n 0, 1) := by decide +kernel
theorem dX4_readBits_47 : decode cX4_readBits 47 = .ok (.getfield 196, 3) := by decide +kernel
theorem dX4_readBits_50 : decode cX4_readBits 50 = .ok (.iconst 1, 1) := by decide +kernel
theorem dX4_readBits_51 : decode cX4_readBits 51 = .ok (.aload_n 0, 1) := by decide +kernel
theorem dX4_readBits_52 : decode cX4_readBits 52 = .ok (.getfield 199, 3) := by decide +kernel
theorem dX4_readBits_55 : decode cX4_readBits 55 = .ok (.ishl, 1) := by decide +kernel
theorem dX4_readBits_56 : decode cX4_readBits 56 = .ok (.iconst 1, 1) := by decide +kernel
theorem dX4_readBits_57 : decode cX4_readBits 57 = .ok (.isub, 1) := by decide +kernel
theorem dX4_readBits_58 : decode cX4_readBits 58 = .ok (.iand, 1) := by decide +kernel
theorem dX4_readBits_59 : decode cX4_readBits 59 = .ok (.ifCond .eq 15, 3) := by decide +kernel
theorem dX4_readBits_62 : decode cX4_readBits 62 = .ok (.aload_n 0, 1) := by decide +kernel
theorem dX4_readBits_63 : decode cX4_readBits 63 = .ok (.bipush 8, 2) := by decide +kernel
theorem dX4_readBits_65 : decode cX4_readBits 65 = .ok (.aload_n 0, 1) := by decide +kernel
theorem dX4_readBits_66 : decode cX4_readBits 66 = .ok (.getfield 88, 3) := by decide +kernel
theorem dX4_readBits_69 : decode cX4_readBits 69 = .ok (.iconst 1, 1) := by decide +kernel
theorem dX4_readBits_70 : decode cX4_readBits 70 = .ok (.isub, 1) := by decide +kernel
theorem dX4_readBits_71 : decode cX4_readBits 71 = .ok (.invokevirtual 91, 3) := by decide +kernel
theorem dX4_readBits_74 : decode cX4_readBits 74 = .ok (.return_, 1) := by decide +kernel
theorem dX4_nextSymbol_0 : decode cX4_nextSymbol 0 = .ok (.aload_n 0, 1) := by decide +kernel
theorem dX4_nextSymbol_1 : decode cX4_nextSymbol 1 = .ok (.getfield 199, 3) := by decide +kernel
theorem dX4_nextSymbol_4 : decode cX4_nextSymbol 4 = .ok (.ifCond .le 12, 3) := by decide +kernel
theorem dX4_nextSymbol_7 : decode cX4_nextSymbol 7 = .ok (.aload_n 0, 1) := by decide +kernel
theorem dX4_nextSymbol_8 : decode cX4_nextSymbol 8 = .ok (.getfield 88, 3) := by decide +kernel
theorem dX4_nextSymbol_11 : decode cX4_nextSymbol 11 = .ok (.iconst 1, 1) := by decide +kernel
theorem dX4_nextSymbol_12 : decode cX4_nextSymbol 12 = .ok (.isub, 1) := by decide +kernel
theorem dX4_nextSymbol_13 : decode cX4_nextSymbol 13 = .ok (.goto 7, 3) := by decide +kernel
theorem dX4_nextSymbol_16 : decode cX4_nextSymbol 16 = .ok (.aload_n 0, 1) := by decide +kernel
theorem dX4_nextSymbol_17 : decode cX4_nextSymbol 17 = .ok (.getfield 88, 3) := by decide +kernel
theorem dX4_nextSymbol_20 : decode cX4_nextSymbol 20 = .ok (.istore_n 2, 1) := by decide +kernel
theorem dX4_nextSymbol_21 : decode cX4_nextSymbol 21 = .ok (.iconst 0, 1) := by decide +kernel
theorem dX4_nextSymbol_22 : decode cX4_nextSymbol 22 = .ok (.istore_n 3, 1) := by decide +kernel
theorem dX4_nextSymbol_23 : decode cX4_nextSymbol 23 = .ok (.iconst 1, 1) := by decide +kernel
theorem dX4_nextSymbol_24 : decode cX4_nextSymbol 24 = .ok (.istore 4, 2) := by decide +kernel
theorem dX4_nextSymbol_26 : decode cX4_nextSymbol 26 = .ok (.iload 4, 2) := by decide +kernel
theorem dX4_nextSymbol_28 : decode cX4_nextSymbol 28 = .ok (.aload_n 0, 1) := by decide +kernel
theorem dX4_nextSymbol_29 : decode cX4_nextSymbol 29 = .ok (.getfield 33, 3) := by decide +kernel
theorem dX4_nextSymbol_32 : decode cX4_nextSymbol 32 = .ok (.getfield 205, 3) := by decide +kernel
theorem dX4_nextSymbol_35 : decode cX4_nextSymbol 35 = .ok (.if_icmp .gt 88, 3) := by decide +kernel
theorem dX4_nextSymbol_38 : decode cX4_nextSymbol 38 = .ok (.aload_n 0, 1) := by decide +kernel
theorem dX4_nextSymbol_39 : decode cX4_nextSymbol 39 = .ok (.getfield 199, 3) := by decide +kernel
theorem dX4_nextSymbol_42 : decode cX4_nextSymbol 42 = .ok (.ifCond .ne 28, 3) := by decide +kernel
theorem dX4_nextSymbol_45 : decode cX4_nextSymbol 45 = .ok (.aload_n 0, 1) := by decide +kernel
theorem dX4_nextSymbol_46 : decode cX4_nextSymbol 46 = .ok (.aload_n 0, 1) := by decide +kernel
theorem dX4_nextSymbol_47 : decode cX4_nextSymbol 47 = .ok (.iload_n 1, 1) := by decide +kernel
theorem dX4_nextSymbol_48 : decode cX4_nextSymbol 48 = .ok (.invokevirtual 117, 3) := by decide +kernel
theorem dX4_nextSymbol_51 : decode cX4_nextSymbol 51 = .ok (.putfield 196, 3) := by decide +kernel
theorem dX4_nextSymbol_54 : decode cX4_nextSymbol 54 = .ok (.aload_n 0, 1) := by decide +kernel
theorem dX4_nextSymbol_55 : decode cX4_nextSymbol 55 = .ok (.getfield 196, 3) := by decide +kernel
theorem dX4_nextSymbol_58 : decode cX4_nextSymbol 58 = .ok (.iconst (-1), 1) := by decide +kernel
theorem dX4_nextSymbol_59 : decode cX4_nextSymbol 59 = .ok (.if_icmp .ne 5, 3) := by decide +kernel
theorem dX4_nextSymbol_62 : decode cX4_nextSymbol 62 = .ok (.iconst (-1), 1) := by decide +kernel
theorem dX4_nextSymbol_63 : decode cX4_nextSymbol 63 = .ok (.ireturn, 1) := by decide +kernel
theorem dX4_nextSymbol_64 : decode cX4_nextSymbol 64 = .ok (.aload_n 0, 1) := by decide +kernel
theorem dX4_nextSymbol_65 : decode cX4_nextSymbol 65 = .ok (.bipush 8, 2) := by decide +kernel
theorem dX4_nextSymbol_67 : decode cX4_nextSymbol 67 = .ok (.putfield 199, 3) := by decide +kernel
theorem dX4_nextSymbol_70 : decode cX4_nextSymbol 70 = .ok (.aload_n 0, 1) := by decide +kernel
theorem dX4_nextSymbol_71 : decode cX4_nextSymbol 71 = .ok (.dup, 1) := by decide +kernel
theorem dX4_nextSymbol_72 : decode cX4_nextSymbol 72 = .ok (.getfield 199, 3) := by decide +kernel
theorem dX4_nextSymbol_75 : decode cX4_nextSymbol 75 = .ok (.iconst 1, 1) := by decide +kernel
theorem dX4_nextSymbol_76 : decode cX4_nextSymbol 76 = .ok (.isub, 1) := by decide +kernel
theorem dX4_nextSymbol_77 : decode cX4_nextSymbol 77 = .ok (.putfield 199, 3) := by decide +kernel
theorem dX4_nextSymbol_80 : decode cX4_nextSymbol 80 = .ok (.iconst 2, 1) := by decide +kernel
theorem dX4_nextSymbol_81 : decode cX4_nextSymbol 81 = .ok (.iload_n 3, 1) := by decide +kernel
theorem dX4_nextSymbol_82 : decode cX4_nextSymbol 82 = .ok (.imul, 1) := by decide +kernel
theorem dX4_nextSymbol_83 : decode cX4_nextSymbol 83 = .ok (.aload_n 0, 1) := by decide +kernel
theorem dX4_nextSymbol_84 : decode cX4_nextSymbol 84 = .ok (.getfield 196, 3) := by decide +kernel
theorem dX4_nextSymbol_87 : decode cX4_nextSymbol 87 = .ok (.aload_n 0, 1) := by decide +kernel
theorem dX4_nextSymbol_88 : decode cX4_nextSymbol 88 = .ok (.getfield 199, 3) := by decide +kernel
theorem dX4_nextSymbol_91 : decode cX4_nextSymbol 91 = .ok (.ishr, 1) := by decide +kernel
theorem dX4_nextSymbol_92 : decode cX4_nextSymbol 92 = .ok (.iconst 1, 1) := by decide +kernel
theorem dX4_nextSymbol_93 : decode cX4_nextSymbol 93 = .ok (.iand, 1) := by decide +kernel
theorem dX4_nextSymbol_94 : decode cX4_nextSymbol 94 = .ok (.iadd, 1) := by decide +kernel
theorem dX4_nextSymbol_95 : decode cX4_nextSymbol 95 = .ok (.istore_n 3, 1) := by decide +kernel
theorem dX4_nextSymbol_96 : decode cX4_nextSymbol 96 = .ok (.aload_n 0, 1) := by decide +kernel
theorem dX4_nextSymbol_97 : decode cX4_nextSymbol 97 = .ok (.getfield 33, 3) := by decide +kernel
theorem dX4_nextSymbol_100 : decode cX4_nextSymbol 100 = .ok (.iload_n 3, 1) := by decide +kernel
theorem dX4_nextSymbol_101 : decode cX4_nextSymbol 101 = .ok (.iload 4, 2) := by decide +kernel
theorem dX4_nextSymbol_103 : decode cX4_nextSymbol 103 = .ok (.invokevirtual 208, 3) := by decide +kernel
theorem dX4_nextSymbol_106 : decode cX4_nextSymbol 106 = .ok (.istore 5, 2) := by decide +kernel
theorem dX4_nextSymbol_108 : decode cX4_nextSymbol 108 = .ok (.iload 5, 2) := by decide +kernel
theorem dX4_nextSymbol_110 : decode cX4_nextSymbol 110 = .ok (.iconst (-1), 1) := by decide +kernel
theorem dX4_nextSymbol_111 : decode cX4_nextSymbol 111 = .ok (.if_icmp .eq 6, 3) := by decide +kernel
theorem dX4_nextSymbol_114 : decode cX4_nextSymbol 114 = .ok (.iload 5, 2) := by decide +kernel
theorem dX4_nextSymbol_116 : decode cX4_nextSymbol 116 = .ok (.ireturn, 1) := by decide +kernel
theorem dX4_nextSymbol_117 : decode cX4_nextSymbol 117 = .ok (.iinc 4 1, 3) := by decide +kernel
theorem dX4_nextSymbol_120 : decode cX4_nextSymbol 120 = .ok (.goto (-94), 3) := by decide +kernel
theorem dX4_nextSymbol_123 : decode cX4_nextSymbol 123 = .ok (.aload_n 0, 1) := by decide +kernel
theorem dX4_nextSymbol_124 : decode cX4_nextSymbol 124 = .ok (.bipush 7, 2) := by decide +kernel
theorem dX4_nextSymbol_126 : decode cX4_nextSymbol 126 = .ok (.iload_n 2, 1) := by decide +kernel
theorem dX4_nextSymbol_127 : decode cX4_nextSymbol 127 = .ok (.invokevirtual 91, 3) := by decide +kernel
theorem dX4_nextSymbol_130 : decode cX4_nextSymbol 130 = .ok (.iconst (-1), 1) := by decide +kernel
theorem dX4_nextSymbol_131 : decode cX4_nextSymbol 131 = .ok (.ireturn, 1) := by decide +kernel
end
section
theorem dX5_init_0 : decode cX5_init 0 = .ok (.aload_n 0, 1) := by decide +kernel
theorem dX5_init_1 : decode cX5_init 1 = .ok (.invokespecial 3, 3) := by decide +kernel
theorem dX5_init_4 : decode cX5_init 4 = .ok (.aload_n 0, 1) := by decide +kernel
theorem dX5_init_5 : decode cX5_init 5 = .ok (.bipush 8, 2) := by decide +kernel
theorem dX5_init_7 : decode cX5_init 7 = .ok (.newarray .int, 2) := by decide +kernel
theorem dX5_init_9 : decode cX5_init 9 = .ok (.putfield 11, 3) := by decide +kernel
theorem dX5_init_12 : decode cX5_init 12 = .ok (.aload_n 0, 1) := by decide +kernel
theorem dX5_init_13 : decode cX5_init 13 = .ok (.bipush 8, 2) := by decide +kernel
theorem dX5_init_15 : decode cX5_init 15 = .ok (.newarray .int, 2) := by decide +kernel
theorem dX5_init_17 : decode cX5_init 17 = .ok (.putfield 15, 3) := by decide +kernel
theorem dX5_init_20 : decode cX5_init 20 = .ok (.aload_n 0, 1) := by decide +kernel
theorem dX5_init_21 : decode cX5_init 21 = .ok (.bipush 8, 2) := by decide +kernel
theorem dX5_init_23 : decode cX5_init 23 = .ok (.newarray .int, 2) := by decide +kernel
theorem dX5_init_25 : decode cX5_init 25 = .ok (.putfield 18, 3) := by decide +kernel
theorem dX5_init_28 : decode cX5_init 28 = .ok (.return_, 1) := by decide +kernel
theorem dX5_begin_0 : decode cX5_begin 0 = .ok (.aload_n 0, 1) := by decide +kernel
theorem dX5_begin_1 : decode cX5_begin 1 = .ok (.iconst 0, 1) := by decide +kernel
theorem dX5_begin_2 : decode cX5_begin 2 = .ok (.iload_n 1, 1) := by decide +kernel
theorem dX5_begin_3 : decode cX5_begin 3 = .ok (.bipush 8, 2) := by decide +kernel
theorem dX5_begin_5 : decode cX5_begin 5 = .ok (.invokestatic 21, 3) := by decide +kernel
theorem dX5_begin_8 : decode cX5_begin 8 = .ok (.invokestatic 27, 3) := by decide +kernel
theorem dX5_begin_11 : decode cX5_begin 11 = .ok (.putfield 30, 3) := by decide +kernel
theorem dX5_begin_14 : decode cX5_begin 14 = .ok (.aload_n 0, 1) := by decide +kernel
theorem dX5_begin_15 : decode cX5_begin 15 = .ok (.iconst 0, 1) := by decide +kernel
theorem dX5_begin_16 : decode cX5_begin 16 = .ok (.putfield 34, 3) := by decide +kernel
theorem dX5_begin_19 : decode cX5_begin 19 = .ok (.return_, 1) := by decide +kernel
theorem dX5_putSymbol_0 : decode cX5_putSymbol 0 = .ok (.iload_n 1, 1) := by decide +kernel
theorem dX5_putSymbol_1 : decode cX5_putSymbol 1 = .ok (.ifCond .lt 18, 3) := by decide +kernel
theorem dX5_putSymbol_4 : decode cX5_putSymbol 4 = .ok (.iload_n 1, 1) := by decide +kernel
theorem dX5_putSymbol_5 : decode cX5_putSymbol 5 = .ok (.aload_n 0, 1) := by decide +kernel
theorem dX5_putSymbol_6 : decode cX5_putSymbol 6 = .ok (.getfield 30, 3) := by decide +kernel
theorem dX5_putSymbol_9 : decode cX5_putSymbol 9 = .ok (.if_icmp .ge 10, 3) := by decide +kernel
theorem dX5_putSymbol_12 : decode cX5_putSymbol 12 = .ok (.aload_n 0, 1) := by decide +kernel
theorem dX5_putSymbol_13 : decode cX5_putSymbol 13 = .ok (.getfield 11, 3) := by decide +kernel
theorem dX5_putSymbol_16 : decode cX5_putSymbol 16 = .ok (.iload_n 1, 1) := by decide +kernel
theorem dX5_putSymbol_17 : decode cX5_putSymbol 17 = .ok (.iload_n 2, 1) := by decide +kernel
theorem dX5_putSymbol_18 : decode cX5_putSymbol 18 = .ok (.iastore, 1) := by decide +kernel
theorem dX5_putSymbol_19 : decode cX5_putSymbol 19 = .ok (.return_, 1) := by decide +kernel
theorem dX5_putLength_0 : decode cX5_putLength 0 = .ok (.iload_n 1, 1) := by decide +kernel
theorem dX5_putLength_1 : decode cX5_putLength 1 = .ok (.ifCond .lt 30, 3) := by decide +kernel
theorem dX5_putLength_4 : decode cX5_putLength 4 = .ok (.iload_n 1, 1) := by decide +kernel
theorem dX5_putLength_5 : decode cX5_putLength 5 = .ok (.aload_n 0, 1) := by decide +kernel
theorem dX5_putLength_6 : decode cX5_putLength 6 = .ok (.getfield 30, 3) := by decide +kernel
theorem dX5_putLength_9 : decode cX5_putLength 9 = .ok (.if_icmp .ge 22, 3) := by decide +kernel
theorem dX5_putLength_12 : decode cX5_putLength 12 = .ok (.aload_n 0, 1) := by decide +kernel
theorem dX5_putLength_13 : decode cX5_putLength 13 = .ok (.getfield 15, 3) := by decide +kernel
theorem dX5_putLength_16 : decode cX5_putLength 16 = .ok (.iload_n 1, 1) := by decide +kernel
theorem dX5_putLength_17 : decode cX5_putLength 17 = .ok (.iload_n 2, 1) := by decide +kernel
theorem dX5_putLength_18 : decode cX5_putLength 18 = .ok (.iastore, 1) := by decide +kernel
theorem dX5_putLength_19 : decode cX5_putLength 19 = .ok (.aload_n 0, 1) := by decide +kernel
theorem dX5_putLength_20 : decode cX5_putLength 20 = .ok (.aload_n 0, 1) := by decide +kernel
theorem dX5_putLength_21 : decode cX5_putLength 21 = .ok (.getfield 34, 3) := by decide +kernel
theorem dX5_putLength_24 : decode cX5_putLength 24 = .ok (.iload_n 2, 1) := by decide +kernel
theorem dX5_putLength_25 : decode cX5_putLength 25 = .ok (.invokestatic 27, 3) := by decide +kernel
theorem dX5_putLength_28 : decode cX5_putLength 28 = .ok (.putfield 34, 3) := by decide +kernel
theorem dX5_putLength_31 : decode cX5_putLength 31 = .ok (.return_, 1) := by decide +kernel
theorem dX5_isGood_0 : decode cX5_isGood 0 = .ok (.iconst 0, 1) := by decide +kernel
theorem dX5_isGood_1 : decode cX5_isGood 1 = .ok (.istore_n 1, 1) := by decide +kernel
theorem dX5_isGood_2 : decode cX5_isGood 2 = .ok (.iconst 0, 1) := by decide +kernel
theorem dX5_isGood_3 : decode cX5_isGood 3 = .ok (.istore_n 2, 1) := by decide +kernel
theorem dX5_isGood_4 : decode cX5_isGood 4 = .ok (.iconst 0, 1) := by decide +kernel
theorem dX5_isGood_5 : decode cX5_isGood 5 = .ok (.istore_n 3, 1) := by decide +kernel
theorem dX5_isGood_6 : decode cX5_isGood 6 = .ok (.iload_n 3, 1) := by decide +kernel
theorem dX5_isGood_7 : decode cX5_isGood 7 = .ok (.aload_n 0, 1) := by decide +kernel
theorem dX5_isGood_8 : decode cX5_isGood 8 = .ok (.getfield 30, 3) := by decide +kernel
theorem dX5_isGood_11 : decode cX5_isGood 11 = .ok (.if_icmp .ge 34, 3) := by decide +kernel
theorem dX5_isGood_14 : decode cX5_isGood 14 = .ok (.aload_n 0, 1) := by decide +kernel
theorem dX5_isGood_15 : decode cX5_isGood 15 = .ok (.getfield 15, 3) := by decide +kernel
theorem dX5_isGood_18 : decode cX5_isGood 18 = .ok (.iload_n 3, 1) := by decide +kernel
theorem dX5_isGood_19 : decode cX5_isGood 19 = .ok (.iaload, 1) := by decide +kernel
theorem dX5_isGood_20 : decode cX5_isGood 20 = .ok (.ifCond .le 19, 3) := by decide +kernel
theorem dX5_isGood_23 : decode cX5_isGood 23 = .ok (.iload_n 1, 1) := by decide +kernel
theorem dX5_isGood_24 : decode cX5_isGood 24 = .ok (.sipush 128, 3) := by decide +kernel
theorem dX5_isGood_27 : decode cX5_isGood 27 = .ok (.aload_n 0, 1) := by decide +kernel
theorem dX5_isGood_28 : decode cX5_isGood 28 = .ok (.getfield 15, 3) := by decide +kernel
theorem dX5_isGood_31 : decode cX5_isGood 31 = .ok (.iload_n 3, 1) := by decide +kernel
theorem dX5_isGood_32 : decode cX5_isGood 32 = .ok (.iaload, 1) := by decide +kernel
theorem dX5_isGood_33 : decode cX5_isGood 33 = .ok (.ishr, 1) := by decide +kernel
theorem dX5_isGood_34 : decode cX5_isGood 34 = .ok (.iadd, 1) := by decide +kernel
theorem dX5_isGood_35 : decode cX5_isGood 35 = .ok (.istore_n 1, 1) := by decide +kernel
theorem dX5_isGood_36 : decode cX5_isGood 36 = .ok (.iinc 2 1, 3) := by decide +kernel
theorem dX5_isGood_39 : decode cX5_isGood 39 = .ok (.iinc 3 1, 3) := by decide +kernel
theorem dX5_isGood_42 : decode cX5_isGood 42 = .ok (.goto (-36), 3) := by decide +kernel
theorem dX5_isGood_45 : decode cX5_isGood 45 = .ok (.iload_n 1, 1) := by decide +kernel
theorem dX5_isGood_46 : decode cX5_isGood 46 = .ok (.sipush 128, 3) := by decide +kernel
theorem dX5_isGood_49 : decode cX5_isGood 49 = .ok (.if_icmp .eq 16, 3) := by decide +kernel
theorem dX5_isGood_52 : decode cX5_isGood 52 = .ok (.iload_n 2, 1) := by decide +kernel
theorem dX5_isGood_53 : decode cX5_isGood 53 = .ok (.iconst 1, 1) := by decide +kernel
theorem dX5_isGood_54 : decode cX5_isGood 54 = .ok (.if_icmp .ne 15, 3) := by decide +kernel
theorem dX5_isGood_57 : decode cX5_isGood 57 = .ok (.aload_n 0, 1) := by decide +kernel
theorem dX5_isGood_58 : decode cX5_isGood 58 = .ok (.getfield 34, 3) := by decide +kernel
theorem dX5_isGood_61 : decode cX5_isGood 61 = .ok (.iconst 1, 1) := by decide +kernel
theorem dX5_isGood_62 : decode cX5_isGood 62 = .ok (.if_icmp .ne 7, 3) := by decide +kernel
theorem dX5_isGood_65 : decode cX5_isGood 65 = .ok (.iconst 1, 1) := by decide +kernel
theorem dX5_isGood_66 : decode cX5_isGood 66 = .ok (.goto 4, 3) := by decide +kernel
theorem dX5_isGood_69 : decode cX5_isGood 69 = .ok (.iconst 0, 1) := by decide +kernel
theorem dX5_isGood_70 : decode cX5_isGood 70 = .ok (.ireturn, 1) := by decide +kernel
theorem dX5_makeCodes_0 : decode cX5_makeCodes 0 = .ok (.iconst 0, 1) := by decide +kernel
theorem dX5_makeCodes_1 : decode cX5_makeCodes 1 = .ok (.istore_n 1, 1) := by decide +kernel
theorem dX5_makeCodes_2 : decode cX5_makeCodes 2 = .ok (.iconst 1, 1) := by decide +kernel
theorem dX5_makeCodes_3 : decode cX5_makeCodes 3 = .ok (.istore_n 2, 1) := by decide +kernel
theorem dX5_makeCodes_4 : decode cX5_makeCodes 4 = .ok (.iload_n 2, 1) := by decide +kernel
theorem dX5_makeCodes_5 : decode cX5_makeCodes 5 = .ok (.aload_n 0, 1) := by decide +kernel
theorem dX5_makeCodes_6 : decode cX5_makeCodes 6 = .ok (.getfield 34, 3) := by decide +kernel
theorem dX5_makeCodes_9 : decode cX5_makeCodes 9 = .ok (.if_icmp .gt 49, 3) := by decide +kernel
theorem dX5_makeCodes_12 : decode cX5_makeCodes 12 = .ok (.iconst 2, 1) := by decide +kernel
theorem dX5_makeCodes_13 : decode cX5_makeCodes 13 = .ok (.iload_n 1, 1) := by decide +kernel
theorem dX5_makeCodes_14 : decode cX5_makeCodes 14 = .ok (.imul, 1) := by decide +kernel
theorem dX5_makeCodes_15 : decode cX5_makeCodes 15 = .ok (.istore_n 1, 1) := by decide +kernel
theorem dX5_makeCodes_16 : decode cX5_makeCodes 16 = .ok (.iconst 0, 1) := by decide +kernel
theorem dX5_makeCodes_17 : decode cX5_makeCodes 17 = .ok (.istore_n 3, 1) := by decide +kernel
theorem dX5_makeCodes_18 : decode cX5_makeCodes 18 = .ok (.iload_n 3, 1) := by decide +kernel
theorem dX5_makeCodes_19 : decode cX5_makeCodes 19 = .ok (.aload_n 0, 1) := by decide +kernel
theorem dX5_makeCodes_20 : decode cX5_makeCodes 20 = .ok (.getfield 30, 3) := by decide +kernel
theorem dX5_makeCodes_23 : decode cX5_makeCodes 23 = .ok (.if_icmp .ge 29, 3) := by decide +kernel
theorem dX5_makeCodes_26 : decode cX5_makeCodes 26 = .ok (.aload_n 0, 1) := by decide +kernel
theorem dX5_makeCodes_27 : decode cX5_makeCodes 27 = .ok (.getfield 15, 3) := by decide +kernel
theorem dX5_makeCodes_30 : decode cX5_makeCodes 30 = .ok (.iload_n 3, 1) := by decide +kernel
theorem dX5_makeCodes_31 : decode cX5_makeCodes 31 = .ok (.iaload, 1) := by decide +kernel
theorem dX5_makeCodes_32 : decode cX5_makeCodes 32 = .ok (.iload_n 2, 1) := by decide +kernel
theorem dX5_makeCodes_33 : decode cX5_makeCodes 33 = .ok (.if_icmp .ne 13, 3) := by decide +kernel
theorem dX5_makeCodes_36 : decode cX5_makeCodes 36 = .ok (.aload_n 0, 1) := by decide +kernel
theorem dX5_makeCodes_37 : decode cX5_makeCodes 37 = .ok (.getfield 18, 3) := by decide +kernel
theorem dX5_makeCodes_40 : decode cX5_makeCodes 40 = .ok (.iload_n 3, 1) := by decide +kernel
theorem dX5_makeCodes_41 : decode cX5_makeCodes 41 = .ok (.iload_n 1, 1) := by decide +kernel
theorem dX5_makeCodes_42 : decode cX5_makeCodes 42 = .ok (.iastore, 1) := by decide +kernel
theorem dX5_makeCodes_43 : decode cX5_makeCodes 43 = .ok (.iinc 1 1, 3) := by decide +kernel
theorem dX5_makeCodes_46 : decode cX5_makeCodes 46 = .ok (.iinc 3 1, 3) := by decide +kernel
theorem dX5_makeCodes_49 : decode cX5_makeCodes 49 = .ok (.goto (-31), 3) := by decide +kernel
theorem dX5_makeCodes_52 : decode cX5_makeCodes 52 = .ok (.iinc 2 1, 3) := by decide +kernel
theorem dX5_makeCodes_55 : decode cX5_makeCodes 55 = .ok (.goto (-51), 3) := by decide +kernel
theorem dX5_makeCodes_58 : decode cX5_makeCodes 58 = .ok (.return_, 1) := by decide +kernel
theorem dX5_symbolOf_0 : decode cX5_symbolOf 0 = .ok (.iconst 0, 1) := by decide +kernel
theorem dX5_symbolOf_1 : decode cX5_symbolOf 1 = .ok (.istore_n 3, 1) := by decide +kernel
theorem dX5_symbolOf_2 : decode cX5_symbolOf 2 = .ok (.iload_n 3, 1) := by decide +kernel
theorem dX5_symbolOf_3 : decode cX5_symbolOf 3 = .ok (.aload_n 0, 1) := by decide +kernel
theorem dX5_symbolOf_4 : decode cX5_symbolOf 4 = .ok (.getfield 30, 3) := by decide +kernel
theorem dX5_symbolOf_7 : decode cX5_symbolOf 7 = .ok (.if_icmp .ge 36, 3) := by decide +kernel
theorem dX5_symbolOf_10 : decode cX5_symbolOf 10 = .ok (.aload_n 0, 1) := by decide +kernel
theorem dX5_symbolOf_11 : decode cX5_symbolOf 11 = .ok (.getfield 15, 3) := by decide +kernel
theorem dX5_symbolOf_14 : decode cX5_symbolOf 14 = .ok (.iload_n 3, 1) := by decide +kernel
theorem dX5_symbolOf_15 : decode cX5_symbolOf 15 = .ok (.iaload, 1) := by decide +kernel
theorem dX5_symbolOf_16 : decode cX5_symbolOf 16 = .ok (.iload_n 2, 1) := by decide +kernel
theorem dX5_symbolOf_17 : decode cX5_symbolOf 17 = .ok (.if_icmp .ne 20, 3) := by decide +kernel
theorem dX5_symbolOf_20 : decode cX5_symbolOf 20 = .ok (.aload_n 0, 1) := by decide +kernel
theorem dX5_symbolOf_21 : decode cX5_symbolOf 21 = .ok (.getfield 18, 3) := by decide +kernel
theorem dX5_symbolOf_24 : decode cX5_symbolOf 24 = .ok (.iload_n 3, 1) := by decide +kernel
theorem dX5_symbolOf_25 : decode cX5_symbolOf 25 = .ok (.iaload, 1) := by decide +kernel
theorem dX5_symbolOf_26 : decode cX5_symbolOf 26 = .ok (.iload_n 1, 1) := by decide +kernel
theorem dX5_symbolOf_27 : decode cX5_symbolOf 27 = .ok (.if_icmp .ne 10, 3) := by decide +kernel
theorem dX5_symbolOf_30 : decode cX5_symbolOf 30 = .ok (.aload_n 0, 1) := by decide +kernel
theorem dX5_symbolOf_31 : decode cX5_symbolOf 31 = .ok (.getfield 11, 3) := by decide +kernel
theorem dX5_symbolOf_34 : decode cX5_symbolOf 34 = .ok (.iload_n 3, 1) := by decide +kernel
theorem dX5_symbolOf_35 : decode cX5_symbolOf 35 = .ok (.iaload, 1) := by decide +kernel
theorem dX5_symbolOf_36 : decode cX5_symbolOf 36 = .ok (.ireturn, 1) := by decide +kernel
theorem dX5_symbolOf_37 : decode cX5_symbolOf 37 = .ok (.iinc 3 1, 3) := by decide +kernel
theorem dX5_symbolOf_40 : decode cX5_symbolOf 40 = .ok (.goto (-38), 3) := by decide +kernel
theorem dX5_symbolOf_43 : decode cX5_symbolOf 43 = .ok (.iconst (-1), 1) := by decide +kernel
theorem dX5_symbolOf_44 : decode cX5_symbolOf 44 = .ok (.ireturn, 1) := by decide +kernel
end
section
theorem dX6_init_0 : decode cX6_init 0 = .ok (.aload_n 0, 1) := by decide +kernel
theorem dX6_init_1 : decode cX6_init 1 = .ok (.invokespecial 3, 3) := by decide +kernel
theorem dX6_init_4 : decode cX6_init 4 = .ok (.aload_n 0, 1) := by decide +kernel
theorem dX6_init_5 : decode cX6_init 5 = .ok (.new 9, 3) := by decide +kernel
theorem dX6_init_8 : decode cX6_init 8 = .ok (.dup, 1) := by decide +kernel
theorem dX6_init_9 : decode cX6_init 9 = .ok (.sipush 1200, 3) := by decide +kernel
theorem dX6_init_12 : decode cX6_init 12 = .ok (.sipush 1200, 3) := by decide +kernel
theorem dX6_init_15 : decode cX6_init 15 = .ok (.invokespecial 11, 3) := by decide +kernel
theorem dX6_init_18 : decode cX6_init 18 = .ok (.putfield 14, 3) := by decide +kernel
theorem dX6_init_21 : decode cX6_init 21 = .ok (.aload_n 0, 1) := by decide +kernel
theorem dX6_init_22 : decode cX6_init 22 = .ok (.new 18, 3) := by decide +kernel
theorem dX6_init_25 : decode cX6_init 25 = .ok (.dup, 1) := by decide +kernel
theorem dX6_init_26 : decode cX6_init 26 = .ok (.aload_n 0, 1) := by decide +kernel
theorem dX6_init_27 : decode cX6_init 27 = .ok (.getfield 14, 3) := by decide +kernel
theorem dX6_init_30 : decode cX6_init 30 = .ok (.lload_n 1, 1) := by decide +kernel
theorem dX6_init_31 : decode cX6_init 31 = .ok (.invokespecial 20, 3) := by decide +kernel
theorem dX6_init_34 : decode cX6_init 34 = .ok (.putfield 23, 3) := by decide +kernel
theorem dX6_init_37 : decode cX6_init 37 = .ok (.aload_n 0, 1) := by decide +kernel
theorem dX6_init_38 : decode cX6_init 38 = .ok (.new 27, 3) := by decide +kernel
theorem dX6_init_41 : decode cX6_init 41 = .ok (.dup, 1) := by decide +kernel
theorem dX6_init_42 : decode cX6_init 42 = .ok (.aload_n 0, 1) := by decide +kernel
theorem dX6_init_43 : decode cX6_init 43 = .ok (.getfield 14, 3) := by decide +kernel
theorem dX6_init_46 : decode cX6_init 46 = .ok (.invokespecial 29, 3) := by decide +kernel
theorem dX6_init_49 : decode cX6_init 49 = .ok (.putfield 32, 3) := by decide +kernel
theorem dX6_init_52 : decode cX6_init 52 = .ok (.aload_n 0, 1) := by decide +kernel
theorem dX6_init_53 : decode cX6_init 53 = .ok (.sipush 600, 3) := by decide +kernel
theorem dX6_init_56 : decode cX6_init 56 = .ok (.newarray .int, 2) := by decide +kernel
theorem dX6_init_58 : decode cX6_init 58 = .ok (.putfield 36, 3) := by decide +kernel
theorem dX6_init_61 : decode cX6_init 61 = .ok (.return_, 1) := by decide +kernel
theorem dX6_feed_0 : decode cX6_feed 0 = .ok (.iload_n 1, 1) := by decide +kernel
theorem dX6_feed_1 : decode cX6_feed 1 = .ok (.iconst 1, 1) := by decide +kernel
theorem dX6_feed_2 : decode cX6_feed 2 = .ok (.if_icmp .lt 9, 3) := by decide +kernel
theorem dX6_feed_5 : decode cX6_feed 5 = .ok (.iload_n 1, 1) := by decide +kernel
theorem dX6_feed_6 : decode cX6_feed 6 = .ok (.bipush 8, 2) := by decide +kernel
theorem dX6_feed_8 : decode cX6_feed 8 = .ok (.if_icmp .le 6, 3) := by decide +kernel
theorem dX6_feed_11 : decode cX6_feed 11 = .ok (.bipush (-2), 2) := by decide +kernel
theorem dX6_feed_13 : decode cX6_feed 13 = .ok (.ireturn, 1) := by decide +kernel
theorem dX6_feed_14 : decode cX6_feed 14 = .ok (.aload_n 0, 1) := by decide +kernel
theorem dX6_feed_15 : decode cX6_feed 15 = .ok (.getfield 14, 3) := by decide +kernel
theorem dX6_feed_18 : decode cX6_feed 18 = .ok (.getfield 40, 3) := by decide +kernel
theorem dX6_feed_21 : decode cX6_feed 21 = .ok (.iload_n 1, 1) := by decide +kernel
theorem dX6_feed_22 : decode cX6_feed 22 = .ok (.iadd, 1) := by decide +kernel
theorem dX6_feed_23 : decode cX6_feed 23 = .ok (.sipush 1200, 3) := by decide +kernel
theorem dX6_feed_26 : decode cX6_feed 26 = .ok (.if_icmp .le 6, 3) := by decide +kernel
theorem dX6_feed_29 : decode cX6_feed 29 = .ok (.bipush (-4), 2) := by decide +kernel
theorem dX6_feed_31 : decode cX6_feed 31 = .ok (.ireturn, 1) := by decide +kernel
theorem dX6_feed_32 : decode cX6_feed 32 = .ok (.iload_n 1, 1) := by decide +kernel
theorem dX6_feed_33 : decode cX6_feed 33 = .ok (.iconst 1, 1) := by decide +kernel
theorem dX6_feed_34 : decode cX6_feed 34 = .ok (.isub, 1) := by decide +kernel
theorem dX6_feed_35 : decode cX6_feed 35 = .ok (.istore 4, 2) := by decide +kernel
theorem dX6_feed_37 : decode cX6_feed 37 = .ok (.iload 4, 2) := by decide +kernel
theorem dX6_feed_39 : decode cX6_feed 39 = .ok (.ifCond .lt 28, 3) := by decide +kernel
theorem dX6_feed_42 : decode cX6_feed 42 = .ok (.aload_n 0, 1) := by decide +kernel
theorem dX6_feed_43 : decode cX6_feed 43 = .ok (.getfield 14, 3) := by decide +kernel
theorem dX6_feed_46 : decode cX6_feed 46 = .ok (.lload_n 2, 1) := by decide +kernel
theorem dX6_feed_47 : decode cX6_feed 47 = .ok (.bipush 8, 2) := by decide +kernel
theorem dX6_feed_49 : decode cX6_feed 49 = .ok (.iload 4, 2) := by decide +kernel
theorem dX6_feed_51 : decode cX6_feed 51 = .ok (.imul, 1) := by decide +kernel
theorem dX6_feed_52 : decode cX6_feed 52 = .ok (.lushr, 1) := by decide +kernel
theorem dX6_feed_53 : decode cX6_feed 53 = .ok (.l2i, 1) := by decide +kernel
theorem dX6_feed_54 : decode cX6_feed 54 = .ok (.sipush 255, 3) := by decide +kernel
theorem dX6_feed_57 : decode cX6_feed 57 = .ok (.iand, 1) := by decide +kernel
theorem dX6_feed_58 : decode cX6_feed 58 = .ok (.invokevirtual 44, 3) := by decide +kernel
theorem dX6_feed_61 : decode cX6_feed 61 = .ok (.iinc 4 (-1), 3) := by decide +kernel
theorem dX6_feed_64 : decode cX6_feed 64 = .ok (.goto (-27), 3) := by decide +kernel
theorem dX6_feed_67 : decode cX6_feed 67 = .ok (.aload_n 0, 1) := by decide +kernel
theorem dX6_feed_68 : decode cX6_feed 68 = .ok (.getfield 14, 3) := by decide +kernel
theorem dX6_feed_71 : decode cX6_feed 71 = .ok (.getfield 40, 3) := by decide +kernel
theorem dX6_feed_74 : decode cX6_feed 74 = .ok (.ireturn, 1) := by decide +kernel
theorem dX6_cut_0 : decode cX6_cut 0 = .ok (.iload_n 1, 1) := by decide +kernel
theorem dX6_cut_1 : decode cX6_cut 1 = .ok (.ifCond .lt 14, 3) := by decide +kernel
theorem dX6_cut_4 : decode cX6_cut 4 = .ok (.iload_n 1, 1) := by decide +kernel
theorem dX6_cut_5 : decode cX6_cut 5 = .ok (.aload_n 0, 1) := by decide +kernel
theorem dX6_cut_6 : decode cX6_cut 6 = .ok (.getfield 14, 3) := by decide +kernel
theorem dX6_cut_9 : decode cX6_cut 9 = .ok (.getfield 40, 3) := by decide +kernel
theorem dX6_cut_12 : decode cX6_cut 12 = .ok (.if_icmp .le 6, 3) := by decide +kernel
theorem dX6_cut_15 : decode cX6_cut 15 = .ok (.bipush (-2), 2) := by decide +kernel
theorem dX6_cut_17 : decode cX6_cut 17 = .ok (.ireturn, 1) := by decide +kernel
theorem dX6_cut_18 : decode cX6_cut 18 = .ok (.aload_n 0, 1) := by decide +kernel
theorem dX6_cut_19 : decode cX6_cut 19 = .ok (.getfield 14, 3) := by decide +kernel
theorem dX6_cut_22 : decode cX6_cut 22 = .ok (.getfield 40, 3) := by decide +kernel
theorem dX6_cut_25 : decode cX6_cut 25 = .ok (.iload_n 1, 1) := by decide +kernel
theorem dX6_cut_26 : decode cX6_cut 26 = .ok (.isub, 1) := by decide +kernel
theorem dX6_cut_27 : decode cX6_cut 27 = .ok (.istore_n 2, 1) := by decide +kernel
theorem dX6_cut_28 : decode cX6_cut 28 = .ok (.aload_n 0, 1) := by decide +kernel
theorem dX6_cut_29 : decode cX6_cut 29 = .ok (.getfield 14, 3) := by decide +kernel
theorem dX6_cut_32 : decode cX6_cut 32 = .ok (.iload_n 1, 1) := by decide +kernel
theorem dX6_cut_33 : decode cX6_cut 33 = .ok (.invokevirtual 48, 3) := by decide +kernel
theorem dX6_cut_36 : decode cX6_cut 36 = .ok (.iload_n 2, 1) := by decide +kernel
theorem dX6_cut_37 : decode cX6_cut 37 = .ok (.ireturn, 1) := by decide +kernel
theorem dX6_alter_0 : decode cX6_alter 0 = .ok (.iload_n 1, 1) := by decide +kernel
theorem dX6_alter_1 : decode cX6_alter 1 = .ok (.ifCond .lt 25, 3) := by decide +kernel
theorem dX6_alter_4 : decode cX6_alter 4 = .ok (.iload_n 1, 1) := by decide +kernel
theorem dX6_alter_5 : decode cX6_alter 5 = .ok (.aload_n 0, 1) := by decide +kernel
theorem dX6_alter_6 : decode cX6_alter 6 = .ok (.getfield 14, 3) := by decide +kernel
theorem dX6_alter_9 : decode cX6_alter 9 = .ok (.getfield 40, 3) := by decide +kernel
theorem dX6_alter_12 : decode cX6_alter 12 = .ok (.if_icmp .ge 14, 3) := by decide +kernel
theorem dX6_alter_15 : decode cX6_alter 15 = .ok (.iload_n 2, 1) := by decide +kernel
theorem dX6_alter_16 : decode cX6_alter 16 = .ok (.ifCond .lt 10, 3) := by decide +kernel
theorem dX6_alter_19 : decode cX6_alter 19 = .ok (.iload_n 2, 1) := by decide +kernel
theorem dX6_alter_20 : decode cX6_alter 20 = .ok (.sipush 255, 3) := by decide +kernel
theorem dX6_alter_23 : decode cX6_alter 23 = .ok (.if_icmp .le 6, 3) := by decide +kernel
theorem dX6_alter_26 : decode cX6_alter 26 = .ok (.bipush (-2), 2) := by decide +kernel
theorem dX6_alter_28 : decode cX6_alter 28 = .ok (.ireturn, 1) := by decide +kernel
theorem dX6_alter_29 : decode cX6_alter 29 = .ok (.aload_n 0, 1) := by decide +kernel
theorem dX6_alter_30 : decode cX6_alter 30 = .ok (.getfield 14, 3) := by decide +kernel
theorem dX6_alter_33 : decode cX6_alter 33 = .ok (.iload_n 1, 1) := by decide +kernel
theorem dX6_alter_34 : decode cX6_alter 34 = .ok (.invokevirtual 51, 3) := by decide +kernel
theorem dX6_alter_37 : decode cX6_alter 37 = .ok (.istore_n 3, 1) := by decide +kernel
theorem dX6_alter_38 : decode cX6_alter 38 = .ok (.aload_n 0, 1) := by decide +kernel
theorem dX6_alter_39 : decode cX6_alter 39 = .ok (.getfield 14, 3) := by decide +kernel
theorem dX6_alter_42 : decode cX6_alter 42 = .ok (.iload_n 1, 1) := by decide +kernel
theorem dX6_alter_43 : decode cX6_alter 43 = .ok (.iload_n 2, 1) := by decide +kernel
theorem dX6_alter_44 : decode cX6_alter 44 = .ok (.invokevirtual 55, 3) := by decide +kernel
theorem dX6_alter_47 : decode cX6_alter 47 = .ok (.iload_n 3, 1) := by decide +kernel
theorem dX6_alter_48 : decode cX6_alter 48 = .ok (.ireturn, 1) := by decide +kernel
theorem dX6_at_0 : decode cX6_at 0 = .ok (.aload_n 0, 1) := by decide +kernel
theorem dX6_at_1 : decode cX6_at 1 = .ok (.getfield 14, 3) := by decide +kernel
theorem dX6_at_4 : decode cX6_at 4 = .ok (.iload_n 1, 1) := by decide +kernel
theorem dX6_at_5 : decode cX6_at 5 = .ok (.invokevirtual 51, 3) := by decide +kernel
theorem dX6_at_8 : decode cX6_at 8 = .ok (.ireturn, 1) := by decide +kernel
theorem dX6_mend_0 : decode cX6_mend 0 = .ok (.aload_n 0, 1) := by decide +kernel
theorem dX6_mend_1 : decode cX6_mend 1 = .ok (.getfield 14, 3) := by decide +kernel
theorem dX6_mend_4 : decode cX6_mend 4 = .ok (.getfield 40, 3) := by decide +kernel
theorem dX6_mend_7 : decode cX6_mend 7 = .ok (.ifCond .ne 6, 3) := by decide +kernel
theorem dX6_mend_10 : decode cX6_mend 10 = .ok (.bipush (-3), 2) := by decide +kernel
theorem dX6_mend_12 : decode cX6_mend 12 = .ok (.ireturn, 1) := by decide +kernel
theorem dX6_mend_13 : decode cX6_mend 13 = .ok (.aload_n 0, 1) := by decide +kernel
theorem dX6_mend_14 : decode cX6_mend 14 = .ok (.getfield 14, 3) := by decide +kernel
theorem dX6_mend_17 : decode cX6_mend 17 = .ok (.getfield 40, 3) := by decide +kernel
theorem dX6_mend_20 : decode cX6_mend 20 = .ok (.iconst 1, 1) := by decide +kernel
theorem dX6_mend_21 : decode cX6_mend 21 = .ok (.isub, 1) := by decide +kernel
theorem dX6_mend_22 : decode cX6_mend 22 = .ok (.istore_n 1, 1) := by decide +kernel
theorem dX6_mend_23 : decode cX6_mend 23 = .ok (.aload_n 0, 1) := by decide +kernel
theorem dX6_mend_24 : decode cX6_mend 24 = .ok (.getfield 14, 3) := by decide +kernel
theorem dX6_mend_27 : decode cX6_mend 27 = .ok (.iconst 0, 1) := by decide +kernel
theorem dX6_mend_28 : decode cX6_mend 28 = .ok (.iload_n 1, 1) := by decide +kernel
theorem dX6_mend_29 : decode cX6_mend 29 = .ok (.invokevirtual 58, 3) := by decide +kernel
theorem dX6_mend_32 : decode cX6_mend 32 = .ok (.istore_n 2, 1) := by decide +kernel
theorem dX6_mend_33 : decode cX6_mend 33 = .ok (.aload_n 0, 1) := by decide +kernel
theorem dX6_mend_34 : decode cX6_mend 34 = .ok (.getfield 14, 3) := by decide +kernel
theorem dX6_mend_37 : decode cX6_mend 37 = .ok (.iload_n 1, 1) := by decide +kernel
theorem dX6_mend_38 : decode cX6_mend 38 = .ok (.iload_n 2, 1) := by decide +kernel
theorem dX6_mend_39 : decode cX6_mend 39 = .ok (.invokevirtual 55, 3) := by decide +kernel
theorem dX6_mend_42 : decode cX6_mend 42 = .ok (.iload_n 2, 1) := by decide +kernel
theorem dX6_mend_43 : decode cX6_mend 43 = .ok (.ireturn, 1) := by decide +kernel
theorem dX6_draw_0 : decode cX6_draw 0 = .ok (.iload_n 1, 1) := by decide +kernel
theorem dX6_draw_1 : decode cX6_draw 1 = .ok (.ifCond .lt 19, 3) := by decide +kernel
theorem dX6_draw_4 : decode cX6_draw 4 = .ok (.iload_n 1, 1) := by decide +kernel
theorem dX6_draw_5 : decode cX6_draw 5 = .ok (.bipush 9, 2) := by decide +kernel
theorem dX6_draw_7 : decode cX6_draw 7 = .ok (.if_icmp .gt 13, 3) := by decide +kernel
theorem dX6_draw_10 : decode cX6_draw 10 = .ok (.iload_n 2, 1) := by decide +kernel
theorem dX6_draw_11 : decode cX6_draw 11 = .ok (.ifCond .lt 9, 3) := by decide +kernel
theorem dX6_draw_14 : decode cX6_draw 14 = .ok (.iload_n 2, 1) := by decide +kernel
theorem dX6_draw_15 : decode cX6_draw 15 = .ok (.bipush 60, 2) := by decide +kernel
theorem dX6_draw_17 : decode cX6_draw 17 = .ok (.if_icmp .le 6, 3) := by decide +kernel
theorem dX6_draw_20 : decode cX6_draw 20 = .ok (.bipush (-2), 2) := by decide +kernel
theorem dX6_draw_22 : decode cX6_draw 22 = .ok (.ireturn, 1) := by decide +kernel
theorem dX6_draw_23 : decode cX6_draw 23 = .ok (.aload_n 0, 1) := by decide +kernel
theorem dX6_draw_24 : decode cX6_draw 24 = .ok (.getfield 23, 3) := by decide +kernel
theorem dX6_draw_27 : decode cX6_draw 27 = .ok (.iload_n 1, 1) := by decide +kernel
theorem dX6_draw_28 : decode cX6_draw 28 = .ok (.iload_n 2, 1) := by decide +kernel
theorem dX6_draw_29 : decode cX6_draw 29 = .ok (.invokevirtual 62, 3) := by decide +kernel
theorem dX6_draw_32 : decode cX6_draw 32 = .ok (.aload_n 0, 1) := by decide +kernel
theorem dX6_draw_33 : decode cX6_draw 33 = .ok (.getfield 14, 3) := by decide +kernel
theorem dX6_draw_36 : decode cX6_draw 36 = .ok (.getfield 40, 3) := by decide +kernel
theorem dX6_draw_39 : decode cX6_draw 39 = .ok (.ireturn, 1) := by decide +kernel
theorem dX6_open_0 : decode cX6_open 0 = .ok (.iload_n 1, 1) := by decide +kernel
theorem dX6_open_1 : decode cX6_open 1 = .ok (.iload_n 2, 1) := by decide +kernel
theorem dX6_open_2 : decode cX6_open 2 = .ok (.iload_n 3, 1) := by decide +kernel
theorem dX6_open_3 : decode cX6_open 3 = .ok (.invokestatic 65, 3) := by decide +kernel
theorem dX6_open_6 : decode cX6_open 6 = .ok (.ifCond .ne 6, 3) := by decide +kernel
theorem dX6_open_9 : decode cX6_open 9 = .ok (.bipush (-2), 2) := by decide +kernel
theorem dX6_open_11 : decode cX6_open 11 = .ok (.ireturn, 1) := by decide +kernel
theorem dX6_open_12 : decode cX6_open 12 = .ok (.aload_n 0, 1) := by decide +kernel
theorem dX6_open_13 : decode cX6_open 13 = .ok (.getfield 32, 3) := by decide +kernel
theorem dX6_open_16 : decode cX6_open 16 = .ok (.iload_n 1, 1) := by decide +kernel
theorem dX6_open_17 : decode cX6_open 17 = .ok (.iload_n 2, 1) := by decide +kernel
theorem dX6_open_18 : decode cX6_open 18 = .ok (.iload_n 3, 1) := by decide +kernel
theorem dX6_open_19 : decode cX6_open 19 = .ok (.invokevirtual 69, 3) := by decide +kernel
theorem dX6_open_22 : decode cX6_open 22 = .ok (.istore 4, 2) := by decide +kernel
theorem dX6_open_24 : decode cX6_open 24 = .ok (.iload 4, 2) := by decide +kernel
theorem dX6_open_26 : decode cX6_open 26 = .ok (.ifCond .ne 16, 3) := by decide +kernel
theorem dX6_open_29 : decode cX6_open 29 = .ok (.aload_n 0, 1) := by decide +kernel
theorem dX6_open_30 : decode cX6_open 30 = .ok (.getfield 32, 3) := by decide +kernel
theorem dX6_open_33 : decode cX6_open 33 = .ok (.getfield 73, 3) := by decide +kernel
theorem dX6_open_36 : decode cX6_open 36 = .ok (.getfield 40, 3) := by decide +kernel
theorem dX6_open_39 : decode cX6_open 39 = .ok (.goto 8, 3) := by decide +kernel
theorem dX6_open_42 : decode cX6_open 42 = .ok (.bipush (-10), 2) := by decide +kernel
theorem dX6_open_44 : decode cX6_open 44 = .ok (.iload 4, 2) := by decide +kernel
theorem dX6_open_46 : decode cX6_open 46 = .ok (.isub, 1) := by decide +kernel
theorem dX6_open_47 : decode cX6_open 47 = .ok (.ireturn, 1) := by decide +kernel
theorem dX6_place_0 : decode cX6_place 0 = .ok (.aload_n 0, 1) := by decide +kernel
theorem dX6_place_1 : decode cX6_place 1 = .ok (.getfield 32, 3) := by decide +kernel
theorem dX6_place_4 : decode cX6_place 4 = .ok (.getfield 76, 3) := by decide +kernel
theorem dX6_place_7 : decode cX6_place 7 = .ok (.ireturn, 1) := by decide +kernel
theorem dX6_out_0 : decode cX6_out 0 = .ok (.aload_n 0, 1) := by decide +kernel
theorem dX6_out_1 : decode cX6_out 1 = .ok (.getfield 32, 3) := by decide +kernel
theorem dX6_out_4 : decode cX6_out 4 = .ok (.getfield 73, 3) := by decide +kernel
theorem dX6_out_7 : decode cX6_out 7 = .ok (.iload_n 1, 1) := by decide +kernel
theorem dX6_out_8 : decode cX6_out 8 = .ok (.invokevirtual 51, 3) := by decide +kernel
theorem dX6_out_11 : decode cX6_out 11 = .ok (.ireturn, 1) := by decide +kernel
theorem dX6_item_0 : decode cX6_item 0 = .ok (.iload_n 1, 1) := by decide +kernel
theorem dX6_item_1 : decode cX6_item 1 = .ok (.iconst (-1), 1) := by decide +kernel
theorem dX6_item_2 : decode cX6_item 2 = .ok (.if_icmp .ne 16, 3) := by decide +kernel
theorem dX6_item_5 : decode cX6_item 5 = .ok (.aload_n 0, 1) := by decide +kernel
theorem dX6_item_6 : decode cX6_item 6 = .ok (.getfield 32, 3) := by decide +kernel
theorem dX6_item_9 : decode cX6_item 9 = .ok (.getfield 79, 3) := by decide +kernel
theorem dX6_item_12 : decode cX6_item 12 = .ok (.getfield 83, 3) := by decide +kernel
theorem dX6_item_15 : decode cX6_item 15 = .ok (.goto 15, 3) := by decide +kernel
theorem dX6_item_18 : decode cX6_item 18 = .ok (.aload_n 0, 1) := by decide +kernel
theorem dX6_item_19 : decode cX6_item 19 = .ok (.getfield 32, 3) := by decide +kernel
theorem dX6_item_22 : decode cX6_item 22 = .ok (.getfield 79, 3) := by decide +kernel
theorem dX6_item_25 : decode cX6_item 25 = .ok (.iload_n 1, 1) := by decide +kernel
theorem dX6_item_26 : decode cX6_item 26 = .ok (.iload_n 2, 1) := by decide +kernel
theorem dX6_item_27 : decode cX6_item 27 = .ok (.invokevirtual 86, 3) := by decide +kernel
theorem dX6_item_30 : decode cX6_item 30 = .ok (.ireturn, 1) := by decide +kernel
theorem dX6_shrink_0 : decode cX6_shrink 0 = .ok (.iload_n 1, 1) := by decide +kernel
theorem dX6_shrink_1 : decode cX6_shrink 1 = .ok (.iload_n 2, 1) := by decide +kernel
theorem dX6_shrink_2 : decode cX6_shrink 2 = .ok (.iload_n 3, 1) := by decide +kernel
theorem dX6_shrink_3 : decode cX6_shrink 3 = .ok (.invokestatic 65, 3) := by decide +kernel
theorem dX6_shrink_6 : decode cX6_shrink 6 = .ok (.ifCond .ne 6, 3) := by decide +kernel
theorem dX6_shrink_9 : decode cX6_shrink 9 = .ok (.bipush (-2), 2) := by decide +kernel
theorem dX6_shrink_11 : decode cX6_shrink 11 = .ok (.ireturn, 1) := by decide +kernel
theorem dX6_shrink_12 : decode cX6_shrink 12 = .ok (.aload_n 0, 1) := by decide +kernel
theorem dX6_shrink_13 : decode cX6_shrink 13 = .ok (.getfield 32, 3) := by decide +kernel
theorem dX6_shrink_16 : decode cX6_shrink 16 = .ok (.iload_n 1, 1) := by decide +kernel
theorem dX6_shrink_17 : decode cX6_shrink 17 = .ok (.iload_n 2, 1) := by decide +kernel
theorem dX6_shrink_18 : decode cX6_shrink 18 = .ok (.iload_n 3, 1) := by decide +kernel
theorem dX6_shrink_19 : decode cX6_shrink 19 = .ok (.invokevirtual 69, 3) := by decide +kernel
theorem dX6_shrink_22 : decode cX6_shrink 22 = .ok (.istore 4, 2) := by decide +kernel
theorem dX6_shrink_24 : decode cX6_shrink 24 = .ok (.iload 4, 2) := by decide +kernel
theorem dX6_shrink_26 : decode cX6_shrink 26 = .ok (.ifCond .ne 6, 3) := by decide +kernel
theorem dX6_shrink_29 : decode cX6_shrink 29 = .ok (.bipush (-3), 2) := by decide +kernel
theorem dX6_shrink_31 : decode cX6_shrink 31 = .ok (.ireturn, 1) := by decide +kernel
theorem dX6_shrink_32 : decode cX6_shrink 32 = .ok (.aload_n 0, 1) := by decide +kernel
theorem dX6_shrink_33 : decode cX6_shrink 33 = .ok (.getfield 32, 3) := by decide +kernel
theorem dX6_shrink_36 : decode cX6_shrink 36 = .ok (.getfield 79, 3) := by decide +kernel
theorem dX6_shrink_39 : decode cX6_shrink 39 = .ok (.aload_n 0, 1) := by decide +kernel
theorem dX6_shrink_40 : decode cX6_shrink 40 = .ok (.getfield 36, 3) := by decide +kernel
theorem dX6_shrink_43 : decode cX6_shrink 43 = .ok (.invokevirtual 88, 3) := by decide +kernel
theorem dX6_shrink_46 : decode cX6_shrink 46 = .ok (.istore 5, 2) := by decide +kernel
theorem dX6_shrink_48 : decode cX6_shrink 48 = .ok (.iconst 2, 1) := by decide +kernel
theorem dX6_shrink_49 : decode cX6_shrink 49 = .ok (.istore 6, 2) := by decide +kernel
theorem dX6_shrink_51 : decode cX6_shrink 51 = .ok (.iconst 0, 1) := by decide +kernel
theorem dX6_shrink_52 : decode cX6_shrink 52 = .ok (.istore 7, 2) := by decide +kernel
theorem dX6_shrink_54 : decode cX6_shrink 54 = .ok (.iload 7, 2) := by decide +kernel
theorem dX6_shrink_56 : decode cX6_shrink 56 = .ok (.iload 5, 2) := by decide +kernel
theorem dX6_shrink_58 : decode cX6_shrink 58 = .ok (.if_icmp .ge 71, 3) := by decide +kernel
theorem dX6_shrink_61 : decode cX6_shrink 61 = .ok (.iload 7, 2) := by decide +kernel
theorem dX6_shrink_63 : decode cX6_shrink 63 = .ok (.aload_n 0, 1) := by decide +kernel
theorem dX6_shrink_64 : decode cX6_shrink 64 = .ok (.getfield 36, 3) := by decide +kernel
theorem dX6_shrink_67 : decode cX6_shrink 67 = .ok (.arraylength, 1) := by decide +kernel
theorem dX6_shrink_68 : decode cX6_shrink 68 = .ok (.if_icmp .ge 61, 3) := by decide +kernel
theorem dX6_shrink_71 : decode cX6_shrink 71 = .ok (.aload_n 0, 1) := by decide +kernel
theorem dX6_shrink_72 : decode cX6_shrink 72 = .ok (.getfield 14, 3) := by decide +kernel
theorem dX6_shrink_75 : decode cX6_shrink 75 = .ok (.iload 6, 2) := by decide +kernel
theorem dX6_shrink_77 : decode cX6_shrink 77 = .ok (.aload_n 0, 1) := by decide +kernel
theorem dX6_shrink_78 : decode cX6_shrink 78 = .ok (.getfield 36, 3) := by decide +kernel
theorem dX6_shrink_81 : decode cX6_shrink 81 = .ok (.iload 7, 2) := by decide +kernel
theorem dX6_shrink_83 : decode cX6_shrink 83 = .ok (.iaload, 1) := by decide +kernel
theorem dX6_shrink_84 : decode cX6_shrink 84 = .ok (.invokevirtual 92, 3) := by decide +kernel
theorem dX6_shrink_87 : decode cX6_shrink 87 = .ok (.aload_n 0, 1) := by decide +kernel
theorem dX6_shrink_88 : decode cX6_shrink 88 = .ok (.getfield 32, 3) := by decide +kernel
theorem dX6_shrink_91 : decode cX6_shrink 91 = .ok (.iload_n 1, 1) := by decide +kernel
theorem dX6_shrink_92 : decode cX6_shrink 92 = .ok (.iload_n 2, 1) := by decide +kernel
theorem dX6_shrink_93 : decode cX6_shrink 93 = .ok (.iload_n 3, 1) := by decide +kernel
theorem dX6_shrink_94 : decode cX6_shrink 94 = .ok (.invokevirtual 69, 3) := by decide +kernel
theorem dX6_shrink_97 : decode cX6_shrink 97 = .ok (.iload 4, 2) := by decide +kernel
theorem dX6_shrink_99 : decode cX6_shrink 99 = .ok (.if_icmp .eq 24, 3) := by decide +kernel
theorem dX6_shrink_102 : decode cX6_shrink 102 = .ok (.aload_n 0, 1) := by decide +kernel
theorem dX6_shrink_103 : decode cX6_shrink 103 = .ok (.getfield 14, 3) := by decide +kernel
theorem dX6_shrink_106 : decode cX6_shrink 106 = .ok (.iload 6, 2) := by decide +kernel
theorem dX6_shrink_108 : decode cX6_shrink 108 = .ok (.invokevirtual 95, 3) := by decide +kernel
theorem dX6_shrink_111 : decode cX6_shrink 111 = .ok (.iload 6, 2) := by decide +kernel
theorem dX6_shrink_113 : decode cX6_shrink 113 = .ok (.aload_n 0, 1) := by decide +kernel
theorem dX6_shrink_114 : decode cX6_shrink 114 = .ok (.getfield 36, 3) := by decide +kernel
theorem dX6_shrink_117 : decode cX6_shrink 117 = .ok (.iload 7, 2) := by decide +kernel
theorem dX6_shrink_119 : decode cX6_shrink 119 = .ok (.iaload, 1) := by decide +kernel
theorem dX6_shrink_120 : decode cX6_shrink 120 = .ok (.iadd, 1) := by decide +kernel
theorem dX6_shrink_121 : decode cX6_shrink 121 = .ok (.istore 6, 2) := by decide +kernel
theorem dX6_shrink_123 : decode cX6_shrink 123 = .ok (.iinc 7 1, 3) := by decide +kernel
theorem dX6_shrink_126 : decode cX6_shrink 126 = .ok (.goto (-72), 3) := by decide +kernel
theorem dX6_shrink_129 : decode cX6_shrink 129 = .ok (.aload_n 0, 1) := by decide +kernel
theorem dX6_shrink_130 : decode cX6_shrink 130 = .ok (.getfield 32, 3) := by decide +kernel
theorem dX6_shrink_133 : decode cX6_shrink 133 = .ok (.iload_n 1, 1) := by decide +kernel
theorem dX6_shrink_134 : decode cX6_shrink 134 = .ok (.iload_n 2, 1) := by decide +kernel
theorem dX6_shrink_135 : decode cX6_shrink 135 = .ok (.iload_n 3, 1) := by decide +kernel
theorem dX6_shrink_136 : decode cX6_shrink 136 = .ok (.invokevirtual 69, 3) := by decide +kernel
theorem dX6_shrink_139 : decode cX6_shrink 139 = .ok (.pop, 1) := by decide +kernel
theorem dX6_shrink_140 : decode cX6_shrink 140 = .ok (.aload_n 0, 1) := by decide +kernel
theorem dX6_shrink_141 : decode cX6_shrink 141 = .ok (.getfield 14, 3) := by decide +kernel
theorem dX6_shrink_144 : decode cX6_shrink 144 = .ok (.getfield 40, 3) := by decide +kernel
theorem dX6_shrink_147 : decode cX6_shrink 147 = .ok (.ireturn, 1) := by decide +kernel
theorem dX6_count_0 : decode cX6_count 0 = .ok (.iload_n 1, 1) := by decide +kernel
theorem dX6_count_1 : decode cX6_count 1 = .ok (.tableswitch 102 0 6 #[43, 51, 62, 70, 78, 86, 94], 43) := by decide +kernel
theorem dX6_count_44 : decode cX6_count 44 = .ok (.aload_n 0, 1) := by decide +kernel
theorem dX6_count_45 : decode cX6_count 45 = .ok (.getfield 14, 3) := by decide +kernel
theorem dX6_count_48 : decode cX6_count 48 = .ok (.getfield 40, 3) := by decide +kernel
theorem dX6_count_51 : decode cX6_count 51 = .ok (.ireturn, 1) := by decide +kernel
theorem dX6_count_52 : decode cX6_count 52 = .ok (.aload_n 0, 1) := by decide +kernel
theorem dX6_count_53 : decode cX6_count 53 = .ok (.getfield 32, 3) := by decide +kernel
theorem dX6_count_56 : decode cX6_count 56 = .ok (.getfield 73, 3) := by decide +kernel
theorem dX6_count_59 : decode cX6_count 59 = .ok (.getfield 40, 3) := by decide +kernel
theorem dX6_count_62 : decode cX6_count 62 = .ok (.ireturn, 1) := by decide +kernel
theorem dX6_count_63 : decode cX6_count 63 = .ok (.aload_n 0, 1) := by decide +kernel
theorem dX6_count_64 : decode cX6_count 64 = .ok (.getfield 32, 3) := by decide +kernel
theorem dX6_count_67 : decode cX6_count 67 = .ok (.getfield 98, 3) := by decide +kernel
theorem dX6_count_70 : decode cX6_count 70 = .ok (.ireturn, 1) := by decide +kernel
theorem dX6_count_71 : decode cX6_count 71 = .ok (.aload_n 0, 1) := by decide +kernel
theorem dX6_count_72 : decode cX6_count 72 = .ok (.getfield 32, 3) := by decide +kernel
theorem dX6_count_75 : decode cX6_count 75 = .ok (.getfield 101, 3) := by decide +kernel
theorem dX6_count_78 : decode cX6_count 78 = .ok (.ireturn, 1) := by decide +kernel
theorem dX6_count_79 : decode cX6_count 79 = .ok (.aload_n 0, 1) := by decide +kernel
theorem dX6_count_80 : decode cX6_count 80 = .ok (.getfield 32, 3) := by decide +kernel
theorem dX6_count_83 : decode cX6_count 83 = .ok (.getfield 104, 3) := by decide +kernel
theorem dX6_count_86 : decode cX6_count 86 = .ok (.ireturn, 1) := by decide +kernel
theorem dX6_count_87 : decode cX6_count 87 = .ok (.aload_n 0, 1) := by decide +kernel
theorem dX6_count_88 : decode cX6_count 88 = .ok (.getfield 32, 3) := by decide +kernel
theorem dX6_count_91 : decode cX6_count 91 = .ok (.getfield 107, 3) := by decide +kernel
theorem dX6_count_94 : decode cX6_count 94 = .ok (.ireturn, 1) := by decide +kernel
theorem dX6_count_95 : decode cX6_count 95 = .ok (.aload_n 0, 1) := by decide +kernel
theorem dX6_count_96 : decode cX6_count 96 = .ok (.getfield 32, 3) := by decide +kernel
theorem dX6_count_99 : decode cX6_count 99 = .ok (.getfield 110, 3) := by decide +kernel
theorem dX6_count_102 : decode cX6_count 102 = .ok (.ireturn, 1) := by decide +kernel
theorem dX6_count_103 : decode cX6_count 103 = .ok (.iconst (-1), 1) := by decide +kernel
theorem dX6_count_104 : decode cX6_count 104 = .ok (.ireturn, 1) := by decide +kernel
theorem dX6_areBounds_0 : decode cX6_areBounds 0 = .ok (.iload_n 0, 1) := by decide +kernel
theorem dX6_areBounds_1 : decode cX6_areBounds 1 = .ok (.ifCond .lt 35, 3) := by decide +kernel
theorem dX6_areBounds_4 : decode cX6_areBounds 4 = .ok (.iload_n 0, 1) := by decide +kernel
theorem dX6_areBounds_5 : decode cX6_areBounds 5 = .ok (.sipush 4000, 3) := by decide +kernel
theorem dX6_areBounds_8 : decode cX6_areBounds 8 = .ok (.if_icmp .gt 28, 3) := by decide +kernel
theorem dX6_areBounds_11 : decode cX6_areBounds 11 = .ok (.iload_n 1, 1) := by decide +kernel
theorem dX6_areBounds_12 : decode cX6_areBounds 12 = .ok (.ifCond .lt 24, 3) := by decide +kernel
theorem dX6_areBounds_15 : decode cX6_areBounds 15 = .ok (.iload_n 1, 1) := by decide +kernel
theorem dX6_areBounds_16 : decode cX6_areBounds 16 = .ok (.sipush 20000, 3) := by decide +kernel
theorem dX6_areBounds_19 : decode cX6_areBounds 19 = .ok (.if_icmp .gt 17, 3) := by decide +kernel
theorem dX6_areBounds_22 : decode cX6_areBounds 22 = .ok (.iload_n 2, 1) := by decide +kernel
theorem dX6_areBounds_23 : decode cX6_areBounds 23 = .ok (.ifCond .lt 13, 3) := by decide +kernel
theorem dX6_areBounds_26 : decode cX6_areBounds 26 = .ok (.iload_n 2, 1) := by decide +kernel
theorem dX6_areBounds_27 : decode cX6_areBounds 27 = .ok (.bipush 8, 2) := by decide +kernel
theorem dX6_areBounds_29 : decode cX6_areBounds 29 = .ok (.if_icmp .gt 7, 3) := by decide +kernel
theorem dX6_areBounds_32 : decode cX6_areBounds 32 = .ok (.iconst 1, 1) := by decide +kernel
theorem dX6_areBounds_33 : decode cX6_areBounds 33 = .ok (.goto 4, 3) := by decide +kernel
theorem dX6_areBounds_36 : decode cX6_areBounds 36 = .ok (.iconst 0, 1) := by decide +kernel
theorem dX6_areBounds_37 : decode cX6_areBounds 37 = .ok (.ireturn, 1) := by decide +kernel
end
section
theorem dX7_init_0 : decode cX7_init 0 = .ok (.aload_n 0, 1) := by decide +kernel
theorem dX7_init_1 : decode cX7_init 1 = .ok (.invokespecial 1, 3) := by decide +kernel
theorem dX7_init_4 : decode cX7_init 4 = .ok (.aload_n 0, 1) := by decide +kernel
theorem dX7_init_5 : decode cX7_init 5 = .ok (.sipush 1200, 3) := by decide +kernel
theorem dX7_init_8 : decode cX7_init 8 = .ok (.newarray .int, 2) := by decide +kernel
theorem dX7_init_10 : decode cX7_init 10 = .ok (.putfield 7, 3) := by decide +kernel
theorem dX7_init_13 : decode cX7_init 13 = .ok (.aload_n 0, 1) := by decide +kernel
theorem dX7_init_14 : decode cX7_init 14 = .ok (.sipush 4000, 3) := by decide +kernel
theorem dX7_init_17 : decode cX7_init 17 = .ok (.newarray .int, 2) := by decide +kernel
theorem dX7_init_19 : decode cX7_init 19 = .ok (.putfield 13, 3) := by decide +kernel
theorem dX7_init_22 : decode cX7_init 22 = .ok (.aload_n 0, 1) := by decide +kernel
theorem dX7_init_23 : decode cX7_init 23 = .ok (.iconst (-1), 1) := by decide +kernel
theorem dX7_init_24 : decode cX7_init 24 = .ok (.putfield 16, 3) := by decide +kernel
theorem dX7_init_27 : decode cX7_init 27 = .ok (.aload_n 0, 1) := by decide +kernel
theorem dX7_init_28 : decode cX7_init 28 = .ok (.bipush 10, 2) := by decide +kernel
theorem dX7_init_30 : decode cX7_init 30 = .ok (.newarray .int, 2) := by decide +kernel
theorem dX7_init_32 : decode cX7_init 32 = .ok (.putfield 20, 3) := by decide +kernel
theorem dX7_init_35 : decode cX7_init 35 = .ok (.aload_n 0, 1) := by decide +kernel
theorem dX7_init_36 : decode cX7_init 36 = .ok (.bipush 10, 2) := by decide +kernel
theorem dX7_init_38 : decode cX7_init 38 = .ok (.newarray .int, 2) := by decide +kernel
theorem dX7_init_40 : decode cX7_init 40 = .ok (.putfield 23, 3) := by decide +kernel
theorem dX7_init_43 : decode cX7_init 43 = .ok (.aload_n 0, 1) := by decide +kernel
theorem dX7_init_44 : decode cX7_init 44 = .ok (.bipush 10, 2) := by decide +kernel
theorem dX7_init_46 : decode cX7_init 46 = .ok (.newarray .int, 2) := by decide +kernel
theorem dX7_init_48 : decode cX7_init 48 = .ok (.putfield 26, 3) := by decide +kernel
theorem dX7_init_51 : decode cX7_init 51 = .ok (.aload_n 0, 1) := by decide +kernel
theorem dX7_init_52 : decode cX7_init 52 = .ok (.bipush 10, 2) := by decide +kernel
theorem dX7_init_54 : decode cX7_init 54 = .ok (.newarray .int, 2) := by decide +kernel
theorem dX7_init_56 : decode cX7_init 56 = .ok (.putfield 29, 3) := by decide +kernel
theorem dX7_init_59 : decode cX7_init 59 = .ok (.aload_n 0, 1) := by decide +kernel
theorem dX7_init_60 : decode cX7_init 60 = .ok (.bipush 10, 2) := by decide +kernel
theorem dX7_init_62 : decode cX7_init 62 = .ok (.newarray .int, 2) := by decide +kernel
theorem dX7_init_64 : decode cX7_init 64 = .ok (.putfield 32, 3) := by decide +kernel
theorem dX7_init_67 : decode cX7_init 67 = .ok (.aload_n 0, 1) := by decide +kernel
theorem dX7_init_68 : decode cX7_init 68 = .ok (.sipush 6000, 3) := by decide +kernel
theorem dX7_init_71 : decode cX7_init 71 = .ok (.newarray .int, 2) := by decide +kernel
theorem dX7_init_73 : decode cX7_init 73 = .ok (.putfield 35, 3) := by decide +kernel
theorem dX7_init_76 : decode cX7_init 76 = .ok (.aload_n 0, 1) := by decide +kernel
theorem dX7_init_77 : decode cX7_init 77 = .ok (.bipush 10, 2) := by decide +kernel
theorem dX7_init_79 : decode cX7_init 79 = .ok (.newarray .int, 2) := by decide +kernel
theorem dX7_init_81 : decode cX7_init 81 = .ok (.putfield 38, 3) := by decide +kernel
theorem dX7_init_84 : decode cX7_init 84 = .ok (.aload_n 0, 1) := by decide +kernel
theorem dX7_init_85 : decode cX7_init 85 = .ok (.bipush 10, 2) := by decide +kernel
theorem dX7_init_87 : decode cX7_init 87 = .ok (.newarray .int, 2) := by decide +kernel
theorem dX7_init_89 : decode cX7_init 89 = .ok (.putfield 41, 3) := by decide +kernel
theorem dX7_init_92 : decode cX7_init 92 = .ok (.aload_n 0, 1) := by decide +kernel
theorem dX7_init_93 : decode cX7_init 93 = .ok (.bipush 10, 2) := by decide +kernel
theorem dX7_init_95 : decode cX7_init 95 = .ok (.newarray .int, 2) := by decide +kernel
theorem dX7_init_97 : decode cX7_init 97 = .ok (.putfield 44, 3) := by decide +kernel
theorem dX7_init_100 : decode cX7_init 100 = .ok (.aload_n 0, 1) := by decide +kernel
theorem dX7_init_101 : decode cX7_init 101 = .ok (.sipush 600, 3) := by decide +kernel
theorem dX7_init_104 : decode cX7_init 104 = .ok (.newarray .int, 2) := by decide +kernel
theorem dX7_init_106 : decode cX7_init 106 = .ok (.putfield 47, 3) := by decide +kernel
theorem dX7_init_109 : decode cX7_init 109 = .ok (.aload_n 0, 1) := by decide +kernel
theorem dX7_init_110 : decode cX7_init 110 = .ok (.sipush 600, 3) := by decide +kernel
theorem dX7_init_113 : decode cX7_init 113 = .ok (.newarray .int, 2) := by decide +kernel
theorem dX7_init_115 : decode cX7_init 115 = .ok (.putfield 50, 3) := by decide +kernel
theorem dX7_init_118 : decode cX7_init 118 = .ok (.aload_n 0, 1) := by decide +kernel
theorem dX7_init_119 : decode cX7_init 119 = .ok (.sipush 600, 3) := by decide +kernel
theorem dX7_init_122 : decode cX7_init 122 = .ok (.newarray .int, 2) := by decide +kernel
theorem dX7_init_124 : decode cX7_init 124 = .ok (.putfield 53, 3) := by decide +kernel
theorem dX7_init_127 : decode cX7_init 127 = .ok (.aload_n 0, 1) := by decide +kernel
theorem dX7_init_128 : decode cX7_init 128 = .ok (.sipush 600, 3) := by decide +kernel
theorem dX7_init_131 : decode cX7_init 131 = .ok (.newarray .int, 2) := by decide +kernel
theorem dX7_init_133 : decode cX7_init 133 = .ok (.putfield 56, 3) := by decide +kernel
theorem dX7_init_136 : decode cX7_init 136 = .ok (.aload_n 0, 1) := by decide +kernel
theorem dX7_init_137 : decode cX7_init 137 = .ok (.bipush 8, 2) := by decide +kernel
theorem dX7_init_139 : decode cX7_init 139 = .ok (.newarray .int, 2) := by decide +kernel
theorem dX7_init_141 : decode cX7_init 141 = .ok (.putfield 59, 3) := by decide +kernel
theorem dX7_init_144 : decode cX7_init 144 = .ok (.aload_n 0, 1) := by decide +kernel
theorem dX7_init_145 : decode cX7_init 145 = .ok (.sipush 1200, 3) := by decide +kernel
theorem dX7_init_148 : decode cX7_init 148 = .ok (.newarray .int, 2) := by decide +kernel
theorem dX7_init_150 : decode cX7_init 150 = .ok (.putfield 62, 3) := by decide +kernel
theorem dX7_init_153 : decode cX7_init 153 = .ok (.aload_n 0, 1) := by decide +kernel
theorem dX7_init_154 : decode cX7_init 154 = .ok (.sipush 601, 3) := by decide +kernel
theorem dX7_init_157 : decode cX7_init 157 = .ok (.newarray .int, 2) := by decide +kernel
theorem dX7_init_159 : decode cX7_init 159 = .ok (.putfield 65, 3) := by decide +kernel
theorem dX7_init_162 : decode cX7_init 162 = .ok (.aload_n 0, 1) := by decide +kernel
theorem dX7_init_163 : decode cX7_init 163 = .ok (.lload_n 1, 1) := by decide +kernel
theorem dX7_init_164 : decode cX7_init 164 = .ok (.putfield 68, 3) := by decide +kernel
theorem dX7_init_167 : decode cX7_init 167 = .ok (.return_, 1) := by decide +kernel
theorem dX7_in_0 : decode cX7_in 0 = .ok (.lload_n 0, 1) := by decide +kernel
theorem dX7_in_1 : decode cX7_in 1 = .ok (.lload_n 2, 1) := by decide +kernel
theorem dX7_in_2 : decode cX7_in 2 = .ok (.lcmp, 1) := by decide +kernel
theorem dX7_in_3 : decode cX7_in 3 = .ok (.ifCond .lt 14, 3) := by decide +kernel
theorem dX7_in_6 : decode cX7_in 6 = .ok (.lload_n 0, 1) := by decide +kernel
theorem dX7_in_7 : decode cX7_in 7 = .ok (.lload 4, 2) := by decide +kernel
theorem dX7_in_9 : decode cX7_in 9 = .ok (.lcmp, 1) := by decide +kernel
theorem dX7_in_10 : decode cX7_in 10 = .ok (.ifCond .gt 7, 3) := by decide +kernel
theorem dX7_in_13 : decode cX7_in 13 = .ok (.iconst 1, 1) := by decide +kernel
theorem dX7_in_14 : decode cX7_in 14 = .ok (.goto 4, 3) := by decide +kernel
theorem dX7_in_17 : decode cX7_in 17 = .ok (.iconst 0, 1) := by decide +kernel
theorem dX7_in_18 : decode cX7_in 18 = .ok (.ireturn, 1) := by decide +kernel
theorem dX7_feed_0 : decode cX7_feed 0 = .ok (.iload_n 1, 1) := by decide +kernel
theorem dX7_feed_1 : decode cX7_feed 1 = .ok (.i2l, 1) := by decide +kernel
theorem dX7_feed_2 : decode cX7_feed 2 = .ok (.lconst 1, 1) := by decide +kernel
theorem dX7_feed_3 : decode cX7_feed 3 = .ok (.ldc2_w 72, 3) := by decide +kernel
theorem dX7_feed_6 : decode cX7_feed 6 = .ok (.invokestatic 74, 3) := by decide +kernel
theorem dX7_feed_9 : decode cX7_feed 9 = .ok (.ifCond .ne 6, 3) := by decide +kernel
theorem dX7_feed_12 : decode cX7_feed 12 = .ok (.bipush (-2), 2) := by decide +kernel
theorem dX7_feed_14 : decode cX7_feed 14 = .ok (.ireturn, 1) := by decide +kernel
theorem dX7_feed_15 : decode cX7_feed 15 = .ok (.aload_n 0, 1) := by decide +kernel
theorem dX7_feed_16 : decode cX7_feed 16 = .ok (.getfield 78, 3) := by decide +kernel
theorem dX7_feed_19 : decode cX7_feed 19 = .ok (.iload_n 1, 1) := by decide +kernel
theorem dX7_feed_20 : decode cX7_feed 20 = .ok (.iadd, 1) := by decide +kernel
theorem dX7_feed_21 : decode cX7_feed 21 = .ok (.sipush 1200, 3) := by decide +kernel
theorem dX7_feed_24 : decode cX7_feed 24 = .ok (.if_icmp .le 6, 3) := by decide +kernel
theorem dX7_feed_27 : decode cX7_feed 27 = .ok (.bipush (-4), 2) := by decide +kernel
theorem dX7_feed_29 : decode cX7_feed 29 = .ok (.ireturn, 1) := by decide +kernel
theorem dX7_feed_30 : decode cX7_feed 30 = .ok (.iload_n 1, 1) := by decide +kernel
theorem dX7_feed_31 : decode cX7_feed 31 = .ok (.iconst 1, 1) := by decide +kernel
theorem dX7_feed_32 : decode cX7_feed 32 = .ok (.isub, 1) := by decide +kernel
theorem dX7_feed_33 : decode cX7_feed 33 = .ok (.istore 4, 2) := by decide +kernel
theorem dX7_feed_35 : decode cX7_feed 35 = .ok (.iload 4, 2) := by decide +kernel
theorem dX7_feed_37 : decode cX7_feed 37 = .ok (.ifCond .lt 25, 3) := by decide +kernel
theorem dX7_feed_40 : decode cX7_feed 40 = .ok (.aload_n 0, 1) := by decide +kernel
theorem dX7_feed_41 : decode cX7_feed 41 = .ok (.lload_n 2, 1) := by decide +kernel
theorem dX7_feed_42 : decode cX7_feed 42 = .ok (.bipush 8, 2) := by decide +kernel
theorem dX7_feed_44 : decode cX7_feed 44 = .ok (.iload 4, 2) := by decide +kernel
theorem dX7_feed_46 : decode cX7_feed 46 = .ok (.imul, 1) := by decide +kernel
theorem dX7_feed_47 : decode cX7_feed 47 = .ok (.lshr, 1) := by decide +kernel
theorem dX7_feed_48 : decode cX7_feed 48 = .ok (.ldc2_w 81, 3) := by decide +kernel
theorem dX7_feed_51 : decode cX7_feed 51 = .ok (.land, 1) := by decide +kernel
theorem dX7_feed_52 : decode cX7_feed 52 = .ok (.l2i, 1) := by decide +kernel
theorem dX7_feed_53 : decode cX7_feed 53 = .ok (.invokevirtual 83, 3) := by decide +kernel
theorem dX7_feed_56 : decode cX7_feed 56 = .ok (.iinc 4 (-1), 3) := by decide +kernel
theorem dX7_feed_59 : decode cX7_feed 59 = .ok (.goto (-24), 3) := by decide +kernel
theorem dX7_feed_62 : decode cX7_feed 62 = .ok (.aload_n 0, 1) := by decide +kernel
theorem dX7_feed_63 : decode cX7_feed 63 = .ok (.getfield 78, 3) := by decide +kernel
theorem dX7_feed_66 : decode cX7_feed 66 = .ok (.ireturn, 1) := by decide +kernel
theorem dX7_lay_0 : decode cX7_lay 0 = .ok (.aload_n 0, 1) := by decide +kernel
theorem dX7_lay_1 : decode cX7_lay 1 = .ok (.getfield 7, 3) := by decide +kernel
theorem dX7_lay_4 : decode cX7_lay 4 = .ok (.aload_n 0, 1) := by decide +kernel
theorem dX7_lay_5 : decode cX7_lay 5 = .ok (.getfield 78, 3) := by decide +kernel
theorem dX7_lay_8 : decode cX7_lay 8 = .ok (.iload_n 1, 1) := by decide +kernel
theorem dX7_lay_9 : decode cX7_lay 9 = .ok (.iastore, 1) := by decide +kernel
theorem dX7_lay_10 : decode cX7_lay 10 = .ok (.aload_n 0, 1) := by decide +kernel
theorem dX7_lay_11 : decode cX7_lay 11 = .ok (.dup, 1) := by decide +kernel
theorem dX7_lay_12 : decode cX7_lay 12 = .ok (.getfield 78, 3) := by decide +kernel
theorem dX7_lay_15 : decode cX7_lay 15 = .ok (.iconst 1, 1) := by decide +kernel
theorem dX7_lay_16 : decode cX7_lay 16 = .ok (.iadd, 1) := by decide +kernel
theorem dX7_lay_17 : decode cX7_lay 17 = .ok (.putfield 78, 3) := by decide +kernel
theorem dX7_lay_20 : decode cX7_lay 20 = .ok (.return_, 1) := by decide +kernel
theorem dX7_cut_0 : decode cX7_cut 0 = .ok (.iload_n 1, 1) := by decide +kernel
theorem dX7_cut_1 : decode cX7_cut 1 = .ok (.i2l, 1) := by decide +kernel
theorem dX7_cut_2 : decode cX7_cut 2 = .ok (.lconst 0, 1) := by decide +kernel
theorem dX7_cut_3 : decode cX7_cut 3 = .ok (.aload_n 0, 1) := by decide +kernel
theorem dX7_cut_4 : decode cX7_cut 4 = .ok (.getfield 78, 3) := by decide +kernel
theorem dX7_cut_7 : decode cX7_cut 7 = .ok (.i2l, 1) := by decide +kernel
theorem dX7_cut_8 : decode cX7_cut 8 = .ok (.invokestatic 74, 3) := by decide +kernel
theorem dX7_cut_11 : decode cX7_cut 11 = .ok (.ifCond .ne 6, 3) := by decide +kernel
theorem dX7_cut_14 : decode cX7_cut 14 = .ok (.bipush (-2), 2) := by decide +kernel
theorem dX7_cut_16 : decode cX7_cut 16 = .ok (.ireturn, 1) := by decide +kernel
theorem dX7_cut_17 : decode cX7_cut 17 = .ok (.aload_n 0, 1) := by decide +kernel
theorem dX7_cut_18 : decode cX7_cut 18 = .ok (.getfield 78, 3) := by decide +kernel
theorem dX7_cut_21 : decode cX7_cut 21 = .ok (.iload_n 1, 1) := by decide +kernel
theorem dX7_cut_22 : decode cX7_cut 22 = .ok (.isub, 1) := by decide +kernel
theorem dX7_cut_23 : decode cX7_cut 23 = .ok (.istore_n 2, 1) := by decide +kernel
theorem dX7_cut_24 : decode cX7_cut 24 = .ok (.aload_n 0, 1) := by decide +kernel
theorem dX7_cut_25 : decode cX7_cut 25 = .ok (.iload_n 1, 1) := by decide +kernel
theorem dX7_cut_26 : decode cX7_cut 26 = .ok (.putfield 78, 3) := by decide +kernel
theorem dX7_cut_29 : decode cX7_cut 29 = .ok (.iload_n 2, 1) := by decide +kernel
theorem dX7_cut_30 : decode cX7_cut 30 = .ok (.ireturn, 1) := by decide +kernel
theorem dX7_alter_0 : decode cX7_alter 0 = .ok (.iload_n 1, 1) := by decide +kernel
theorem dX7_alter_1 : decode cX7_alter 1 = .ok (.i2l, 1) := by decide +kernel
theorem dX7_alter_2 : decode cX7_alter 2 = .ok (.lconst 0, 1) := by decide +kernel
theorem dX7_alter_3 : decode cX7_alter 3 = .ok (.aload_n 0, 1) := by decide +kernel
theorem dX7_alter_4 : decode cX7_alter 4 = .ok (.getfield 78, 3) := by decide +kernel
theorem dX7_alter_7 : decode cX7_alter 7 = .ok (.iconst 1, 1) := by decide +kernel
theorem dX7_alter_8 : decode cX7_alter 8 = .ok (.isub, 1) := by decide +kernel
theorem dX7_alter_9 : decode cX7_alter 9 = .ok (.i2l, 1) := by decide +kernel
theorem dX7_alter_10 : decode cX7_alter 10 = .ok (.invokestatic 74, 3) := by decide +kernel
theorem dX7_alter_13 : decode cX7_alter 13 = .ok (.ifCond .eq 15, 3) := by decide +kernel
theorem dX7_alter_16 : decode cX7_alter 16 = .ok (.iload_n 2, 1) := by decide +kernel
theorem dX7_alter_17 : decode cX7_alter 17 = .ok (.i2l, 1) := by decide +kernel
theorem dX7_alter_18 : decode cX7_alter 18 = .ok (.lconst 0, 1) := by decide +kernel
theorem dX7_alter_19 : decode cX7_alter 19 = .ok (.ldc2_w 81, 3) := by decide +kernel
theorem dX7_alter_22 : decode cX7_alter 22 = .ok (.invokestatic 74, 3) := by decide +kernel
theorem dX7_alter_25 : decode cX7_alter 25 = .ok (.ifCond .ne 6, 3) := by decide +kernel
theorem dX7_alter_28 : decode cX7_alter 28 = .ok (.bipush (-2), 2) := by decide +kernel
theorem dX7_alter_30 : decode cX7_alter 30 = .ok (.ireturn, 1) := by decide +kernel
theorem dX7_alter_31 : decode cX7_alter 31 = .ok (.aload_n 0, 1) := by decide +kernel
theorem dX7_alter_32 : decode cX7_alter 32 = .ok (.getfield 7, 3) := by decide +kernel
theorem dX7_alter_35 : decode cX7_alter 35 = .ok (.iload_n 1, 1) := by decide +kernel
theorem dX7_alter_36 : decode cX7_alter 36 = .ok (.iaload, 1) := by decide +kernel
theorem dX7_alter_37 : decode cX7_alter 37 = .ok (.istore_n 3, 1) := by decide +kernel
theorem dX7_alter_38 : decode cX7_alter 38 = .ok (.aload_n 0, 1) := by decide +kernel
theorem dX7_alter_39 : decode cX7_alter 39 = .ok (.getfield 7, 3) := by decide +kernel
theorem dX7_alter_42 : decode cX7_alter 42 = .ok (.iload_n 1, 1) := by decide +kernel
theorem dX7_alter_43 : decode cX7_alter 43 = .ok (.iload_n 2, 1) := by decide +kernel
theorem dX7_alter_44 : decode cX7_alter 44 = .ok (.iastore, 1) := by decide +kernel
theorem dX7_alter_45 : decode cX7_alter 45 = .ok (.iload_n 3, 1) := by decide +kernel
theorem dX7_alter_46 : decode cX7_alter 46 = .ok (.ireturn, 1) := by decide +kernel
theorem dX7_at_0 : decode cX7_at 0 = .ok (.iload_n 1, 1) := by decide +kernel
theorem dX7_at_1 : decode cX7_at 1 = .ok (.i2l, 1) := by decide +kernel
theorem dX7_at_2 : decode cX7_at 2 = .ok (.lconst 0, 1) := by decide +kernel
theorem dX7_at_3 : decode cX7_at 3 = .ok (.aload_n 0, 1) := by decide +kernel
theorem dX7_at_4 : decode cX7_at 4 = .ok (.getfield 78, 3) := by decide +kernel
theorem dX7_at_7 : decode cX7_at 7 = .ok (.iconst 1, 1) := by decide +kernel
theorem dX7_at_8 : decode cX7_at 8 = .ok (.isub, 1) := by decide +kernel
theorem dX7_at_9 : decode cX7_at 9 = .ok (.i2l, 1) := by decide +kernel
theorem dX7_at_10 : decode cX7_at 10 = .ok (.invokestatic 74, 3) := by decide +kernel
theorem dX7_at_13 : decode cX7_at 13 = .ok (.ifCond .eq 12, 3) := by decide +kernel
theorem dX7_at_16 : decode cX7_at 16 = .ok (.aload_n 0, 1) := by decide +kernel
theorem dX7_at_17 : decode cX7_at 17 = .ok (.getfield 7, 3) := by decide +kernel
theorem dX7_at_20 : decode cX7_at 20 = .ok (.iload_n 1, 1) := by decide +kernel
theorem dX7_at_21 : decode cX7_at 21 = .ok (.iaload, 1) := by decide +kernel
theorem dX7_at_22 : decode cX7_at 22 = .ok (.goto 4, 3) := by decide +kernel
theorem dX7_at_25 : decode cX7_at 25 = .ok (.iconst (-1), 1) := by decide +kernel
theorem dX7_at_26 : decode cX7_at 26 = .ok (.ireturn, 1) := by decide +kernel
theorem dX7_sumOf_0 : decode cX7_sumOf 0 = .ok (.iconst 0, 1) := by decide +kernel
theorem dX7_sumOf_1 : decode cX7_sumOf 1 = .ok (.istore_n 3, 1) := by decide +kernel
theorem dX7_sumOf_2 : decode cX7_sumOf 2 = .ok (.iload_n 1, 1) := by decide +kernel
theorem dX7_sumOf_3 : decode cX7_sumOf 3 = .ok (.istore 4, 2) := by decide +kernel
theorem dX7_sumOf_5 : decode cX7_sumOf 5 = .ok (.iload 4, 2) := by decide +kernel
theorem dX7_sumOf_7 : decode cX7_sumOf 7 = .ok (.iload_n 2, 1) := by decide +kernel
theorem dX7_sumOf_8 : decode cX7_sumOf 8 = .ok (.if_icmp .ge 19, 3) := by decide +kernel
theorem dX7_sumOf_11 : decode cX7_sumOf 11 = .ok (.iload_n 3, 1) := by decide +kernel
theorem dX7_sumOf_12 : decode cX7_sumOf 12 = .ok (.aload_n 0, 1) := by decide +kernel
theorem dX7_sumOf_13 : decode cX7_sumOf 13 = .ok (.getfield 7, 3) := by decide +kernel
theorem dX7_sumOf_16 : decode cX7_sumOf 16 = .ok (.iload 4, 2) := by decide +kernel
theorem dX7_sumOf_18 : decode cX7_sumOf 18 = .ok (.iaload, 1) := by decide +kernel
theorem dX7_sumOf_19 : decode cX7_sumOf 19 = .ok (.iadd, 1) := by decide +kernel
theorem dX7_sumOf_20 : decode cX7_sumOf 20 = .ok (.istore_n 3, 1) := by decide +kernel
theorem dX7_sumOf_21 : decode cX7_sumOf 21 = .ok (.iinc 4 1, 3) := by decide +kernel
theorem dX7_sumOf_24 : decode cX7_sumOf 24 = .ok (.goto (-19), 3) := by decide +kernel
theorem dX7_sumOf_27 : decode cX7_sumOf 27 = .ok (.iload_n 3, 1) := by decide +kernel
theorem dX7_sumOf_28 : decode cX7_sumOf 28 = .ok (.sipush 255, 3) := by decide +kernel
theorem dX7_sumOf_31 : decode cX7_sumOf 31 = .ok (.iand, 1) := by decide +kernel
theorem dX7_sumOf_32 : decode cX7_sumOf 32 = .ok (.ireturn, 1) := by decide +kernel
theorem dX7_mend_0 : decode cX7_mend 0 = .ok (.aload_n 0, 1) := by decide +kernel
theorem dX7_mend_1 : decode cX7_mend 1 = .ok (.getfield 78, 3) := by decide +kernel
theorem dX7_mend_4 : decode cX7_mend 4 = .ok (.ifCond .ne 6, 3) := by decide +kernel
theorem dX7_mend_7 : decode cX7_mend 7 = .ok (.bipush (-3), 2) := by decide +kernel
theorem dX7_mend_9 : decode cX7_mend 9 = .ok (.ireturn, 1) := by decide +kernel
theorem dX7_mend_10 : decode cX7_mend 10 = .ok (.aload_n 0, 1) := by decide +kernel
theorem dX7_mend_11 : decode cX7_mend 11 = .ok (.getfield 7, 3) := by decide +kernel
theorem dX7_mend_14 : decode cX7_mend 14 = .ok (.aload_n 0, 1) := by decide +kernel
theorem dX7_mend_15 : decode cX7_mend 15 = .ok (.getfield 78, 3) := by decide +kernel
theorem dX7_mend_18 : decode cX7_mend 18 = .ok (.iconst 1, 1) := by decide +kernel
theorem dX7_mend_19 : decode cX7_mend 19 = .ok (.isub, 1) := by decide +kernel
theorem dX7_mend_20 : decode cX7_mend 20 = .ok (.aload_n 0, 1) := by decide +kernel
theorem dX7_mend_21 : decode cX7_mend 21 = .ok (.iconst 0, 1) := by decide +kernel
theorem dX7_mend_22 : decode cX7_mend 22 = .ok (.aload_n 0, 1) := by decide +kernel
theorem dX7_mend_23 : decode cX7_mend 23 = .ok (.getfield 78, 3) := by decide +kernel
theorem dX7_mend_26 : decode cX7_mend 26 = .ok (.iconst 1, 1) := by decide +kernel
theorem dX7_mend_27 : decode cX7_mend 27 = .ok (.isub, 1) := by decide +kernel
theorem dX7_mend_28 : decode cX7_mend 28 = .ok (.invokevirtual 87, 3) := by decide +kernel
theorem dX7_mend_31 : decode cX7_mend 31 = .ok (.iastore, 1) := by decide +kernel
theorem dX7_mend_32 : decode cX7_mend 32 = .ok (.aload_n 0, 1) := by decide +kernel
theorem dX7_mend_33 : decode cX7_mend 33 = .ok (.getfield 7, 3) := by decide +kernel
theorem dX7_mend_36 : decode cX7_mend 36 = .ok (.aload_n 0, 1) := by decide +kernel
theorem dX7_mend_37 : decode cX7_mend 37 = .ok (.getfield 78, 3) := by decide +kernel
theorem dX7_mend_40 : decode cX7_mend 40 = .ok (.iconst 1, 1) := by decide +kernel
theorem dX7_mend_41 : decode cX7_mend 41 = .ok (.isub, 1) := by decide +kernel
theorem dX7_mend_42 : decode cX7_mend 42 = .ok (.iaload, 1) := by decide +kernel
theorem dX7_mend_43 : decode cX7_mend 43 = .ok (.ireturn, 1) := by decide +kernel
theorem dX7_draws_0 : decode cX7_draws 0 = .ok (.aload_n 0, 1) := by decide +kernel
theorem dX7_draws_1 : decode cX7_draws 1 = .ok (.aload_n 0, 1) := by decide +kernel
theorem dX7_draws_2 : decode cX7_draws 2 = .ok (.getfield 68, 3) := by decide +kernel
theorem dX7_draws_5 : decode cX7_draws 5 = .ok (.ldc2_w 91, 3) := by decide +kernel
theorem dX7_draws_8 : decode cX7_draws 8 = .ok (.lmul, 1) := by decide +kernel
theorem dX7_draws_9 : decode cX7_draws 9 = .ok (.ldc2_w 93, 3) := by decide +kernel
theorem dX7_draws_12 : decode cX7_draws 12 = .ok (.ladd, 1) := by decide +kernel
theorem dX7_draws_13 : decode cX7_draws 13 = .ok (.putfield 68, 3) := by decide +kernel
theorem dX7_draws_16 : decode cX7_draws 16 = .ok (.aload_n 0, 1) := by decide +kernel
theorem dX7_draws_17 : decode cX7_draws 17 = .ok (.getfield 68, 3) := by decide +kernel
theorem dX7_draws_20 : decode cX7_draws 20 = .ok (.bipush 31, 2) := by decide +kernel
theorem dX7_draws_22 : decode cX7_draws 22 = .ok (.lushr, 1) := by decide +kernel
theorem dX7_draws_23 : decode cX7_draws 23 = .ok (.iload_n 1, 1) := by decide +kernel
theorem dX7_draws_24 : decode cX7_draws 24 = .ok (.i2l, 1) := by decide +kernel
theorem dX7_draws_25 : decode cX7_draws 25 = .ok (.lrem, 1) := by decide +kernel
theorem dX7_draws_26 : decode cX7_draws 26 = .ok (.l2i, 1) := by decide +kernel
theorem dX7_draws_27 : decode cX7_draws 27 = .ok (.ireturn, 1) := by decide +kernel
theorem dX7_lays_0 : decode cX7_lays 0 = .ok (.aload_n 0, 1) := by decide +kernel
theorem dX7_lays_1 : decode cX7_lays 1 = .ok (.iload_n 1, 1) := by decide +kernel
theorem dX7_lays_2 : decode cX7_lays 2 = .ok (.invokevirtual 83, 3) := by decide +kernel
theorem dX7_lays_5 : decode cX7_lays 5 = .ok (.aload_n 0, 1) := by decide +kernel
theorem dX7_lays_6 : decode cX7_lays 6 = .ok (.iload_n 2, 1) := by decide +kernel
theorem dX7_lays_7 : decode cX7_lays 7 = .ok (.invokevirtual 83, 3) := by decide +kernel
theorem dX7_lays_10 : decode cX7_lays 10 = .ok (.return_, 1) := by decide +kernel
theorem dX7_close_0 : decode cX7_close 0 = .ok (.aload_n 0, 1) := by decide +kernel
theorem dX7_close_1 : decode cX7_close 1 = .ok (.iconst 0, 1) := by decide +kernel
theorem dX7_close_2 : decode cX7_close 2 = .ok (.invokevirtual 83, 3) := by decide +kernel
theorem dX7_close_5 : decode cX7_close 5 = .ok (.aload_n 0, 1) := by decide +kernel
theorem dX7_close_6 : decode cX7_close 6 = .ok (.aload_n 0, 1) := by decide +kernel
theorem dX7_close_7 : decode cX7_close 7 = .ok (.iload_n 1, 1) := by decide +kernel
theorem dX7_close_8 : decode cX7_close 8 = .ok (.aload_n 0, 1) := by decide +kernel
theorem dX7_close_9 : decode cX7_close 9 = .ok (.getfield 78, 3) := by decide +kernel
theorem dX7_close_12 : decode cX7_close 12 = .ok (.invokevirtual 87, 3) := by decide +kernel
theorem dX7_close_15 : decode cX7_close 15 = .ok (.invokevirtual 83, 3) := by decide +kernel
theorem dX7_close_18 : decode cX7_close 18 = .ok (.return_, 1) := by decide +kernel
theorem dX7_some_0 : decode cX7_some 0 = .ok (.aload_n 0, 1) := by decide +kernel
theorem dX7_some_1 : decode cX7_some 1 = .ok (.iload_n 1, 1) := by decide +kernel
theorem dX7_some_2 : decode cX7_some 2 = .ok (.iload_n 2, 1) := by decide +kernel
theorem dX7_some_3 : decode cX7_some 3 = .ok (.invokevirtual 95, 3) := by decide +kernel
theorem dX7_some_6 : decode cX7_some 6 = .ok (.iconst 0, 1) := by decide +kernel
theorem dX7_some_7 : decode cX7_some 7 = .ok (.istore_n 3, 1) := by decide +kernel
theorem dX7_some_8 : decode cX7_some 8 = .ok (.iload_n 3, 1) := by decide +kernel
theorem dX7_some_9 : decode cX7_some 9 = .ok (.iload_n 2, 1) := by decide +kernel
theorem dX7_some_10 : decode cX7_some 10 = .ok (.if_icmp .ge 20, 3) := by decide +kernel
theorem dX7_some_13 : decode cX7_some 13 = .ok (.aload_n 0, 1) := by decide +kernel
theorem dX7_some_14 : decode cX7_some 14 = .ok (.aload_n 0, 1) := by decide +kernel
theorem dX7_some_15 : decode cX7_some 15 = .ok (.sipush 256, 3) := by decide +kernel
theorem dX7_some_18 : decode cX7_some 18 = .ok (.invokevirtual 99, 3) := by decide +kernel
theorem dX7_some_21 : decode cX7_some 21 = .ok (.invokevirtual 83, 3) := by decide +kernel
theorem dX7_some_24 : decode cX7_some 24 = .ok (.iinc 3 1, 3) := by decide +kernel
theorem dX7_some_27 : decode cX7_some 27 = .ok (.goto (-19), 3) := by decide +kernel
theorem dX7_some_30 : decode cX7_some 30 = .ok (.return_, 1) := by decide +kernel
theorem dX7_drawItem_0 : decode cX7_drawItem 0 = .ok (.aload_n 0, 1) := by decide +kernel
theorem dX7_drawItem_1 : decode cX7_drawItem 1 = .ok (.bipush 6, 2) := by decide +kernel
theorem dX7_drawItem_3 : decode cX7_drawItem 3 = .ok (.invokevirtual 99, 3) := by decide +kernel
theorem dX7_drawItem_6 : decode cX7_drawItem 6 = .ok (.istore_n 2, 1) := by decide +kernel
theorem dX7_drawItem_7 : decode cX7_drawItem 7 = .ok (.iload_n 2, 1) := by decide +kernel
theorem dX7_drawItem_8 : decode cX7_drawItem 8 = .ok (.ifCond .ne 19, 3) := by decide +kernel
theorem dX7_drawItem_11 : decode cX7_drawItem 11 = .ok (.aload_n 0, 1) := by decide +kernel
theorem dX7_drawItem_12 : decode cX7_drawItem 12 = .ok (.iconst 1, 1) := by decide +kernel
theorem dX7_drawItem_13 : decode cX7_drawItem 13 = .ok (.iconst 1, 1) := by decide +kernel
theorem dX7_drawItem_14 : decode cX7_drawItem 14 = .ok (.aload_n 0, 1) := by decide +kernel
theorem dX7_drawItem_15 : decode cX7_drawItem 15 = .ok (.bipush 6, 2) := by decide +kernel
theorem dX7_drawItem_17 : decode cX7_drawItem 17 = .ok (.invokevirtual 99, 3) := by decide +kernel
theorem dX7_drawItem_20 : decode cX7_drawItem 20 = .ok (.iadd, 1) := by decide +kernel
theorem dX7_drawItem_21 : decode cX7_drawItem 21 = .ok (.invokevirtual 103, 3) := by decide +kernel
theorem dX7_drawItem_24 : decode cX7_drawItem 24 = .ok (.goto 168, 3) := by decide +kernel
theorem dX7_drawItem_27 : decode cX7_drawItem 27 = .ok (.iload_n 2, 1) := by decide +kernel
theorem dX7_drawItem_28 : decode cX7_drawItem 28 = .ok (.iconst 1, 1) := by decide +kernel
theorem dX7_drawItem_29 : decode cX7_drawItem 29 = .ok (.if_icmp .ne 30, 3) := by decide +kernel
theorem dX7_drawItem_32 : decode cX7_drawItem 32 = .ok (.aload_n 0, 1) := by decide +kernel
theorem dX7_drawItem_33 : decode cX7_drawItem 33 = .ok (.bipush 20, 2) := by decide +kernel
theorem dX7_drawItem_35 : decode cX7_drawItem 35 = .ok (.invokevirtual 99, 3) := by decide +kernel
theorem dX7_drawItem_38 : decode cX7_drawItem 38 = .ok (.istore_n 3, 1) := by decide +kernel
theorem dX7_drawItem_39 : decode cX7_drawItem 39 = .ok (.aload_n 0, 1) := by decide +kernel
theorem dX7_drawItem_40 : decode cX7_drawItem 40 = .ok (.iconst 2, 1) := by decide +kernel
theorem dX7_drawItem_41 : decode cX7_drawItem 41 = .ok (.iload_n 3, 1) := by decide +kernel
theorem dX7_drawItem_42 : decode cX7_drawItem 42 = .ok (.invokevirtual 95, 3) := by decide +kernel
theorem dX7_drawItem_45 : decode cX7_drawItem 45 = .ok (.aload_n 0, 1) := by decide +kernel
theorem dX7_drawItem_46 : decode cX7_drawItem 46 = .ok (.aload_n 0, 1) := by decide +kernel
theorem dX7_drawItem_47 : decode cX7_drawItem 47 = .ok (.sipush 256, 3) := by decide +kernel
theorem dX7_drawItem_50 : decode cX7_drawItem 50 = .ok (.invokevirtual 99, 3) := by decide +kernel
theorem dX7_drawItem_53 : decode cX7_drawItem 53 = .ok (.invokevirtual 83, 3) := by decide +kernel
theorem dX7_drawItem_56 : decode cX7_drawItem 56 = .ok (.goto 136, 3) := by decide +kernel
theorem dX7_drawItem_59 : decode cX7_drawItem 59 = .ok (.iload_n 2, 1) := by decide +kernel
theorem dX7_drawItem_60 : decode cX7_drawItem 60 = .ok (.iconst 2, 1) := by decide +kernel
theorem dX7_drawItem_61 : decode cX7_drawItem 61 = .ok (.if_icmp .ne 30, 3) := by decide +kernel
theorem dX7_drawItem_64 : decode cX7_drawItem 64 = .ok (.iconst 1, 1) := by decide +kernel
theorem dX7_drawItem_65 : decode cX7_drawItem 65 = .ok (.aload_n 0, 1) := by decide +kernel
theorem dX7_drawItem_66 : decode cX7_drawItem 66 = .ok (.iconst 4, 1) := by decide +kernel
theorem dX7_drawItem_67 : decode cX7_drawItem 67 = .ok (.invokevirtual 99, 3) := by decide +kernel
theorem dX7_drawItem_70 : decode cX7_drawItem 70 = .ok (.iadd, 1) := by decide +kernel
theorem dX7_drawItem_71 : decode cX7_drawItem 71 = .ok (.istore_n 3, 1) := by decide +kernel
theorem dX7_drawItem_72 : decode cX7_drawItem 72 = .ok (.aload_n 0, 1) := by decide +kernel
theorem dX7_drawItem_73 : decode cX7_drawItem 73 = .ok (.iconst 3, 1) := by decide +kernel
theorem dX7_drawItem_74 : decode cX7_drawItem 74 = .ok (.iload_n 3, 1) := by decide +kernel
theorem dX7_drawItem_75 : decode cX7_drawItem 75 = .ok (.invokevirtual 95, 3) := by decide +kernel
theorem dX7_drawItem_78 : decode cX7_drawItem 78 = .ok (.aload_n 0, 1) := by decide +kernel
theorem dX7_drawItem_79 : decode cX7_drawItem 79 = .ok (.aload_n 0, 1) := by decide +kernel
theorem dX7_drawItem_80 : decode cX7_drawItem 80 = .ok (.bipush 12, 2) := by decide +kernel
theorem dX7_drawItem_82 : decode cX7_drawItem 82 = .ok (.invokevirtual 99, 3) := by decide +kernel
theorem dX7_drawItem_85 : decode cX7_drawItem 85 = .ok (.invokevirtual 83, 3) := by decide +kernel
theorem dX7_drawItem_88 : decode cX7_drawItem 88 = .ok (.goto 104, 3) := by decide +kernel
theorem dX7_drawItem_91 : decode cX7_drawItem 91 = .ok (.iload_n 2, 1) := by decide +kernel
theorem dX7_drawItem_92 : decode cX7_drawItem 92 = .ok (.iconst 3, 1) := by decide +kernel
theorem dX7_drawItem_93 : decode cX7_drawItem 93 = .ok (.if_icmp .ne 16, 3) := by decide +kernel
theorem dX7_drawItem_96 : decode cX7_drawItem 96 = .ok (.aload_n 0, 1) := by decide +kernel
theorem dX7_drawItem_97 : decode cX7_drawItem 97 = .ok (.iconst 5, 1) := by decide +kernel
theorem dX7_drawItem_98 : decode cX7_drawItem 98 = .ok (.aload_n 0, 1) := by decide +kernel
theorem dX7_drawItem_99 : decode cX7_drawItem 99 = .ok (.iconst 4, 1) := by decide +kernel
theorem dX7_drawItem_100 : decode cX7_drawItem 100 = .ok (.invokevirtual 99, 3) := by decide +kernel
theorem dX7_drawItem_103 : decode cX7_drawItem 103 = .ok (.invokevirtual 103, 3) := by decide +kernel
theorem dX7_drawItem_106 : decode cX7_drawItem 106 = .ok (.goto 86, 3) := by decide +kernel
theorem dX7_drawItem_109 : decode cX7_drawItem 109 = .ok (.iload_n 2, 1) := by decide +kernel
theorem dX7_drawItem_110 : decode cX7_drawItem 110 = .ok (.iconst 4, 1) := by decide +kernel
theorem dX7_drawItem_111 : decode cX7_drawItem 111 = .ok (.if_icmp .ne 21, 3) := by decide +kernel
theorem dX7_drawItem_114 : decode cX7_drawItem 114 = .ok (.iload_n 1, 1) := by decide +kernel
theorem dX7_drawItem_115 : decode cX7_drawItem 115 = .ok (.ifCond .le 17, 3) := by decide +kernel
theorem dX7_drawItem_118 : decode cX7_drawItem 118 = .ok (.aload_n 0, 1) := by decide +kernel
theorem dX7_drawItem_119 : decode cX7_drawItem 119 = .ok (.bipush 6, 2) := by decide +kernel
theorem dX7_drawItem_121 : decode cX7_drawItem 121 = .ok (.aload_n 0, 1) := by decide +kernel
theorem dX7_drawItem_122 : decode cX7_drawItem 122 = .ok (.iload_n 1, 1) := by decide +kernel
theorem dX7_drawItem_123 : decode cX7_drawItem 123 = .ok (.invokevirtual 99, 3) := by decide +kernel
theorem dX7_drawItem_126 : decode cX7_drawItem 126 = .ok (.invokevirtual 95, 3) := by decide +kernel
theorem dX7_drawItem_129 : decode cX7_drawItem 129 = .ok (.goto 63, 3) := by decide +kernel
theorem dX7_drawItem_132 : decode cX7_drawItem 132 = .ok (.iload_n 2, 1) := by decide +kernel
theorem dX7_drawItem_133 : decode cX7_drawItem 133 = .ok (.iconst 4, 1) := by decide +kernel
theorem dX7_drawItem_134 : decode cX7_drawItem 134 = .ok (.if_icmp .ne 12, 3) := by decide +kernel
theorem dX7_drawItem_137 : decode cX7_drawItem 137 = .ok (.aload_n 0, 1) := by decide +kernel
theorem dX7_drawItem_138 : decode cX7_drawItem 138 = .ok (.iconst 1, 1) := by decide +kernel
theorem dX7_drawItem_139 : decode cX7_drawItem 139 = .ok (.iconst 1, 1) := by decide +kernel
theorem dX7_drawItem_140 : decode cX7_drawItem 140 = .ok (.invokevirtual 103, 3) := by decide +kernel
theorem dX7_drawItem_143 : decode cX7_drawItem 143 = .ok (.goto 49, 3) := by decide +kernel
theorem dX7_drawItem_146 : decode cX7_drawItem 146 = .ok (.aload_n 0, 1) := by decide +kernel
theorem dX7_drawItem_147 : decode cX7_drawItem 147 = .ok (.iconst 5, 1) := by decide +kernel
theorem dX7_drawItem_148 : decode cX7_drawItem 148 = .ok (.invokevirtual 99, 3) := by decide +kernel
theorem dX7_drawItem_151 : decode cX7_drawItem 151 = .ok (.istore_n 3, 1) := by decide +kernel
theorem dX7_drawItem_152 : decode cX7_drawItem 152 = .ok (.aload_n 0, 1) := by decide +kernel
theorem dX7_drawItem_153 : decode cX7_drawItem 153 = .ok (.iconst 4, 1) := by decide +kernel
theorem dX7_drawItem_154 : decode cX7_drawItem 154 = .ok (.iconst 0, 1) := by decide +kernel
theorem dX7_drawItem_155 : decode cX7_drawItem 155 = .ok (.invokevirtual 95, 3) := by decide +kernel
theorem dX7_drawItem_158 : decode cX7_drawItem 158 = .ok (.aload_n 0, 1) := by decide +kernel
theorem dX7_drawItem_159 : decode cX7_drawItem 159 = .ok (.iload_n 3, 1) := by decide +kernel
theorem dX7_drawItem_160 : decode cX7_drawItem 160 = .ok (.bipush 6, 2) := by decide +kernel
theorem dX7_drawItem_162 : decode cX7_drawItem 162 = .ok (.iadd, 1) := by decide +kernel
theorem dX7_drawItem_163 : decode cX7_drawItem 163 = .ok (.invokevirtual 83, 3) := by decide +kernel
theorem dX7_drawItem_166 : decode cX7_drawItem 166 = .ok (.aload_n 0, 1) := by decide +kernel
theorem dX7_drawItem_167 : decode cX7_drawItem 167 = .ok (.getfield 78, 3) := by decide +kernel
theorem dX7_drawItem_170 : decode cX7_drawItem 170 = .ok (.istore 4, 2) := by decide +kernel
theorem dX7_drawItem_172 : decode cX7_drawItem 172 = .ok (.aload_n 0, 1) := by decide +kernel
theorem dX7_drawItem_173 : decode cX7_drawItem 173 = .ok (.bipush 80, 2) := by decide +kernel
theorem dX7_drawItem_175 : decode cX7_drawItem 175 = .ok (.bipush 75, 2) := by decide +kernel
theorem dX7_drawItem_177 : decode cX7_drawItem 177 = .ok (.invokevirtual 95, 3) := by decide +kernel
theorem dX7_drawItem_180 : decode cX7_drawItem 180 = .ok (.aload_n 0, 1) := by decide +kernel
theorem dX7_drawItem_181 : decode cX7_drawItem 181 = .ok (.iconst 1, 1) := by decide +kernel
theorem dX7_drawItem_182 : decode cX7_drawItem 182 = .ok (.iload_n 3, 1) := by decide +kernel
theorem dX7_drawItem_183 : decode cX7_drawItem 183 = .ok (.invokevirtual 103, 3) := by decide +kernel
theorem dX7_drawItem_186 : decode cX7_drawItem 186 = .ok (.aload_n 0, 1) := by decide +kernel
theorem dX7_drawItem_187 : decode cX7_drawItem 187 = .ok (.iload 4, 2) := by decide +kernel
theorem dX7_drawItem_189 : decode cX7_drawItem 189 = .ok (.invokevirtual 106, 3) := by decide +kernel
theorem dX7_drawItem_192 : decode cX7_drawItem 192 = .ok (.return_, 1) := by decide +kernel
theorem dX7_deep_0 : decode cX7_deep 0 = .ok (.iload_n 1, 1) := by decide +kernel
theorem dX7_deep_1 : decode cX7_deep 1 = .ok (.istore_n 2, 1) := by decide +kernel
theorem dX7_deep_2 : decode cX7_deep 2 = .ok (.iload_n 2, 1) := by decide +kernel
theorem dX7_deep_3 : decode cX7_deep 3 = .ok (.ifCond .le 46, 3) := by decide +kernel
theorem dX7_deep_6 : decode cX7_deep 6 = .ok (.bipush 7, 2) := by decide +kernel
theorem dX7_deep_8 : decode cX7_deep 8 = .ok (.bipush 7, 2) := by decide +kernel
theorem dX7_deep_10 : decode cX7_deep 10 = .ok (.iload_n 2, 1) := by decide +kernel
theorem dX7_deep_11 : decode cX7_deep 11 = .ok (.iconst 1, 1) := by decide +kernel
theorem dX7_deep_12 : decode cX7_deep 12 = .ok (.isub, 1) := by decide +kernel
theorem dX7_deep_13 : decode cX7_deep 13 = .ok (.imul, 1) := by decide +kernel
theorem dX7_deep_14 : decode cX7_deep 14 = .ok (.iadd, 1) := by decide +kernel
theorem dX7_deep_15 : decode cX7_deep 15 = .ok (.istore_n 3, 1) := by decide +kernel
theorem dX7_deep_16 : decode cX7_deep 16 = .ok (.aload_n 0, 1) := by decide +kernel
theorem dX7_deep_17 : decode cX7_deep 17 = .ok (.bipush 80, 2) := by decide +kernel
theorem dX7_deep_19 : decode cX7_deep 19 = .ok (.bipush 75, 2) := by decide +kernel
theorem dX7_deep_21 : decode cX7_deep 21 = .ok (.invokevirtual 95, 3) := by decide +kernel
theorem dX7_deep_24 : decode cX7_deep 24 = .ok (.aload_n 0, 1) := by decide +kernel
theorem dX7_deep_25 : decode cX7_deep 25 = .ok (.iconst 4, 1) := by decide +kernel
theorem dX7_deep_26 : decode cX7_deep 26 = .ok (.invokevirtual 83, 3) := by decide +kernel
theorem dX7_deep_29 : decode cX7_deep 29 = .ok (.aload_n 0, 1) := by decide +kernel
theorem dX7_deep_30 : decode cX7_deep 30 = .ok (.iload_n 3, 1) := by decide +kernel
theorem dX7_deep_31 : decode cX7_deep 31 = .ok (.sipush 256, 3) := by decide +kernel
theorem dX7_deep_34 : decode cX7_deep 34 = .ok (.idiv, 1) := by decide +kernel
theorem dX7_deep_35 : decode cX7_deep 35 = .ok (.iload_n 3, 1) := by decide +kernel
theorem dX7_deep_36 : decode cX7_deep 36 = .ok (.sipush 256, 3) := by decide +kernel
theorem dX7_deep_39 : decode cX7_deep 39 = .ok (.irem, 1) := by decide +kernel
theorem dX7_deep_40 : decode cX7_deep 40 = .ok (.invokevirtual 95, 3) := by decide +kernel
theorem dX7_deep_43 : decode cX7_deep 43 = .ok (.iinc 2 (-1), 3) := by decide +kernel
theorem dX7_deep_46 : decode cX7_deep 46 = .ok (.goto (-44), 3) := by decide +kernel
theorem dX7_deep_49 : decode cX7_deep 49 = .ok (.aload_n 0, 1) := by decide +kernel
theorem dX7_deep_50 : decode cX7_deep 50 = .ok (.getfield 78, 3) := by decide +kernel
theorem dX7_deep_53 : decode cX7_deep 53 = .ok (.istore_n 2, 1) := by decide +kernel
theorem dX7_deep_54 : decode cX7_deep 54 = .ok (.aload_n 0, 1) := by decide +kernel
theorem dX7_deep_55 : decode cX7_deep 55 = .ok (.bipush 80, 2) := by decide +kernel
theorem dX7_deep_57 : decode cX7_deep 57 = .ok (.bipush 75, 2) := by decide +kernel
theorem dX7_deep_59 : decode cX7_deep 59 = .ok (.invokevirtual 95, 3) := by decide +kernel
theorem dX7_deep_62 : decode cX7_deep 62 = .ok (.aload_n 0, 1) := by decide +kernel
theorem dX7_deep_63 : decode cX7_deep 63 = .ok (.iconst 1, 1) := by decide +kernel
theorem dX7_deep_64 : decode cX7_deep 64 = .ok (.iconst 1, 1) := by decide +kernel
theorem dX7_deep_65 : decode cX7_deep 65 = .ok (.invokevirtual 103, 3) := by decide +kernel
theorem dX7_deep_68 : decode cX7_deep 68 = .ok (.aload_n 0, 1) := by decide +kernel
theorem dX7_deep_69 : decode cX7_deep 69 = .ok (.iload_n 2, 1) := by decide +kernel
theorem dX7_deep_70 : decode cX7_deep 70 = .ok (.invokevirtual 106, 3) := by decide +kernel
theorem dX7_deep_73 : decode cX7_deep 73 = .ok (.iconst 1, 1) := by decide +kernel
theorem dX7_deep_74 : decode cX7_deep 74 = .ok (.istore_n 3, 1) := by decide +kernel
theorem dX7_deep_75 : decode cX7_deep 75 = .ok (.iload_n 3, 1) := by decide +kernel
theorem dX7_deep_76 : decode cX7_deep 76 = .ok (.iload_n 1, 1) := by decide +kernel
theorem dX7_deep_77 : decode cX7_deep 77 = .ok (.if_icmp .gt 18, 3) := by decide +kernel
theorem dX7_deep_80 : decode cX7_deep 80 = .ok (.aload_n 0, 1) := by decide +kernel
theorem dX7_deep_81 : decode cX7_deep 81 = .ok (.iload_n 2, 1) := by decide +kernel
theorem dX7_deep_82 : decode cX7_deep 82 = .ok (.iconst 5, 1) := by decide +kernel
theorem dX7_deep_83 : decode cX7_deep 83 = .ok (.iload_n 3, 1) := by decide +kernel
theorem dX7_deep_84 : decode cX7_deep 84 = .ok (.imul, 1) := by decide +kernel
theorem dX7_deep_85 : decode cX7_deep 85 = .ok (.isub, 1) := by decide +kernel
theorem dX7_deep_86 : decode cX7_deep 86 = .ok (.invokevirtual 106, 3) := by decide +kernel
theorem dX7_deep_89 : decode cX7_deep 89 = .ok (.iinc 3 1, 3) := by decide +kernel
theorem dX7_deep_92 : decode cX7_deep 92 = .ok (.goto (-17), 3) := by decide +kernel
theorem dX7_deep_95 : decode cX7_deep 95 = .ok (.return_, 1) := by decide +kernel
theorem dX7_family_0 : decode cX7_family 0 = .ok (.iload_n 1, 1) := by decide +kernel
theorem dX7_family_1 : decode cX7_family 1 = .ok (.iconst 1, 1) := by decide +kernel
theorem dX7_family_2 : decode cX7_family 2 = .ok (.if_icmp .ne 38, 3) := by decide +kernel
theorem dX7_family_5 : decode cX7_family 5 = .ok (.iconst 0, 1) := by decide +kernel
theorem dX7_family_6 : decode cX7_family 6 = .ok (.istore_n 3, 1) := by decide +kernel
theorem dX7_family_7 : decode cX7_family 7 = .ok (.iload_n 3, 1) := by decide +kernel
theorem dX7_family_8 : decode cX7_family 8 = .ok (.iload_n 2, 1) := by decide +kernel
theorem dX7_family_9 : decode cX7_family 9 = .ok (.if_icmp .ge 28, 3) := by decide +kernel
theorem dX7_family_12 : decode cX7_family 12 = .ok (.aload_n 0, 1) := by decide +kernel
theorem dX7_family_13 : decode cX7_family 13 = .ok (.iconst 2, 1) := by decide +kernel
theorem dX7_family_14 : decode cX7_family 14 = .ok (.sipush 255, 3) := by decide +kernel
theorem dX7_family_17 : decode cX7_family 17 = .ok (.invokevirtual 95, 3) := by decide +kernel
theorem dX7_family_20 : decode cX7_family 20 = .ok (.aload_n 0, 1) := by decide +kernel
theorem dX7_family_21 : decode cX7_family 21 = .ok (.aload_n 0, 1) := by decide +kernel
theorem dX7_family_22 : decode cX7_family 22 = .ok (.sipush 256, 3) := by decide +kernel
theorem dX7_family_25 : decode cX7_family 25 = .ok (.invokevirtual 99, 3) := by decide +kernel
theorem dX7_family_28 : decode cX7_family 28 = .ok (.invokevirtual 83, 3) := by decide +kernel
theorem dX7_family_31 : decode cX7_family 31 = .ok (.iinc 3 1, 3) := by decide +kernel
theorem dX7_family_34 : decode cX7_family 34 = .ok (.goto (-27), 3) := by decide +kernel
theorem dX7_family_37 : decode cX7_family 37 = .ok (.goto 217, 3) := by decide +kernel
theorem dX7_family_40 : decode cX7_family 40 = .ok (.iload_n 1, 1) := by decide +kernel
theorem dX7_family_41 : decode cX7_family 41 = .ok (.iconst 2, 1) := by decide +kernel
theorem dX7_family_42 : decode cX7_family 42 = .ok (.if_icmp .ne 38, 3) := by decide +kernel
theorem dX7_family_45 : decode cX7_family 45 = .ok (.aload_n 0, 1) := by decide +kernel
theorem dX7_family_46 : decode cX7_family 46 = .ok (.iconst 1, 1) := by decide +kernel
theorem dX7_family_47 : decode cX7_family 47 = .ok (.iconst 1, 1) := by decide +kernel
theorem dX7_family_48 : decode cX7_family 48 = .ok (.invokevirtual 103, 3) := by decide +kernel
theorem dX7_family_51 : decode cX7_family 51 = .ok (.iconst 0, 1) := by decide +kernel
theorem dX7_family_52 : decode cX7_family 52 = .ok (.istore_n 3, 1) := by decide +kernel
theorem dX7_family_53 : decode cX7_family 53 = .ok (.iload_n 3, 1) := by decide +kernel
theorem dX7_family_54 : decode cX7_family 54 = .ok (.iload_n 2, 1) := by decide +kernel
theorem dX7_family_55 : decode cX7_family 55 = .ok (.if_icmp .ge 22, 3) := by decide +kernel
theorem dX7_family_58 : decode cX7_family 58 = .ok (.aload_n 0, 1) := by decide +kernel
theorem dX7_family_59 : decode cX7_family 59 = .ok (.iconst 3, 1) := by decide +kernel
theorem dX7_family_60 : decode cX7_family 60 = .ok (.iconst 1, 1) := by decide +kernel
theorem dX7_family_61 : decode cX7_family 61 = .ok (.invokevirtual 95, 3) := by decide +kernel
theorem dX7_family_64 : decode cX7_family 64 = .ok (.aload_n 0, 1) := by decide +kernel
theorem dX7_family_65 : decode cX7_family 65 = .ok (.sipush 255, 3) := by decide +kernel
theorem dX7_family_68 : decode cX7_family 68 = .ok (.invokevirtual 83, 3) := by decide +kernel
theorem dX7_family_71 : decode cX7_family 71 = .ok (.iinc 3 1, 3) := by decide +kernel
theorem dX7_family_74 : decode cX7_family 74 = .ok (.goto (-21), 3) := by decide +kernel
theorem dX7_family_77 : decode cX7_family 77 = .ok (.goto 177, 3) := by decide +kernel
theorem dX7_family_80 : decode cX7_family 80 = .ok (.iload_n 1, 1) := by decide +kernel
theorem dX7_family_81 : decode cX7_family 81 = .ok (.iconst 4, 1) := by decide +kernel
theorem dX7_family_82 : decode cX7_family 82 = .ok (.if_icmp .ne 25, 3) := by decide +kernel
theorem dX7_family_85 : decode cX7_family 85 = .ok (.iconst 0, 1) := by decide +kernel
theorem dX7_family_86 : decode cX7_family 86 = .ok (.istore_n 3, 1) := by decide +kernel
theorem dX7_family_87 : decode cX7_family 87 = .ok (.iload_n 3, 1) := by decide +kernel
theorem dX7_family_88 : decode cX7_family 88 = .ok (.iload_n 2, 1) := by decide +kernel
theorem dX7_family_89 : decode cX7_family 89 = .ok (.if_icmp .ge 15, 3) := by decide +kernel
theorem dX7_family_92 : decode cX7_family 92 = .ok (.aload_n 0, 1) := by decide +kernel
theorem dX7_family_93 : decode cX7_family 93 = .ok (.iconst 5, 1) := by decide +kernel
theorem dX7_family_94 : decode cX7_family 94 = .ok (.iconst 0, 1) := by decide +kernel
theorem dX7_family_95 : decode cX7_family 95 = .ok (.invokevirtual 95, 3) := by decide +kernel
theorem dX7_family_98 : decode cX7_family 98 = .ok (.iinc 3 1, 3) := by decide +kernel
theorem dX7_family_101 : decode cX7_family 101 = .ok (.goto (-14), 3) := by decide +kernel
theorem dX7_family_104 : decode cX7_family 104 = .ok (.goto 150, 3) := by decide +kernel
theorem dX7_family_107 : decode cX7_family 107 = .ok (.iload_n 1, 1) := by decide +kernel
theorem dX7_family_108 : decode cX7_family 108 = .ok (.iconst 5, 1) := by decide +kernel
theorem dX7_family_109 : decode cX7_family 109 = .ok (.if_icmp .ne 43, 3) := by decide +kernel
theorem dX7_family_112 : decode cX7_family 112 = .ok (.aload_n 0, 1) := by decide +kernel
theorem dX7_family_113 : decode cX7_family 113 = .ok (.iconst 2, 1) := by decide +kernel
theorem dX7_family_114 : decode cX7_family 114 = .ok (.iconst 1, 1) := by decide +kernel
theorem dX7_family_115 : decode cX7_family 115 = .ok (.invokevirtual 95, 3) := by decide +kernel
theorem dX7_family_118 : decode cX7_family 118 = .ok (.aload_n 0, 1) := by decide +kernel
theorem dX7_family_119 : decode cX7_family 119 = .ok (.aload_n 0, 1) := by decide +kernel
theorem dX7_family_120 : decode cX7_family 120 = .ok (.sipush 256, 3) := by decide +kernel
theorem dX7_family_123 : decode cX7_family 123 = .ok (.invokevirtual 99, 3) := by decide +kernel
theorem dX7_family_126 : decode cX7_family 126 = .ok (.invokevirtual 83, 3) := by decide +kernel
theorem dX7_family_129 : decode cX7_family 129 = .ok (.iconst 0, 1) := by decide +kernel
theorem dX7_family_130 : decode cX7_family 130 = .ok (.istore_n 3, 1) := by decide +kernel
theorem dX7_family_131 : decode cX7_family 131 = .ok (.iload_n 3, 1) := by decide +kernel
theorem dX7_family_132 : decode cX7_family 132 = .ok (.iload_n 2, 1) := by decide +kernel
theorem dX7_family_133 : decode cX7_family 133 = .ok (.if_icmp .ge 16, 3) := by decide +kernel
theorem dX7_family_136 : decode cX7_family 136 = .ok (.aload_n 0, 1) := by decide +kernel
theorem dX7_family_137 : decode cX7_family 137 = .ok (.bipush 6, 2) := by decide +kernel
theorem dX7_family_139 : decode cX7_family 139 = .ok (.iload_n 3, 1) := by decide +kernel
theorem dX7_family_140 : decode cX7_family 140 = .ok (.invokevirtual 95, 3) := by decide +kernel
theorem dX7_family_143 : decode cX7_family 143 = .ok (.iinc 3 1, 3) := by decide +kernel
theorem dX7_family_146 : decode cX7_family 146 = .ok (.goto (-15), 3) := by decide +kernel
theorem dX7_family_149 : decode cX7_family 149 = .ok (.goto 105, 3) := by decide +kernel
theorem dX7_family_152 : decode cX7_family 152 = .ok (.iload_n 1, 1) := by decide +kernel
theorem dX7_family_153 : decode cX7_family 153 = .ok (.bipush 6, 2) := by decide +kernel
theorem dX7_family_155 : decode cX7_family 155 = .ok (.if_icmp .ne 81, 3) := by decide +kernel
theorem dX7_family_158 : decode cX7_family 158 = .ok (.aload_n 0, 1) := by decide +kernel
theorem dX7_family_159 : decode cX7_family 159 = .ok (.bipush 7, 2) := by decide +kernel
theorem dX7_family_161 : decode cX7_family 161 = .ok (.bipush 8, 2) := by decide +kernel
theorem dX7_family_163 : decode cX7_family 163 = .ok (.invokevirtual 95, 3) := by decide +kernel
theorem dX7_family_166 : decode cX7_family 166 = .ok (.iconst 0, 1) := by decide +kernel
theorem dX7_family_167 : decode cX7_family 167 = .ok (.istore_n 3, 1) := by decide +kernel
theorem dX7_family_168 : decode cX7_family 168 = .ok (.iload_n 3, 1) := by decide +kernel
theorem dX7_family_169 : decode cX7_family 169 = .ok (.bipush 8, 2) := by decide +kernel
theorem dX7_family_171 : decode cX7_family 171 = .ok (.if_icmp .ge 14, 3) := by decide +kernel
theorem dX7_family_174 : decode cX7_family 174 = .ok (.aload_n 0, 1) := by decide +kernel
theorem dX7_family_175 : decode cX7_family 175 = .ok (.iload_n 3, 1) := by decide +kernel
theorem dX7_family_176 : decode cX7_family 176 = .ok (.invokevirtual 83, 3) := by decide +kernel
theorem dX7_family_179 : decode cX7_family 179 = .ok (.iinc 3 1, 3) := by decide +kernel
theorem dX7_family_182 : decode cX7_family 182 = .ok (.goto (-14), 3) := by decide +kernel
theorem dX7_family_185 : decode cX7_family 185 = .ok (.iconst 0, 1) := by decide +kernel
theorem dX7_family_186 : decode cX7_family 186 = .ok (.istore_n 3, 1) := by decide +kernel
theorem dX7_family_187 : decode cX7_family 187 = .ok (.iload_n 3, 1) := by decide +kernel
theorem dX7_family_188 : decode cX7_family 188 = .ok (.bipush 8, 2) := by decide +kernel
theorem dX7_family_190 : decode cX7_family 190 = .ok (.if_icmp .ge 19, 3) := by decide +kernel
theorem dX7_family_193 : decode cX7_family 193 = .ok (.aload_n 0, 1) := by decide +kernel
theorem dX7_family_194 : decode cX7_family 194 = .ok (.aload_n 0, 1) := by decide +kernel
theorem dX7_family_195 : decode cX7_family 195 = .ok (.bipush 8, 2) := by decide +kernel
theorem dX7_family_197 : decode cX7_family 197 = .ok (.invokevirtual 99, 3) := by decide +kernel
theorem dX7_family_200 : decode cX7_family 200 = .ok (.invokevirtual 83, 3) := by decide +kernel
theorem dX7_family_203 : decode cX7_family 203 = .ok (.iinc 3 1, 3) := by decide +kernel
theorem dX7_family_206 : decode cX7_family 206 = .ok (.goto (-19), 3) := by decide +kernel
theorem dX7_family_209 : decode cX7_family 209 = .ok (.aload_n 0, 1) := by decide +kernel
theorem dX7_family_210 : decode cX7_family 210 = .ok (.iconst 0, 1) := by decide +kernel
theorem dX7_family_211 : decode cX7_family 211 = .ok (.invokevirtual 83, 3) := by decide +kernel
theorem dX7_family_214 : decode cX7_family 214 = .ok (.iconst 0, 1) := by decide +kernel
theorem dX7_family_215 : decode cX7_family 215 = .ok (.istore_n 3, 1) := by decide +kernel
theorem dX7_family_216 : decode cX7_family 216 = .ok (.iload_n 3, 1) := by decide +kernel
theorem dX7_family_217 : decode cX7_family 217 = .ok (.iload_n 2, 1) := by decide +kernel
theorem dX7_family_218 : decode cX7_family 218 = .ok (.if_icmp .ge 15, 3) := by decide +kernel
theorem dX7_family_221 : decode cX7_family 221 = .ok (.aload_n 0, 1) := by decide +kernel
theorem dX7_family_222 : decode cX7_family 222 = .ok (.iconst 5, 1) := by decide +kernel
theorem dX7_family_223 : decode cX7_family 223 = .ok (.iconst 0, 1) := by decide +kernel
theorem dX7_family_224 : decode cX7_family 224 = .ok (.invokevirtual 95, 3) := by decide +kernel
theorem dX7_family_227 : decode cX7_family 227 = .ok (.iinc 3 1, 3) := by decide +kernel
theorem dX7_family_230 : decode cX7_family 230 = .ok (.goto (-14), 3) := by decide +kernel
end
section
theorem dX7_family_233 : decode cX7_family 233 = .ok (.goto 21, 3) := by decide +kernel
theorem dX7_family_236 : decode cX7_family 236 = .ok (.iconst 0, 1) := by decide +kernel
theorem dX7_family_237 : decode cX7_family 237 = .ok (.istore_n 3, 1) := by decide +kernel
theorem dX7_family_238 : decode cX7_family 238 = .ok (.iload_n 3, 1) := by decide +kernel
theorem dX7_family_239 : decode cX7_family 239 = .ok (.iload_n 2, 1) := by decide +kernel
theorem dX7_family_240 : decode cX7_family 240 = .ok (.if_icmp .ge 14, 3) := by decide +kernel
theorem dX7_family_243 : decode cX7_family 243 = .ok (.aload_n 0, 1) := by decide +kernel
theorem dX7_family_244 : decode cX7_family 244 = .ok (.iload_n 3, 1) := by decide +kernel
theorem dX7_family_245 : decode cX7_family 245 = .ok (.invokevirtual 109, 3) := by decide +kernel
theorem dX7_family_248 : decode cX7_family 248 = .ok (.iinc 3 1, 3) := by decide +kernel
theorem dX7_family_251 : decode cX7_family 251 = .ok (.goto (-13), 3) := by decide +kernel
theorem dX7_family_254 : decode cX7_family 254 = .ok (.return_, 1) := by decide +kernel
theorem dX7_draw_0 : decode cX7_draw 0 = .ok (.iload_n 1, 1) := by decide +kernel
theorem dX7_draw_1 : decode cX7_draw 1 = .ok (.i2l, 1) := by decide +kernel
theorem dX7_draw_2 : decode cX7_draw 2 = .ok (.lconst 0, 1) := by decide +kernel
theorem dX7_draw_3 : decode cX7_draw 3 = .ok (.ldc2_w 112, 3) := by decide +kernel
theorem dX7_draw_6 : decode cX7_draw 6 = .ok (.invokestatic 74, 3) := by decide +kernel
theorem dX7_draw_9 : decode cX7_draw 9 = .ok (.ifCond .eq 15, 3) := by decide +kernel
theorem dX7_draw_12 : decode cX7_draw 12 = .ok (.iload_n 2, 1) := by decide +kernel
theorem dX7_draw_13 : decode cX7_draw 13 = .ok (.i2l, 1) := by decide +kernel
theorem dX7_draw_14 : decode cX7_draw 14 = .ok (.lconst 0, 1) := by decide +kernel
theorem dX7_draw_15 : decode cX7_draw 15 = .ok (.ldc2_w 114, 3) := by decide +kernel
theorem dX7_draw_18 : decode cX7_draw 18 = .ok (.invokestatic 74, 3) := by decide +kernel
theorem dX7_draw_21 : decode cX7_draw 21 = .ok (.ifCond .ne 6, 3) := by decide +kernel
theorem dX7_draw_24 : decode cX7_draw 24 = .ok (.bipush (-2), 2) := by decide +kernel
theorem dX7_draw_26 : decode cX7_draw 26 = .ok (.ireturn, 1) := by decide +kernel
theorem dX7_draw_27 : decode cX7_draw 27 = .ok (.aload_n 0, 1) := by decide +kernel
theorem dX7_draw_28 : decode cX7_draw 28 = .ok (.iconst 0, 1) := by decide +kernel
theorem dX7_draw_29 : decode cX7_draw 29 = .ok (.putfield 78, 3) := by decide +kernel
theorem dX7_draw_32 : decode cX7_draw 32 = .ok (.iload_n 1, 1) := by decide +kernel
theorem dX7_draw_33 : decode cX7_draw 33 = .ok (.iconst 3, 1) := by decide +kernel
theorem dX7_draw_34 : decode cX7_draw 34 = .ok (.if_icmp .ne 13, 3) := by decide +kernel
theorem dX7_draw_37 : decode cX7_draw 37 = .ok (.aload_n 0, 1) := by decide +kernel
theorem dX7_draw_38 : decode cX7_draw 38 = .ok (.iload_n 2, 1) := by decide +kernel
theorem dX7_draw_39 : decode cX7_draw 39 = .ok (.invokevirtual 116, 3) := by decide +kernel
theorem dX7_draw_42 : decode cX7_draw 42 = .ok (.aload_n 0, 1) := by decide +kernel
theorem dX7_draw_43 : decode cX7_draw 43 = .ok (.getfield 78, 3) := by decide +kernel
theorem dX7_draw_46 : decode cX7_draw 46 = .ok (.ireturn, 1) := by decide +kernel
theorem dX7_draw_47 : decode cX7_draw 47 = .ok (.aload_n 0, 1) := by decide +kernel
theorem dX7_draw_48 : decode cX7_draw 48 = .ok (.bipush 80, 2) := by decide +kernel
theorem dX7_draw_50 : decode cX7_draw 50 = .ok (.bipush 75, 2) := by decide +kernel
theorem dX7_draw_52 : decode cX7_draw 52 = .ok (.invokevirtual 95, 3) := by decide +kernel
theorem dX7_draw_55 : decode cX7_draw 55 = .ok (.iload_n 1, 1) := by decide +kernel
theorem dX7_draw_56 : decode cX7_draw 56 = .ok (.ifCond .ne 38, 3) := by decide +kernel
theorem dX7_draw_59 : decode cX7_draw 59 = .ok (.aload_n 0, 1) := by decide +kernel
theorem dX7_draw_60 : decode cX7_draw 60 = .ok (.iconst 1, 1) := by decide +kernel
theorem dX7_draw_61 : decode cX7_draw 61 = .ok (.sipush 255, 3) := by decide +kernel
theorem dX7_draw_64 : decode cX7_draw 64 = .ok (.invokevirtual 95, 3) := by decide +kernel
theorem dX7_draw_67 : decode cX7_draw 67 = .ok (.iconst 0, 1) := by decide +kernel
theorem dX7_draw_68 : decode cX7_draw 68 = .ok (.istore_n 3, 1) := by decide +kernel
theorem dX7_draw_69 : decode cX7_draw 69 = .ok (.iload_n 3, 1) := by decide +kernel
theorem dX7_draw_70 : decode cX7_draw 70 = .ok (.iload_n 2, 1) := by decide +kernel
theorem dX7_draw_71 : decode cX7_draw 71 = .ok (.if_icmp .ge 20, 3) := by decide +kernel
theorem dX7_draw_74 : decode cX7_draw 74 = .ok (.aload_n 0, 1) := by decide +kernel
theorem dX7_draw_75 : decode cX7_draw 75 = .ok (.aload_n 0, 1) := by decide +kernel
theorem dX7_draw_76 : decode cX7_draw 76 = .ok (.sipush 256, 3) := by decide +kernel
theorem dX7_draw_79 : decode cX7_draw 79 = .ok (.invokevirtual 99, 3) := by decide +kernel
theorem dX7_draw_82 : decode cX7_draw 82 = .ok (.invokevirtual 83, 3) := by decide +kernel
theorem dX7_draw_85 : decode cX7_draw 85 = .ok (.iinc 3 1, 3) := by decide +kernel
theorem dX7_draw_88 : decode cX7_draw 88 = .ok (.goto (-19), 3) := by decide +kernel
theorem dX7_draw_91 : decode cX7_draw 91 = .ok (.goto 9, 3) := by decide +kernel
theorem dX7_draw_94 : decode cX7_draw 94 = .ok (.aload_n 0, 1) := by decide +kernel
theorem dX7_draw_95 : decode cX7_draw 95 = .ok (.iload_n 1, 1) := by decide +kernel
theorem dX7_draw_96 : decode cX7_draw 96 = .ok (.iload_n 2, 1) := by decide +kernel
theorem dX7_draw_97 : decode cX7_draw 97 = .ok (.invokevirtual 119, 3) := by decide +kernel
theorem dX7_draw_100 : decode cX7_draw 100 = .ok (.aload_n 0, 1) := by decide +kernel
theorem dX7_draw_101 : decode cX7_draw 101 = .ok (.iconst 0, 1) := by decide +kernel
theorem dX7_draw_102 : decode cX7_draw 102 = .ok (.invokevirtual 106, 3) := by decide +kernel
theorem dX7_draw_105 : decode cX7_draw 105 = .ok (.iload_n 1, 1) := by decide +kernel
theorem dX7_draw_106 : decode cX7_draw 106 = .ok (.bipush 7, 2) := by decide +kernel
theorem dX7_draw_108 : decode cX7_draw 108 = .ok (.if_icmp .ne 19, 3) := by decide +kernel
theorem dX7_draw_111 : decode cX7_draw 111 = .ok (.aload_n 0, 1) := by decide +kernel
theorem dX7_draw_112 : decode cX7_draw 112 = .ok (.dup, 1) := by decide +kernel
theorem dX7_draw_113 : decode cX7_draw 113 = .ok (.getfield 78, 3) := by decide +kernel
theorem dX7_draw_116 : decode cX7_draw 116 = .ok (.iconst 1, 1) := by decide +kernel
theorem dX7_draw_117 : decode cX7_draw 117 = .ok (.aload_n 0, 1) := by decide +kernel
theorem dX7_draw_118 : decode cX7_draw 118 = .ok (.iconst 4, 1) := by decide +kernel
theorem dX7_draw_119 : decode cX7_draw 119 = .ok (.invokevirtual 99, 3) := by decide +kernel
theorem dX7_draw_122 : decode cX7_draw 122 = .ok (.iadd, 1) := by decide +kernel
theorem dX7_draw_123 : decode cX7_draw 123 = .ok (.isub, 1) := by decide +kernel
theorem dX7_draw_124 : decode cX7_draw 124 = .ok (.putfield 78, 3) := by decide +kernel
theorem dX7_draw_127 : decode cX7_draw 127 = .ok (.iload_n 1, 1) := by decide +kernel
theorem dX7_draw_128 : decode cX7_draw 128 = .ok (.bipush 8, 2) := by decide +kernel
theorem dX7_draw_130 : decode cX7_draw 130 = .ok (.if_icmp .ne 31, 3) := by decide +kernel
theorem dX7_draw_133 : decode cX7_draw 133 = .ok (.aload_n 0, 1) := by decide +kernel
theorem dX7_draw_134 : decode cX7_draw 134 = .ok (.getfield 7, 3) := by decide +kernel
theorem dX7_draw_137 : decode cX7_draw 137 = .ok (.aload_n 0, 1) := by decide +kernel
theorem dX7_draw_138 : decode cX7_draw 138 = .ok (.getfield 78, 3) := by decide +kernel
theorem dX7_draw_141 : decode cX7_draw 141 = .ok (.iconst 1, 1) := by decide +kernel
theorem dX7_draw_142 : decode cX7_draw 142 = .ok (.isub, 1) := by decide +kernel
theorem dX7_draw_143 : decode cX7_draw 143 = .ok (.aload_n 0, 1) := by decide +kernel
theorem dX7_draw_144 : decode cX7_draw 144 = .ok (.getfield 7, 3) := by decide +kernel
theorem dX7_draw_147 : decode cX7_draw 147 = .ok (.aload_n 0, 1) := by decide +kernel
theorem dX7_draw_148 : decode cX7_draw 148 = .ok (.getfield 78, 3) := by decide +kernel
theorem dX7_draw_151 : decode cX7_draw 151 = .ok (.iconst 1, 1) := by decide +kernel
theorem dX7_draw_152 : decode cX7_draw 152 = .ok (.isub, 1) := by decide +kernel
theorem dX7_draw_153 : decode cX7_draw 153 = .ok (.iaload, 1) := by decide +kernel
theorem dX7_draw_154 : decode cX7_draw 154 = .ok (.iconst 1, 1) := by decide +kernel
theorem dX7_draw_155 : decode cX7_draw 155 = .ok (.iadd, 1) := by decide +kernel
theorem dX7_draw_156 : decode cX7_draw 156 = .ok (.sipush 255, 3) := by decide +kernel
theorem dX7_draw_159 : decode cX7_draw 159 = .ok (.iand, 1) := by decide +kernel
theorem dX7_draw_160 : decode cX7_draw 160 = .ok (.iastore, 1) := by decide +kernel
theorem dX7_draw_161 : decode cX7_draw 161 = .ok (.aload_n 0, 1) := by decide +kernel
theorem dX7_draw_162 : decode cX7_draw 162 = .ok (.getfield 78, 3) := by decide +kernel
theorem dX7_draw_165 : decode cX7_draw 165 = .ok (.ireturn, 1) := by decide +kernel
theorem dX7_fails_0 : decode cX7_fails 0 = .ok (.aload_n 0, 1) := by decide +kernel
theorem dX7_fails_1 : decode cX7_fails 1 = .ok (.iload_n 1, 1) := by decide +kernel
theorem dX7_fails_2 : decode cX7_fails 2 = .ok (.putfield 122, 3) := by decide +kernel
theorem dX7_fails_5 : decode cX7_fails 5 = .ok (.aload_n 0, 1) := by decide +kernel
theorem dX7_fails_6 : decode cX7_fails 6 = .ok (.iload_n 2, 1) := by decide +kernel
theorem dX7_fails_7 : decode cX7_fails 7 = .ok (.putfield 16, 3) := by decide +kernel
theorem dX7_fails_10 : decode cX7_fails 10 = .ok (.return_, 1) := by decide +kernel
theorem dX7_begins_0 : decode cX7_begins 0 = .ok (.aload_n 0, 1) := by decide +kernel
theorem dX7_begins_1 : decode cX7_begins 1 = .ok (.getfield 125, 3) := by decide +kernel
theorem dX7_begins_4 : decode cX7_begins 4 = .ok (.iconst 4, 1) := by decide +kernel
theorem dX7_begins_5 : decode cX7_begins 5 = .ok (.iadd, 1) := by decide +kernel
theorem dX7_begins_6 : decode cX7_begins 6 = .ok (.aload_n 0, 1) := by decide +kernel
theorem dX7_begins_7 : decode cX7_begins 7 = .ok (.getfield 128, 3) := by decide +kernel
theorem dX7_begins_10 : decode cX7_begins 10 = .ok (.if_icmp .le 11, 3) := by decide +kernel
theorem dX7_begins_13 : decode cX7_begins 13 = .ok (.aload_n 0, 1) := by decide +kernel
theorem dX7_begins_14 : decode cX7_begins 14 = .ok (.bipush 12, 2) := by decide +kernel
theorem dX7_begins_16 : decode cX7_begins 16 = .ok (.iload_n 1, 1) := by decide +kernel
theorem dX7_begins_17 : decode cX7_begins 17 = .ok (.invokevirtual 131, 3) := by decide +kernel
theorem dX7_begins_20 : decode cX7_begins 20 = .ok (.return_, 1) := by decide +kernel
theorem dX7_begins_21 : decode cX7_begins 21 = .ok (.aload_n 0, 1) := by decide +kernel
theorem dX7_begins_22 : decode cX7_begins 22 = .ok (.dup, 1) := by decide +kernel
theorem dX7_begins_23 : decode cX7_begins 23 = .ok (.getfield 125, 3) := by decide +kernel
theorem dX7_begins_26 : decode cX7_begins 26 = .ok (.iconst 4, 1) := by decide +kernel
theorem dX7_begins_27 : decode cX7_begins 27 = .ok (.iadd, 1) := by decide +kernel
theorem dX7_begins_28 : decode cX7_begins 28 = .ok (.putfield 125, 3) := by decide +kernel
theorem dX7_begins_31 : decode cX7_begins 31 = .ok (.aload_n 0, 1) := by decide +kernel
theorem dX7_begins_32 : decode cX7_begins 32 = .ok (.dup, 1) := by decide +kernel
theorem dX7_begins_33 : decode cX7_begins 33 = .ok (.getfield 134, 3) := by decide +kernel
theorem dX7_begins_36 : decode cX7_begins 36 = .ok (.iconst 1, 1) := by decide +kernel
theorem dX7_begins_37 : decode cX7_begins 37 = .ok (.iadd, 1) := by decide +kernel
theorem dX7_begins_38 : decode cX7_begins 38 = .ok (.putfield 134, 3) := by decide +kernel
theorem dX7_begins_41 : decode cX7_begins 41 = .ok (.aload_n 0, 1) := by decide +kernel
theorem dX7_begins_42 : decode cX7_begins 42 = .ok (.getfield 20, 3) := by decide +kernel
theorem dX7_begins_45 : decode cX7_begins 45 = .ok (.aload_n 0, 1) := by decide +kernel
theorem dX7_begins_46 : decode cX7_begins 46 = .ok (.getfield 137, 3) := by decide +kernel
theorem dX7_begins_49 : decode cX7_begins 49 = .ok (.iload_n 1, 1) := by decide +kernel
theorem dX7_begins_50 : decode cX7_begins 50 = .ok (.iastore, 1) := by decide +kernel
theorem dX7_begins_51 : decode cX7_begins 51 = .ok (.aload_n 0, 1) := by decide +kernel
theorem dX7_begins_52 : decode cX7_begins 52 = .ok (.getfield 23, 3) := by decide +kernel
theorem dX7_begins_55 : decode cX7_begins 55 = .ok (.aload_n 0, 1) := by decide +kernel
theorem dX7_begins_56 : decode cX7_begins 56 = .ok (.getfield 137, 3) := by decide +kernel
theorem dX7_begins_59 : decode cX7_begins 59 = .ok (.iload_n 2, 1) := by decide +kernel
theorem dX7_begins_60 : decode cX7_begins 60 = .ok (.iastore, 1) := by decide +kernel
theorem dX7_begins_61 : decode cX7_begins 61 = .ok (.aload_n 0, 1) := by decide +kernel
theorem dX7_begins_62 : decode cX7_begins 62 = .ok (.getfield 29, 3) := by decide +kernel
theorem dX7_begins_65 : decode cX7_begins 65 = .ok (.aload_n 0, 1) := by decide +kernel
theorem dX7_begins_66 : decode cX7_begins 66 = .ok (.getfield 137, 3) := by decide +kernel
theorem dX7_begins_69 : decode cX7_begins 69 = .ok (.aload_n 0, 1) := by decide +kernel
theorem dX7_begins_70 : decode cX7_begins 70 = .ok (.getfield 140, 3) := by decide +kernel
theorem dX7_begins_73 : decode cX7_begins 73 = .ok (.iastore, 1) := by decide +kernel
theorem dX7_begins_74 : decode cX7_begins 74 = .ok (.aload_n 0, 1) := by decide +kernel
theorem dX7_begins_75 : decode cX7_begins 75 = .ok (.getfield 32, 3) := by decide +kernel
theorem dX7_begins_78 : decode cX7_begins 78 = .ok (.aload_n 0, 1) := by decide +kernel
theorem dX7_begins_79 : decode cX7_begins 79 = .ok (.getfield 137, 3) := by decide +kernel
theorem dX7_begins_82 : decode cX7_begins 82 = .ok (.iconst 0, 1) := by decide +kernel
theorem dX7_begins_83 : decode cX7_begins 83 = .ok (.iastore, 1) := by decide +kernel
theorem dX7_begins_84 : decode cX7_begins 84 = .ok (.aload_n 0, 1) := by decide +kernel
theorem dX7_begins_85 : decode cX7_begins 85 = .ok (.getfield 26, 3) := by decide +kernel
theorem dX7_begins_88 : decode cX7_begins 88 = .ok (.aload_n 0, 1) := by decide +kernel
theorem dX7_begins_89 : decode cX7_begins 89 = .ok (.getfield 137, 3) := by decide +kernel
theorem dX7_begins_92 : decode cX7_begins 92 = .ok (.iload_n 1, 1) := by decide +kernel
theorem dX7_begins_93 : decode cX7_begins 93 = .ok (.iconst 2, 1) := by decide +kernel
theorem dX7_begins_94 : decode cX7_begins 94 = .ok (.iadd, 1) := by decide +kernel
theorem dX7_begins_95 : decode cX7_begins 95 = .ok (.iastore, 1) := by decide +kernel
theorem dX7_begins_96 : decode cX7_begins 96 = .ok (.aload_n 0, 1) := by decide +kernel
theorem dX7_begins_97 : decode cX7_begins 97 = .ok (.aload_n 0, 1) := by decide +kernel
theorem dX7_begins_98 : decode cX7_begins 98 = .ok (.getfield 137, 3) := by decide +kernel
theorem dX7_begins_101 : decode cX7_begins 101 = .ok (.aload_n 0, 1) := by decide +kernel
theorem dX7_begins_102 : decode cX7_begins 102 = .ok (.getfield 143, 3) := by decide +kernel
theorem dX7_begins_105 : decode cX7_begins 105 = .ok (.if_icmp .le 10, 3) := by decide +kernel
theorem dX7_begins_108 : decode cX7_begins 108 = .ok (.aload_n 0, 1) := by decide +kernel
theorem dX7_begins_109 : decode cX7_begins 109 = .ok (.getfield 137, 3) := by decide +kernel
theorem dX7_begins_112 : decode cX7_begins 112 = .ok (.goto 7, 3) := by decide +kernel
theorem dX7_begins_115 : decode cX7_begins 115 = .ok (.aload_n 0, 1) := by decide +kernel
theorem dX7_begins_116 : decode cX7_begins 116 = .ok (.getfield 143, 3) := by decide +kernel
theorem dX7_begins_119 : decode cX7_begins 119 = .ok (.putfield 143, 3) := by decide +kernel
theorem dX7_begins_122 : decode cX7_begins 122 = .ok (.aload_n 0, 1) := by decide +kernel
theorem dX7_begins_123 : decode cX7_begins 123 = .ok (.dup, 1) := by decide +kernel
theorem dX7_begins_124 : decode cX7_begins 124 = .ok (.getfield 137, 3) := by decide +kernel
theorem dX7_begins_127 : decode cX7_begins 127 = .ok (.iconst 1, 1) := by decide +kernel
theorem dX7_begins_128 : decode cX7_begins 128 = .ok (.iadd, 1) := by decide +kernel
theorem dX7_begins_129 : decode cX7_begins 129 = .ok (.putfield 137, 3) := by decide +kernel
theorem dX7_begins_132 : decode cX7_begins 132 = .ok (.iconst 0, 1) := by decide +kernel
theorem dX7_begins_133 : decode cX7_begins 133 = .ok (.istore_n 3, 1) := by decide +kernel
theorem dX7_begins_134 : decode cX7_begins 134 = .ok (.iload_n 3, 1) := by decide +kernel
theorem dX7_begins_135 : decode cX7_begins 135 = .ok (.iconst 2, 1) := by decide +kernel
theorem dX7_begins_136 : decode cX7_begins 136 = .ok (.if_icmp .ge 62, 3) := by decide +kernel
theorem dX7_begins_139 : decode cX7_begins 139 = .ok (.aload_n 0, 1) := by decide +kernel
theorem dX7_begins_140 : decode cX7_begins 140 = .ok (.getfield 122, 3) := by decide +kernel
theorem dX7_begins_143 : decode cX7_begins 143 = .ok (.ifCond .ne 55, 3) := by decide +kernel
theorem dX7_begins_146 : decode cX7_begins 146 = .ok (.iload_n 1, 1) := by decide +kernel
theorem dX7_begins_147 : decode cX7_begins 147 = .ok (.iload_n 3, 1) := by decide +kernel
theorem dX7_begins_148 : decode cX7_begins 148 = .ok (.iadd, 1) := by decide +kernel
theorem dX7_begins_149 : decode cX7_begins 149 = .ok (.iload_n 2, 1) := by decide +kernel
theorem dX7_begins_150 : decode cX7_begins 150 = .ok (.if_icmp .lt 12, 3) := by decide +kernel
theorem dX7_begins_153 : decode cX7_begins 153 = .ok (.aload_n 0, 1) := by decide +kernel
theorem dX7_begins_154 : decode cX7_begins 154 = .ok (.iconst 3, 1) := by decide +kernel
theorem dX7_begins_155 : decode cX7_begins 155 = .ok (.iload_n 2, 1) := by decide +kernel
theorem dX7_begins_156 : decode cX7_begins 156 = .ok (.invokevirtual 131, 3) := by decide +kernel
theorem dX7_begins_159 : decode cX7_begins 159 = .ok (.goto 33, 3) := by decide +kernel
theorem dX7_begins_162 : decode cX7_begins 162 = .ok (.aload_n 0, 1) := by decide +kernel
theorem dX7_begins_163 : decode cX7_begins 163 = .ok (.getfield 7, 3) := by decide +kernel
theorem dX7_begins_166 : decode cX7_begins 166 = .ok (.iload_n 1, 1) := by decide +kernel
theorem dX7_begins_167 : decode cX7_begins 167 = .ok (.iload_n 3, 1) := by decide +kernel
theorem dX7_begins_168 : decode cX7_begins 168 = .ok (.iadd, 1) := by decide +kernel
theorem dX7_begins_169 : decode cX7_begins 169 = .ok (.iaload, 1) := by decide +kernel
theorem dX7_begins_170 : decode cX7_begins 170 = .ok (.iload_n 3, 1) := by decide +kernel
theorem dX7_begins_171 : decode cX7_begins 171 = .ok (.ifCond .ne 8, 3) := by decide +kernel
theorem dX7_begins_174 : decode cX7_begins 174 = .ok (.bipush 80, 2) := by decide +kernel
theorem dX7_begins_176 : decode cX7_begins 176 = .ok (.goto 5, 3) := by decide +kernel
theorem dX7_begins_179 : decode cX7_begins 179 = .ok (.bipush 75, 2) := by decide +kernel
theorem dX7_begins_181 : decode cX7_begins 181 = .ok (.if_icmp .eq 11, 3) := by decide +kernel
theorem dX7_begins_184 : decode cX7_begins 184 = .ok (.aload_n 0, 1) := by decide +kernel
theorem dX7_begins_185 : decode cX7_begins 185 = .ok (.iconst 1, 1) := by decide +kernel
theorem dX7_begins_186 : decode cX7_begins 186 = .ok (.iload_n 1, 1) := by decide +kernel
theorem dX7_begins_187 : decode cX7_begins 187 = .ok (.iload_n 3, 1) := by decide +kernel
theorem dX7_begins_188 : decode cX7_begins 188 = .ok (.iadd, 1) := by decide +kernel
theorem dX7_begins_189 : decode cX7_begins 189 = .ok (.invokevirtual 131, 3) := by decide +kernel
theorem dX7_begins_192 : decode cX7_begins 192 = .ok (.iinc 3 1, 3) := by decide +kernel
theorem dX7_begins_195 : decode cX7_begins 195 = .ok (.goto (-61), 3) := by decide +kernel
theorem dX7_begins_198 : decode cX7_begins 198 = .ok (.return_, 1) := by decide +kernel
theorem dX7_ends_0 : decode cX7_ends 0 = .ok (.aload_n 0, 1) := by decide +kernel
theorem dX7_ends_1 : decode cX7_ends 1 = .ok (.getfield 32, 3) := by decide +kernel
theorem dX7_ends_4 : decode cX7_ends 4 = .ok (.iload_n 1, 1) := by decide +kernel
theorem dX7_ends_5 : decode cX7_ends 5 = .ok (.iaload, 1) := by decide +kernel
theorem dX7_ends_6 : decode cX7_ends 6 = .ok (.istore_n 3, 1) := by decide +kernel
theorem dX7_ends_7 : decode cX7_ends 7 = .ok (.aload_n 0, 1) := by decide +kernel
theorem dX7_ends_8 : decode cX7_ends 8 = .ok (.getfield 35, 3) := by decide +kernel
theorem dX7_ends_11 : decode cX7_ends 11 = .ok (.sipush 600, 3) := by decide +kernel
theorem dX7_ends_14 : decode cX7_ends 14 = .ok (.iload_n 1, 1) := by decide +kernel
theorem dX7_ends_15 : decode cX7_ends 15 = .ok (.imul, 1) := by decide +kernel
theorem dX7_ends_16 : decode cX7_ends 16 = .ok (.iload_n 3, 1) := by decide +kernel
theorem dX7_ends_17 : decode cX7_ends 17 = .ok (.iadd, 1) := by decide +kernel
theorem dX7_ends_18 : decode cX7_ends 18 = .ok (.aload_n 0, 1) := by decide +kernel
theorem dX7_ends_19 : decode cX7_ends 19 = .ok (.getfield 140, 3) := by decide +kernel
theorem dX7_ends_22 : decode cX7_ends 22 = .ok (.aload_n 0, 1) := by decide +kernel
theorem dX7_ends_23 : decode cX7_ends 23 = .ok (.getfield 29, 3) := by decide +kernel
theorem dX7_ends_26 : decode cX7_ends 26 = .ok (.iload_n 1, 1) := by decide +kernel
theorem dX7_ends_27 : decode cX7_ends 27 = .ok (.iaload, 1) := by decide +kernel
theorem dX7_ends_28 : decode cX7_ends 28 = .ok (.isub, 1) := by decide +kernel
theorem dX7_ends_29 : decode cX7_ends 29 = .ok (.iastore, 1) := by decide +kernel
theorem dX7_ends_30 : decode cX7_ends 30 = .ok (.iload_n 1, 1) := by decide +kernel
theorem dX7_ends_31 : decode cX7_ends 31 = .ok (.ifCond .ne 66, 3) := by decide +kernel
theorem dX7_ends_34 : decode cX7_ends 34 = .ok (.aload_n 0, 1) := by decide +kernel
theorem dX7_ends_35 : decode cX7_ends 35 = .ok (.getfield 47, 3) := by decide +kernel
theorem dX7_ends_38 : decode cX7_ends 38 = .ok (.iload_n 3, 1) := by decide +kernel
theorem dX7_ends_39 : decode cX7_ends 39 = .ok (.aload_n 0, 1) := by decide +kernel
theorem dX7_ends_40 : decode cX7_ends 40 = .ok (.getfield 7, 3) := by decide +kernel
theorem dX7_ends_43 : decode cX7_ends 43 = .ok (.aload_n 0, 1) := by decide +kernel
theorem dX7_ends_44 : decode cX7_ends 44 = .ok (.getfield 38, 3) := by decide +kernel
theorem dX7_ends_47 : decode cX7_ends 47 = .ok (.iconst 0, 1) := by decide +kernel
theorem dX7_ends_48 : decode cX7_ends 48 = .ok (.iaload, 1) := by decide +kernel
theorem dX7_ends_49 : decode cX7_ends 49 = .ok (.iaload, 1) := by decide +kernel
theorem dX7_ends_50 : decode cX7_ends 50 = .ok (.iastore, 1) := by decide +kernel
theorem dX7_ends_51 : decode cX7_ends 51 = .ok (.aload_n 0, 1) := by decide +kernel
theorem dX7_ends_52 : decode cX7_ends 52 = .ok (.getfield 50, 3) := by decide +kernel
theorem dX7_ends_55 : decode cX7_ends 55 = .ok (.iload_n 3, 1) := by decide +kernel
theorem dX7_ends_56 : decode cX7_ends 56 = .ok (.aload_n 0, 1) := by decide +kernel
theorem dX7_ends_57 : decode cX7_ends 57 = .ok (.getfield 38, 3) := by decide +kernel
theorem dX7_ends_60 : decode cX7_ends 60 = .ok (.iconst 0, 1) := by decide +kernel
theorem dX7_ends_61 : decode cX7_ends 61 = .ok (.iaload, 1) := by decide +kernel
theorem dX7_ends_62 : decode cX7_ends 62 = .ok (.iastore, 1) := by decide +kernel
theorem dX7_ends_63 : decode cX7_ends 63 = .ok (.aload_n 0, 1) := by decide +kernel
theorem dX7_ends_64 : decode cX7_ends 64 = .ok (.getfield 53, 3) := by decide +kernel
theorem dX7_ends_67 : decode cX7_ends 67 = .ok (.iload_n 3, 1) := by decide +kernel
theorem dX7_ends_68 : decode cX7_ends 68 = .ok (.aload_n 0, 1) := by decide +kernel
theorem dX7_ends_69 : decode cX7_ends 69 = .ok (.getfield 140, 3) := by decide +kernel
theorem dX7_ends_72 : decode cX7_ends 72 = .ok (.aload_n 0, 1) := by decide +kernel
theorem dX7_ends_73 : decode cX7_ends 73 = .ok (.getfield 41, 3) := by decide +kernel
theorem dX7_ends_76 : decode cX7_ends 76 = .ok (.iconst 0, 1) := by decide +kernel
theorem dX7_ends_77 : decode cX7_ends 77 = .ok (.iaload, 1) := by decide +kernel
theorem dX7_ends_78 : decode cX7_ends 78 = .ok (.isub, 1) := by decide +kernel
theorem dX7_ends_79 : decode cX7_ends 79 = .ok (.iastore, 1) := by decide +kernel
theorem dX7_ends_80 : decode cX7_ends 80 = .ok (.aload_n 0, 1) := by decide +kernel
theorem dX7_ends_81 : decode cX7_ends 81 = .ok (.getfield 56, 3) := by decide +kernel
theorem dX7_ends_84 : decode cX7_ends 84 = .ok (.iload_n 3, 1) := by decide +kernel
theorem dX7_ends_85 : decode cX7_ends 85 = .ok (.aload_n 0, 1) := by decide +kernel
theorem dX7_ends_86 : decode cX7_ends 86 = .ok (.getfield 125, 3) := by decide +kernel
theorem dX7_ends_89 : decode cX7_ends 89 = .ok (.aload_n 0, 1) := by decide +kernel
theorem dX7_ends_90 : decode cX7_ends 90 = .ok (.getfield 44, 3) := by decide +kernel
theorem dX7_ends_93 : decode cX7_ends 93 = .ok (.iconst 0, 1) := by decide +kernel
theorem dX7_ends_94 : decode cX7_ends 94 = .ok (.iaload, 1) := by decide +kernel
theorem dX7_ends_95 : decode cX7_ends 95 = .ok (.isub, 1) := by decide +kernel
theorem dX7_ends_96 : decode cX7_ends 96 = .ok (.iastore, 1) := by decide +kernel
theorem dX7_ends_97 : decode cX7_ends 97 = .ok (.aload_n 0, 1) := by decide +kernel
theorem dX7_ends_98 : decode cX7_ends 98 = .ok (.getfield 32, 3) := by decide +kernel
theorem dX7_ends_101 : decode cX7_ends 101 = .ok (.iload_n 1, 1) := by decide +kernel
theorem dX7_ends_102 : decode cX7_ends 102 = .ok (.dup2, 1) := by decide +kernel
theorem dX7_ends_103 : decode cX7_ends 103 = .ok (.iaload, 1) := by decide +kernel
theorem dX7_ends_104 : decode cX7_ends 104 = .ok (.iconst 1, 1) := by decide +kernel
theorem dX7_ends_105 : decode cX7_ends 105 = .ok (.iadd, 1) := by decide +kernel
theorem dX7_ends_106 : decode cX7_ends 106 = .ok (.iastore, 1) := by decide +kernel
theorem dX7_ends_107 : decode cX7_ends 107 = .ok (.aload_n 0, 1) := by decide +kernel
theorem dX7_ends_108 : decode cX7_ends 108 = .ok (.getfield 26, 3) := by decide +kernel
theorem dX7_ends_111 : decode cX7_ends 111 = .ok (.iload_n 1, 1) := by decide +kernel
theorem dX7_ends_112 : decode cX7_ends 112 = .ok (.iload_n 2, 1) := by decide +kernel
theorem dX7_ends_113 : decode cX7_ends 113 = .ok (.iastore, 1) := by decide +kernel
theorem dX7_ends_114 : decode cX7_ends 114 = .ok (.return_, 1) := by decide +kernel
theorem dX7_has_0 : decode cX7_has 0 = .ok (.iload_n 1, 1) := by decide +kernel
theorem dX7_has_1 : decode cX7_has 1 = .ok (.iload_n 2, 1) := by decide +kernel
theorem dX7_has_2 : decode cX7_has 2 = .ok (.iadd, 1) := by decide +kernel
theorem dX7_has_3 : decode cX7_has 3 = .ok (.aload_n 0, 1) := by decide +kernel
theorem dX7_has_4 : decode cX7_has 4 = .ok (.getfield 23, 3) := by decide +kernel
theorem dX7_has_7 : decode cX7_has 7 = .ok (.aload_n 0, 1) := by decide +kernel
theorem dX7_has_8 : decode cX7_has 8 = .ok (.getfield 137, 3) := by decide +kernel
theorem dX7_has_11 : decode cX7_has 11 = .ok (.iconst 1, 1) := by decide +kernel
theorem dX7_has_12 : decode cX7_has 12 = .ok (.isub, 1) := by decide +kernel
theorem dX7_has_13 : decode cX7_has 13 = .ok (.iaload, 1) := by decide +kernel
theorem dX7_has_14 : decode cX7_has 14 = .ok (.if_icmp .le 19, 3) := by decide +kernel
theorem dX7_has_17 : decode cX7_has 17 = .ok (.aload_n 0, 1) := by decide +kernel
theorem dX7_has_18 : decode cX7_has 18 = .ok (.iconst 3, 1) := by decide +kernel
theorem dX7_has_19 : decode cX7_has 19 = .ok (.aload_n 0, 1) := by decide +kernel
theorem dX7_has_20 : decode cX7_has 20 = .ok (.getfield 23, 3) := by decide +kernel
theorem dX7_has_23 : decode cX7_has 23 = .ok (.aload_n 0, 1) := by decide +kernel
theorem dX7_has_24 : decode cX7_has 24 = .ok (.getfield 137, 3) := by decide +kernel
theorem dX7_has_27 : decode cX7_has 27 = .ok (.iconst 1, 1) := by decide +kernel
theorem dX7_has_28 : decode cX7_has 28 = .ok (.isub, 1) := by decide +kernel
theorem dX7_has_29 : decode cX7_has 29 = .ok (.iaload, 1) := by decide +kernel
theorem dX7_has_30 : decode cX7_has 30 = .ok (.invokevirtual 131, 3) := by decide +kernel
theorem dX7_has_33 : decode cX7_has 33 = .ok (.aload_n 0, 1) := by decide +kernel
theorem dX7_has_34 : decode cX7_has 34 = .ok (.getfield 122, 3) := by decide +kernel
theorem dX7_has_37 : decode cX7_has 37 = .ok (.ifCond .ne 7, 3) := by decide +kernel
theorem dX7_has_40 : decode cX7_has 40 = .ok (.iconst 1, 1) := by decide +kernel
theorem dX7_has_41 : decode cX7_has 41 = .ok (.goto 4, 3) := by decide +kernel
theorem dX7_has_44 : decode cX7_has 44 = .ok (.iconst 0, 1) := by decide +kernel
theorem dX7_has_45 : decode cX7_has 45 = .ok (.ireturn, 1) := by decide +kernel
theorem dX7_pays_0 : decode cX7_pays 0 = .ok (.aload_n 0, 1) := by decide +kernel
theorem dX7_pays_1 : decode cX7_pays 1 = .ok (.getfield 140, 3) := by decide +kernel
theorem dX7_pays_4 : decode cX7_pays 4 = .ok (.iload_n 3, 1) := by decide +kernel
theorem dX7_pays_5 : decode cX7_pays 5 = .ok (.iadd, 1) := by decide +kernel
theorem dX7_pays_6 : decode cX7_pays 6 = .ok (.aload_n 0, 1) := by decide +kernel
theorem dX7_pays_7 : decode cX7_pays 7 = .ok (.getfield 146, 3) := by decide +kernel
theorem dX7_pays_10 : decode cX7_pays 10 = .ok (.if_icmp .le 13, 3) := by decide +kernel
theorem dX7_pays_13 : decode cX7_pays 13 = .ok (.aload_n 0, 1) := by decide +kernel
theorem dX7_pays_14 : decode cX7_pays 14 = .ok (.bipush 11, 2) := by decide +kernel
theorem dX7_pays_16 : decode cX7_pays 16 = .ok (.iload_n 1, 1) := by decide +kernel
theorem dX7_pays_17 : decode cX7_pays 17 = .ok (.invokevirtual 131, 3) := by decide +kernel
theorem dX7_pays_20 : decode cX7_pays 20 = .ok (.goto 36, 3) := by decide +kernel
theorem dX7_pays_23 : decode cX7_pays 23 = .ok (.aload_n 0, 1) := by decide +kernel
theorem dX7_pays_24 : decode cX7_pays 24 = .ok (.getfield 125, 3) := by decide +kernel
theorem dX7_pays_27 : decode cX7_pays 27 = .ok (.iload_n 2, 1) := by decide +kernel
theorem dX7_pays_28 : decode cX7_pays 28 = .ok (.iadd, 1) := by decide +kernel
theorem dX7_pays_29 : decode cX7_pays 29 = .ok (.aload_n 0, 1) := by decide +kernel
theorem dX7_pays_30 : decode cX7_pays 30 = .ok (.getfield 128, 3) := by decide +kernel
theorem dX7_pays_33 : decode cX7_pays 33 = .ok (.if_icmp .le 13, 3) := by decide +kernel
theorem dX7_pays_36 : decode cX7_pays 36 = .ok (.aload_n 0, 1) := by decide +kernel
theorem dX7_pays_37 : decode cX7_pays 37 = .ok (.bipush 12, 2) := by decide +kernel
theorem dX7_pays_39 : decode cX7_pays 39 = .ok (.iload_n 1, 1) := by decide +kernel
theorem dX7_pays_40 : decode cX7_pays 40 = .ok (.invokevirtual 131, 3) := by decide +kernel
theorem dX7_pays_43 : decode cX7_pays 43 = .ok (.goto 13, 3) := by decide +kernel
theorem dX7_pays_46 : decode cX7_pays 46 = .ok (.aload_n 0, 1) := by decide +kernel
theorem dX7_pays_47 : decode cX7_pays 47 = .ok (.dup, 1) := by decide +kernel
theorem dX7_pays_48 : decode cX7_pays 48 = .ok (.getfield 125, 3) := by decide +kernel
theorem dX7_pays_51 : decode cX7_pays 51 = .ok (.iload_n 2, 1) := by decide +kernel
theorem dX7_pays_52 : decode cX7_pays 52 = .ok (.iadd, 1) := by decide +kernel
theorem dX7_pays_53 : decode cX7_pays 53 = .ok (.putfield 125, 3) := by decide +kernel
theorem dX7_pays_56 : decode cX7_pays 56 = .ok (.aload_n 0, 1) := by decide +kernel
theorem dX7_pays_57 : decode cX7_pays 57 = .ok (.getfield 122, 3) := by decide +kernel
theorem dX7_pays_60 : decode cX7_pays 60 = .ok (.ifCond .ne 7, 3) := by decide +kernel
theorem dX7_pays_63 : decode cX7_pays 63 = .ok (.iconst 1, 1) := by decide +kernel
theorem dX7_pays_64 : decode cX7_pays 64 = .ok (.goto 4, 3) := by decide +kernel
theorem dX7_pays_67 : decode cX7_pays 67 = .ok (.iconst 0, 1) := by decide +kernel
theorem dX7_pays_68 : decode cX7_pays 68 = .ok (.ireturn, 1) := by decide +kernel
theorem dX7_comes_0 : decode cX7_comes 0 = .ok (.aload_n 0, 1) := by decide +kernel
theorem dX7_comes_1 : decode cX7_comes 1 = .ok (.getfield 13, 3) := by decide +kernel
theorem dX7_comes_4 : decode cX7_comes 4 = .ok (.aload_n 0, 1) := by decide +kernel
theorem dX7_comes_5 : decode cX7_comes 5 = .ok (.getfield 140, 3) := by decide +kernel
theorem dX7_comes_8 : decode cX7_comes 8 = .ok (.iload_n 1, 1) := by decide +kernel
theorem dX7_comes_9 : decode cX7_comes 9 = .ok (.iastore, 1) := by decide +kernel
theorem dX7_comes_10 : decode cX7_comes 10 = .ok (.aload_n 0, 1) := by decide +kernel
theorem dX7_comes_11 : decode cX7_comes 11 = .ok (.dup, 1) := by decide +kernel
theorem dX7_comes_12 : decode cX7_comes 12 = .ok (.getfield 140, 3) := by decide +kernel
theorem dX7_comes_15 : decode cX7_comes 15 = .ok (.iconst 1, 1) := by decide +kernel
theorem dX7_comes_16 : decode cX7_comes 16 = .ok (.iadd, 1) := by decide +kernel
theorem dX7_comes_17 : decode cX7_comes 17 = .ok (.putfield 140, 3) := by decide +kernel
theorem dX7_comes_20 : decode cX7_comes 20 = .ok (.return_, 1) := by decide +kernel
theorem dX7_item_0 : decode cX7_item 0 = .ok (.aload_n 0, 1) := by decide +kernel
theorem dX7_item_1 : decode cX7_item 1 = .ok (.getfield 137, 3) := by decide +kernel
theorem dX7_item_4 : decode cX7_item 4 = .ok (.iconst 1, 1) := by decide +kernel
theorem dX7_item_5 : decode cX7_item 5 = .ok (.isub, 1) := by decide +kernel
theorem dX7_item_6 : decode cX7_item 6 = .ok (.istore_n 1, 1) := by decide +kernel
theorem dX7_item_7 : decode cX7_item 7 = .ok (.aload_n 0, 1) := by decide +kernel
theorem dX7_item_8 : decode cX7_item 8 = .ok (.getfield 26, 3) := by decide +kernel
theorem dX7_item_11 : decode cX7_item 11 = .ok (.iload_n 1, 1) := by decide +kernel
theorem dX7_item_12 : decode cX7_item 12 = .ok (.iaload, 1) := by decide +kernel
theorem dX7_item_13 : decode cX7_item 13 = .ok (.istore_n 2, 1) := by decide +kernel
theorem dX7_item_14 : decode cX7_item 14 = .ok (.aload_n 0, 1) := by decide +kernel
theorem dX7_item_15 : decode cX7_item 15 = .ok (.iload_n 2, 1) := by decide +kernel
theorem dX7_item_16 : decode cX7_item 16 = .ok (.iconst 1, 1) := by decide +kernel
theorem dX7_item_17 : decode cX7_item 17 = .ok (.invokevirtual 149, 3) := by decide +kernel
theorem dX7_item_20 : decode cX7_item 20 = .ok (.ifCond .ne 4, 3) := by decide +kernel
theorem dX7_item_23 : decode cX7_item 23 = .ok (.return_, 1) := by decide +kernel
theorem dX7_item_24 : decode cX7_item 24 = .ok (.aload_n 0, 1) := by decide +kernel
theorem dX7_item_25 : decode cX7_item 25 = .ok (.getfield 38, 3) := by decide +kernel
theorem dX7_item_28 : decode cX7_item 28 = .ok (.iload_n 1, 1) := by decide +kernel
theorem dX7_item_29 : decode cX7_item 29 = .ok (.iload_n 2, 1) := by decide +kernel
theorem dX7_item_30 : decode cX7_item 30 = .ok (.iastore, 1) := by decide +kernel
theorem dX7_item_31 : decode cX7_item 31 = .ok (.aload_n 0, 1) := by decide +kernel
theorem dX7_item_32 : decode cX7_item 32 = .ok (.getfield 41, 3) := by decide +kernel
theorem dX7_item_35 : decode cX7_item 35 = .ok (.iload_n 1, 1) := by decide +kernel
theorem dX7_item_36 : decode cX7_item 36 = .ok (.aload_n 0, 1) := by decide +kernel
theorem dX7_item_37 : decode cX7_item 37 = .ok (.getfield 140, 3) := by decide +kernel
theorem dX7_item_40 : decode cX7_item 40 = .ok (.iastore, 1) := by decide +kernel
theorem dX7_item_41 : decode cX7_item 41 = .ok (.aload_n 0, 1) := by decide +kernel
theorem dX7_item_42 : decode cX7_item 42 = .ok (.getfield 44, 3) := by decide +kernel
theorem dX7_item_45 : decode cX7_item 45 = .ok (.iload_n 1, 1) := by decide +kernel
theorem dX7_item_46 : decode cX7_item 46 = .ok (.aload_n 0, 1) := by decide +kernel
theorem dX7_item_47 : decode cX7_item 47 = .ok (.getfield 125, 3) := by decide +kernel
theorem dX7_item_50 : decode cX7_item 50 = .ok (.iastore, 1) := by decide +kernel
theorem dX7_item_51 : decode cX7_item 51 = .ok (.aload_n 0, 1) := by decide +kernel
theorem dX7_item_52 : decode cX7_item 52 = .ok (.getfield 7, 3) := by decide +kernel
theorem dX7_item_55 : decode cX7_item 55 = .ok (.iload_n 2, 1) := by decide +kernel
theorem dX7_item_56 : decode cX7_item 56 = .ok (.iaload, 1) := by decide +kernel
theorem dX7_item_57 : decode cX7_item 57 = .ok (.tableswitch 316 0 7 #[47, 56, 203, 281, 290, 56, 298, 307], 47) := by decide +kernel
theorem dX7_item_104 : decode cX7_item 104 = .ok (.aload_n 0, 1) := by decide +kernel
theorem dX7_item_105 : decode cX7_item 105 = .ok (.iload_n 1, 1) := by decide +kernel
theorem dX7_item_106 : decode cX7_item 106 = .ok (.iload_n 2, 1) := by decide +kernel
theorem dX7_item_107 : decode cX7_item 107 = .ok (.invokevirtual 153, 3) := by decide +kernel
theorem dX7_item_110 : decode cX7_item 110 = .ok (.goto 269, 3) := by decide +kernel
theorem dX7_item_113 : decode cX7_item 113 = .ok (.aload_n 0, 1) := by decide +kernel
theorem dX7_item_114 : decode cX7_item 114 = .ok (.iload_n 2, 1) := by decide +kernel
theorem dX7_item_115 : decode cX7_item 115 = .ok (.iconst 2, 1) := by decide +kernel
theorem dX7_item_116 : decode cX7_item 116 = .ok (.invokevirtual 149, 3) := by decide +kernel
theorem dX7_item_119 : decode cX7_item 119 = .ok (.ifCond .eq 260, 3) := by decide +kernel
theorem dX7_item_122 : decode cX7_item 122 = .ok (.aload_n 0, 1) := by decide +kernel
theorem dX7_item_123 : decode cX7_item 123 = .ok (.iload_n 2, 1) := by decide +kernel
theorem dX7_item_124 : decode cX7_item 124 = .ok (.iconst 2, 1) := by decide +kernel
theorem dX7_item_125 : decode cX7_item 125 = .ok (.aload_n 0, 1) := by decide +kernel
theorem dX7_item_126 : decode cX7_item 126 = .ok (.getfield 7, 3) := by decide +kernel
theorem dX7_item_129 : decode cX7_item 129 = .ok (.iload_n 2, 1) := by decide +kernel
theorem dX7_item_130 : decode cX7_item 130 = .ok (.iconst 1, 1) := by decide +kernel
theorem dX7_item_131 : decode cX7_item 131 = .ok (.iadd, 1) := by decide +kernel
theorem dX7_item_132 : decode cX7_item 132 = .ok (.iaload, 1) := by decide +kernel
theorem dX7_item_133 : decode cX7_item 133 = .ok (.iadd, 1) := by decide +kernel
theorem dX7_item_134 : decode cX7_item 134 = .ok (.invokevirtual 149, 3) := by decide +kernel
theorem dX7_item_137 : decode cX7_item 137 = .ok (.ifCond .eq 242, 3) := by decide +kernel
theorem dX7_item_140 : decode cX7_item 140 = .ok (.aload_n 0, 1) := by decide +kernel
theorem dX7_item_141 : decode cX7_item 141 = .ok (.iload_n 2, 1) := by decide +kernel
theorem dX7_item_142 : decode cX7_item 142 = .ok (.iconst 2, 1) := by decide +kernel
theorem dX7_item_143 : decode cX7_item 143 = .ok (.aload_n 0, 1) := by decide +kernel
theorem dX7_item_144 : decode cX7_item 144 = .ok (.getfield 7, 3) := by decide +kernel
theorem dX7_item_147 : decode cX7_item 147 = .ok (.iload_n 2, 1) := by decide +kernel
theorem dX7_item_148 : decode cX7_item 148 = .ok (.iconst 1, 1) := by decide +kernel
theorem dX7_item_149 : decode cX7_item 149 = .ok (.iadd, 1) := by decide +kernel
theorem dX7_item_150 : decode cX7_item 150 = .ok (.iaload, 1) := by decide +kernel
theorem dX7_item_151 : decode cX7_item 151 = .ok (.aload_n 0, 1) := by decide +kernel
theorem dX7_item_152 : decode cX7_item 152 = .ok (.getfield 7, 3) := by decide +kernel
theorem dX7_item_155 : decode cX7_item 155 = .ok (.iload_n 2, 1) := by decide +kernel
theorem dX7_item_156 : decode cX7_item 156 = .ok (.iaload, 1) := by decide +kernel
theorem dX7_item_157 : decode cX7_item 157 = .ok (.iconst 1, 1) := by decide +kernel
theorem dX7_item_158 : decode cX7_item 158 = .ok (.if_icmp .ne 7, 3) := by decide +kernel
theorem dX7_item_161 : decode cX7_item 161 = .ok (.iconst 2, 1) := by decide +kernel
theorem dX7_item_162 : decode cX7_item 162 = .ok (.goto 4, 3) := by decide +kernel
theorem dX7_item_165 : decode cX7_item 165 = .ok (.iconst 1, 1) := by decide +kernel
theorem dX7_item_166 : decode cX7_item 166 = .ok (.imul, 1) := by decide +kernel
theorem dX7_item_167 : decode cX7_item 167 = .ok (.iadd, 1) := by decide +kernel
theorem dX7_item_168 : decode cX7_item 168 = .ok (.aload_n 0, 1) := by decide +kernel
theorem dX7_item_169 : decode cX7_item 169 = .ok (.getfield 7, 3) := by decide +kernel
theorem dX7_item_172 : decode cX7_item 172 = .ok (.iload_n 2, 1) := by decide +kernel
theorem dX7_item_173 : decode cX7_item 173 = .ok (.iaload, 1) := by decide +kernel
theorem dX7_item_174 : decode cX7_item 174 = .ok (.iconst 1, 1) := by decide +kernel
theorem dX7_item_175 : decode cX7_item 175 = .ok (.if_icmp .ne 14, 3) := by decide +kernel
theorem dX7_item_178 : decode cX7_item 178 = .ok (.aload_n 0, 1) := by decide +kernel
theorem dX7_item_179 : decode cX7_item 179 = .ok (.getfield 7, 3) := by decide +kernel
theorem dX7_item_182 : decode cX7_item 182 = .ok (.iload_n 2, 1) := by decide +kernel
theorem dX7_item_183 : decode cX7_item 183 = .ok (.iconst 1, 1) := by decide +kernel
theorem dX7_item_184 : decode cX7_item 184 = .ok (.iadd, 1) := by decide +kernel
theorem dX7_item_185 : decode cX7_item 185 = .ok (.iaload, 1) := by decide +kernel
theorem dX7_item_186 : decode cX7_item 186 = .ok (.goto 4, 3) := by decide +kernel
theorem dX7_item_189 : decode cX7_item 189 = .ok (.iconst 0, 1) := by decide +kernel
theorem dX7_item_190 : decode cX7_item 190 = .ok (.invokevirtual 156, 3) := by decide +kernel
theorem dX7_item_193 : decode cX7_item 193 = .ok (.ifCond .eq 186, 3) := by decide +kernel
theorem dX7_item_196 : decode cX7_item 196 = .ok (.iconst 0, 1) := by decide +kernel
theorem dX7_item_197 : decode cX7_item 197 = .ok (.istore_n 3, 1) := by decide +kernel
theorem dX7_item_198 : decode cX7_item 198 = .ok (.iload_n 3, 1) := by decide +kernel
theorem dX7_item_199 : decode cX7_item 199 = .ok (.aload_n 0, 1) := by decide +kernel
theorem dX7_item_200 : decode cX7_item 200 = .ok (.getfield 7, 3) := by decide +kernel
theorem dX7_item_203 : decode cX7_item 203 = .ok (.iload_n 2, 1) := by decide +kernel
theorem dX7_item_204 : decode cX7_item 204 = .ok (.iconst 1, 1) := by decide +kernel
theorem dX7_item_205 : decode cX7_item 205 = .ok (.iadd, 1) := by decide +kernel
theorem dX7_item_206 : decode cX7_item 206 = .ok (.iaload, 1) := by decide +kernel
theorem dX7_item_207 : decode cX7_item 207 = .ok (.if_icmp .ge 33, 3) := by decide +kernel
theorem dX7_item_210 : decode cX7_item 210 = .ok (.aload_n 0, 1) := by decide +kernel
theorem dX7_item_211 : decode cX7_item 211 = .ok (.getfield 7, 3) := by decide +kernel
theorem dX7_item_214 : decode cX7_item 214 = .ok (.iload_n 2, 1) := by decide +kernel
theorem dX7_item_215 : decode cX7_item 215 = .ok (.iaload, 1) := by decide +kernel
theorem dX7_item_216 : decode cX7_item 216 = .ok (.iconst 1, 1) := by decide +kernel
theorem dX7_item_217 : decode cX7_item 217 = .ok (.if_icmp .ne 23, 3) := by decide +kernel
theorem dX7_item_220 : decode cX7_item 220 = .ok (.aload_n 0, 1) := by decide +kernel
theorem dX7_item_221 : decode cX7_item 221 = .ok (.aload_n 0, 1) := by decide +kernel
theorem dX7_item_222 : decode cX7_item 222 = .ok (.getfield 7, 3) := by decide +kernel
theorem dX7_item_225 : decode cX7_item 225 = .ok (.iload_n 2, 1) := by decide +kernel
theorem dX7_item_226 : decode cX7_item 226 = .ok (.iconst 2, 1) := by decide +kernel
theorem dX7_item_227 : decode cX7_item 227 = .ok (.iadd, 1) := by decide +kernel
theorem dX7_item_228 : decode cX7_item 228 = .ok (.iload_n 3, 1) := by decide +kernel
theorem dX7_item_229 : decode cX7_item 229 = .ok (.iadd, 1) := by decide +kernel
theorem dX7_item_230 : decode cX7_item 230 = .ok (.iaload, 1) := by decide +kernel
theorem dX7_item_231 : decode cX7_item 231 = .ok (.invokevirtual 160, 3) := by decide +kernel
theorem dX7_item_234 : decode cX7_item 234 = .ok (.iinc 3 1, 3) := by decide +kernel
theorem dX7_item_237 : decode cX7_item 237 = .ok (.goto (-39), 3) := by decide +kernel
theorem dX7_item_240 : decode cX7_item 240 = .ok (.aload_n 0, 1) := by decide +kernel
theorem dX7_item_241 : decode cX7_item 241 = .ok (.iload_n 1, 1) := by decide +kernel
theorem dX7_item_242 : decode cX7_item 242 = .ok (.iload_n 2, 1) := by decide +kernel
theorem dX7_item_243 : decode cX7_item 243 = .ok (.iconst 2, 1) := by decide +kernel
theorem dX7_item_244 : decode cX7_item 244 = .ok (.iadd, 1) := by decide +kernel
theorem dX7_item_245 : decode cX7_item 245 = .ok (.aload_n 0, 1) := by decide +kernel
theorem dX7_item_246 : decode cX7_item 246 = .ok (.getfield 7, 3) := by decide +kernel
theorem dX7_item_249 : decode cX7_item 249 = .ok (.iload_n 2, 1) := by decide +kernel
theorem dX7_item_250 : decode cX7_item 250 = .ok (.iconst 1, 1) := by decide +kernel
theorem dX7_item_251 : decode cX7_item 251 = .ok (.iadd, 1) := by decide +kernel
theorem dX7_item_252 : decode cX7_item 252 = .ok (.iaload, 1) := by decide +kernel
theorem dX7_item_253 : decode cX7_item 253 = .ok (.iadd, 1) := by decide +kernel
theorem dX7_item_254 : decode cX7_item 254 = .ok (.invokevirtual 163, 3) := by decide +kernel
theorem dX7_item_257 : decode cX7_item 257 = .ok (.goto 122, 3) := by decide +kernel
theorem dX7_item_260 : decode cX7_item 260 = .ok (.aload_n 0, 1) := by decide +kernel
theorem dX7_item_261 : decode cX7_item 261 = .ok (.iload_n 2, 1) := by decide +kernel
theorem dX7_item_262 : decode cX7_item 262 = .ok (.iconst 3, 1) := by decide +kernel
theorem dX7_item_263 : decode cX7_item 263 = .ok (.invokevirtual 149, 3) := by decide +kernel
theorem dX7_item_266 : decode cX7_item 266 = .ok (.ifCond .eq 113, 3) := by decide +kernel
theorem dX7_item_269 : decode cX7_item 269 = .ok (.aload_n 0, 1) := by decide +kernel
theorem dX7_item_270 : decode cX7_item 270 = .ok (.iload_n 2, 1) := by decide +kernel
theorem dX7_item_271 : decode cX7_item 271 = .ok (.iconst 3, 1) := by decide +kernel
theorem dX7_item_272 : decode cX7_item 272 = .ok (.aload_n 0, 1) := by decide +kernel
theorem dX7_item_273 : decode cX7_item 273 = .ok (.getfield 7, 3) := by decide +kernel
theorem dX7_item_276 : decode cX7_item 276 = .ok (.iload_n 2, 1) := by decide +kernel
theorem dX7_item_277 : decode cX7_item 277 = .ok (.iconst 1, 1) := by decide +kernel
theorem dX7_item_278 : decode cX7_item 278 = .ok (.iadd, 1) := by decide +kernel
theorem dX7_item_279 : decode cX7_item 279 = .ok (.iaload, 1) := by decide +kernel
theorem dX7_item_280 : decode cX7_item 280 = .ok (.iadd, 1) := by decide +kernel
theorem dX7_item_281 : decode cX7_item 281 = .ok (.aload_n 0, 1) := by decide +kernel
theorem dX7_item_282 : decode cX7_item 282 = .ok (.getfield 7, 3) := by decide +kernel
theorem dX7_item_285 : decode cX7_item 285 = .ok (.iload_n 2, 1) := by decide +kernel
theorem dX7_item_286 : decode cX7_item 286 = .ok (.iconst 1, 1) := by decide +kernel
theorem dX7_item_287 : decode cX7_item 287 = .ok (.iadd, 1) := by decide +kernel
theorem dX7_item_288 : decode cX7_item 288 = .ok (.iaload, 1) := by decide +kernel
theorem dX7_item_289 : decode cX7_item 289 = .ok (.invokevirtual 156, 3) := by decide +kernel
theorem dX7_item_292 : decode cX7_item 292 = .ok (.ifCond .eq 87, 3) := by decide +kernel
theorem dX7_item_295 : decode cX7_item 295 = .ok (.iconst 0, 1) := by decide +kernel
theorem dX7_item_296 : decode cX7_item 296 = .ok (.istore_n 3, 1) := by decide +kernel
theorem dX7_item_297 : decode cX7_item 297 = .ok (.iload_n 3, 1) := by decide +kernel
theorem dX7_item_298 : decode cX7_item 298 = .ok (.aload_n 0, 1) := by decide +kernel
theorem dX7_item_299 : decode cX7_item 299 = .ok (.getfield 7, 3) := by decide +kernel
theorem dX7_item_302 : decode cX7_item 302 = .ok (.iload_n 2, 1) := by decide +kernel
theorem dX7_item_303 : decode cX7_item 303 = .ok (.iconst 1, 1) := by decide +kernel
theorem dX7_item_304 : decode cX7_item 304 = .ok (.iadd, 1) := by decide +kernel
theorem dX7_item_305 : decode cX7_item 305 = .ok (.iaload, 1) := by decide +kernel
theorem dX7_item_306 : decode cX7_item 306 = .ok (.if_icmp .ge 21, 3) := by decide +kernel
theorem dX7_item_309 : decode cX7_item 309 = .ok (.aload_n 0, 1) := by decide +kernel
theorem dX7_item_310 : decode cX7_item 310 = .ok (.aload_n 0, 1) := by decide +kernel
theorem dX7_item_311 : decode cX7_item 311 = .ok (.getfield 7, 3) := by decide +kernel
theorem dX7_item_314 : decode cX7_item 314 = .ok (.iload_n 2, 1) := by decide +kernel
theorem dX7_item_315 : decode cX7_item 315 = .ok (.iconst 2, 1) := by decide +kernel
theorem dX7_item_316 : decode cX7_item 316 = .ok (.iadd, 1) := by decide +kernel
theorem dX7_item_317 : decode cX7_item 317 = .ok (.iaload, 1) := by decide +kernel
theorem dX7_item_318 : decode cX7_item 318 = .ok (.invokevirtual 160, 3) := by decide +kernel
theorem dX7_item_321 : decode cX7_item 321 = .ok (.iinc 3 1, 3) := by decide +kernel
theorem dX7_item_324 : decode cX7_item 324 = .ok (.goto (-27), 3) := by decide +kernel
theorem dX7_item_327 : decode cX7_item 327 = .ok (.aload_n 0, 1) := by decide +kernel
theorem dX7_item_328 : decode cX7_item 328 = .ok (.iload_n 1, 1) := by decide +kernel
theorem dX7_item_329 : decode cX7_item 329 = .ok (.iload_n 2, 1) := by decide +kernel
theorem dX7_item_330 : decode cX7_item 330 = .ok (.iconst 3, 1) := by decide +kernel
theorem dX7_item_331 : decode cX7_item 331 = .ok (.iadd, 1) := by decide +kernel
theorem dX7_item_332 : decode cX7_item 332 = .ok (.invokevirtual 163, 3) := by decide +kernel
theorem dX7_item_335 : decode cX7_item 335 = .ok (.goto 44, 3) := by decide +kernel
theorem dX7_item_338 : decode cX7_item 338 = .ok (.aload_n 0, 1) := by decide +kernel
theorem dX7_item_339 : decode cX7_item 339 = .ok (.iload_n 1, 1) := by decide +kernel
theorem dX7_item_340 : decode cX7_item 340 = .ok (.iload_n 2, 1) := by decide +kernel
theorem dX7_item_341 : decode cX7_item 341 = .ok (.invokevirtual 166, 3) := by decide +kernel
theorem dX7_item_344 : decode cX7_item 344 = .ok (.goto 35, 3) := by decide +kernel
theorem dX7_item_347 : decode cX7_item 347 = .ok (.aload_n 0, 1) := by decide +kernel
theorem dX7_item_348 : decode cX7_item 348 = .ok (.iload_n 2, 1) := by decide +kernel
theorem dX7_item_349 : decode cX7_item 349 = .ok (.invokevirtual 169, 3) := by decide +kernel
theorem dX7_item_352 : decode cX7_item 352 = .ok (.goto 27, 3) := by decide +kernel
theorem dX7_item_355 : decode cX7_item 355 = .ok (.aload_n 0, 1) := by decide +kernel
theorem dX7_item_356 : decode cX7_item 356 = .ok (.iload_n 1, 1) := by decide +kernel
theorem dX7_item_357 : decode cX7_item 357 = .ok (.iload_n 2, 1) := by decide +kernel
theorem dX7_item_358 : decode cX7_item 358 = .ok (.invokevirtual 172, 3) := by decide +kernel
theorem dX7_item_361 : decode cX7_item 361 = .ok (.goto 18, 3) := by decide +kernel
theorem dX7_item_364 : decode cX7_item 364 = .ok (.aload_n 0, 1) := by decide +kernel
theorem dX7_item_365 : decode cX7_item 365 = .ok (.iload_n 1, 1) := by decide +kernel
theorem dX7_item_366 : decode cX7_item 366 = .ok (.iload_n 2, 1) := by decide +kernel
theorem dX7_item_367 : decode cX7_item 367 = .ok (.invokevirtual 175, 3) := by decide +kernel
theorem dX7_item_370 : decode cX7_item 370 = .ok (.goto 9, 3) := by decide +kernel
theorem dX7_item_373 : decode cX7_item 373 = .ok (.aload_n 0, 1) := by decide +kernel
theorem dX7_item_374 : decode cX7_item 374 = .ok (.iconst 2, 1) := by decide +kernel
theorem dX7_item_375 : decode cX7_item 375 = .ok (.iload_n 2, 1) := by decide +kernel
theorem dX7_item_376 : decode cX7_item 376 = .ok (.invokevirtual 131, 3) := by decide +kernel
theorem dX7_item_379 : decode cX7_item 379 = .ok (.return_, 1) := by decide +kernel
theorem dX7_closes_0 : decode cX7_closes 0 = .ok (.aload_n 0, 1) := by decide +kernel
theorem dX7_closes_1 : decode cX7_closes 1 = .ok (.iload_n 2, 1) := by decide +kernel
theorem dX7_closes_2 : decode cX7_closes 2 = .ok (.iconst 2, 1) := by decide +kernel
theorem dX7_closes_3 : decode cX7_closes 3 = .ok (.invokevirtual 149, 3) := by decide +kernel
theorem dX7_closes_6 : decode cX7_closes 6 = .ok (.ifCond .ne 4, 3) := by decide +kernel
theorem dX7_closes_9 : decode cX7_closes 9 = .ok (.return_, 1) := by decide +kernel
theorem dX7_closes_10 : decode cX7_closes 10 = .ok (.aload_n 0, 1) := by decide +kernel
end
section
theorem dX7_closes_11 : decode cX7_closes 11 = .ok (.getfield 7, 3) := by decide +kernel
theorem dX7_closes_14 : decode cX7_closes 14 = .ok (.iload_n 2, 1) := by decide +kernel
theorem dX7_closes_15 : decode cX7_closes 15 = .ok (.iconst 1, 1) := by decide +kernel
theorem dX7_closes_16 : decode cX7_closes 16 = .ok (.iadd, 1) := by decide +kernel
theorem dX7_closes_17 : decode cX7_closes 17 = .ok (.iaload, 1) := by decide +kernel
theorem dX7_closes_18 : decode cX7_closes 18 = .ok (.aload_n 0, 1) := by decide +kernel
theorem dX7_closes_19 : decode cX7_closes 19 = .ok (.aload_n 0, 1) := by decide +kernel
theorem dX7_closes_20 : decode cX7_closes 20 = .ok (.getfield 20, 3) := by decide +kernel
theorem dX7_closes_23 : decode cX7_closes 23 = .ok (.iload_n 1, 1) := by decide +kernel
theorem dX7_closes_24 : decode cX7_closes 24 = .ok (.iaload, 1) := by decide +kernel
theorem dX7_closes_25 : decode cX7_closes 25 = .ok (.iload_n 2, 1) := by decide +kernel
theorem dX7_closes_26 : decode cX7_closes 26 = .ok (.iconst 1, 1) := by decide +kernel
theorem dX7_closes_27 : decode cX7_closes 27 = .ok (.iadd, 1) := by decide +kernel
theorem dX7_closes_28 : decode cX7_closes 28 = .ok (.invokevirtual 87, 3) := by decide +kernel
theorem dX7_closes_31 : decode cX7_closes 31 = .ok (.if_icmp .eq 15, 3) := by decide +kernel
theorem dX7_closes_34 : decode cX7_closes 34 = .ok (.aload_n 0, 1) := by decide +kernel
theorem dX7_closes_35 : decode cX7_closes 35 = .ok (.bipush 9, 2) := by decide +kernel
theorem dX7_closes_37 : decode cX7_closes 37 = .ok (.iload_n 2, 1) := by decide +kernel
theorem dX7_closes_38 : decode cX7_closes 38 = .ok (.iconst 1, 1) := by decide +kernel
theorem dX7_closes_39 : decode cX7_closes 39 = .ok (.iadd, 1) := by decide +kernel
theorem dX7_closes_40 : decode cX7_closes 40 = .ok (.invokevirtual 131, 3) := by decide +kernel
theorem dX7_closes_43 : decode cX7_closes 43 = .ok (.goto 57, 3) := by decide +kernel
theorem dX7_closes_46 : decode cX7_closes 46 = .ok (.iload_n 2, 1) := by decide +kernel
theorem dX7_closes_47 : decode cX7_closes 47 = .ok (.iconst 2, 1) := by decide +kernel
theorem dX7_closes_48 : decode cX7_closes 48 = .ok (.iadd, 1) := by decide +kernel
theorem dX7_closes_49 : decode cX7_closes 49 = .ok (.aload_n 0, 1) := by decide +kernel
theorem dX7_closes_50 : decode cX7_closes 50 = .ok (.getfield 23, 3) := by decide +kernel
theorem dX7_closes_53 : decode cX7_closes 53 = .ok (.iload_n 1, 1) := by decide +kernel
theorem dX7_closes_54 : decode cX7_closes 54 = .ok (.iaload, 1) := by decide +kernel
theorem dX7_closes_55 : decode cX7_closes 55 = .ok (.if_icmp .ge 15, 3) := by decide +kernel
theorem dX7_closes_58 : decode cX7_closes 58 = .ok (.aload_n 0, 1) := by decide +kernel
theorem dX7_closes_59 : decode cX7_closes 59 = .ok (.bipush 10, 2) := by decide +kernel
theorem dX7_closes_61 : decode cX7_closes 61 = .ok (.iload_n 2, 1) := by decide +kernel
theorem dX7_closes_62 : decode cX7_closes 62 = .ok (.iconst 2, 1) := by decide +kernel
theorem dX7_closes_63 : decode cX7_closes 63 = .ok (.iadd, 1) := by decide +kernel
theorem dX7_closes_64 : decode cX7_closes 64 = .ok (.invokevirtual 131, 3) := by decide +kernel
theorem dX7_closes_67 : decode cX7_closes 67 = .ok (.goto 33, 3) := by decide +kernel
theorem dX7_closes_70 : decode cX7_closes 70 = .ok (.aload_n 0, 1) := by decide +kernel
theorem dX7_closes_71 : decode cX7_closes 71 = .ok (.dup, 1) := by decide +kernel
theorem dX7_closes_72 : decode cX7_closes 72 = .ok (.getfield 137, 3) := by decide +kernel
theorem dX7_closes_75 : decode cX7_closes 75 = .ok (.iconst 1, 1) := by decide +kernel
theorem dX7_closes_76 : decode cX7_closes 76 = .ok (.isub, 1) := by decide +kernel
theorem dX7_closes_77 : decode cX7_closes 77 = .ok (.putfield 137, 3) := by decide +kernel
theorem dX7_closes_80 : decode cX7_closes 80 = .ok (.aload_n 0, 1) := by decide +kernel
theorem dX7_closes_81 : decode cX7_closes 81 = .ok (.getfield 137, 3) := by decide +kernel
theorem dX7_closes_84 : decode cX7_closes 84 = .ok (.ifCond .le 16, 3) := by decide +kernel
theorem dX7_closes_87 : decode cX7_closes 87 = .ok (.aload_n 0, 1) := by decide +kernel
theorem dX7_closes_88 : decode cX7_closes 88 = .ok (.aload_n 0, 1) := by decide +kernel
theorem dX7_closes_89 : decode cX7_closes 89 = .ok (.getfield 137, 3) := by decide +kernel
theorem dX7_closes_92 : decode cX7_closes 92 = .ok (.iconst 1, 1) := by decide +kernel
theorem dX7_closes_93 : decode cX7_closes 93 = .ok (.isub, 1) := by decide +kernel
theorem dX7_closes_94 : decode cX7_closes 94 = .ok (.iload_n 2, 1) := by decide +kernel
theorem dX7_closes_95 : decode cX7_closes 95 = .ok (.iconst 2, 1) := by decide +kernel
theorem dX7_closes_96 : decode cX7_closes 96 = .ok (.iadd, 1) := by decide +kernel
theorem dX7_closes_97 : decode cX7_closes 97 = .ok (.invokevirtual 163, 3) := by decide +kernel
theorem dX7_closes_100 : decode cX7_closes 100 = .ok (.return_, 1) := by decide +kernel
theorem dX7_copy_0 : decode cX7_copy 0 = .ok (.aload_n 0, 1) := by decide +kernel
theorem dX7_copy_1 : decode cX7_copy 1 = .ok (.iload_n 2, 1) := by decide +kernel
theorem dX7_copy_2 : decode cX7_copy 2 = .ok (.iconst 2, 1) := by decide +kernel
theorem dX7_copy_3 : decode cX7_copy 3 = .ok (.invokevirtual 149, 3) := by decide +kernel
theorem dX7_copy_6 : decode cX7_copy 6 = .ok (.ifCond .ne 4, 3) := by decide +kernel
theorem dX7_copy_9 : decode cX7_copy 9 = .ok (.return_, 1) := by decide +kernel
theorem dX7_copy_10 : decode cX7_copy 10 = .ok (.aload_n 0, 1) := by decide +kernel
theorem dX7_copy_11 : decode cX7_copy 11 = .ok (.getfield 7, 3) := by decide +kernel
theorem dX7_copy_14 : decode cX7_copy 14 = .ok (.iload_n 2, 1) := by decide +kernel
theorem dX7_copy_15 : decode cX7_copy 15 = .ok (.iconst 1, 1) := by decide +kernel
theorem dX7_copy_16 : decode cX7_copy 16 = .ok (.iadd, 1) := by decide +kernel
theorem dX7_copy_17 : decode cX7_copy 17 = .ok (.iaload, 1) := by decide +kernel
theorem dX7_copy_18 : decode cX7_copy 18 = .ok (.istore_n 3, 1) := by decide +kernel
theorem dX7_copy_19 : decode cX7_copy 19 = .ok (.iload_n 3, 1) := by decide +kernel
theorem dX7_copy_20 : decode cX7_copy 20 = .ok (.ifCond .eq 18, 3) := by decide +kernel
theorem dX7_copy_23 : decode cX7_copy 23 = .ok (.iload_n 3, 1) := by decide +kernel
theorem dX7_copy_24 : decode cX7_copy 24 = .ok (.aload_n 0, 1) := by decide +kernel
theorem dX7_copy_25 : decode cX7_copy 25 = .ok (.getfield 140, 3) := by decide +kernel
theorem dX7_copy_28 : decode cX7_copy 28 = .ok (.aload_n 0, 1) := by decide +kernel
theorem dX7_copy_29 : decode cX7_copy 29 = .ok (.getfield 29, 3) := by decide +kernel
theorem dX7_copy_32 : decode cX7_copy 32 = .ok (.iload_n 1, 1) := by decide +kernel
theorem dX7_copy_33 : decode cX7_copy 33 = .ok (.iaload, 1) := by decide +kernel
theorem dX7_copy_34 : decode cX7_copy 34 = .ok (.isub, 1) := by decide +kernel
theorem dX7_copy_35 : decode cX7_copy 35 = .ok (.if_icmp .le 14, 3) := by decide +kernel
theorem dX7_copy_38 : decode cX7_copy 38 = .ok (.aload_n 0, 1) := by decide +kernel
theorem dX7_copy_39 : decode cX7_copy 39 = .ok (.iconst 4, 1) := by decide +kernel
theorem dX7_copy_40 : decode cX7_copy 40 = .ok (.iload_n 2, 1) := by decide +kernel
theorem dX7_copy_41 : decode cX7_copy 41 = .ok (.iconst 1, 1) := by decide +kernel
theorem dX7_copy_42 : decode cX7_copy 42 = .ok (.iadd, 1) := by decide +kernel
theorem dX7_copy_43 : decode cX7_copy 43 = .ok (.invokevirtual 131, 3) := by decide +kernel
theorem dX7_copy_46 : decode cX7_copy 46 = .ok (.goto 83, 3) := by decide +kernel
theorem dX7_copy_49 : decode cX7_copy 49 = .ok (.aload_n 0, 1) := by decide +kernel
theorem dX7_copy_50 : decode cX7_copy 50 = .ok (.iload_n 2, 1) := by decide +kernel
theorem dX7_copy_51 : decode cX7_copy 51 = .ok (.iconst 3, 1) := by decide +kernel
theorem dX7_copy_52 : decode cX7_copy 52 = .ok (.invokevirtual 149, 3) := by decide +kernel
theorem dX7_copy_55 : decode cX7_copy 55 = .ok (.ifCond .eq 74, 3) := by decide +kernel
theorem dX7_copy_58 : decode cX7_copy 58 = .ok (.aload_n 0, 1) := by decide +kernel
theorem dX7_copy_59 : decode cX7_copy 59 = .ok (.iload_n 2, 1) := by decide +kernel
theorem dX7_copy_60 : decode cX7_copy 60 = .ok (.iconst 3, 1) := by decide +kernel
theorem dX7_copy_61 : decode cX7_copy 61 = .ok (.aload_n 0, 1) := by decide +kernel
theorem dX7_copy_62 : decode cX7_copy 62 = .ok (.getfield 7, 3) := by decide +kernel
theorem dX7_copy_65 : decode cX7_copy 65 = .ok (.iload_n 2, 1) := by decide +kernel
theorem dX7_copy_66 : decode cX7_copy 66 = .ok (.iconst 2, 1) := by decide +kernel
theorem dX7_copy_67 : decode cX7_copy 67 = .ok (.iadd, 1) := by decide +kernel
theorem dX7_copy_68 : decode cX7_copy 68 = .ok (.iaload, 1) := by decide +kernel
theorem dX7_copy_69 : decode cX7_copy 69 = .ok (.iadd, 1) := by decide +kernel
theorem dX7_copy_70 : decode cX7_copy 70 = .ok (.aload_n 0, 1) := by decide +kernel
theorem dX7_copy_71 : decode cX7_copy 71 = .ok (.getfield 7, 3) := by decide +kernel
theorem dX7_copy_74 : decode cX7_copy 74 = .ok (.iload_n 2, 1) := by decide +kernel
theorem dX7_copy_75 : decode cX7_copy 75 = .ok (.iconst 2, 1) := by decide +kernel
theorem dX7_copy_76 : decode cX7_copy 76 = .ok (.iadd, 1) := by decide +kernel
theorem dX7_copy_77 : decode cX7_copy 77 = .ok (.iaload, 1) := by decide +kernel
theorem dX7_copy_78 : decode cX7_copy 78 = .ok (.invokevirtual 156, 3) := by decide +kernel
theorem dX7_copy_81 : decode cX7_copy 81 = .ok (.ifCond .eq 48, 3) := by decide +kernel
theorem dX7_copy_84 : decode cX7_copy 84 = .ok (.iconst 0, 1) := by decide +kernel
theorem dX7_copy_85 : decode cX7_copy 85 = .ok (.istore 4, 2) := by decide +kernel
theorem dX7_copy_87 : decode cX7_copy 87 = .ok (.iload 4, 2) := by decide +kernel
theorem dX7_copy_89 : decode cX7_copy 89 = .ok (.aload_n 0, 1) := by decide +kernel
theorem dX7_copy_90 : decode cX7_copy 90 = .ok (.getfield 7, 3) := by decide +kernel
theorem dX7_copy_93 : decode cX7_copy 93 = .ok (.iload_n 2, 1) := by decide +kernel
theorem dX7_copy_94 : decode cX7_copy 94 = .ok (.iconst 2, 1) := by decide +kernel
theorem dX7_copy_95 : decode cX7_copy 95 = .ok (.iadd, 1) := by decide +kernel
theorem dX7_copy_96 : decode cX7_copy 96 = .ok (.iaload, 1) := by decide +kernel
theorem dX7_copy_97 : decode cX7_copy 97 = .ok (.if_icmp .ge 24, 3) := by decide +kernel
theorem dX7_copy_100 : decode cX7_copy 100 = .ok (.aload_n 0, 1) := by decide +kernel
theorem dX7_copy_101 : decode cX7_copy 101 = .ok (.aload_n 0, 1) := by decide +kernel
theorem dX7_copy_102 : decode cX7_copy 102 = .ok (.getfield 13, 3) := by decide +kernel
theorem dX7_copy_105 : decode cX7_copy 105 = .ok (.aload_n 0, 1) := by decide +kernel
theorem dX7_copy_106 : decode cX7_copy 106 = .ok (.getfield 140, 3) := by decide +kernel
theorem dX7_copy_109 : decode cX7_copy 109 = .ok (.iload_n 3, 1) := by decide +kernel
theorem dX7_copy_110 : decode cX7_copy 110 = .ok (.isub, 1) := by decide +kernel
theorem dX7_copy_111 : decode cX7_copy 111 = .ok (.iaload, 1) := by decide +kernel
theorem dX7_copy_112 : decode cX7_copy 112 = .ok (.invokevirtual 160, 3) := by decide +kernel
theorem dX7_copy_115 : decode cX7_copy 115 = .ok (.iinc 4 1, 3) := by decide +kernel
theorem dX7_copy_118 : decode cX7_copy 118 = .ok (.goto (-31), 3) := by decide +kernel
theorem dX7_copy_121 : decode cX7_copy 121 = .ok (.aload_n 0, 1) := by decide +kernel
theorem dX7_copy_122 : decode cX7_copy 122 = .ok (.iload_n 1, 1) := by decide +kernel
theorem dX7_copy_123 : decode cX7_copy 123 = .ok (.iload_n 2, 1) := by decide +kernel
theorem dX7_copy_124 : decode cX7_copy 124 = .ok (.iconst 3, 1) := by decide +kernel
theorem dX7_copy_125 : decode cX7_copy 125 = .ok (.iadd, 1) := by decide +kernel
theorem dX7_copy_126 : decode cX7_copy 126 = .ok (.invokevirtual 163, 3) := by decide +kernel
theorem dX7_copy_129 : decode cX7_copy 129 = .ok (.return_, 1) := by decide +kernel
theorem dX7_nest_0 : decode cX7_nest 0 = .ok (.aload_n 0, 1) := by decide +kernel
theorem dX7_nest_1 : decode cX7_nest 1 = .ok (.iload_n 1, 1) := by decide +kernel
theorem dX7_nest_2 : decode cX7_nest 2 = .ok (.iconst 3, 1) := by decide +kernel
theorem dX7_nest_3 : decode cX7_nest 3 = .ok (.invokevirtual 149, 3) := by decide +kernel
theorem dX7_nest_6 : decode cX7_nest 6 = .ok (.ifCond .ne 4, 3) := by decide +kernel
theorem dX7_nest_9 : decode cX7_nest 9 = .ok (.return_, 1) := by decide +kernel
theorem dX7_nest_10 : decode cX7_nest 10 = .ok (.sipush 256, 3) := by decide +kernel
theorem dX7_nest_13 : decode cX7_nest 13 = .ok (.aload_n 0, 1) := by decide +kernel
theorem dX7_nest_14 : decode cX7_nest 14 = .ok (.getfield 7, 3) := by decide +kernel
theorem dX7_nest_17 : decode cX7_nest 17 = .ok (.iload_n 1, 1) := by decide +kernel
theorem dX7_nest_18 : decode cX7_nest 18 = .ok (.iconst 1, 1) := by decide +kernel
theorem dX7_nest_19 : decode cX7_nest 19 = .ok (.iadd, 1) := by decide +kernel
theorem dX7_nest_20 : decode cX7_nest 20 = .ok (.iaload, 1) := by decide +kernel
theorem dX7_nest_21 : decode cX7_nest 21 = .ok (.imul, 1) := by decide +kernel
theorem dX7_nest_22 : decode cX7_nest 22 = .ok (.aload_n 0, 1) := by decide +kernel
theorem dX7_nest_23 : decode cX7_nest 23 = .ok (.getfield 7, 3) := by decide +kernel
theorem dX7_nest_26 : decode cX7_nest 26 = .ok (.iload_n 1, 1) := by decide +kernel
theorem dX7_nest_27 : decode cX7_nest 27 = .ok (.iconst 2, 1) := by decide +kernel
theorem dX7_nest_28 : decode cX7_nest 28 = .ok (.iadd, 1) := by decide +kernel
theorem dX7_nest_29 : decode cX7_nest 29 = .ok (.iaload, 1) := by decide +kernel
theorem dX7_nest_30 : decode cX7_nest 30 = .ok (.iadd, 1) := by decide +kernel
theorem dX7_nest_31 : decode cX7_nest 31 = .ok (.istore_n 2, 1) := by decide +kernel
theorem dX7_nest_32 : decode cX7_nest 32 = .ok (.aload_n 0, 1) := by decide +kernel
theorem dX7_nest_33 : decode cX7_nest 33 = .ok (.iload_n 1, 1) := by decide +kernel
theorem dX7_nest_34 : decode cX7_nest 34 = .ok (.iconst 3, 1) := by decide +kernel
theorem dX7_nest_35 : decode cX7_nest 35 = .ok (.iload_n 2, 1) := by decide +kernel
theorem dX7_nest_36 : decode cX7_nest 36 = .ok (.iadd, 1) := by decide +kernel
theorem dX7_nest_37 : decode cX7_nest 37 = .ok (.invokevirtual 149, 3) := by decide +kernel
theorem dX7_nest_40 : decode cX7_nest 40 = .ok (.ifCond .ne 4, 3) := by decide +kernel
theorem dX7_nest_43 : decode cX7_nest 43 = .ok (.return_, 1) := by decide +kernel
theorem dX7_nest_44 : decode cX7_nest 44 = .ok (.aload_n 0, 1) := by decide +kernel
theorem dX7_nest_45 : decode cX7_nest 45 = .ok (.getfield 125, 3) := by decide +kernel
theorem dX7_nest_48 : decode cX7_nest 48 = .ok (.iconst 3, 1) := by decide +kernel
theorem dX7_nest_49 : decode cX7_nest 49 = .ok (.iadd, 1) := by decide +kernel
theorem dX7_nest_50 : decode cX7_nest 50 = .ok (.aload_n 0, 1) := by decide +kernel
theorem dX7_nest_51 : decode cX7_nest 51 = .ok (.getfield 128, 3) := by decide +kernel
theorem dX7_nest_54 : decode cX7_nest 54 = .ok (.if_icmp .le 13, 3) := by decide +kernel
theorem dX7_nest_57 : decode cX7_nest 57 = .ok (.aload_n 0, 1) := by decide +kernel
theorem dX7_nest_58 : decode cX7_nest 58 = .ok (.bipush 12, 2) := by decide +kernel
theorem dX7_nest_60 : decode cX7_nest 60 = .ok (.iload_n 1, 1) := by decide +kernel
theorem dX7_nest_61 : decode cX7_nest 61 = .ok (.invokevirtual 131, 3) := by decide +kernel
theorem dX7_nest_64 : decode cX7_nest 64 = .ok (.goto 46, 3) := by decide +kernel
theorem dX7_nest_67 : decode cX7_nest 67 = .ok (.aload_n 0, 1) := by decide +kernel
theorem dX7_nest_68 : decode cX7_nest 68 = .ok (.getfield 137, 3) := by decide +kernel
theorem dX7_nest_71 : decode cX7_nest 71 = .ok (.aload_n 0, 1) := by decide +kernel
theorem dX7_nest_72 : decode cX7_nest 72 = .ok (.getfield 178, 3) := by decide +kernel
theorem dX7_nest_75 : decode cX7_nest 75 = .ok (.if_icmp .le 13, 3) := by decide +kernel
theorem dX7_nest_78 : decode cX7_nest 78 = .ok (.aload_n 0, 1) := by decide +kernel
theorem dX7_nest_79 : decode cX7_nest 79 = .ok (.bipush 13, 2) := by decide +kernel
theorem dX7_nest_81 : decode cX7_nest 81 = .ok (.iload_n 1, 1) := by decide +kernel
theorem dX7_nest_82 : decode cX7_nest 82 = .ok (.invokevirtual 131, 3) := by decide +kernel
theorem dX7_nest_85 : decode cX7_nest 85 = .ok (.goto 25, 3) := by decide +kernel
theorem dX7_nest_88 : decode cX7_nest 88 = .ok (.aload_n 0, 1) := by decide +kernel
theorem dX7_nest_89 : decode cX7_nest 89 = .ok (.dup, 1) := by decide +kernel
theorem dX7_nest_90 : decode cX7_nest 90 = .ok (.getfield 125, 3) := by decide +kernel
theorem dX7_nest_93 : decode cX7_nest 93 = .ok (.iconst 3, 1) := by decide +kernel
theorem dX7_nest_94 : decode cX7_nest 94 = .ok (.iadd, 1) := by decide +kernel
theorem dX7_nest_95 : decode cX7_nest 95 = .ok (.putfield 125, 3) := by decide +kernel
theorem dX7_nest_98 : decode cX7_nest 98 = .ok (.aload_n 0, 1) := by decide +kernel
theorem dX7_nest_99 : decode cX7_nest 99 = .ok (.iload_n 1, 1) := by decide +kernel
theorem dX7_nest_100 : decode cX7_nest 100 = .ok (.iconst 3, 1) := by decide +kernel
theorem dX7_nest_101 : decode cX7_nest 101 = .ok (.iadd, 1) := by decide +kernel
theorem dX7_nest_102 : decode cX7_nest 102 = .ok (.iload_n 1, 1) := by decide +kernel
theorem dX7_nest_103 : decode cX7_nest 103 = .ok (.iconst 3, 1) := by decide +kernel
theorem dX7_nest_104 : decode cX7_nest 104 = .ok (.iadd, 1) := by decide +kernel
theorem dX7_nest_105 : decode cX7_nest 105 = .ok (.iload_n 2, 1) := by decide +kernel
theorem dX7_nest_106 : decode cX7_nest 106 = .ok (.iadd, 1) := by decide +kernel
theorem dX7_nest_107 : decode cX7_nest 107 = .ok (.invokevirtual 181, 3) := by decide +kernel
theorem dX7_nest_110 : decode cX7_nest 110 = .ok (.return_, 1) := by decide +kernel
theorem dX7_again_0 : decode cX7_again 0 = .ok (.aload_n 0, 1) := by decide +kernel
theorem dX7_again_1 : decode cX7_again 1 = .ok (.iload_n 2, 1) := by decide +kernel
theorem dX7_again_2 : decode cX7_again 2 = .ok (.iconst 2, 1) := by decide +kernel
theorem dX7_again_3 : decode cX7_again 3 = .ok (.invokevirtual 149, 3) := by decide +kernel
theorem dX7_again_6 : decode cX7_again 6 = .ok (.ifCond .ne 4, 3) := by decide +kernel
theorem dX7_again_9 : decode cX7_again 9 = .ok (.return_, 1) := by decide +kernel
theorem dX7_again_10 : decode cX7_again 10 = .ok (.aload_n 0, 1) := by decide +kernel
theorem dX7_again_11 : decode cX7_again 11 = .ok (.getfield 7, 3) := by decide +kernel
theorem dX7_again_14 : decode cX7_again 14 = .ok (.iload_n 2, 1) := by decide +kernel
theorem dX7_again_15 : decode cX7_again 15 = .ok (.iconst 1, 1) := by decide +kernel
theorem dX7_again_16 : decode cX7_again 16 = .ok (.iadd, 1) := by decide +kernel
theorem dX7_again_17 : decode cX7_again 17 = .ok (.iaload, 1) := by decide +kernel
theorem dX7_again_18 : decode cX7_again 18 = .ok (.istore_n 3, 1) := by decide +kernel
theorem dX7_again_19 : decode cX7_again 19 = .ok (.iload_n 3, 1) := by decide +kernel
theorem dX7_again_20 : decode cX7_again 20 = .ok (.aload_n 0, 1) := by decide +kernel
theorem dX7_again_21 : decode cX7_again 21 = .ok (.getfield 32, 3) := by decide +kernel
theorem dX7_again_24 : decode cX7_again 24 = .ok (.iload_n 1, 1) := by decide +kernel
theorem dX7_again_25 : decode cX7_again 25 = .ok (.iaload, 1) := by decide +kernel
theorem dX7_again_26 : decode cX7_again 26 = .ok (.if_icmp .lt 12, 3) := by decide +kernel
theorem dX7_again_29 : decode cX7_again 29 = .ok (.aload_n 0, 1) := by decide +kernel
theorem dX7_again_30 : decode cX7_again 30 = .ok (.iconst 5, 1) := by decide +kernel
theorem dX7_again_31 : decode cX7_again 31 = .ok (.iload_n 2, 1) := by decide +kernel
theorem dX7_again_32 : decode cX7_again 32 = .ok (.iconst 1, 1) := by decide +kernel
theorem dX7_again_33 : decode cX7_again 33 = .ok (.iadd, 1) := by decide +kernel
theorem dX7_again_34 : decode cX7_again 34 = .ok (.invokevirtual 131, 3) := by decide +kernel
theorem dX7_again_37 : decode cX7_again 37 = .ok (.return_, 1) := by decide +kernel
theorem dX7_again_38 : decode cX7_again 38 = .ok (.aload_n 0, 1) := by decide +kernel
theorem dX7_again_39 : decode cX7_again 39 = .ok (.getfield 35, 3) := by decide +kernel
theorem dX7_again_42 : decode cX7_again 42 = .ok (.sipush 600, 3) := by decide +kernel
theorem dX7_again_45 : decode cX7_again 45 = .ok (.iload_n 1, 1) := by decide +kernel
theorem dX7_again_46 : decode cX7_again 46 = .ok (.imul, 1) := by decide +kernel
theorem dX7_again_47 : decode cX7_again 47 = .ok (.iload_n 3, 1) := by decide +kernel
theorem dX7_again_48 : decode cX7_again 48 = .ok (.iadd, 1) := by decide +kernel
theorem dX7_again_49 : decode cX7_again 49 = .ok (.iaload, 1) := by decide +kernel
theorem dX7_again_50 : decode cX7_again 50 = .ok (.istore 4, 2) := by decide +kernel
theorem dX7_again_52 : decode cX7_again 52 = .ok (.aload_n 0, 1) := by decide +kernel
theorem dX7_again_53 : decode cX7_again 53 = .ok (.iload_n 2, 1) := by decide +kernel
theorem dX7_again_54 : decode cX7_again 54 = .ok (.iconst 2, 1) := by decide +kernel
theorem dX7_again_55 : decode cX7_again 55 = .ok (.iload 4, 2) := by decide +kernel
theorem dX7_again_57 : decode cX7_again 57 = .ok (.iadd, 1) := by decide +kernel
theorem dX7_again_58 : decode cX7_again 58 = .ok (.iload 4, 2) := by decide +kernel
theorem dX7_again_60 : decode cX7_again 60 = .ok (.invokevirtual 156, 3) := by decide +kernel
theorem dX7_again_63 : decode cX7_again 63 = .ok (.ifCond .eq 45, 3) := by decide +kernel
theorem dX7_again_66 : decode cX7_again 66 = .ok (.iconst 0, 1) := by decide +kernel
theorem dX7_again_67 : decode cX7_again 67 = .ok (.istore 5, 2) := by decide +kernel
theorem dX7_again_69 : decode cX7_again 69 = .ok (.iload 5, 2) := by decide +kernel
theorem dX7_again_71 : decode cX7_again 71 = .ok (.iload 4, 2) := by decide +kernel
theorem dX7_again_73 : decode cX7_again 73 = .ok (.if_icmp .ge 27, 3) := by decide +kernel
theorem dX7_again_76 : decode cX7_again 76 = .ok (.aload_n 0, 1) := by decide +kernel
theorem dX7_again_77 : decode cX7_again 77 = .ok (.aload_n 0, 1) := by decide +kernel
theorem dX7_again_78 : decode cX7_again 78 = .ok (.getfield 13, 3) := by decide +kernel
theorem dX7_again_81 : decode cX7_again 81 = .ok (.aload_n 0, 1) := by decide +kernel
theorem dX7_again_82 : decode cX7_again 82 = .ok (.getfield 29, 3) := by decide +kernel
theorem dX7_again_85 : decode cX7_again 85 = .ok (.iload_n 1, 1) := by decide +kernel
theorem dX7_again_86 : decode cX7_again 86 = .ok (.iaload, 1) := by decide +kernel
theorem dX7_again_87 : decode cX7_again 87 = .ok (.iload 5, 2) := by decide +kernel
theorem dX7_again_89 : decode cX7_again 89 = .ok (.iadd, 1) := by decide +kernel
theorem dX7_again_90 : decode cX7_again 90 = .ok (.iaload, 1) := by decide +kernel
theorem dX7_again_91 : decode cX7_again 91 = .ok (.invokevirtual 160, 3) := by decide +kernel
theorem dX7_again_94 : decode cX7_again 94 = .ok (.iinc 5 1, 3) := by decide +kernel
theorem dX7_again_97 : decode cX7_again 97 = .ok (.goto (-28), 3) := by decide +kernel
theorem dX7_again_100 : decode cX7_again 100 = .ok (.aload_n 0, 1) := by decide +kernel
theorem dX7_again_101 : decode cX7_again 101 = .ok (.iload_n 1, 1) := by decide +kernel
theorem dX7_again_102 : decode cX7_again 102 = .ok (.iload_n 2, 1) := by decide +kernel
theorem dX7_again_103 : decode cX7_again 103 = .ok (.iconst 2, 1) := by decide +kernel
theorem dX7_again_104 : decode cX7_again 104 = .ok (.iadd, 1) := by decide +kernel
theorem dX7_again_105 : decode cX7_again 105 = .ok (.invokevirtual 163, 3) := by decide +kernel
theorem dX7_again_108 : decode cX7_again 108 = .ok (.return_, 1) := by decide +kernel
theorem dX7_codesOf_0 : decode cX7_codesOf 0 = .ok (.iconst 0, 1) := by decide +kernel
theorem dX7_codesOf_1 : decode cX7_codesOf 1 = .ok (.istore_n 3, 1) := by decide +kernel
theorem dX7_codesOf_2 : decode cX7_codesOf 2 = .ok (.iconst 0, 1) := by decide +kernel
theorem dX7_codesOf_3 : decode cX7_codesOf 3 = .ok (.istore 4, 2) := by decide +kernel
theorem dX7_codesOf_5 : decode cX7_codesOf 5 = .ok (.iconst 0, 1) := by decide +kernel
theorem dX7_codesOf_6 : decode cX7_codesOf 6 = .ok (.istore 5, 2) := by decide +kernel
theorem dX7_codesOf_8 : decode cX7_codesOf 8 = .ok (.iconst 0, 1) := by decide +kernel
theorem dX7_codesOf_9 : decode cX7_codesOf 9 = .ok (.istore 6, 2) := by decide +kernel
theorem dX7_codesOf_11 : decode cX7_codesOf 11 = .ok (.iload 6, 2) := by decide +kernel
theorem dX7_codesOf_13 : decode cX7_codesOf 13 = .ok (.iload_n 2, 1) := by decide +kernel
theorem dX7_codesOf_14 : decode cX7_codesOf 14 = .ok (.if_icmp .ge 67, 3) := by decide +kernel
theorem dX7_codesOf_17 : decode cX7_codesOf 17 = .ok (.aload_n 0, 1) := by decide +kernel
theorem dX7_codesOf_18 : decode cX7_codesOf 18 = .ok (.getfield 7, 3) := by decide +kernel
theorem dX7_codesOf_21 : decode cX7_codesOf 21 = .ok (.iload_n 1, 1) := by decide +kernel
theorem dX7_codesOf_22 : decode cX7_codesOf 22 = .ok (.iload 6, 2) := by decide +kernel
theorem dX7_codesOf_24 : decode cX7_codesOf 24 = .ok (.iadd, 1) := by decide +kernel
theorem dX7_codesOf_25 : decode cX7_codesOf 25 = .ok (.iaload, 1) := by decide +kernel
theorem dX7_codesOf_26 : decode cX7_codesOf 26 = .ok (.istore 7, 2) := by decide +kernel
theorem dX7_codesOf_28 : decode cX7_codesOf 28 = .ok (.iload_n 3, 1) := by decide +kernel
theorem dX7_codesOf_29 : decode cX7_codesOf 29 = .ok (.iload 7, 2) := by decide +kernel
theorem dX7_codesOf_31 : decode cX7_codesOf 31 = .ok (.ifCond .le 12, 3) := by decide +kernel
theorem dX7_codesOf_34 : decode cX7_codesOf 34 = .ok (.sipush 128, 3) := by decide +kernel
theorem dX7_codesOf_37 : decode cX7_codesOf 37 = .ok (.iload 7, 2) := by decide +kernel
theorem dX7_codesOf_39 : decode cX7_codesOf 39 = .ok (.ishr, 1) := by decide +kernel
theorem dX7_codesOf_40 : decode cX7_codesOf 40 = .ok (.goto 4, 3) := by decide +kernel
theorem dX7_codesOf_43 : decode cX7_codesOf 43 = .ok (.iconst 0, 1) := by decide +kernel
theorem dX7_codesOf_44 : decode cX7_codesOf 44 = .ok (.iadd, 1) := by decide +kernel
theorem dX7_codesOf_45 : decode cX7_codesOf 45 = .ok (.istore_n 3, 1) := by decide +kernel
theorem dX7_codesOf_46 : decode cX7_codesOf 46 = .ok (.iload 4, 2) := by decide +kernel
theorem dX7_codesOf_48 : decode cX7_codesOf 48 = .ok (.iload 7, 2) := by decide +kernel
theorem dX7_codesOf_50 : decode cX7_codesOf 50 = .ok (.ifCond .le 7, 3) := by decide +kernel
theorem dX7_codesOf_53 : decode cX7_codesOf 53 = .ok (.iconst 1, 1) := by decide +kernel
theorem dX7_codesOf_54 : decode cX7_codesOf 54 = .ok (.goto 4, 3) := by decide +kernel
theorem dX7_codesOf_57 : decode cX7_codesOf 57 = .ok (.iconst 0, 1) := by decide +kernel
theorem dX7_codesOf_58 : decode cX7_codesOf 58 = .ok (.iadd, 1) := by decide +kernel
theorem dX7_codesOf_59 : decode cX7_codesOf 59 = .ok (.istore 4, 2) := by decide +kernel
theorem dX7_codesOf_61 : decode cX7_codesOf 61 = .ok (.iload 7, 2) := by decide +kernel
theorem dX7_codesOf_63 : decode cX7_codesOf 63 = .ok (.ifCond .le 8, 3) := by decide +kernel
theorem dX7_codesOf_66 : decode cX7_codesOf 66 = .ok (.iload 7, 2) := by decide +kernel
theorem dX7_codesOf_68 : decode cX7_codesOf 68 = .ok (.goto 5, 3) := by decide +kernel
theorem dX7_codesOf_71 : decode cX7_codesOf 71 = .ok (.iload 5, 2) := by decide +kernel
theorem dX7_codesOf_73 : decode cX7_codesOf 73 = .ok (.istore 5, 2) := by decide +kernel
theorem dX7_codesOf_75 : decode cX7_codesOf 75 = .ok (.iinc 6 1, 3) := by decide +kernel
theorem dX7_codesOf_78 : decode cX7_codesOf 78 = .ok (.goto (-67), 3) := by decide +kernel
theorem dX7_codesOf_81 : decode cX7_codesOf 81 = .ok (.iconst 0, 1) := by decide +kernel
theorem dX7_codesOf_82 : decode cX7_codesOf 82 = .ok (.istore 6, 2) := by decide +kernel
theorem dX7_codesOf_84 : decode cX7_codesOf 84 = .ok (.iconst 1, 1) := by decide +kernel
theorem dX7_codesOf_85 : decode cX7_codesOf 85 = .ok (.istore 7, 2) := by decide +kernel
theorem dX7_codesOf_87 : decode cX7_codesOf 87 = .ok (.iload 7, 2) := by decide +kernel
theorem dX7_codesOf_89 : decode cX7_codesOf 89 = .ok (.bipush 7, 2) := by decide +kernel
theorem dX7_codesOf_91 : decode cX7_codesOf 91 = .ok (.if_icmp .gt 56, 3) := by decide +kernel
theorem dX7_codesOf_94 : decode cX7_codesOf 94 = .ok (.iload 6, 2) := by decide +kernel
theorem dX7_codesOf_96 : decode cX7_codesOf 96 = .ok (.iconst 2, 1) := by decide +kernel
theorem dX7_codesOf_97 : decode cX7_codesOf 97 = .ok (.imul, 1) := by decide +kernel
theorem dX7_codesOf_98 : decode cX7_codesOf 98 = .ok (.istore 6, 2) := by decide +kernel
theorem dX7_codesOf_100 : decode cX7_codesOf 100 = .ok (.iconst 0, 1) := by decide +kernel
theorem dX7_codesOf_101 : decode cX7_codesOf 101 = .ok (.istore 8, 2) := by decide +kernel
theorem dX7_codesOf_103 : decode cX7_codesOf 103 = .ok (.iload 8, 2) := by decide +kernel
theorem dX7_codesOf_105 : decode cX7_codesOf 105 = .ok (.iload_n 2, 1) := by decide +kernel
theorem dX7_codesOf_106 : decode cX7_codesOf 106 = .ok (.if_icmp .ge 35, 3) := by decide +kernel
theorem dX7_codesOf_109 : decode cX7_codesOf 109 = .ok (.aload_n 0, 1) := by decide +kernel
theorem dX7_codesOf_110 : decode cX7_codesOf 110 = .ok (.getfield 7, 3) := by decide +kernel
theorem dX7_codesOf_113 : decode cX7_codesOf 113 = .ok (.iload_n 1, 1) := by decide +kernel
theorem dX7_codesOf_114 : decode cX7_codesOf 114 = .ok (.iload 8, 2) := by decide +kernel
theorem dX7_codesOf_116 : decode cX7_codesOf 116 = .ok (.iadd, 1) := by decide +kernel
theorem dX7_codesOf_117 : decode cX7_codesOf 117 = .ok (.iaload, 1) := by decide +kernel
theorem dX7_codesOf_118 : decode cX7_codesOf 118 = .ok (.iload 7, 2) := by decide +kernel
theorem dX7_codesOf_120 : decode cX7_codesOf 120 = .ok (.if_icmp .ne 15, 3) := by decide +kernel
theorem dX7_codesOf_123 : decode cX7_codesOf 123 = .ok (.aload_n 0, 1) := by decide +kernel
theorem dX7_codesOf_124 : decode cX7_codesOf 124 = .ok (.getfield 59, 3) := by decide +kernel
theorem dX7_codesOf_127 : decode cX7_codesOf 127 = .ok (.iload 8, 2) := by decide +kernel
theorem dX7_codesOf_129 : decode cX7_codesOf 129 = .ok (.iload 6, 2) := by decide +kernel
theorem dX7_codesOf_131 : decode cX7_codesOf 131 = .ok (.iastore, 1) := by decide +kernel
theorem dX7_codesOf_132 : decode cX7_codesOf 132 = .ok (.iinc 6 1, 3) := by decide +kernel
theorem dX7_codesOf_135 : decode cX7_codesOf 135 = .ok (.iinc 8 1, 3) := by decide +kernel
theorem dX7_codesOf_138 : decode cX7_codesOf 138 = .ok (.goto (-35), 3) := by decide +kernel
theorem dX7_codesOf_141 : decode cX7_codesOf 141 = .ok (.iinc 7 1, 3) := by decide +kernel
theorem dX7_codesOf_144 : decode cX7_codesOf 144 = .ok (.goto (-57), 3) := by decide +kernel
theorem dX7_codesOf_147 : decode cX7_codesOf 147 = .ok (.iload_n 3, 1) := by decide +kernel
theorem dX7_codesOf_148 : decode cX7_codesOf 148 = .ok (.sipush 128, 3) := by decide +kernel
theorem dX7_codesOf_151 : decode cX7_codesOf 151 = .ok (.if_icmp .eq 15, 3) := by decide +kernel
theorem dX7_codesOf_154 : decode cX7_codesOf 154 = .ok (.iload 4, 2) := by decide +kernel
theorem dX7_codesOf_156 : decode cX7_codesOf 156 = .ok (.iconst 1, 1) := by decide +kernel
theorem dX7_codesOf_157 : decode cX7_codesOf 157 = .ok (.if_icmp .ne 13, 3) := by decide +kernel
theorem dX7_codesOf_160 : decode cX7_codesOf 160 = .ok (.iload 5, 2) := by decide +kernel
theorem dX7_codesOf_162 : decode cX7_codesOf 162 = .ok (.iconst 1, 1) := by decide +kernel
theorem dX7_codesOf_163 : decode cX7_codesOf 163 = .ok (.if_icmp .ne 7, 3) := by decide +kernel
theorem dX7_codesOf_166 : decode cX7_codesOf 166 = .ok (.iconst 1, 1) := by decide +kernel
theorem dX7_codesOf_167 : decode cX7_codesOf 167 = .ok (.goto 4, 3) := by decide +kernel
theorem dX7_codesOf_170 : decode cX7_codesOf 170 = .ok (.iconst 0, 1) := by decide +kernel
theorem dX7_codesOf_171 : decode cX7_codesOf 171 = .ok (.ireturn, 1) := by decide +kernel
theorem dX7_coded_0 : decode cX7_coded 0 = .ok (.aload_n 0, 1) := by decide +kernel
theorem dX7_coded_1 : decode cX7_coded 1 = .ok (.iload_n 2, 1) := by decide +kernel
theorem dX7_coded_2 : decode cX7_coded 2 = .ok (.iconst 2, 1) := by decide +kernel
theorem dX7_coded_3 : decode cX7_coded 3 = .ok (.invokevirtual 149, 3) := by decide +kernel
theorem dX7_coded_6 : decode cX7_coded 6 = .ok (.ifCond .ne 4, 3) := by decide +kernel
theorem dX7_coded_9 : decode cX7_coded 9 = .ok (.return_, 1) := by decide +kernel
theorem dX7_coded_10 : decode cX7_coded 10 = .ok (.aload_n 0, 1) := by decide +kernel
theorem dX7_coded_11 : decode cX7_coded 11 = .ok (.getfield 7, 3) := by decide +kernel
theorem dX7_coded_14 : decode cX7_coded 14 = .ok (.iload_n 2, 1) := by decide +kernel
theorem dX7_coded_15 : decode cX7_coded 15 = .ok (.iconst 1, 1) := by decide +kernel
theorem dX7_coded_16 : decode cX7_coded 16 = .ok (.iadd, 1) := by decide +kernel
theorem dX7_coded_17 : decode cX7_coded 17 = .ok (.iaload, 1) := by decide +kernel
theorem dX7_coded_18 : decode cX7_coded 18 = .ok (.istore_n 3, 1) := by decide +kernel
theorem dX7_coded_19 : decode cX7_coded 19 = .ok (.iload_n 3, 1) := by decide +kernel
theorem dX7_coded_20 : decode cX7_coded 20 = .ok (.i2l, 1) := by decide +kernel
theorem dX7_coded_21 : decode cX7_coded 21 = .ok (.lconst 1, 1) := by decide +kernel
theorem dX7_coded_22 : decode cX7_coded 22 = .ok (.ldc2_w 72, 3) := by decide +kernel
theorem dX7_coded_25 : decode cX7_coded 25 = .ok (.invokestatic 74, 3) := by decide +kernel
theorem dX7_coded_28 : decode cX7_coded 28 = .ok (.ifCond .ne 13, 3) := by decide +kernel
theorem dX7_coded_31 : decode cX7_coded 31 = .ok (.aload_n 0, 1) := by decide +kernel
theorem dX7_coded_32 : decode cX7_coded 32 = .ok (.bipush 6, 2) := by decide +kernel
theorem dX7_coded_34 : decode cX7_coded 34 = .ok (.iload_n 2, 1) := by decide +kernel
theorem dX7_coded_35 : decode cX7_coded 35 = .ok (.iconst 1, 1) := by decide +kernel
theorem dX7_coded_36 : decode cX7_coded 36 = .ok (.iadd, 1) := by decide +kernel
theorem dX7_coded_37 : decode cX7_coded 37 = .ok (.invokevirtual 131, 3) := by decide +kernel
theorem dX7_coded_40 : decode cX7_coded 40 = .ok (.return_, 1) := by decide +kernel
theorem dX7_coded_41 : decode cX7_coded 41 = .ok (.aload_n 0, 1) := by decide +kernel
theorem dX7_coded_42 : decode cX7_coded 42 = .ok (.iload_n 2, 1) := by decide +kernel
theorem dX7_coded_43 : decode cX7_coded 43 = .ok (.iconst 2, 1) := by decide +kernel
theorem dX7_coded_44 : decode cX7_coded 44 = .ok (.iload_n 3, 1) := by decide +kernel
theorem dX7_coded_45 : decode cX7_coded 45 = .ok (.iadd, 1) := by decide +kernel
theorem dX7_coded_46 : decode cX7_coded 46 = .ok (.invokevirtual 149, 3) := by decide +kernel
theorem dX7_coded_49 : decode cX7_coded 49 = .ok (.ifCond .ne 4, 3) := by decide +kernel
theorem dX7_coded_52 : decode cX7_coded 52 = .ok (.return_, 1) := by decide +kernel
theorem dX7_coded_53 : decode cX7_coded 53 = .ok (.iload_n 2, 1) := by decide +kernel
theorem dX7_coded_54 : decode cX7_coded 54 = .ok (.iconst 2, 1) := by decide +kernel
theorem dX7_coded_55 : decode cX7_coded 55 = .ok (.iadd, 1) := by decide +kernel
theorem dX7_coded_56 : decode cX7_coded 56 = .ok (.iload_n 3, 1) := by decide +kernel
theorem dX7_coded_57 : decode cX7_coded 57 = .ok (.iadd, 1) := by decide +kernel
theorem dX7_coded_58 : decode cX7_coded 58 = .ok (.istore 4, 2) := by decide +kernel
theorem dX7_coded_60 : decode cX7_coded 60 = .ok (.iconst 0, 1) := by decide +kernel
theorem dX7_coded_61 : decode cX7_coded 61 = .ok (.istore 5, 2) := by decide +kernel
theorem dX7_coded_63 : decode cX7_coded 63 = .ok (.iload 5, 2) := by decide +kernel
theorem dX7_coded_65 : decode cX7_coded 65 = .ok (.iload_n 3, 1) := by decide +kernel
theorem dX7_coded_66 : decode cX7_coded 66 = .ok (.if_icmp .ge 50, 3) := by decide +kernel
theorem dX7_coded_69 : decode cX7_coded 69 = .ok (.aload_n 0, 1) := by decide +kernel
theorem dX7_coded_70 : decode cX7_coded 70 = .ok (.iload 4, 2) := by decide +kernel
theorem dX7_coded_72 : decode cX7_coded 72 = .ok (.iload 5, 2) := by decide +kernel
theorem dX7_coded_74 : decode cX7_coded 74 = .ok (.iadd, 1) := by decide +kernel
theorem dX7_coded_75 : decode cX7_coded 75 = .ok (.iconst 1, 1) := by decide +kernel
theorem dX7_coded_76 : decode cX7_coded 76 = .ok (.invokevirtual 149, 3) := by decide +kernel
theorem dX7_coded_79 : decode cX7_coded 79 = .ok (.ifCond .ne 4, 3) := by decide +kernel
theorem dX7_coded_82 : decode cX7_coded 82 = .ok (.return_, 1) := by decide +kernel
theorem dX7_coded_83 : decode cX7_coded 83 = .ok (.aload_n 0, 1) := by decide +kernel
theorem dX7_coded_84 : decode cX7_coded 84 = .ok (.getfield 7, 3) := by decide +kernel
theorem dX7_coded_87 : decode cX7_coded 87 = .ok (.iload 4, 2) := by decide +kernel
theorem dX7_coded_89 : decode cX7_coded 89 = .ok (.iload 5, 2) := by decide +kernel
theorem dX7_coded_91 : decode cX7_coded 91 = .ok (.iadd, 1) := by decide +kernel
theorem dX7_coded_92 : decode cX7_coded 92 = .ok (.iaload, 1) := by decide +kernel
theorem dX7_coded_93 : decode cX7_coded 93 = .ok (.bipush 7, 2) := by decide +kernel
theorem dX7_coded_95 : decode cX7_coded 95 = .ok (.if_icmp .le 15, 3) := by decide +kernel
theorem dX7_coded_98 : decode cX7_coded 98 = .ok (.aload_n 0, 1) := by decide +kernel
theorem dX7_coded_99 : decode cX7_coded 99 = .ok (.bipush 6, 2) := by decide +kernel
theorem dX7_coded_101 : decode cX7_coded 101 = .ok (.iload 4, 2) := by decide +kernel
theorem dX7_coded_103 : decode cX7_coded 103 = .ok (.iload 5, 2) := by decide +kernel
theorem dX7_coded_105 : decode cX7_coded 105 = .ok (.iadd, 1) := by decide +kernel
theorem dX7_coded_106 : decode cX7_coded 106 = .ok (.invokevirtual 131, 3) := by decide +kernel
theorem dX7_coded_109 : decode cX7_coded 109 = .ok (.return_, 1) := by decide +kernel
theorem dX7_coded_110 : decode cX7_coded 110 = .ok (.iinc 5 1, 3) := by decide +kernel
theorem dX7_coded_113 : decode cX7_coded 113 = .ok (.goto (-50), 3) := by decide +kernel
theorem dX7_coded_116 : decode cX7_coded 116 = .ok (.aload_n 0, 1) := by decide +kernel
theorem dX7_coded_117 : decode cX7_coded 117 = .ok (.iload 4, 2) := by decide +kernel
theorem dX7_coded_119 : decode cX7_coded 119 = .ok (.iload_n 3, 1) := by decide +kernel
theorem dX7_coded_120 : decode cX7_coded 120 = .ok (.invokevirtual 184, 3) := by decide +kernel
theorem dX7_coded_123 : decode cX7_coded 123 = .ok (.ifCond .ne 14, 3) := by decide +kernel
theorem dX7_coded_126 : decode cX7_coded 126 = .ok (.aload_n 0, 1) := by decide +kernel
theorem dX7_coded_127 : decode cX7_coded 127 = .ok (.bipush 6, 2) := by decide +kernel
theorem dX7_coded_129 : decode cX7_coded 129 = .ok (.iload 4, 2) := by decide +kernel
theorem dX7_coded_131 : decode cX7_coded 131 = .ok (.invokevirtual 131, 3) := by decide +kernel
theorem dX7_coded_134 : decode cX7_coded 134 = .ok (.goto 73, 3) := by decide +kernel
theorem dX7_coded_137 : decode cX7_coded 137 = .ok (.aload_n 0, 1) := by decide +kernel
theorem dX7_coded_138 : decode cX7_coded 138 = .ok (.iload 4, 2) := by decide +kernel
theorem dX7_coded_140 : decode cX7_coded 140 = .ok (.iload_n 3, 1) := by decide +kernel
theorem dX7_coded_141 : decode cX7_coded 141 = .ok (.iadd, 1) := by decide +kernel
theorem dX7_coded_142 : decode cX7_coded 142 = .ok (.iconst 1, 1) := by decide +kernel
theorem dX7_coded_143 : decode cX7_coded 143 = .ok (.invokevirtual 149, 3) := by decide +kernel
theorem dX7_coded_146 : decode cX7_coded 146 = .ok (.ifCond .eq 61, 3) := by decide +kernel
theorem dX7_coded_149 : decode cX7_coded 149 = .ok (.aload_n 0, 1) := by decide +kernel
theorem dX7_coded_150 : decode cX7_coded 150 = .ok (.iload_n 2, 1) := by decide +kernel
theorem dX7_coded_151 : decode cX7_coded 151 = .ok (.iconst 3, 1) := by decide +kernel
theorem dX7_coded_152 : decode cX7_coded 152 = .ok (.iconst 2, 1) := by decide +kernel
theorem dX7_coded_153 : decode cX7_coded 153 = .ok (.iload_n 3, 1) := by decide +kernel
theorem dX7_coded_154 : decode cX7_coded 154 = .ok (.imul, 1) := by decide +kernel
theorem dX7_coded_155 : decode cX7_coded 155 = .ok (.iadd, 1) := by decide +kernel
theorem dX7_coded_156 : decode cX7_coded 156 = .ok (.iconst 2, 1) := by decide +kernel
theorem dX7_coded_157 : decode cX7_coded 157 = .ok (.aload_n 0, 1) := by decide +kernel
theorem dX7_coded_158 : decode cX7_coded 158 = .ok (.getfield 7, 3) := by decide +kernel
theorem dX7_coded_161 : decode cX7_coded 161 = .ok (.iload 4, 2) := by decide +kernel
theorem dX7_coded_163 : decode cX7_coded 163 = .ok (.iload_n 3, 1) := by decide +kernel
theorem dX7_coded_164 : decode cX7_coded 164 = .ok (.iadd, 1) := by decide +kernel
theorem dX7_coded_165 : decode cX7_coded 165 = .ok (.iaload, 1) := by decide +kernel
theorem dX7_coded_166 : decode cX7_coded 166 = .ok (.imul, 1) := by decide +kernel
theorem dX7_coded_167 : decode cX7_coded 167 = .ok (.iadd, 1) := by decide +kernel
theorem dX7_coded_168 : decode cX7_coded 168 = .ok (.aload_n 0, 1) := by decide +kernel
theorem dX7_coded_169 : decode cX7_coded 169 = .ok (.getfield 7, 3) := by decide +kernel
theorem dX7_coded_172 : decode cX7_coded 172 = .ok (.iload 4, 2) := by decide +kernel
theorem dX7_coded_174 : decode cX7_coded 174 = .ok (.iload_n 3, 1) := by decide +kernel
theorem dX7_coded_175 : decode cX7_coded 175 = .ok (.iadd, 1) := by decide +kernel
theorem dX7_coded_176 : decode cX7_coded 176 = .ok (.iaload, 1) := by decide +kernel
theorem dX7_coded_177 : decode cX7_coded 177 = .ok (.invokevirtual 156, 3) := by decide +kernel
theorem dX7_coded_180 : decode cX7_coded 180 = .ok (.ifCond .eq 27, 3) := by decide +kernel
theorem dX7_coded_183 : decode cX7_coded 183 = .ok (.aload_n 0, 1) := by decide +kernel
theorem dX7_coded_184 : decode cX7_coded 184 = .ok (.iload_n 1, 1) := by decide +kernel
theorem dX7_coded_185 : decode cX7_coded 185 = .ok (.iload_n 2, 1) := by decide +kernel
theorem dX7_coded_186 : decode cX7_coded 186 = .ok (.iconst 2, 1) := by decide +kernel
theorem dX7_coded_187 : decode cX7_coded 187 = .ok (.iadd, 1) := by decide +kernel
theorem dX7_coded_188 : decode cX7_coded 188 = .ok (.iload_n 3, 1) := by decide +kernel
theorem dX7_coded_189 : decode cX7_coded 189 = .ok (.iload 4, 2) := by decide +kernel
theorem dX7_coded_191 : decode cX7_coded 191 = .ok (.iload_n 3, 1) := by decide +kernel
theorem dX7_coded_192 : decode cX7_coded 192 = .ok (.iadd, 1) := by decide +kernel
theorem dX7_coded_193 : decode cX7_coded 193 = .ok (.iconst 1, 1) := by decide +kernel
theorem dX7_coded_194 : decode cX7_coded 194 = .ok (.iadd, 1) := by decide +kernel
theorem dX7_coded_195 : decode cX7_coded 195 = .ok (.aload_n 0, 1) := by decide +kernel
theorem dX7_coded_196 : decode cX7_coded 196 = .ok (.getfield 7, 3) := by decide +kernel
theorem dX7_coded_199 : decode cX7_coded 199 = .ok (.iload 4, 2) := by decide +kernel
theorem dX7_coded_201 : decode cX7_coded 201 = .ok (.iload_n 3, 1) := by decide +kernel
theorem dX7_coded_202 : decode cX7_coded 202 = .ok (.iadd, 1) := by decide +kernel
theorem dX7_coded_203 : decode cX7_coded 203 = .ok (.iaload, 1) := by decide +kernel
theorem dX7_coded_204 : decode cX7_coded 204 = .ok (.invokevirtual 187, 3) := by decide +kernel
theorem dX7_coded_207 : decode cX7_coded 207 = .ok (.return_, 1) := by decide +kernel
theorem dX7_bits_0 : decode cX7_bits 0 = .ok (.bipush 8, 2) := by decide +kernel
theorem dX7_bits_2 : decode cX7_bits 2 = .ok (.iload 4, 2) := by decide +kernel
theorem dX7_bits_4 : decode cX7_bits 4 = .ok (.imul, 1) := by decide +kernel
theorem dX7_bits_5 : decode cX7_bits 5 = .ok (.istore 6, 2) := by decide +kernel
theorem dX7_bits_7 : decode cX7_bits 7 = .ok (.iconst 0, 1) := by decide +kernel
theorem dX7_bits_8 : decode cX7_bits 8 = .ok (.istore 7, 2) := by decide +kernel
theorem dX7_bits_10 : decode cX7_bits 10 = .ok (.iload 7, 2) := by decide +kernel
theorem dX7_bits_12 : decode cX7_bits 12 = .ok (.iload 5, 2) := by decide +kernel
theorem dX7_bits_14 : decode cX7_bits 14 = .ok (.if_icmp .ge 208, 3) := by decide +kernel
theorem dX7_bits_17 : decode cX7_bits 17 = .ok (.iconst 0, 1) := by decide +kernel
theorem dX7_bits_18 : decode cX7_bits 18 = .ok (.istore 8, 2) := by decide +kernel
theorem dX7_bits_20 : decode cX7_bits 20 = .ok (.iconst 0, 1) := by decide +kernel
theorem dX7_bits_21 : decode cX7_bits 21 = .ok (.istore 9, 2) := by decide +kernel
theorem dX7_bits_23 : decode cX7_bits 23 = .ok (.iload 6, 2) := by decide +kernel
theorem dX7_bits_25 : decode cX7_bits 25 = .ok (.bipush 8, 2) := by decide +kernel
theorem dX7_bits_27 : decode cX7_bits 27 = .ok (.idiv, 1) := by decide +kernel
theorem dX7_bits_28 : decode cX7_bits 28 = .ok (.istore 10, 2) := by decide +kernel
theorem dX7_bits_30 : decode cX7_bits 30 = .ok (.iconst 0, 1) := by decide +kernel
theorem dX7_bits_31 : decode cX7_bits 31 = .ok (.istore 11, 2) := by decide +kernel
theorem dX7_bits_33 : decode cX7_bits 33 = .ok (.iload 11, 2) := by decide +kernel
theorem dX7_bits_35 : decode cX7_bits 35 = .ok (.ifCond .ne 181, 3) := by decide +kernel
theorem dX7_bits_38 : decode cX7_bits 38 = .ok (.aload_n 0, 1) := by decide +kernel
theorem dX7_bits_39 : decode cX7_bits 39 = .ok (.iload 6, 2) := by decide +kernel
theorem dX7_bits_41 : decode cX7_bits 41 = .ok (.bipush 8, 2) := by decide +kernel
theorem dX7_bits_43 : decode cX7_bits 43 = .ok (.idiv, 1) := by decide +kernel
theorem dX7_bits_44 : decode cX7_bits 44 = .ok (.iconst 1, 1) := by decide +kernel
theorem dX7_bits_45 : decode cX7_bits 45 = .ok (.invokevirtual 149, 3) := by decide +kernel
theorem dX7_bits_48 : decode cX7_bits 48 = .ok (.ifCond .ne 4, 3) := by decide +kernel
theorem dX7_bits_51 : decode cX7_bits 51 = .ok (.return_, 1) := by decide +kernel
theorem dX7_bits_52 : decode cX7_bits 52 = .ok (.iconst 2, 1) := by decide +kernel
theorem dX7_bits_53 : decode cX7_bits 53 = .ok (.iload 8, 2) := by decide +kernel
theorem dX7_bits_55 : decode cX7_bits 55 = .ok (.imul, 1) := by decide +kernel
theorem dX7_bits_56 : decode cX7_bits 56 = .ok (.aload_n 0, 1) := by decide +kernel
theorem dX7_bits_57 : decode cX7_bits 57 = .ok (.getfield 7, 3) := by decide +kernel
theorem dX7_bits_60 : decode cX7_bits 60 = .ok (.iload 6, 2) := by decide +kernel
theorem dX7_bits_62 : decode cX7_bits 62 = .ok (.bipush 8, 2) := by decide +kernel
theorem dX7_bits_64 : decode cX7_bits 64 = .ok (.idiv, 1) := by decide +kernel
theorem dX7_bits_65 : decode cX7_bits 65 = .ok (.iaload, 1) := by decide +kernel
theorem dX7_bits_66 : decode cX7_bits 66 = .ok (.bipush 7, 2) := by decide +kernel
theorem dX7_bits_68 : decode cX7_bits 68 = .ok (.iload 6, 2) := by decide +kernel
theorem dX7_bits_70 : decode cX7_bits 70 = .ok (.bipush 8, 2) := by decide +kernel
theorem dX7_bits_72 : decode cX7_bits 72 = .ok (.irem, 1) := by decide +kernel
theorem dX7_bits_73 : decode cX7_bits 73 = .ok (.isub, 1) := by decide +kernel
theorem dX7_bits_74 : decode cX7_bits 74 = .ok (.ishr, 1) := by decide +kernel
theorem dX7_bits_75 : decode cX7_bits 75 = .ok (.iconst 1, 1) := by decide +kernel
theorem dX7_bits_76 : decode cX7_bits 76 = .ok (.iand, 1) := by decide +kernel
theorem dX7_bits_77 : decode cX7_bits 77 = .ok (.iadd, 1) := by decide +kernel
theorem dX7_bits_78 : decode cX7_bits 78 = .ok (.istore 8, 2) := by decide +kernel
theorem dX7_bits_80 : decode cX7_bits 80 = .ok (.iinc 9 1, 3) := by decide +kernel
theorem dX7_bits_83 : decode cX7_bits 83 = .ok (.iinc 6 1, 3) := by decide +kernel
theorem dX7_bits_86 : decode cX7_bits 86 = .ok (.iconst 0, 1) := by decide +kernel
theorem dX7_bits_87 : decode cX7_bits 87 = .ok (.istore 12, 2) := by decide +kernel
theorem dX7_bits_89 : decode cX7_bits 89 = .ok (.iconst 0, 1) := by decide +kernel
theorem dX7_bits_90 : decode cX7_bits 90 = .ok (.istore 13, 2) := by decide +kernel
theorem dX7_bits_92 : decode cX7_bits 92 = .ok (.iload 13, 2) := by decide +kernel
theorem dX7_bits_94 : decode cX7_bits 94 = .ok (.iload_n 3, 1) := by decide +kernel
theorem dX7_bits_95 : decode cX7_bits 95 = .ok (.if_icmp .ge 99, 3) := by decide +kernel
theorem dX7_bits_98 : decode cX7_bits 98 = .ok (.iload 11, 2) := by decide +kernel
theorem dX7_bits_100 : decode cX7_bits 100 = .ok (.ifCond .ne 94, 3) := by decide +kernel
theorem dX7_bits_103 : decode cX7_bits 103 = .ok (.aload_n 0, 1) := by decide +kernel
theorem dX7_bits_104 : decode cX7_bits 104 = .ok (.getfield 7, 3) := by decide +kernel
theorem dX7_bits_107 : decode cX7_bits 107 = .ok (.iload_n 2, 1) := by decide +kernel
theorem dX7_bits_108 : decode cX7_bits 108 = .ok (.iload_n 3, 1) := by decide +kernel
theorem dX7_bits_109 : decode cX7_bits 109 = .ok (.iadd, 1) := by decide +kernel
theorem dX7_bits_110 : decode cX7_bits 110 = .ok (.iload 13, 2) := by decide +kernel
theorem dX7_bits_112 : decode cX7_bits 112 = .ok (.iadd, 1) := by decide +kernel
theorem dX7_bits_113 : decode cX7_bits 113 = .ok (.iaload, 1) := by decide +kernel
theorem dX7_bits_114 : decode cX7_bits 114 = .ok (.istore 14, 2) := by decide +kernel
theorem dX7_bits_116 : decode cX7_bits 116 = .ok (.iload 14, 2) := by decide +kernel
theorem dX7_bits_118 : decode cX7_bits 118 = .ok (.iload 9, 2) := by decide +kernel
theorem dX7_bits_120 : decode cX7_bits 120 = .ok (.if_icmp .ne 31, 3) := by decide +kernel
theorem dX7_bits_123 : decode cX7_bits 123 = .ok (.aload_n 0, 1) := by decide +kernel
theorem dX7_bits_124 : decode cX7_bits 124 = .ok (.getfield 59, 3) := by decide +kernel
theorem dX7_bits_127 : decode cX7_bits 127 = .ok (.iload 13, 2) := by decide +kernel
theorem dX7_bits_129 : decode cX7_bits 129 = .ok (.iaload, 1) := by decide +kernel
theorem dX7_bits_130 : decode cX7_bits 130 = .ok (.iload 8, 2) := by decide +kernel
theorem dX7_bits_132 : decode cX7_bits 132 = .ok (.if_icmp .ne 19, 3) := by decide +kernel
theorem dX7_bits_135 : decode cX7_bits 135 = .ok (.aload_n 0, 1) := by decide +kernel
theorem dX7_bits_136 : decode cX7_bits 136 = .ok (.aload_n 0, 1) := by decide +kernel
theorem dX7_bits_137 : decode cX7_bits 137 = .ok (.getfield 7, 3) := by decide +kernel
theorem dX7_bits_140 : decode cX7_bits 140 = .ok (.iload_n 2, 1) := by decide +kernel
theorem dX7_bits_141 : decode cX7_bits 141 = .ok (.iload 13, 2) := by decide +kernel
theorem dX7_bits_143 : decode cX7_bits 143 = .ok (.iadd, 1) := by decide +kernel
theorem dX7_bits_144 : decode cX7_bits 144 = .ok (.iaload, 1) := by decide +kernel
theorem dX7_bits_145 : decode cX7_bits 145 = .ok (.invokevirtual 160, 3) := by decide +kernel
theorem dX7_bits_148 : decode cX7_bits 148 = .ok (.iconst 1, 1) := by decide +kernel
theorem dX7_bits_149 : decode cX7_bits 149 = .ok (.istore 11, 2) := by decide +kernel
theorem dX7_bits_151 : decode cX7_bits 151 = .ok (.iload 12, 2) := by decide +kernel
theorem dX7_bits_153 : decode cX7_bits 153 = .ok (.ifCond .ne 28, 3) := by decide +kernel
theorem dX7_bits_156 : decode cX7_bits 156 = .ok (.iload 14, 2) := by decide +kernel
theorem dX7_bits_158 : decode cX7_bits 158 = .ok (.iload 9, 2) := by decide +kernel
theorem dX7_bits_160 : decode cX7_bits 160 = .ok (.if_icmp .le 25, 3) := by decide +kernel
theorem dX7_bits_163 : decode cX7_bits 163 = .ok (.aload_n 0, 1) := by decide +kernel
theorem dX7_bits_164 : decode cX7_bits 164 = .ok (.getfield 59, 3) := by decide +kernel
theorem dX7_bits_167 : decode cX7_bits 167 = .ok (.iload 13, 2) := by decide +kernel
theorem dX7_bits_169 : decode cX7_bits 169 = .ok (.iaload, 1) := by decide +kernel
theorem dX7_bits_170 : decode cX7_bits 170 = .ok (.iload 14, 2) := by decide +kernel
theorem dX7_bits_172 : decode cX7_bits 172 = .ok (.iload 9, 2) := by decide +kernel
theorem dX7_bits_174 : decode cX7_bits 174 = .ok (.isub, 1) := by decide +kernel
theorem dX7_bits_175 : decode cX7_bits 175 = .ok (.ishr, 1) := by decide +kernel
theorem dX7_bits_176 : decode cX7_bits 176 = .ok (.iload 8, 2) := by decide +kernel
theorem dX7_bits_178 : decode cX7_bits 178 = .ok (.if_icmp .ne 7, 3) := by decide +kernel
theorem dX7_bits_181 : decode cX7_bits 181 = .ok (.iconst 1, 1) := by decide +kernel
theorem dX7_bits_182 : decode cX7_bits 182 = .ok (.goto 4, 3) := by decide +kernel
end
section
theorem dX7_bits_185 : decode cX7_bits 185 = .ok (.iconst 0, 1) := by decide +kernel
theorem dX7_bits_186 : decode cX7_bits 186 = .ok (.istore 12, 2) := by decide +kernel
theorem dX7_bits_188 : decode cX7_bits 188 = .ok (.iinc 13 1, 3) := by decide +kernel
theorem dX7_bits_191 : decode cX7_bits 191 = .ok (.goto (-99), 3) := by decide +kernel
theorem dX7_bits_194 : decode cX7_bits 194 = .ok (.iload 11, 2) := by decide +kernel
theorem dX7_bits_196 : decode cX7_bits 196 = .ok (.ifCond .ne 17, 3) := by decide +kernel
theorem dX7_bits_199 : decode cX7_bits 199 = .ok (.iload 12, 2) := by decide +kernel
theorem dX7_bits_201 : decode cX7_bits 201 = .ok (.ifCond .ne 12, 3) := by decide +kernel
theorem dX7_bits_204 : decode cX7_bits 204 = .ok (.aload_n 0, 1) := by decide +kernel
theorem dX7_bits_205 : decode cX7_bits 205 = .ok (.bipush 7, 2) := by decide +kernel
theorem dX7_bits_207 : decode cX7_bits 207 = .ok (.iload 10, 2) := by decide +kernel
theorem dX7_bits_209 : decode cX7_bits 209 = .ok (.invokevirtual 131, 3) := by decide +kernel
theorem dX7_bits_212 : decode cX7_bits 212 = .ok (.return_, 1) := by decide +kernel
theorem dX7_bits_213 : decode cX7_bits 213 = .ok (.goto (-180), 3) := by decide +kernel
theorem dX7_bits_216 : decode cX7_bits 216 = .ok (.iinc 7 1, 3) := by decide +kernel
theorem dX7_bits_219 : decode cX7_bits 219 = .ok (.goto (-209), 3) := by decide +kernel
theorem dX7_bits_222 : decode cX7_bits 222 = .ok (.iload 6, 2) := by decide +kernel
theorem dX7_bits_224 : decode cX7_bits 224 = .ok (.bipush 7, 2) := by decide +kernel
theorem dX7_bits_226 : decode cX7_bits 226 = .ok (.iadd, 1) := by decide +kernel
theorem dX7_bits_227 : decode cX7_bits 227 = .ok (.bipush 8, 2) := by decide +kernel
theorem dX7_bits_229 : decode cX7_bits 229 = .ok (.idiv, 1) := by decide +kernel
theorem dX7_bits_230 : decode cX7_bits 230 = .ok (.istore 7, 2) := by decide +kernel
theorem dX7_bits_232 : decode cX7_bits 232 = .ok (.iload 6, 2) := by decide +kernel
theorem dX7_bits_234 : decode cX7_bits 234 = .ok (.bipush 8, 2) := by decide +kernel
theorem dX7_bits_236 : decode cX7_bits 236 = .ok (.iload 7, 2) := by decide +kernel
theorem dX7_bits_238 : decode cX7_bits 238 = .ok (.imul, 1) := by decide +kernel
theorem dX7_bits_239 : decode cX7_bits 239 = .ok (.if_icmp .ge 46, 3) := by decide +kernel
theorem dX7_bits_242 : decode cX7_bits 242 = .ok (.aload_n 0, 1) := by decide +kernel
theorem dX7_bits_243 : decode cX7_bits 243 = .ok (.getfield 7, 3) := by decide +kernel
theorem dX7_bits_246 : decode cX7_bits 246 = .ok (.iload 6, 2) := by decide +kernel
theorem dX7_bits_248 : decode cX7_bits 248 = .ok (.bipush 8, 2) := by decide +kernel
theorem dX7_bits_250 : decode cX7_bits 250 = .ok (.idiv, 1) := by decide +kernel
theorem dX7_bits_251 : decode cX7_bits 251 = .ok (.iaload, 1) := by decide +kernel
theorem dX7_bits_252 : decode cX7_bits 252 = .ok (.bipush 7, 2) := by decide +kernel
theorem dX7_bits_254 : decode cX7_bits 254 = .ok (.iload 6, 2) := by decide +kernel
theorem dX7_bits_256 : decode cX7_bits 256 = .ok (.bipush 8, 2) := by decide +kernel
theorem dX7_bits_258 : decode cX7_bits 258 = .ok (.irem, 1) := by decide +kernel
theorem dX7_bits_259 : decode cX7_bits 259 = .ok (.isub, 1) := by decide +kernel
theorem dX7_bits_260 : decode cX7_bits 260 = .ok (.ishr, 1) := by decide +kernel
theorem dX7_bits_261 : decode cX7_bits 261 = .ok (.iconst 1, 1) := by decide +kernel
theorem dX7_bits_262 : decode cX7_bits 262 = .ok (.iand, 1) := by decide +kernel
theorem dX7_bits_263 : decode cX7_bits 263 = .ok (.iconst 1, 1) := by decide +kernel
theorem dX7_bits_264 : decode cX7_bits 264 = .ok (.if_icmp .ne 15, 3) := by decide +kernel
theorem dX7_bits_267 : decode cX7_bits 267 = .ok (.aload_n 0, 1) := by decide +kernel
theorem dX7_bits_268 : decode cX7_bits 268 = .ok (.bipush 8, 2) := by decide +kernel
theorem dX7_bits_270 : decode cX7_bits 270 = .ok (.iload 6, 2) := by decide +kernel
theorem dX7_bits_272 : decode cX7_bits 272 = .ok (.bipush 8, 2) := by decide +kernel
theorem dX7_bits_274 : decode cX7_bits 274 = .ok (.idiv, 1) := by decide +kernel
theorem dX7_bits_275 : decode cX7_bits 275 = .ok (.invokevirtual 131, 3) := by decide +kernel
theorem dX7_bits_278 : decode cX7_bits 278 = .ok (.return_, 1) := by decide +kernel
theorem dX7_bits_279 : decode cX7_bits 279 = .ok (.iinc 6 1, 3) := by decide +kernel
theorem dX7_bits_282 : decode cX7_bits 282 = .ok (.goto (-50), 3) := by decide +kernel
theorem dX7_bits_285 : decode cX7_bits 285 = .ok (.aload_n 0, 1) := by decide +kernel
theorem dX7_bits_286 : decode cX7_bits 286 = .ok (.iload_n 1, 1) := by decide +kernel
theorem dX7_bits_287 : decode cX7_bits 287 = .ok (.iload 7, 2) := by decide +kernel
theorem dX7_bits_289 : decode cX7_bits 289 = .ok (.invokevirtual 163, 3) := by decide +kernel
theorem dX7_bits_292 : decode cX7_bits 292 = .ok (.return_, 1) := by decide +kernel
theorem dX7_reads_0 : decode cX7_reads 0 = .ok (.aload_n 0, 1) := by decide +kernel
theorem dX7_reads_1 : decode cX7_reads 1 = .ok (.dup, 1) := by decide +kernel
theorem dX7_reads_2 : decode cX7_reads 2 = .ok (.getfield 191, 3) := by decide +kernel
theorem dX7_reads_5 : decode cX7_reads 5 = .ok (.iconst 1, 1) := by decide +kernel
theorem dX7_reads_6 : decode cX7_reads 6 = .ok (.iadd, 1) := by decide +kernel
theorem dX7_reads_7 : decode cX7_reads 7 = .ok (.putfield 191, 3) := by decide +kernel
theorem dX7_reads_10 : decode cX7_reads 10 = .ok (.aload_n 0, 1) := by decide +kernel
theorem dX7_reads_11 : decode cX7_reads 11 = .ok (.iload_n 1, 1) := by decide +kernel
theorem dX7_reads_12 : decode cX7_reads 12 = .ok (.putfield 146, 3) := by decide +kernel
theorem dX7_reads_15 : decode cX7_reads 15 = .ok (.aload_n 0, 1) := by decide +kernel
theorem dX7_reads_16 : decode cX7_reads 16 = .ok (.iload_n 2, 1) := by decide +kernel
theorem dX7_reads_17 : decode cX7_reads 17 = .ok (.putfield 128, 3) := by decide +kernel
theorem dX7_reads_20 : decode cX7_reads 20 = .ok (.aload_n 0, 1) := by decide +kernel
theorem dX7_reads_21 : decode cX7_reads 21 = .ok (.iload_n 3, 1) := by decide +kernel
theorem dX7_reads_22 : decode cX7_reads 22 = .ok (.putfield 178, 3) := by decide +kernel
theorem dX7_reads_25 : decode cX7_reads 25 = .ok (.aload_n 0, 1) := by decide +kernel
theorem dX7_reads_26 : decode cX7_reads 26 = .ok (.iconst 0, 1) := by decide +kernel
theorem dX7_reads_27 : decode cX7_reads 27 = .ok (.putfield 140, 3) := by decide +kernel
theorem dX7_reads_30 : decode cX7_reads 30 = .ok (.aload_n 0, 1) := by decide +kernel
theorem dX7_reads_31 : decode cX7_reads 31 = .ok (.iconst 0, 1) := by decide +kernel
theorem dX7_reads_32 : decode cX7_reads 32 = .ok (.putfield 122, 3) := by decide +kernel
theorem dX7_reads_35 : decode cX7_reads 35 = .ok (.aload_n 0, 1) := by decide +kernel
theorem dX7_reads_36 : decode cX7_reads 36 = .ok (.iconst (-1), 1) := by decide +kernel
theorem dX7_reads_37 : decode cX7_reads 37 = .ok (.putfield 16, 3) := by decide +kernel
theorem dX7_reads_40 : decode cX7_reads 40 = .ok (.aload_n 0, 1) := by decide +kernel
theorem dX7_reads_41 : decode cX7_reads 41 = .ok (.iconst 0, 1) := by decide +kernel
theorem dX7_reads_42 : decode cX7_reads 42 = .ok (.putfield 125, 3) := by decide +kernel
theorem dX7_reads_45 : decode cX7_reads 45 = .ok (.aload_n 0, 1) := by decide +kernel
theorem dX7_reads_46 : decode cX7_reads 46 = .ok (.iconst 0, 1) := by decide +kernel
theorem dX7_reads_47 : decode cX7_reads 47 = .ok (.putfield 143, 3) := by decide +kernel
theorem dX7_reads_50 : decode cX7_reads 50 = .ok (.aload_n 0, 1) := by decide +kernel
theorem dX7_reads_51 : decode cX7_reads 51 = .ok (.iconst 0, 1) := by decide +kernel
theorem dX7_reads_52 : decode cX7_reads 52 = .ok (.putfield 134, 3) := by decide +kernel
theorem dX7_reads_55 : decode cX7_reads 55 = .ok (.aload_n 0, 1) := by decide +kernel
theorem dX7_reads_56 : decode cX7_reads 56 = .ok (.iconst 0, 1) := by decide +kernel
theorem dX7_reads_57 : decode cX7_reads 57 = .ok (.putfield 137, 3) := by decide +kernel
theorem dX7_reads_60 : decode cX7_reads 60 = .ok (.aload_n 0, 1) := by decide +kernel
theorem dX7_reads_61 : decode cX7_reads 61 = .ok (.getfield 32, 3) := by decide +kernel
theorem dX7_reads_64 : decode cX7_reads 64 = .ok (.iconst 0, 1) := by decide +kernel
theorem dX7_reads_65 : decode cX7_reads 65 = .ok (.iconst 0, 1) := by decide +kernel
theorem dX7_reads_66 : decode cX7_reads 66 = .ok (.iastore, 1) := by decide +kernel
theorem dX7_reads_67 : decode cX7_reads 67 = .ok (.aload_n 0, 1) := by decide +kernel
theorem dX7_reads_68 : decode cX7_reads 68 = .ok (.iconst 0, 1) := by decide +kernel
theorem dX7_reads_69 : decode cX7_reads 69 = .ok (.aload_n 0, 1) := by decide +kernel
theorem dX7_reads_70 : decode cX7_reads 70 = .ok (.getfield 78, 3) := by decide +kernel
theorem dX7_reads_73 : decode cX7_reads 73 = .ok (.invokevirtual 181, 3) := by decide +kernel
theorem dX7_reads_76 : decode cX7_reads 76 = .ok (.aload_n 0, 1) := by decide +kernel
theorem dX7_reads_77 : decode cX7_reads 77 = .ok (.getfield 122, 3) := by decide +kernel
theorem dX7_reads_80 : decode cX7_reads 80 = .ok (.ifCond .ne 17, 3) := by decide +kernel
theorem dX7_reads_83 : decode cX7_reads 83 = .ok (.aload_n 0, 1) := by decide +kernel
theorem dX7_reads_84 : decode cX7_reads 84 = .ok (.getfield 137, 3) := by decide +kernel
theorem dX7_reads_87 : decode cX7_reads 87 = .ok (.ifCond .le 10, 3) := by decide +kernel
theorem dX7_reads_90 : decode cX7_reads 90 = .ok (.aload_n 0, 1) := by decide +kernel
theorem dX7_reads_91 : decode cX7_reads 91 = .ok (.invokevirtual 194, 3) := by decide +kernel
theorem dX7_reads_94 : decode cX7_reads 94 = .ok (.goto (-18), 3) := by decide +kernel
theorem dX7_reads_97 : decode cX7_reads 97 = .ok (.return_, 1) := by decide +kernel
theorem dX7_isGood_0 : decode cX7_isGood 0 = .ok (.iload_n 0, 1) := by decide +kernel
theorem dX7_isGood_1 : decode cX7_isGood 1 = .ok (.i2l, 1) := by decide +kernel
theorem dX7_isGood_2 : decode cX7_isGood 2 = .ok (.lconst 0, 1) := by decide +kernel
theorem dX7_isGood_3 : decode cX7_isGood 3 = .ok (.ldc2_w 197, 3) := by decide +kernel
theorem dX7_isGood_6 : decode cX7_isGood 6 = .ok (.invokestatic 74, 3) := by decide +kernel
theorem dX7_isGood_9 : decode cX7_isGood 9 = .ok (.ifCond .eq 31, 3) := by decide +kernel
theorem dX7_isGood_12 : decode cX7_isGood 12 = .ok (.iload_n 1, 1) := by decide +kernel
theorem dX7_isGood_13 : decode cX7_isGood 13 = .ok (.i2l, 1) := by decide +kernel
theorem dX7_isGood_14 : decode cX7_isGood 14 = .ok (.lconst 0, 1) := by decide +kernel
theorem dX7_isGood_15 : decode cX7_isGood 15 = .ok (.ldc2_w 199, 3) := by decide +kernel
theorem dX7_isGood_18 : decode cX7_isGood 18 = .ok (.invokestatic 74, 3) := by decide +kernel
theorem dX7_isGood_21 : decode cX7_isGood 21 = .ok (.ifCond .eq 19, 3) := by decide +kernel
theorem dX7_isGood_24 : decode cX7_isGood 24 = .ok (.iload_n 2, 1) := by decide +kernel
theorem dX7_isGood_25 : decode cX7_isGood 25 = .ok (.i2l, 1) := by decide +kernel
theorem dX7_isGood_26 : decode cX7_isGood 26 = .ok (.lconst 0, 1) := by decide +kernel
theorem dX7_isGood_27 : decode cX7_isGood 27 = .ok (.ldc2_w 72, 3) := by decide +kernel
theorem dX7_isGood_30 : decode cX7_isGood 30 = .ok (.invokestatic 74, 3) := by decide +kernel
theorem dX7_isGood_33 : decode cX7_isGood 33 = .ok (.ifCond .eq 7, 3) := by decide +kernel
theorem dX7_isGood_36 : decode cX7_isGood 36 = .ok (.iconst 1, 1) := by decide +kernel
theorem dX7_isGood_37 : decode cX7_isGood 37 = .ok (.goto 4, 3) := by decide +kernel
theorem dX7_isGood_40 : decode cX7_isGood 40 = .ok (.iconst 0, 1) := by decide +kernel
theorem dX7_isGood_41 : decode cX7_isGood 41 = .ok (.ireturn, 1) := by decide +kernel
theorem dX7_open_0 : decode cX7_open 0 = .ok (.iload_n 1, 1) := by decide +kernel
theorem dX7_open_1 : decode cX7_open 1 = .ok (.iload_n 2, 1) := by decide +kernel
theorem dX7_open_2 : decode cX7_open 2 = .ok (.iload_n 3, 1) := by decide +kernel
theorem dX7_open_3 : decode cX7_open 3 = .ok (.invokestatic 201, 3) := by decide +kernel
theorem dX7_open_6 : decode cX7_open 6 = .ok (.ifCond .ne 6, 3) := by decide +kernel
theorem dX7_open_9 : decode cX7_open 9 = .ok (.bipush (-2), 2) := by decide +kernel
theorem dX7_open_11 : decode cX7_open 11 = .ok (.ireturn, 1) := by decide +kernel
theorem dX7_open_12 : decode cX7_open 12 = .ok (.aload_n 0, 1) := by decide +kernel
theorem dX7_open_13 : decode cX7_open 13 = .ok (.iload_n 1, 1) := by decide +kernel
theorem dX7_open_14 : decode cX7_open 14 = .ok (.iload_n 2, 1) := by decide +kernel
theorem dX7_open_15 : decode cX7_open 15 = .ok (.iload_n 3, 1) := by decide +kernel
theorem dX7_open_16 : decode cX7_open 16 = .ok (.invokevirtual 204, 3) := by decide +kernel
theorem dX7_open_19 : decode cX7_open 19 = .ok (.aload_n 0, 1) := by decide +kernel
theorem dX7_open_20 : decode cX7_open 20 = .ok (.getfield 122, 3) := by decide +kernel
theorem dX7_open_23 : decode cX7_open 23 = .ok (.ifCond .le 13, 3) := by decide +kernel
theorem dX7_open_26 : decode cX7_open 26 = .ok (.bipush (-10), 2) := by decide +kernel
theorem dX7_open_28 : decode cX7_open 28 = .ok (.aload_n 0, 1) := by decide +kernel
theorem dX7_open_29 : decode cX7_open 29 = .ok (.getfield 122, 3) := by decide +kernel
theorem dX7_open_32 : decode cX7_open 32 = .ok (.isub, 1) := by decide +kernel
theorem dX7_open_33 : decode cX7_open 33 = .ok (.goto 7, 3) := by decide +kernel
theorem dX7_open_36 : decode cX7_open 36 = .ok (.aload_n 0, 1) := by decide +kernel
theorem dX7_open_37 : decode cX7_open 37 = .ok (.getfield 140, 3) := by decide +kernel
theorem dX7_open_40 : decode cX7_open 40 = .ok (.ireturn, 1) := by decide +kernel
theorem dX7_place_0 : decode cX7_place 0 = .ok (.aload_n 0, 1) := by decide +kernel
theorem dX7_place_1 : decode cX7_place 1 = .ok (.getfield 16, 3) := by decide +kernel
theorem dX7_place_4 : decode cX7_place 4 = .ok (.ireturn, 1) := by decide +kernel
theorem dX7_out_0 : decode cX7_out 0 = .ok (.iload_n 1, 1) := by decide +kernel
theorem dX7_out_1 : decode cX7_out 1 = .ok (.i2l, 1) := by decide +kernel
theorem dX7_out_2 : decode cX7_out 2 = .ok (.lconst 0, 1) := by decide +kernel
theorem dX7_out_3 : decode cX7_out 3 = .ok (.aload_n 0, 1) := by decide +kernel
theorem dX7_out_4 : decode cX7_out 4 = .ok (.getfield 140, 3) := by decide +kernel
theorem dX7_out_7 : decode cX7_out 7 = .ok (.iconst 1, 1) := by decide +kernel
theorem dX7_out_8 : decode cX7_out 8 = .ok (.isub, 1) := by decide +kernel
theorem dX7_out_9 : decode cX7_out 9 = .ok (.i2l, 1) := by decide +kernel
theorem dX7_out_10 : decode cX7_out 10 = .ok (.invokestatic 74, 3) := by decide +kernel
theorem dX7_out_13 : decode cX7_out 13 = .ok (.ifCond .eq 12, 3) := by decide +kernel
theorem dX7_out_16 : decode cX7_out 16 = .ok (.aload_n 0, 1) := by decide +kernel
theorem dX7_out_17 : decode cX7_out 17 = .ok (.getfield 13, 3) := by decide +kernel
theorem dX7_out_20 : decode cX7_out 20 = .ok (.iload_n 1, 1) := by decide +kernel
theorem dX7_out_21 : decode cX7_out 21 = .ok (.iaload, 1) := by decide +kernel
theorem dX7_out_22 : decode cX7_out 22 = .ok (.goto 4, 3) := by decide +kernel
theorem dX7_out_25 : decode cX7_out 25 = .ok (.iconst (-1), 1) := by decide +kernel
theorem dX7_out_26 : decode cX7_out 26 = .ok (.ireturn, 1) := by decide +kernel
theorem dX7_item__0 : decode cX7_item_ 0 = .ok (.iload_n 1, 1) := by decide +kernel
theorem dX7_item__1 : decode cX7_item_ 1 = .ok (.iconst (-1), 1) := by decide +kernel
theorem dX7_item__2 : decode cX7_item_ 2 = .ok (.if_icmp .ne 10, 3) := by decide +kernel
theorem dX7_item__5 : decode cX7_item_ 5 = .ok (.aload_n 0, 1) := by decide +kernel
theorem dX7_item__6 : decode cX7_item_ 6 = .ok (.getfield 32, 3) := by decide +kernel
theorem dX7_item__9 : decode cX7_item_ 9 = .ok (.iconst 0, 1) := by decide +kernel
theorem dX7_item__10 : decode cX7_item_ 10 = .ok (.iaload, 1) := by decide +kernel
theorem dX7_item__11 : decode cX7_item_ 11 = .ok (.ireturn, 1) := by decide +kernel
theorem dX7_item__12 : decode cX7_item_ 12 = .ok (.iload_n 1, 1) := by decide +kernel
theorem dX7_item__13 : decode cX7_item_ 13 = .ok (.i2l, 1) := by decide +kernel
theorem dX7_item__14 : decode cX7_item_ 14 = .ok (.lconst 0, 1) := by decide +kernel
theorem dX7_item__15 : decode cX7_item_ 15 = .ok (.aload_n 0, 1) := by decide +kernel
theorem dX7_item__16 : decode cX7_item_ 16 = .ok (.getfield 32, 3) := by decide +kernel
theorem dX7_item__19 : decode cX7_item_ 19 = .ok (.iconst 0, 1) := by decide +kernel
theorem dX7_item__20 : decode cX7_item_ 20 = .ok (.iaload, 1) := by decide +kernel
theorem dX7_item__21 : decode cX7_item_ 21 = .ok (.iconst 1, 1) := by decide +kernel
theorem dX7_item__22 : decode cX7_item_ 22 = .ok (.isub, 1) := by decide +kernel
theorem dX7_item__23 : decode cX7_item_ 23 = .ok (.i2l, 1) := by decide +kernel
theorem dX7_item__24 : decode cX7_item_ 24 = .ok (.invokestatic 74, 3) := by decide +kernel
theorem dX7_item__27 : decode cX7_item_ 27 = .ok (.ifCond .ne 5, 3) := by decide +kernel
theorem dX7_item__30 : decode cX7_item_ 30 = .ok (.iconst (-1), 1) := by decide +kernel
theorem dX7_item__31 : decode cX7_item_ 31 = .ok (.ireturn, 1) := by decide +kernel
theorem dX7_item__32 : decode cX7_item_ 32 = .ok (.iload_n 2, 1) := by decide +kernel
theorem dX7_item__33 : decode cX7_item_ 33 = .ok (.tableswitch 59 0 3 #[31, 38, 45, 52], 31) := by decide +kernel
theorem dX7_item__64 : decode cX7_item_ 64 = .ok (.aload_n 0, 1) := by decide +kernel
theorem dX7_item__65 : decode cX7_item_ 65 = .ok (.getfield 47, 3) := by decide +kernel
theorem dX7_item__68 : decode cX7_item_ 68 = .ok (.iload_n 1, 1) := by decide +kernel
theorem dX7_item__69 : decode cX7_item_ 69 = .ok (.iaload, 1) := by decide +kernel
theorem dX7_item__70 : decode cX7_item_ 70 = .ok (.ireturn, 1) := by decide +kernel
theorem dX7_item__71 : decode cX7_item_ 71 = .ok (.aload_n 0, 1) := by decide +kernel
theorem dX7_item__72 : decode cX7_item_ 72 = .ok (.getfield 50, 3) := by decide +kernel
theorem dX7_item__75 : decode cX7_item_ 75 = .ok (.iload_n 1, 1) := by decide +kernel
theorem dX7_item__76 : decode cX7_item_ 76 = .ok (.iaload, 1) := by decide +kernel
theorem dX7_item__77 : decode cX7_item_ 77 = .ok (.ireturn, 1) := by decide +kernel
theorem dX7_item__78 : decode cX7_item_ 78 = .ok (.aload_n 0, 1) := by decide +kernel
theorem dX7_item__79 : decode cX7_item_ 79 = .ok (.getfield 53, 3) := by decide +kernel
theorem dX7_item__82 : decode cX7_item_ 82 = .ok (.iload_n 1, 1) := by decide +kernel
theorem dX7_item__83 : decode cX7_item_ 83 = .ok (.iaload, 1) := by decide +kernel
theorem dX7_item__84 : decode cX7_item_ 84 = .ok (.ireturn, 1) := by decide +kernel
theorem dX7_item__85 : decode cX7_item_ 85 = .ok (.aload_n 0, 1) := by decide +kernel
theorem dX7_item__86 : decode cX7_item_ 86 = .ok (.getfield 56, 3) := by decide +kernel
theorem dX7_item__89 : decode cX7_item_ 89 = .ok (.iload_n 1, 1) := by decide +kernel
theorem dX7_item__90 : decode cX7_item_ 90 = .ok (.iaload, 1) := by decide +kernel
theorem dX7_item__91 : decode cX7_item_ 91 = .ok (.ireturn, 1) := by decide +kernel
theorem dX7_item__92 : decode cX7_item_ 92 = .ok (.iconst (-1), 1) := by decide +kernel
theorem dX7_item__93 : decode cX7_item_ 93 = .ok (.ireturn, 1) := by decide +kernel
theorem dX7_shrink_0 : decode cX7_shrink 0 = .ok (.iload_n 1, 1) := by decide +kernel
theorem dX7_shrink_1 : decode cX7_shrink 1 = .ok (.iload_n 2, 1) := by decide +kernel
theorem dX7_shrink_2 : decode cX7_shrink 2 = .ok (.iload_n 3, 1) := by decide +kernel
theorem dX7_shrink_3 : decode cX7_shrink 3 = .ok (.invokestatic 201, 3) := by decide +kernel
theorem dX7_shrink_6 : decode cX7_shrink 6 = .ok (.ifCond .ne 6, 3) := by decide +kernel
theorem dX7_shrink_9 : decode cX7_shrink 9 = .ok (.bipush (-2), 2) := by decide +kernel
theorem dX7_shrink_11 : decode cX7_shrink 11 = .ok (.ireturn, 1) := by decide +kernel
theorem dX7_shrink_12 : decode cX7_shrink 12 = .ok (.aload_n 0, 1) := by decide +kernel
theorem dX7_shrink_13 : decode cX7_shrink 13 = .ok (.iload_n 1, 1) := by decide +kernel
theorem dX7_shrink_14 : decode cX7_shrink 14 = .ok (.iload_n 2, 1) := by decide +kernel
theorem dX7_shrink_15 : decode cX7_shrink 15 = .ok (.iload_n 3, 1) := by decide +kernel
theorem dX7_shrink_16 : decode cX7_shrink 16 = .ok (.invokevirtual 204, 3) := by decide +kernel
theorem dX7_shrink_19 : decode cX7_shrink 19 = .ok (.aload_n 0, 1) := by decide +kernel
theorem dX7_shrink_20 : decode cX7_shrink 20 = .ok (.getfield 122, 3) := by decide +kernel
theorem dX7_shrink_23 : decode cX7_shrink 23 = .ok (.ifCond .ne 6, 3) := by decide +kernel
theorem dX7_shrink_26 : decode cX7_shrink 26 = .ok (.bipush (-3), 2) := by decide +kernel
theorem dX7_shrink_28 : decode cX7_shrink 28 = .ok (.ireturn, 1) := by decide +kernel
theorem dX7_shrink_29 : decode cX7_shrink 29 = .ok (.aload_n 0, 1) := by decide +kernel
theorem dX7_shrink_30 : decode cX7_shrink 30 = .ok (.getfield 122, 3) := by decide +kernel
theorem dX7_shrink_33 : decode cX7_shrink 33 = .ok (.istore 4, 2) := by decide +kernel
theorem dX7_shrink_35 : decode cX7_shrink 35 = .ok (.aload_n 0, 1) := by decide +kernel
theorem dX7_shrink_36 : decode cX7_shrink 36 = .ok (.getfield 32, 3) := by decide +kernel
theorem dX7_shrink_39 : decode cX7_shrink 39 = .ok (.iconst 0, 1) := by decide +kernel
theorem dX7_shrink_40 : decode cX7_shrink 40 = .ok (.iaload, 1) := by decide +kernel
theorem dX7_shrink_41 : decode cX7_shrink 41 = .ok (.istore 5, 2) := by decide +kernel
theorem dX7_shrink_43 : decode cX7_shrink 43 = .ok (.iconst 0, 1) := by decide +kernel
theorem dX7_shrink_44 : decode cX7_shrink 44 = .ok (.istore 6, 2) := by decide +kernel
theorem dX7_shrink_46 : decode cX7_shrink 46 = .ok (.iload 6, 2) := by decide +kernel
theorem dX7_shrink_48 : decode cX7_shrink 48 = .ok (.iload 5, 2) := by decide +kernel
theorem dX7_shrink_50 : decode cX7_shrink 50 = .ok (.if_icmp .ge 23, 3) := by decide +kernel
theorem dX7_shrink_53 : decode cX7_shrink 53 = .ok (.aload_n 0, 1) := by decide +kernel
theorem dX7_shrink_54 : decode cX7_shrink 54 = .ok (.getfield 65, 3) := by decide +kernel
theorem dX7_shrink_57 : decode cX7_shrink 57 = .ok (.iload 6, 2) := by decide +kernel
theorem dX7_shrink_59 : decode cX7_shrink 59 = .ok (.aload_n 0, 1) := by decide +kernel
theorem dX7_shrink_60 : decode cX7_shrink 60 = .ok (.getfield 50, 3) := by decide +kernel
theorem dX7_shrink_63 : decode cX7_shrink 63 = .ok (.iload 6, 2) := by decide +kernel
theorem dX7_shrink_65 : decode cX7_shrink 65 = .ok (.iaload, 1) := by decide +kernel
theorem dX7_shrink_66 : decode cX7_shrink 66 = .ok (.iastore, 1) := by decide +kernel
theorem dX7_shrink_67 : decode cX7_shrink 67 = .ok (.iinc 6 1, 3) := by decide +kernel
theorem dX7_shrink_70 : decode cX7_shrink 70 = .ok (.goto (-24), 3) := by decide +kernel
theorem dX7_shrink_73 : decode cX7_shrink 73 = .ok (.aload_n 0, 1) := by decide +kernel
theorem dX7_shrink_74 : decode cX7_shrink 74 = .ok (.getfield 65, 3) := by decide +kernel
theorem dX7_shrink_77 : decode cX7_shrink 77 = .ok (.iload 5, 2) := by decide +kernel
theorem dX7_shrink_79 : decode cX7_shrink 79 = .ok (.aload_n 0, 1) := by decide +kernel
theorem dX7_shrink_80 : decode cX7_shrink 80 = .ok (.getfield 26, 3) := by decide +kernel
theorem dX7_shrink_83 : decode cX7_shrink 83 = .ok (.iconst 0, 1) := by decide +kernel
theorem dX7_shrink_84 : decode cX7_shrink 84 = .ok (.iaload, 1) := by decide +kernel
theorem dX7_shrink_85 : decode cX7_shrink 85 = .ok (.iastore, 1) := by decide +kernel
theorem dX7_shrink_86 : decode cX7_shrink 86 = .ok (.iconst 0, 1) := by decide +kernel
theorem dX7_shrink_87 : decode cX7_shrink 87 = .ok (.istore 6, 2) := by decide +kernel
theorem dX7_shrink_89 : decode cX7_shrink 89 = .ok (.iconst 0, 1) := by decide +kernel
theorem dX7_shrink_90 : decode cX7_shrink 90 = .ok (.istore 7, 2) := by decide +kernel
theorem dX7_shrink_92 : decode cX7_shrink 92 = .ok (.iload 7, 2) := by decide +kernel
theorem dX7_shrink_94 : decode cX7_shrink 94 = .ok (.iload 5, 2) := by decide +kernel
theorem dX7_shrink_96 : decode cX7_shrink 96 = .ok (.if_icmp .ge 189, 3) := by decide +kernel
theorem dX7_shrink_99 : decode cX7_shrink 99 = .ok (.aload_n 0, 1) := by decide +kernel
theorem dX7_shrink_100 : decode cX7_shrink 100 = .ok (.getfield 65, 3) := by decide +kernel
theorem dX7_shrink_103 : decode cX7_shrink 103 = .ok (.iload 7, 2) := by decide +kernel
theorem dX7_shrink_105 : decode cX7_shrink 105 = .ok (.iaload, 1) := by decide +kernel
theorem dX7_shrink_106 : decode cX7_shrink 106 = .ok (.iload 6, 2) := by decide +kernel
theorem dX7_shrink_108 : decode cX7_shrink 108 = .ok (.isub, 1) := by decide +kernel
theorem dX7_shrink_109 : decode cX7_shrink 109 = .ok (.istore 8, 2) := by decide +kernel
theorem dX7_shrink_111 : decode cX7_shrink 111 = .ok (.aload_n 0, 1) := by decide +kernel
theorem dX7_shrink_112 : decode cX7_shrink 112 = .ok (.getfield 65, 3) := by decide +kernel
theorem dX7_shrink_115 : decode cX7_shrink 115 = .ok (.iload 7, 2) := by decide +kernel
theorem dX7_shrink_117 : decode cX7_shrink 117 = .ok (.iconst 1, 1) := by decide +kernel
theorem dX7_shrink_118 : decode cX7_shrink 118 = .ok (.iadd, 1) := by decide +kernel
theorem dX7_shrink_119 : decode cX7_shrink 119 = .ok (.iaload, 1) := by decide +kernel
theorem dX7_shrink_120 : decode cX7_shrink 120 = .ok (.aload_n 0, 1) := by decide +kernel
theorem dX7_shrink_121 : decode cX7_shrink 121 = .ok (.getfield 65, 3) := by decide +kernel
theorem dX7_shrink_124 : decode cX7_shrink 124 = .ok (.iload 7, 2) := by decide +kernel
theorem dX7_shrink_126 : decode cX7_shrink 126 = .ok (.iaload, 1) := by decide +kernel
theorem dX7_shrink_127 : decode cX7_shrink 127 = .ok (.isub, 1) := by decide +kernel
theorem dX7_shrink_128 : decode cX7_shrink 128 = .ok (.istore 9, 2) := by decide +kernel
theorem dX7_shrink_130 : decode cX7_shrink 130 = .ok (.aload_n 0, 1) := by decide +kernel
theorem dX7_shrink_131 : decode cX7_shrink 131 = .ok (.getfield 78, 3) := by decide +kernel
theorem dX7_shrink_134 : decode cX7_shrink 134 = .ok (.istore 10, 2) := by decide +kernel
theorem dX7_shrink_136 : decode cX7_shrink 136 = .ok (.iconst 0, 1) := by decide +kernel
theorem dX7_shrink_137 : decode cX7_shrink 137 = .ok (.istore 11, 2) := by decide +kernel
theorem dX7_shrink_139 : decode cX7_shrink 139 = .ok (.iload 11, 2) := by decide +kernel
theorem dX7_shrink_141 : decode cX7_shrink 141 = .ok (.aload_n 0, 1) := by decide +kernel
theorem dX7_shrink_142 : decode cX7_shrink 142 = .ok (.getfield 78, 3) := by decide +kernel
theorem dX7_shrink_145 : decode cX7_shrink 145 = .ok (.if_icmp .ge 23, 3) := by decide +kernel
theorem dX7_shrink_148 : decode cX7_shrink 148 = .ok (.aload_n 0, 1) := by decide +kernel
theorem dX7_shrink_149 : decode cX7_shrink 149 = .ok (.getfield 62, 3) := by decide +kernel
theorem dX7_shrink_152 : decode cX7_shrink 152 = .ok (.iload 11, 2) := by decide +kernel
theorem dX7_shrink_154 : decode cX7_shrink 154 = .ok (.aload_n 0, 1) := by decide +kernel
theorem dX7_shrink_155 : decode cX7_shrink 155 = .ok (.getfield 7, 3) := by decide +kernel
theorem dX7_shrink_158 : decode cX7_shrink 158 = .ok (.iload 11, 2) := by decide +kernel
theorem dX7_shrink_160 : decode cX7_shrink 160 = .ok (.iaload, 1) := by decide +kernel
theorem dX7_shrink_161 : decode cX7_shrink 161 = .ok (.iastore, 1) := by decide +kernel
theorem dX7_shrink_162 : decode cX7_shrink 162 = .ok (.iinc 11 1, 3) := by decide +kernel
theorem dX7_shrink_165 : decode cX7_shrink 165 = .ok (.goto (-26), 3) := by decide +kernel
theorem dX7_shrink_168 : decode cX7_shrink 168 = .ok (.aload_n 0, 1) := by decide +kernel
theorem dX7_shrink_169 : decode cX7_shrink 169 = .ok (.dup, 1) := by decide +kernel
theorem dX7_shrink_170 : decode cX7_shrink 170 = .ok (.getfield 78, 3) := by decide +kernel
theorem dX7_shrink_173 : decode cX7_shrink 173 = .ok (.iload 9, 2) := by decide +kernel
theorem dX7_shrink_175 : decode cX7_shrink 175 = .ok (.isub, 1) := by decide +kernel
theorem dX7_shrink_176 : decode cX7_shrink 176 = .ok (.putfield 78, 3) := by decide +kernel
theorem dX7_shrink_179 : decode cX7_shrink 179 = .ok (.iload 8, 2) := by decide +kernel
theorem dX7_shrink_181 : decode cX7_shrink 181 = .ok (.istore 11, 2) := by decide +kernel
theorem dX7_shrink_183 : decode cX7_shrink 183 = .ok (.iload 11, 2) := by decide +kernel
theorem dX7_shrink_185 : decode cX7_shrink 185 = .ok (.aload_n 0, 1) := by decide +kernel
theorem dX7_shrink_186 : decode cX7_shrink 186 = .ok (.getfield 78, 3) := by decide +kernel
theorem dX7_shrink_189 : decode cX7_shrink 189 = .ok (.if_icmp .ge 26, 3) := by decide +kernel
theorem dX7_shrink_192 : decode cX7_shrink 192 = .ok (.aload_n 0, 1) := by decide +kernel
theorem dX7_shrink_193 : decode cX7_shrink 193 = .ok (.getfield 7, 3) := by decide +kernel
theorem dX7_shrink_196 : decode cX7_shrink 196 = .ok (.iload 11, 2) := by decide +kernel
theorem dX7_shrink_198 : decode cX7_shrink 198 = .ok (.aload_n 0, 1) := by decide +kernel
theorem dX7_shrink_199 : decode cX7_shrink 199 = .ok (.getfield 62, 3) := by decide +kernel
theorem dX7_shrink_202 : decode cX7_shrink 202 = .ok (.iload 11, 2) := by decide +kernel
theorem dX7_shrink_204 : decode cX7_shrink 204 = .ok (.iload 9, 2) := by decide +kernel
theorem dX7_shrink_206 : decode cX7_shrink 206 = .ok (.iadd, 1) := by decide +kernel
theorem dX7_shrink_207 : decode cX7_shrink 207 = .ok (.iaload, 1) := by decide +kernel
theorem dX7_shrink_208 : decode cX7_shrink 208 = .ok (.iastore, 1) := by decide +kernel
theorem dX7_shrink_209 : decode cX7_shrink 209 = .ok (.iinc 11 1, 3) := by decide +kernel
theorem dX7_shrink_212 : decode cX7_shrink 212 = .ok (.goto (-29), 3) := by decide +kernel
theorem dX7_shrink_215 : decode cX7_shrink 215 = .ok (.aload_n 0, 1) := by decide +kernel
theorem dX7_shrink_216 : decode cX7_shrink 216 = .ok (.iload_n 1, 1) := by decide +kernel
theorem dX7_shrink_217 : decode cX7_shrink 217 = .ok (.iload_n 2, 1) := by decide +kernel
theorem dX7_shrink_218 : decode cX7_shrink 218 = .ok (.iload_n 3, 1) := by decide +kernel
theorem dX7_shrink_219 : decode cX7_shrink 219 = .ok (.invokevirtual 204, 3) := by decide +kernel
theorem dX7_shrink_222 : decode cX7_shrink 222 = .ok (.aload_n 0, 1) := by decide +kernel
theorem dX7_shrink_223 : decode cX7_shrink 223 = .ok (.getfield 122, 3) := by decide +kernel
theorem dX7_shrink_226 : decode cX7_shrink 226 = .ok (.iload 4, 2) := by decide +kernel
theorem dX7_shrink_228 : decode cX7_shrink 228 = .ok (.if_icmp .ne 13, 3) := by decide +kernel
theorem dX7_shrink_231 : decode cX7_shrink 231 = .ok (.iload 6, 2) := by decide +kernel
theorem dX7_shrink_233 : decode cX7_shrink 233 = .ok (.iload 9, 2) := by decide +kernel
theorem dX7_shrink_235 : decode cX7_shrink 235 = .ok (.iadd, 1) := by decide +kernel
theorem dX7_shrink_236 : decode cX7_shrink 236 = .ok (.istore 6, 2) := by decide +kernel
theorem dX7_shrink_238 : decode cX7_shrink 238 = .ok (.goto 41, 3) := by decide +kernel
theorem dX7_shrink_241 : decode cX7_shrink 241 = .ok (.aload_n 0, 1) := by decide +kernel
theorem dX7_shrink_242 : decode cX7_shrink 242 = .ok (.iload 10, 2) := by decide +kernel
theorem dX7_shrink_244 : decode cX7_shrink 244 = .ok (.putfield 78, 3) := by decide +kernel
theorem dX7_shrink_247 : decode cX7_shrink 247 = .ok (.iconst 0, 1) := by decide +kernel
theorem dX7_shrink_248 : decode cX7_shrink 248 = .ok (.istore 11, 2) := by decide +kernel
theorem dX7_shrink_250 : decode cX7_shrink 250 = .ok (.iload 11, 2) := by decide +kernel
theorem dX7_shrink_252 : decode cX7_shrink 252 = .ok (.aload_n 0, 1) := by decide +kernel
theorem dX7_shrink_253 : decode cX7_shrink 253 = .ok (.getfield 78, 3) := by decide +kernel
theorem dX7_shrink_256 : decode cX7_shrink 256 = .ok (.if_icmp .ge 23, 3) := by decide +kernel
theorem dX7_shrink_259 : decode cX7_shrink 259 = .ok (.aload_n 0, 1) := by decide +kernel
theorem dX7_shrink_260 : decode cX7_shrink 260 = .ok (.getfield 7, 3) := by decide +kernel
theorem dX7_shrink_263 : decode cX7_shrink 263 = .ok (.iload 11, 2) := by decide +kernel
theorem dX7_shrink_265 : decode cX7_shrink 265 = .ok (.aload_n 0, 1) := by decide +kernel
theorem dX7_shrink_266 : decode cX7_shrink 266 = .ok (.getfield 62, 3) := by decide +kernel
theorem dX7_shrink_269 : decode cX7_shrink 269 = .ok (.iload 11, 2) := by decide +kernel
theorem dX7_shrink_271 : decode cX7_shrink 271 = .ok (.iaload, 1) := by decide +kernel
theorem dX7_shrink_272 : decode cX7_shrink 272 = .ok (.iastore, 1) := by decide +kernel
theorem dX7_shrink_273 : decode cX7_shrink 273 = .ok (.iinc 11 1, 3) := by decide +kernel
theorem dX7_shrink_276 : decode cX7_shrink 276 = .ok (.goto (-26), 3) := by decide +kernel
theorem dX7_shrink_279 : decode cX7_shrink 279 = .ok (.iinc 7 1, 3) := by decide +kernel
theorem dX7_shrink_282 : decode cX7_shrink 282 = .ok (.goto (-190), 3) := by decide +kernel
theorem dX7_shrink_285 : decode cX7_shrink 285 = .ok (.aload_n 0, 1) := by decide +kernel
theorem dX7_shrink_286 : decode cX7_shrink 286 = .ok (.iload_n 1, 1) := by decide +kernel
theorem dX7_shrink_287 : decode cX7_shrink 287 = .ok (.iload_n 2, 1) := by decide +kernel
theorem dX7_shrink_288 : decode cX7_shrink 288 = .ok (.iload_n 3, 1) := by decide +kernel
theorem dX7_shrink_289 : decode cX7_shrink 289 = .ok (.invokevirtual 204, 3) := by decide +kernel
theorem dX7_shrink_292 : decode cX7_shrink 292 = .ok (.aload_n 0, 1) := by decide +kernel
theorem dX7_shrink_293 : decode cX7_shrink 293 = .ok (.getfield 78, 3) := by decide +kernel
theorem dX7_shrink_296 : decode cX7_shrink 296 = .ok (.ireturn, 1) := by decide +kernel
theorem dX7_count_0 : decode cX7_count 0 = .ok (.iload_n 1, 1) := by decide +kernel
theorem dX7_count_1 : decode cX7_count 1 = .ok (.tableswitch 78 0 6 #[43, 48, 53, 58, 63, 68, 73], 43) := by decide +kernel
theorem dX7_count_44 : decode cX7_count 44 = .ok (.aload_n 0, 1) := by decide +kernel
theorem dX7_count_45 : decode cX7_count 45 = .ok (.getfield 78, 3) := by decide +kernel
theorem dX7_count_48 : decode cX7_count 48 = .ok (.ireturn, 1) := by decide +kernel
theorem dX7_count_49 : decode cX7_count 49 = .ok (.aload_n 0, 1) := by decide +kernel
theorem dX7_count_50 : decode cX7_count 50 = .ok (.getfield 140, 3) := by decide +kernel
theorem dX7_count_53 : decode cX7_count 53 = .ok (.ireturn, 1) := by decide +kernel
theorem dX7_count_54 : decode cX7_count 54 = .ok (.aload_n 0, 1) := by decide +kernel
theorem dX7_count_55 : decode cX7_count 55 = .ok (.getfield 125, 3) := by decide +kernel
theorem dX7_count_58 : decode cX7_count 58 = .ok (.ireturn, 1) := by decide +kernel
theorem dX7_count_59 : decode cX7_count 59 = .ok (.aload_n 0, 1) := by decide +kernel
theorem dX7_count_60 : decode cX7_count 60 = .ok (.getfield 143, 3) := by decide +kernel
theorem dX7_count_63 : decode cX7_count 63 = .ok (.ireturn, 1) := by decide +kernel
theorem dX7_count_64 : decode cX7_count 64 = .ok (.aload_n 0, 1) := by decide +kernel
theorem dX7_count_65 : decode cX7_count 65 = .ok (.getfield 134, 3) := by decide +kernel
theorem dX7_count_68 : decode cX7_count 68 = .ok (.ireturn, 1) := by decide +kernel
theorem dX7_count_69 : decode cX7_count 69 = .ok (.aload_n 0, 1) := by decide +kernel
theorem dX7_count_70 : decode cX7_count 70 = .ok (.getfield 122, 3) := by decide +kernel
theorem dX7_count_73 : decode cX7_count 73 = .ok (.ireturn, 1) := by decide +kernel
theorem dX7_count_74 : decode cX7_count 74 = .ok (.aload_n 0, 1) := by decide +kernel
theorem dX7_count_75 : decode cX7_count 75 = .ok (.getfield 191, 3) := by decide +kernel
theorem dX7_count_78 : decode cX7_count 78 = .ok (.ireturn, 1) := by decide +kernel
theorem dX7_count_79 : decode cX7_count 79 = .ok (.iconst (-1), 1) := by decide +kernel
theorem dX7_count_80 : decode cX7_count 80 = .ok (.ireturn, 1) := by decide +kernel
end
section
abbrev Mm : Type := (Nat → Nat → Int32) × (Nat → Nat → Int64)
abbrev Sk : Type := Nat ⊕ ((Nat × List (Option (Option Nat))) ⊕ List Nat)
abbrev Gg : Type := va_G × ClassId × ClassId × (Nat → Nat)
def mp {α β : Type} (f : Nat → α → β) : Nat → List α → List β
  | _, [] => []
  | i, x :: xs => f i x :: mp f (i + 1) xs
theorem mp_get {α β : Type} (f : Nat → α → β) : ∀ (l : List α) (i k : Nat), (mp f i l)[k]? = (l[k]?).map (f (i + k))
  | [], i, k => by simp [mp]
  | x :: xs, i, 0 => by simp [mp]
  | x :: xs, i, k + 1 => by
    simp only [mp, List.getElem?_cons_succ]
    rw [mp_get f xs (i + 1) k, show i + 1 + k = i + (k + 1) by omega]
theorem mp_ext {α β : Type} {f g : Nat → α → β} : ∀ (l : List α) (i : Nat), (∀ j y, i ≤ j → g j y = f j y) → mp f i l = mp g i l
  | [], _, _ => rfl
  | x :: xs, i, h => by
    simp only [mp]
    rw [h i x (Nat.le_refl i), mp_ext xs (i + 1) (fun j y hj => h j y (by omega))]
theorem mp_set {α β : Type} {f g : Nat → α → β} {v : β} {x : α} : ∀ (l : List α) (i k : Nat), l[k]? = some x → g (i + k) x = v → (∀ j y, j ≠ i + k → g j y = f j y) → (mp f i l).set k v = mp g i l
  | [], i, k, h, _, _ => by simp at h
  | y :: ys, i, 0, h, hv, ho => by
    simp only [List.getElem?_cons_zero, Option.some.injEq] at h
    subst h
    simp only [mp, List.set_cons_zero]
    rw [← hv, mp_ext ys (i + 1) (fun j z hj => ho j z (by omega))]
    rfl
  | y :: ys, i, k + 1, h, hv, ho => by
    simp only [List.getElem?_cons_succ] at h
    simp only [mp, List.set_cons_succ]
    rw [mp_set ys (i + 1) k h (by rw [← hv]; congr 1; omega) (fun j z hj => ho j z (by omega)), ho i y (by omega)]
theorem mp_len {α β : Type} (f : Nat → α → β) : ∀ (l : List α) (i : Nat), (mp f i l).length = l.length
  | [], _ => rfl
  | x :: xs, i => by simp only [mp, List.length_cons, mp_len f xs]
def sa (M : Mm) (c : Nat) (f : Nat → Int32) : Mm := (fun x => if x = c then f else M.1 x, M.2)
def st (M : Mm) (c j : Nat) (v : Int32) : Mm := sa M c (upd (M.1 c) j v)
def stl (M : Mm) (c j : Nat) (v : Int64) : Mm := (M.1, fun x => if x = c then vp_updL (M.2 c) j v else M.2 x)
def lt_ {α β : Sort _} (e : α) (k : α → β) : β := k e
theorem ob_lt {α β : Sort _} {x e : α} {k : α → β} {z : β} (hx : x = e) (h : lt_ e k = z) : k x = z := by subst hx; exact h
theorem ob_pos {α : Sort _} {c : Prop} {inst : Decidable c} {x y z : α} (hc : c) (h : @ite α c inst x y = z) : x = z := by rw [if_pos hc] at h; exact h
theorem ob_neg {α : Sort _} {c : Prop} {inst : Decidable c} {x y z : α} (hc : ¬ c) (h : @ite α c inst x y = z) : y = z := by rw [if_neg hc] at h; exact h
theorem ob_gd {α : Type _} {c : Prop} {inst : Decidable c} {k : Option α} {z : α} (h : @ite (Option α) c inst none k = some z) : ¬ c ∧ k = some z := by
  by_cases hc : c
  · rw [if_pos hc] at h; cases h
  · rw [if_neg hc] at h; exact ⟨hc, h⟩
theorem ob_bind {α β : Type _} {x : Option α} {f : α → Option β} {z : β} (h : Option.bind x f = some z) : ∃ q, x = some q ∧ f q = some z := by
  cases x with
  | none => cases h
  | some q => exact ⟨q, rfl, h⟩
def skX0 (o : Nat) : Sk := .inr (.inl (0, [some (some (o + 1)), none, some (some (o + 2)), none]))
def skX1 : Sk := .inr (.inl (1, [some (some 10), some (some 11), some (some 12), some (some 13), some (some 14), none]))
def skX2 : Sk := .inr (.inl (2, [some (some 1), some none]))
def skX3 : Sk := .inr (.inl (3, [none, none, none, none, none]))
def skX4 : Sk := .inr (.inl (4, [some (some 1), some (some 6), some (some 9), some (some 15), some (some 19), some (some 29), none, none, none, none, none, none, none, none, none, none, none, none]))
def skX5 : Sk := .inr (.inl (5, [some (some 16), some (some 17), some (some 18), none, none]))
def skX6 : Sk := .inr (.inl (6, [some (some 1), some (some 4), some (some 5), some (some 30)]))
def skX7 : Sk := .inr (.inl (7, [some none, some (some 32), none, some (some 33), none, none, none, none, none, none, none, none, none, none, none, some (some 34), some (some 35), some (some 36), some (some 37), some (some 38), some (some 39), some (some 40), some (some 41), some (some 42), some (some 43), some (some 44), some (some 45), some (some 46), some (some 47), some (some 48), some (some 49)]))
/-- the world: the class's cells 0 .. 30, the reference's 31 .. 49 -/
def sh : List Sk := [skX6, skX0 1, .inl 1200, .inl 1200, skX2, skX4, skX0 6, .inl 4000, .inl 0, skX1, .inl 600, .inl 600, .inl 600, .inl 600, .inl 600, skX5, .inl 8, .inl 8, .inl 8, .inr (.inr [20, 21, 22, 23, 24, 25, 26, 27, 28]), skX3, skX3, skX3, skX3, skX3, skX3, skX3, skX3, skX3, .inl 600, .inl 600,
  skX7, .inl 1200, .inl 4000, .inl 10, .inl 10, .inl 10, .inl 10, .inl 10, .inl 6000, .inl 10, .inl 10, .inl 10, .inl 600, .inl 600, .inl 600, .inl 600, .inl 8, .inl 1200, .inl 601]
def fkv (G : Gg) (M : Mm) (c j : Nat) (k : Option (Option Nat)) : Value := match k with
  | none => .int (M.1 c j)
  | some none => .long (M.2 c j)
  | some (some d) => .ref (G.2.2.2 d)
def ent (G : Gg) (M : Mm) (c : Nat) (k : Sk) : va_E := match k with
  | .inl n => .inl (G.2.1, n, .inl (M.1 c))
  | .inr (.inl o) => .inr (o.1, mp (fkv G M c) 0 o.2)
  | .inr (.inr cs) => .inl (G.2.2.1, cs.length, .inr (.inr (.inr (.inr (fun i => (cs[i]?).map G.2.2.2)))))
def wc (G : Gg) (M : Mm) : va_W := mp (fun c k => (G.2.2.2 c, ent G M c k)) 0 sh
theorem fkv_congr {G : Gg} {M M1 : Mm} {d j : Nat} (h1 : M1.1 d = M.1 d) (h2 : M1.2 d = M.2 d) (k : Option (Option Nat)) : fkv G M1 d j k = fkv G M d j k := by
  rcases k with _ | _ | k <;> simp only [fkv, h1, h2]
theorem ent_congr {G : Gg} {M M1 : Mm} {d : Nat} (h1 : M1.1 d = M.1 d) (h2 : M1.2 d = M.2 d) (k : Sk) : ent G M1 d k = ent G M d k := by
  rcases k with n | o | cs
  · simp only [ent, h1]
  · simp only [ent]
    rw [mp_ext o.2 0 (fun j y _ => (fkv_congr h1 h2 y).symm)]
  · rfl
theorem wc_at {G : Gg} {M : Mm} {c : Nat} {k : Sk} (h : sh[c]? = some k) : (wc G M)[c]? = some (G.2.2.2 c, ent G M c k) := by
  unfold wc
  rw [mp_get, h]
  simp only [Option.map_some, Nat.zero_add]
theorem wc_set {G : Gg} {M M1 : Mm} {c : Nat} {k : Sk} {v : va_E} (h : sh[c]? = some k) (hv : ent G M1 c k = v) (ho : ∀ d, d ≠ c → M1.1 d = M.1 d ∧ M1.2 d = M.2 d) : (wc G M).set c (G.2.2.2 c, v) = wc G M1 := by
  unfold wc
  refine mp_set sh 0 c h (by rw [Nat.zero_add, hv]) (fun j y hj => ?_)
  have hq := ho j (by omega)
  rw [ent_congr hq.1 hq.2 y]
theorem sa_at {M : Mm} {c : Nat} {f : Nat → Int32} : (sa M c f).1 c = f := by simp [sa]
theorem sa_ne {M : Mm} {c d : Nat} {f : Nat → Int32} (h : d ≠ c) : (sa M c f).1 d = M.1 d := by simp [sa, h]
theorem sa_2 {M : Mm} {c : Nat} {f : Nat → Int32} : (sa M c f).2 = M.2 := rfl
theorem wc_st {G : Gg} {M : Mm} {c j ci : Nat} {v : Int32} {fks : List (Option (Option Nat))} (h : sh[c]? = some (.inr (.inl (ci, fks)))) (hf : fks[j]? = some none) : (wc G M).set c (G.2.2.2 c, .inr (ci, (mp (fkv G M c) 0 fks).set j (.int v))) = wc G (st M c j v) := by
  refine wc_set h ?_ (fun d hd => ⟨sa_ne hd, rfl⟩)
  simp only [ent]
  rw [mp_set (g := fkv G (st M c j v) c) fks 0 j hf ?_ ?_]
  · simp only [fkv, st, sa_at, upd, Nat.zero_add, if_true]
  · intro i y hi
    rcases y with _ | _ | y
    · simp only [fkv, st, sa_at, upd]
      rw [if_neg (by omega)]
    · rfl
    · rfl
theorem wc_stl {G : Gg} {M : Mm} {c j ci : Nat} {v : Int64} {fks : List (Option (Option Nat))} (h : sh[c]? = some (.inr (.inl (ci, fks)))) (hf : fks[j]? = some (some none)) : (wc G M).set c (G.2.2.2 c, .inr (ci, (mp (fkv G M c) 0 fks).set j (.long v))) = wc G (stl M c j v) := by
  refine wc_set h ?_ (fun d hd => ⟨rfl, by simp [stl, hd]⟩)
  simp only [ent]
  rw [mp_set (g := fkv G (stl M c j v) c) fks 0 j hf ?_ ?_]
  · simp only [fkv, stl, vp_updL, Nat.zero_add, if_true]
  · intro i y hi
    rcases y with _ | _ | y
    · rfl
    · simp only [fkv, stl, vp_updL, if_true]
      rw [if_neg (by omega)]
    · rfl
theorem wc_sa {G : Gg} {M : Mm} {c n : Nat} {f : Nat → Int32} (h : sh[c]? = some (.inl n)) : (wc G M).set c (G.2.2.2 c, .inl (G.2.1, n, .inl f)) = wc G (sa M c f) := by
  refine wc_set h ?_ (fun d hd => ⟨sa_ne hd, rfl⟩)
  simp only [ent, sa_at]
end
section
def gtbl : List Cond := lw_tbl.filter goodWord
def nfs : List (String × Nat × String × String × String × String) := [("BombFamilies", 40, "BombFamilies$Bytes", "size", "I", "BombFamilies"), ("BombFamilies$Reader", 83, "BombFamilies$Bytes", "size", "I", "BombFamilies"), ("BombFamilies$Maker", 66, "BombFamilies$Bytes", "size", "I", "BombFamilies"), ("BombFamilies$Reader", 73, "BombFamilies$Items", "size", "I", "BombFamilies"), ("BombFamilies", 83, "BombFamilies$Items", "size", "I", "BombFamilies"), ("BombFamilies$Reader", 205, "BombFamilies$Table", "longest", "I", "BombFamilies"), ("BombFamilies$Reader", 131, "BombFamilies$Pack", "from", "I", "BombFamilies"), ("BombFamilies$Reader", 128, "BombFamilies$Pack", "end", "I", "BombFamilies"), ("BombFamilies$Reader", 178, "BombFamilies$Pack", "cameAhead", "I", "BombFamilies"), ("BombFamilies$Reader", 163, "BombFamilies$Pack", "firstItem", "I", "BombFamilies"), ("BombFamilies$Reader", 166, "BombFamilies$Pack", "items", "I", "BombFamilies"), ("BombFamilies", 73, "BombFamilies$Reader", "out", "LBombFamilies$Bytes;", "BombFamilies"), ("BombFamilies", 79, "BombFamilies$Reader", "items", "LBombFamilies$Items;", "BombFamilies"), ("BombFamilies", 98, "BombFamilies$Reader", "cost", "I", "BombFamilies"), ("BombFamilies", 101, "BombFamilies$Reader", "deepest", "I", "BombFamilies"), ("BombFamilies", 104, "BombFamilies$Reader", "begun", "I", "BombFamilies"), ("BombFamilies", 107, "BombFamilies$Reader", "fault", "I", "BombFamilies"), ("BombFamilies", 76, "BombFamilies$Reader", "faultPlace", "I", "BombFamilies"), ("BombFamilies", 110, "BombFamilies$Reader", "reads", "I", "BombFamilies")]
def Nz (U : State) : Prop := (∀ q ∈ nfs, va_Nw (.fieldLinkNest q.1 q.2.1 q.2.2.1 q.2.2.2.1 q.2.2.2.2.1 q.2.2.2.2.2) U) ∧ va_Nw (.methodLinkNest RX4 43 yX3_init RX6) U
theorem Nz.warm {s U : State} (hW : s.WarmedH U.vm) (h : Nz s) : Nz U := ⟨fun q hq => va_Nw.warmF hW (h.1 q hq), va_Nw.warmM hW h.2⟩
theorem Nz.same {u U : State} (hv : u.vm = U.vm) (h : Nz u) : Nz U := ⟨fun q hq => va_Nw.same rfl hv (h.1 q hq), va_Nw.same rfl hv h.2⟩
theorem gt_mem {w : Cond} (h : w ∈ lw_tbl) (hg : goodWord w = true) : w ∈ gtbl := List.mem_filter.mpr ⟨h, hg⟩
theorem gt_good {w : Cond} (h : w ∈ gtbl) : goodWord w = true := (List.mem_filter.mp h).2
theorem gt_i {w : Cond} (i : Nat) (h : tables_1[i]? = some w) (hg : goodWord w = true) : w ∈ gtbl := gt_mem (List.mem_append_right _ (List.mem_of_getElem? h)) hg
theorem gt_goodIn {ws : List Cond} (h : ∀ w ∈ ws, w ∈ gtbl) : GoodIn gtbl ws := fun w hw => ⟨h w hw, good_of_word (gt_good (h w hw))⟩
theorem gt_sub {x : Cond} (hx : x ∈ gtbl) : ∀ w ∈ x :: gtbl, w ∈ gtbl := fun w hw => (List.mem_cons.mp hw).elim (fun e => e ▸ hx) id
def tyl (G : Gg) : List (ClassId × FieldType) := [(G.2.1, .int), (G.2.2.1, .object RX3)]
def rm (d : Nat) : Room := { frames := d, cells := 0, slots := 0, locals := 48 * d }
def Aa (G : Gg) (sz : Nat) : Nat → Prop := fun q => (∃ d, d < sh.length ∧ q = G.2.2.2 d) ∨ sz ≤ q
theorem Aa.mono {G : Gg} {a b : Nat} (h : a ≤ b) {q : Nat} (hq : Aa G b q) : Aa G a q := hq.elim Or.inl (fun h1 => Or.inr (Nat.le_trans h h1))
def Wd (G : Gg) (M : Mm) (A : Nat → Prop) (t : State) : Prop := va_P G.1 vwCl (wc G M) t.heap ∧ va_K G.1 vwCl (tyl G) t ∧ va_D A (wc G M) ∧ Nz t
def Wo (G : Gg) (s : State) (M : Mm) (H : Heap) (locs : List Loc) : Prop := va_P G.1 vwCl (wc G M) H ∧ va_D (Aa G s.heap.size) (wc G M) ∧ va_S (Aa G s.heap.size) s.heap H locs
def Cx (p : Program) (m : MethodId) (c : Code) (meth : Method) (cc : ByteArray) (nL : Nat) (s : State) (args : Array Value) (own : String) (ret : Option FieldType) (G : Gg) : Prop := CallFix p m c cc nL s args gtbl own ∧ meth.sig.returnType = ret ∧ meth.locks = false ∧ va_K G.1 vwCl (tyl G) s ∧ Nz s
def Pq (G : Gg) (M : Mm) (As : List Value) (sz : Nat) : Array Value → State → Prop := va_Pc As (fun U => U.heap.size = sz ∧ Wd G M (fun _ => True) U)
def Qvi (G : Gg) (sz : Nat) (r : Int32) (M' : Mm) : Array Value → State → Outcome → State → Prop := va_Qi (fun (x : Int32) (u : Mm) => x = r ∧ u = M') (fun u t => Wd G u (Aa G sz) t) (Aa G sz)
def Qvv (G : Gg) (sz : Nat) (M' : Mm) : Array Value → State → Outcome → State → Prop := va_Qv (fun (u : Mm) => u = M') (fun u t => Wd G u (Aa G sz) t) (Aa G sz)
def CTi (l : Launch) (y : MethodName) (cc : ByteArray) (nL : Nat) (ret : Option FieldType) (d : Nat) (G : Gg) (As : List Value) (M : Mm) (r : Int32) (M' : Mm) : Prop := ∀ sz, Met l y (.code y cc nL ret :: gtbl) (rm d) (Pq G M As sz) (Qvi G sz r M') 0 0 (Aa G sz)
def CTv (l : Launch) (y : MethodName) (cc : ByteArray) (nL : Nat) (d : Nat) (G : Gg) (As : List Value) (M : Mm) (M' : Mm) : Prop := ∀ sz, Met l y (.code y cc nL none :: gtbl) (rm d) (Pq G M As sz) (Qvv G sz M') 0 0 (Aa G sz)
def Qi (below : List Frame) (args : Array Value) (s : State) (G : Gg) (r : Int32) (M' : Mm) : State → Prop := MQ below (Qvi G s.heap.size r M') args s 0 0 (Aa G s.heap.size)
def Qv (below : List Frame) (args : Array Value) (s : State) (G : Gg) (M' : Mm) : State → Prop := MQ below (Qvv G s.heap.size M') args s 0 0 (Aa G s.heap.size)
theorem Wd.blind {G : Gg} {M : Mm} {As : List Value} {sz : Nat} : FrameBlind (Pq G M As sz) := fun a U g mk q => by
  obtain ⟨q0, q1, qP, qK, qD, qN⟩ := q
  exact ⟨q0, q1, qP, va_K.moved (u := U) (U := U.calling g mk a) (Vm.Alike.refl U.vm) qK, qD, Nz.same (u := U) (U := U.calling g mk a) rfl qN⟩
theorem Wo.pre {G : Gg} {s : State} {M : Mm} {H : Heap} {locs : List Loc} (h : Wo G s M H locs) (hK : va_K G.1 vwCl (tyl G) s) (hN : Nz s) (As : List Value) : ∀ U : State, U.heap = H → s.WarmedH U.vm → Pq G M As H.size As.toArray U := fun U hU hw => ⟨rfl, by rw [hU], by rw [hU]; exact h.1, va_K.moved hw.alike hK, h.2.1.weaken (fun _ _ _ _ => trivial), hN.warm hw⟩
theorem Wo.post {G : Gg} {s t : State} {M M' : Mm} {H H1 : Heap} {locs locs1 : List Loc} (h : Wo G s M H locs) (ht : t.heap = H1) (hB : Wd G M' (Aa G H.size) t) (hS : va_S (Aa G s.heap.size) s.heap H1 locs1) : Wo G s M' H1 locs1 := ⟨by rw [← ht]; exact hB.1, hB.2.2.1.weaken (fun _ _ _ hq => Aa.mono h.2.2.1 hq), hS⟩
section BK
variable {p : Program} {l : Launch} {e : Env} {R : Room} {s : State} {m : MethodId} {args : Array Value} {below : List Frame} {meth : Method} {c : Code} {H : Heap} {locs : List Loc} {cells slots : Nat} {Q : State → Prop} {cc : ByteArray} {nL : Nat} {own : String} {ret : Option FieldType} {G : Gg} {M : Mm} {pc : Nat} {ls : Array Slot} {rest : List Value}
/-- a method's start -/
theorem ct_i {y : MethodName} {d : Nat} {As : List Value} {r : Int32} {M' : Mm} (hy : plainName y.cls = true) (hlen : (lg_sl As).length ≤ nL)
    (body : ∀ (p : Program) (e : Env) (s : State) (m : MethodId) (below : List Frame) (meth : Method) (c : Code) (ls : Array Slot), Cx p m c meth cc nL s As.toArray y.cls ret G → lv_has ls nL (lv_args 0 As) → Wo G s M s.heap [] →
      W p l e (rm d) s m As.toArray below meth c s.heap [] 0 0 (Qi below As.toArray s G r M') (F0 m 0 ls [])) : CTi l y cc nL ret d G As M r M' := by
  intro sz
  refine Met.ofW (cc := cc) (maxL := nL) (ret := ret) hy rfl ?_
  intro p e s m args below meth c s₁ B hml hv
  obtain ⟨rfl, hsz, hP, hK, hD, hN⟩ := hv
  subst hsz
  have hts := atoms_spec (ws := .code y cc nL ret :: gtbl) B.pre
  rw [lg_entry_eq]
  have hd : va_D (Aa G s.heap.size) (wc G M) := ⟨hD.1, fun k q hk => Or.inl ⟨k, by
    unfold wc at hk
    rw [mp_get] at hk
    cases hq : sh[k]? with
    | none => rw [hq] at hk; simp at hk
    | some z => exact (List.getElem?_eq_some_iff.mp hq).1, by
    unfold wc at hk
    rw [mp_get] at hk
    cases hq : sh[k]? with
    | none => rw [hq] at hk; simp at hk
    | some z => rw [hq] at hk; simp only [Option.map_some, Nat.zero_add, Option.some.injEq] at hk; rw [← hk]⟩⟩
  exact body p e s m below meth c _ ⟨⟨B.exec, B.bytes, hml, findClass_of_methodNamed B.named, fun w hw => hts w (List.mem_cons_of_mem _ hw)⟩, B.returns, B.notSynchronized, hK, hN⟩ (lv_entry As hlen) ⟨hP, hd, va_S.rf⟩
theorem ct_v {y : MethodName} {d : Nat} {As : List Value} {M' : Mm} (hy : plainName y.cls = true) (hlen : (lg_sl As).length ≤ nL)
    (body : ∀ (p : Program) (e : Env) (s : State) (m : MethodId) (below : List Frame) (meth : Method) (c : Code) (ls : Array Slot), Cx p m c meth cc nL s As.toArray y.cls none G → lv_has ls nL (lv_args 0 As) → Wo G s M s.heap [] →
      W p l e (rm d) s m As.toArray below meth c s.heap [] 0 0 (Qv below As.toArray s G M') (F0 m 0 ls [])) : CTv l y cc nL d G As M M' := by
  intro sz
  refine Met.ofW (cc := cc) (maxL := nL) (ret := none) hy rfl ?_
  intro p e s m args below meth c s₁ B hml hv
  obtain ⟨rfl, hsz, hP, hK, hD, hN⟩ := hv
  subst hsz
  have hts := atoms_spec (ws := .code y cc nL none :: gtbl) B.pre
  rw [lg_entry_eq]
  have hd : va_D (Aa G s.heap.size) (wc G M) := ⟨hD.1, fun k q hk => Or.inl ⟨k, by
    unfold wc at hk
    rw [mp_get] at hk
    cases hq : sh[k]? with
    | none => rw [hq] at hk; simp at hk
    | some z => exact (List.getElem?_eq_some_iff.mp hq).1, by
    unfold wc at hk
    rw [mp_get] at hk
    cases hq : sh[k]? with
    | none => rw [hq] at hk; simp at hk
    | some z => rw [hq] at hk; simp only [Option.map_some, Nat.zero_add, Option.some.injEq] at hk; rw [← hk]⟩⟩
  exact body p e s m below meth c _ ⟨⟨B.exec, B.bytes, hml, findClass_of_methodNamed B.named, fun w hw => hts w (List.mem_cons_of_mem _ hw)⟩, B.returns, B.notSynchronized, hK, hN⟩ (lv_entry As hlen) ⟨hP, hd, va_S.rf⟩
/-- a method's end -/
theorem rt_i (X : Cx p m c meth cc nL s args own (some .int) G) (hW : Wo G s M H locs) {v r : Int32} {M' : Mm} (h : some (v, M) = some (r, M')) (hdg : decode cc pc = .ok (.ireturn, 1)) : W p l e R s m args below meth c H locs 0 0 (Qi below args s G r M') (F0 m pc ls [.int v]) := by
  cases h
  exact W.iret X.1.1 X.1.2.1 X.2.1 (fun t ht hw => ⟨⟨v, M, rfl, ⟨rfl, rfl⟩, by rw [ht]; exact hW.1, va_K.moved hw.alike X.2.2.2.1, hW.2.1, X.2.2.2.2.warm hw⟩, hW.2.2.F ht⟩) hW.2.2.2.2 hdg X.2.2.1
theorem rt_z (X : Cx p m c meth cc nL s args own (some .boolean) G) (hW : Wo G s M H locs) {v r : Int32} {M' : Mm} (h : (if ¬ v &&& 1 = v then none else some (v, M)) = some (r, M')) (hdg : decode cc pc = .ok (.ireturn, 1)) : W p l e R s m args below meth c H locs 0 0 (Qi below args s G r M') (F0 m pc ls [.int v]) := by
  obtain ⟨h1, h⟩ := ob_gd h
  have h1 : v &&& 1 = v := Classical.not_not.mp h1
  cases h
  exact W.zret (ty := .boolean) X.1.1 X.1.2.1 X.2.1 (by simp only [narrow, h1]) (fun t ht hw => ⟨⟨v, M, rfl, ⟨rfl, rfl⟩, by rw [ht]; exact hW.1, va_K.moved hw.alike X.2.2.2.1, hW.2.1, X.2.2.2.2.warm hw⟩, hW.2.2.F ht⟩) hW.2.2.2.2 hdg X.2.2.1
theorem rt_v (X : Cx p m c meth cc nL s args own none G) (hW : Wo G s M H locs) {M' : Mm} (h : some M = some M') (hdg : decode cc pc = .ok (.return_, 1)) : W p l e R s m args below meth c H locs 0 0 (Qv below args s G M') (F0 m pc ls []) := by
  cases h
  exact W.vret X.1.1 X.1.2.1 X.2.1 (fun t ht hw => ⟨⟨M, rfl, rfl, by rw [ht]; exact hW.1, va_K.moved hw.alike X.2.2.2.1, hW.2.1, X.2.2.2.2.warm hw⟩, hW.2.2.F ht⟩) hW.2.2.2.2 hdg X.2.2.1
/-- fields -/
theorem bg_get (X : Cx p m c meth cc nL s args own ret G) (hW : Wo G s M H locs) {C : String} {T : u_T} {N ci index cN j : Nat} {fks : List (Option (Option Nat))} {fk : Option (Option Nat)} (hsh : sh[cN]? = some (.inr (.inl (ci, fks)))) (hin : ∀ w ∈ u_ws C T N, w ∈ gtbl) (hc : vwCl[ci]? = some (C, T, N)) (hj : j < N) (hlink : Cond.fieldLink own index C (T j).2.1 (T j).2.2.1 ∈ gtbl) (hC : (T j).1 = C) (hf : fks[j]? = some fk) (hdg : decode cc pc = .ok (.getfield index, 3))
    (kk : W p l e R s m args below meth c H locs cells slots Q (F0 m (pc + 3) ls (fkv G M cN j fk :: rest))) : W p l e R s m args below meth c H locs cells slots Q (F0 m pc ls (.ref (G.2.2.2 cN) :: rest)) :=
  va_get (D := G.1) (ci := ci) (v := fkv G M cN j fk) (C := C) (T := T) (N := N) (ref := C) X.1.1 X.1.2.1 X.1.2.2.2.2 hin X.1.2.2.2.1 X.2.2.2.1 hW.1 cN (wc_at hsh) hc j hj (X.1.2.2.2.2 _ hlink) (fun x h => hC ▸ h) (by rw [mp_get, hf]; simp only [Option.map_some, Nat.zero_add]) hdg kk
theorem bg_getN (X : Cx p m c meth cc nL s args own ret G) (hW : Wo G s M H locs) {C host : String} {T : u_T} {N ci index cN j : Nat} {fks : List (Option (Option Nat))} {fk : Option (Option Nat)} (hsh : sh[cN]? = some (.inr (.inl (ci, fks)))) (hin : ∀ w ∈ u_ws C T N, w ∈ gtbl) (hc : vwCl[ci]? = some (C, T, N)) (hj : j < N) (hlink : (own, index, C, (T j).2.1, (T j).2.2.1, host) ∈ nfs) (hC : (T j).1 = C) (hf : fks[j]? = some fk) (hdg : decode cc pc = .ok (.getfield index, 3))
    (kk : W p l e R s m args below meth c H locs cells slots Q (F0 m (pc + 3) ls (fkv G M cN j fk :: rest))) : W p l e R s m args below meth c H locs cells slots Q (F0 m pc ls (.ref (G.2.2.2 cN) :: rest)) :=
  va_getN (D := G.1) (ci := ci) (v := fkv G M cN j fk) (C := C) (T := T) (N := N) (ref := C) (host := host) X.1.1 X.1.2.1 X.1.2.2.2.2 hin X.1.2.2.2.1 X.2.2.2.1 hW.1 cN (wc_at hsh) hc j hj (va_Nw.use rfl (X.2.2.2.2.1 _ hlink)) (fun x h => hC ▸ h) (by rw [mp_get, hf]; simp only [Option.map_some, Nat.zero_add]) hdg kk
theorem bg_put (X : Cx p m c meth cc nL s args own ret G) (hW : Wo G s M H locs) {C : String} {T : u_T} {N ci index cN j : Nat} {fks : List (Option (Option Nat))} {v : Int32} (hsh : sh[cN]? = some (.inr (.inl (ci, fks)))) (hin : ∀ w ∈ u_ws C T N, w ∈ gtbl) (hc : vwCl[ci]? = some (C, T, N)) (ty0 : Nat → FieldType) (hty : ∀ k, k < N → parseFieldDescriptor (T k).2.2.1 = some (ty0 k)) (hnm : ∀ a, a < N → ∀ b, b < N → a ≠ b → (T a).2.1 ≠ (T b).2.1) (hj : j < N) (hlink : Cond.fieldLink own index C (T j).2.1 (T j).2.2.1 ∈ gtbl) (hC : (T j).1 = C) (hfin : (T j).2.2.2 = false) (hd : parseFieldDescriptor (T j).2.2.1 = some .int) (hf : fks[j]? = some none) (hdg : decode cc pc = .ok (.putfield index, 3))
    (kk : ∀ M1 : Mm, M1 = st M cN j v → ∀ (H1 : Heap) (locs1 : List Loc), Wo G s M1 H1 locs1 → W p l e R s m args below meth c H1 locs1 cells slots Q (F0 m (pc + 3) ls rest)) : W p l e R s m args below meth c H locs cells slots Q (F0 m pc ls (.int v :: .ref (G.2.2.2 cN) :: rest)) :=
  va_put (D := G.1) (ci := ci) (v := .int v) (ty := .int) (C := C) (T := T) (N := N) (ref := C) X.1.1 X.1.2.1 X.1.2.2.2.2 hin ty0 hty hnm X.1.2.2.2.1 X.2.2.2.1 hW.1 hW.2.1 hW.2.2 cN (wc_at hsh) hc j hj (X.1.2.2.2.2 _ hlink) (fun x h => hC ▸ h) hfin hd rfl rfl (by rw [mp_len]; exact (List.getElem?_eq_some_iff.mp hf).1) hdg (fun H1 locs1 hP hD hS => kk _ rfl H1 locs1 ⟨wc_st hsh hf ▸ hP, wc_st hsh hf ▸ hD, hS⟩)
theorem bg_putN (X : Cx p m c meth cc nL s args own ret G) (hW : Wo G s M H locs) {C host : String} {T : u_T} {N ci index cN j : Nat} {fks : List (Option (Option Nat))} {v : Int32} (hsh : sh[cN]? = some (.inr (.inl (ci, fks)))) (hin : ∀ w ∈ u_ws C T N, w ∈ gtbl) (hc : vwCl[ci]? = some (C, T, N)) (ty0 : Nat → FieldType) (hty : ∀ k, k < N → parseFieldDescriptor (T k).2.2.1 = some (ty0 k)) (hnm : ∀ a, a < N → ∀ b, b < N → a ≠ b → (T a).2.1 ≠ (T b).2.1) (hj : j < N) (hlink : (own, index, C, (T j).2.1, (T j).2.2.1, host) ∈ nfs) (hC : (T j).1 = C) (hfin : (T j).2.2.2 = false) (hd : parseFieldDescriptor (T j).2.2.1 = some .int) (hf : fks[j]? = some none) (hdg : decode cc pc = .ok (.putfield index, 3))
    (kk : ∀ M1 : Mm, M1 = st M cN j v → ∀ (H1 : Heap) (locs1 : List Loc), Wo G s M1 H1 locs1 → W p l e R s m args below meth c H1 locs1 cells slots Q (F0 m (pc + 3) ls rest)) : W p l e R s m args below meth c H locs cells slots Q (F0 m pc ls (.int v :: .ref (G.2.2.2 cN) :: rest)) :=
  va_putN (D := G.1) (ci := ci) (v := .int v) (ty := .int) (C := C) (T := T) (N := N) (ref := C) (host := host) X.1.1 X.1.2.1 X.1.2.2.2.2 hin ty0 hty hnm X.1.2.2.2.1 X.2.2.2.1 hW.1 hW.2.1 hW.2.2 cN (wc_at hsh) hc j hj (va_Nw.use rfl (X.2.2.2.2.1 _ hlink)) (fun x h => hC ▸ h) hfin hd rfl rfl (by rw [mp_len]; exact (List.getElem?_eq_some_iff.mp hf).1) hdg (fun H1 locs1 hP hD hS => kk _ rfl H1 locs1 ⟨wc_st hsh hf ▸ hP, wc_st hsh hf ▸ hD, hS⟩)
theorem bg_putL (X : Cx p m c meth cc nL s args own ret G) (hW : Wo G s M H locs) {C : String} {T : u_T} {N ci index cN j : Nat} {fks : List (Option (Option Nat))} {v : Int64} (hsh : sh[cN]? = some (.inr (.inl (ci, fks)))) (hin : ∀ w ∈ u_ws C T N, w ∈ gtbl) (hc : vwCl[ci]? = some (C, T, N)) (ty0 : Nat → FieldType) (hty : ∀ k, k < N → parseFieldDescriptor (T k).2.2.1 = some (ty0 k)) (hnm : ∀ a, a < N → ∀ b, b < N → a ≠ b → (T a).2.1 ≠ (T b).2.1) (hj : j < N) (hlink : Cond.fieldLink own index C (T j).2.1 (T j).2.2.1 ∈ gtbl) (hC : (T j).1 = C) (hfin : (T j).2.2.2 = false) (hd : parseFieldDescriptor (T j).2.2.1 = some .long) (hf : fks[j]? = some (some none)) (hdg : decode cc pc = .ok (.putfield index, 3))
    (kk : ∀ M1 : Mm, M1 = stl M cN j v → ∀ (H1 : Heap) (locs1 : List Loc), Wo G s M1 H1 locs1 → W p l e R s m args below meth c H1 locs1 cells slots Q (F0 m (pc + 3) ls rest)) : W p l e R s m args below meth c H locs cells slots Q (F0 m pc ls (.long v :: .ref (G.2.2.2 cN) :: rest)) :=
  va_put (D := G.1) (ci := ci) (v := .long v) (ty := .long) (C := C) (T := T) (N := N) (ref := C) X.1.1 X.1.2.1 X.1.2.2.2.2 hin ty0 hty hnm X.1.2.2.2.1 X.2.2.2.1 hW.1 hW.2.1 hW.2.2 cN (wc_at hsh) hc j hj (X.1.2.2.2.2 _ hlink) (fun x h => hC ▸ h) hfin hd rfl rfl (by rw [mp_len]; exact (List.getElem?_eq_some_iff.mp hf).1) hdg (fun H1 locs1 hP hD hS => kk _ rfl H1 locs1 ⟨wc_stl hsh hf ▸ hP, wc_stl hsh hf ▸ hD, hS⟩)
/-- rows -/
theorem bg_ald (X : Cx p m c meth cc nL s args own ret G) (hW : Wo G s M H locs) {cN n : Nat} {i : Int32} (hsh : sh[cN]? = some (.inl n)) (hin : vp_in i n) (hdg : decode cc pc = .ok (.iaload, 1))
    (kk : W p l e R s m args below meth c H locs cells slots Q (F0 m (pc + 1) ls (.int (M.1 cN i.toNatClampNeg) :: rest))) : W p l e R s m args below meth c H locs cells slots Q (F0 m pc ls (.int i :: .ref (G.2.2.2 cN) :: rest)) :=
  va_iald X.1.1 X.1.2.1 X.2.2.2.1 hW.1 cN 0 (wc_at hsh) rfl hin hdg kk
theorem bg_ast (X : Cx p m c meth cc nL s args own ret G) (hW : Wo G s M H locs) {cN n : Nat} {i x : Int32} (hsh : sh[cN]? = some (.inl n)) (hin : vp_in i n) (hdg : decode cc pc = .ok (.iastore, 1))
    (kk : ∀ M1 : Mm, M1 = st M cN i.toNatClampNeg x → ∀ (H1 : Heap) (locs1 : List Loc), Wo G s M1 H1 locs1 → W p l e R s m args below meth c H1 locs1 cells slots Q (F0 m (pc + 1) ls rest)) : W p l e R s m args below meth c H locs cells slots Q (F0 m pc ls (.int x :: .int i :: .ref (G.2.2.2 cN) :: rest)) :=
  va_iast X.1.1 X.1.2.1 X.2.2.2.1 hW.1 hW.2.1 hW.2.2 cN 0 (wc_at hsh) rfl hin hdg (fun H1 locs1 hP hD hS => kk _ rfl H1 locs1 ⟨wc_sa hsh ▸ hP, wc_sa hsh ▸ hD, hS⟩)
theorem bg_len (X : Cx p m c meth cc nL s args own ret G) (hW : Wo G s M H locs) {cN n : Nat} (hsh : sh[cN]? = some (.inl n)) (hdg : decode cc pc = .ok (.arraylength, 1))
    (kk : W p l e R s m args below meth c H locs cells slots Q (F0 m (pc + 1) ls (.int (nI n) :: rest))) : W p l e R s m args below meth c H locs cells slots Q (F0 m pc ls (.ref (G.2.2.2 cN) :: rest)) :=
  va_alen X.1.1 X.1.2.1 X.2.2.2.1 hW.1 cN 0 (wc_at hsh) (ty := .int) rfl rfl hdg kk
theorem bg_lenP (X : Cx p m c meth cc nL s args own ret G) (hW : Wo G s M H locs) (hdg : decode cc pc = .ok (.arraylength, 1))
    (kk : W p l e R s m args below meth c H locs cells slots Q (F0 m (pc + 1) ls (.int (nI 9) :: rest))) : W p l e R s m args below meth c H locs cells slots Q (F0 m pc ls (.ref (G.2.2.2 19) :: rest)) :=
  va_alen X.1.1 X.1.2.1 X.2.2.2.1 hW.1 19 1 (wc_at (k := .inr (.inr [20, 21, 22, 23, 24, 25, 26, 27, 28])) rfl) (ty := .object RX3) rfl rfl hdg kk
theorem pk_cell {i : Nat} (h : i < 9) : ([20, 21, 22, 23, 24, 25, 26, 27, 28] : List Nat)[i]? = some (20 + i) := by
  match i, h with
  | 0, _ => rfl
  | 1, _ => rfl
  | 2, _ => rfl
  | 3, _ => rfl
  | 4, _ => rfl
  | 5, _ => rfl
  | 6, _ => rfl
  | 7, _ => rfl
  | 8, _ => rfl
theorem pk_sh {i : Nat} (h : i < 9) : sh[20 + i]? = some skX3 := by
  match i, h with
  | 0, _ => rfl
  | 1, _ => rfl
  | 2, _ => rfl
  | 3, _ => rfl
  | 4, _ => rfl
  | 5, _ => rfl
  | 6, _ => rfl
  | 7, _ => rfl
  | 8, _ => rfl
theorem vp_lt {i : Int32} {n : Nat} (h : vp_in i n) : i.toNatClampNeg < n := Nat.not_le.mp fun q => h (Or.inr q)
theorem bg_aldP (X : Cx p m c meth cc nL s args own ret G) (hW : Wo G s M H locs) {i : Int32} (hin : vp_in i 9) (hdg : decode cc pc = .ok (.aaload, 1))
    (kk : W p l e R s m args below meth c H locs cells slots Q (F0 m (pc + 1) ls (.ref (G.2.2.2 (20 + i.toNatClampNeg)) :: rest))) : W p l e R s m args below meth c H locs cells slots Q (F0 m pc ls (.int i :: .ref (G.2.2.2 19) :: rest)) := by
  refine va_aldq X.1.1 X.1.2.1 X.2.2.2.1 hW.1 19 1 (wc_at (k := .inr (.inr [20, 21, 22, 23, 24, 25, 26, 27, 28])) rfl) rfl hin hdg ?_
  rw [pk_cell (vp_lt hin)]
  exact kk
/-- calls -/
theorem bg_calli (X : Cx p m c meth cc nL s args own ret G) (hW : Wo G s M H locs) {y : MethodName} {cc' : ByteArray} {nL' d index cN ci N n : Nat} {ret' : Option FieldType} {C : String} {T : u_T} {fks : List (Option (Option Nat))} {As st0 : List Value} {r : Int32} {M' : Mm} (hM : CTi l y cc' nL' ret' d G (.ref (G.2.2.2 cN) :: As) M r M') (hsh : sh[cN]? = some (.inr (.inl (ci, fks)))) (hc : vwCl[ci]? = some (C, T, N)) (hw : ∀ w ∈ wsV own index C y (.code y cc' nL' ret' :: gtbl), w ∈ gtbl) (hd : y.cls = C ∧ y.cls ≠ "java/lang/invoke/MethodHandle" ∧ y.cls ≠ "java/lang/invoke/VarHandle" ∧ (parseMethodDescriptor y.desc).map (fun d => d.parameters.length) = some n) (hn : As.length = n) (hst : st0 = As.reverse ++ .ref (G.2.2.2 cN) :: rest) (hR : d + 1 ≤ R.frames ∧ 8 + (nL' + 11) + 48 * d ≤ R.locals) (hcs : cells + 0 ≤ R.cells ∧ slots + 0 ≤ R.slots) (hl : ls.size = nL) (hr : (rest.map fun v => v.category).sum ≤ 8) (hdg : decode cc pc = .ok (.invokevirtual index, 3))
    (kk : ∀ (H1 : Heap) (locs1 : List Loc), Wo G s M' H1 locs1 → W p l e R s m args below meth c H1 locs1 cells slots Q (F0 m (pc + 3) ls (.int r :: rest))) : W p l e R s m args below meth c H locs cells slots Q (F0 m pc ls st0) := by
  subst hst
  refine va_calli (va_runV (As := As) (rest := rest) X.1 (hM H.size) (cwV n X.1.2.2.2.2 (gt_goodIn hw) rfl rfl rfl hd hR) ⟨Wd.blind, va_recv X.2.2.2.1 hW.1 hc (wc_at hsh), hW.pre X.2.2.2.1 X.2.2.2.2 _⟩ rfl hn hl rfl (lv_room hr) hdg hcs) hW.2.2 (fun q _ h => Aa.mono hW.2.2.1 h) (fun q h => Aa.mono hW.2.2.1 h) (fun r2 u t H1 locs1 ht hvm hw hB hz1 hk1 hS => ?_)
  obtain ⟨rfl, rfl⟩ := hw
  exact kk H1 locs1 (hW.post ht hB hS)
theorem bg_callv (X : Cx p m c meth cc nL s args own ret G) (hW : Wo G s M H locs) {y : MethodName} {cc' : ByteArray} {nL' d index cN ci N n : Nat} {C : String} {T : u_T} {fks : List (Option (Option Nat))} {As st0 : List Value} {M' : Mm} (hM : CTv l y cc' nL' d G (.ref (G.2.2.2 cN) :: As) M M') (hsh : sh[cN]? = some (.inr (.inl (ci, fks)))) (hc : vwCl[ci]? = some (C, T, N)) (hw : ∀ w ∈ wsV own index C y (.code y cc' nL' none :: gtbl), w ∈ gtbl) (hd : y.cls = C ∧ y.cls ≠ "java/lang/invoke/MethodHandle" ∧ y.cls ≠ "java/lang/invoke/VarHandle" ∧ (parseMethodDescriptor y.desc).map (fun d => d.parameters.length) = some n) (hn : As.length = n) (hst : st0 = As.reverse ++ .ref (G.2.2.2 cN) :: rest) (hR : d + 1 ≤ R.frames ∧ 8 + (nL' + 11) + 48 * d ≤ R.locals) (hcs : cells + 0 ≤ R.cells ∧ slots + 0 ≤ R.slots) (hl : ls.size = nL) (hr : (rest.map fun v => v.category).sum ≤ 8) (hdg : decode cc pc = .ok (.invokevirtual index, 3))
    (kk : ∀ (H1 : Heap) (locs1 : List Loc), Wo G s M' H1 locs1 → W p l e R s m args below meth c H1 locs1 cells slots Q (F0 m (pc + 3) ls rest)) : W p l e R s m args below meth c H locs cells slots Q (F0 m pc ls st0) := by
  subst hst
  refine va_callv (va_runV (As := As) (rest := rest) X.1 (hM H.size) (cwV n X.1.2.2.2.2 (gt_goodIn hw) rfl rfl rfl hd hR) ⟨Wd.blind, va_recv X.2.2.2.1 hW.1 hc (wc_at hsh), hW.pre X.2.2.2.1 X.2.2.2.2 _⟩ rfl hn hl rfl (lv_room hr) hdg hcs) hW.2.2 (fun q _ h => Aa.mono hW.2.2.1 h) (fun q h => Aa.mono hW.2.2.1 h) (fun u t H1 locs1 ht hvm hw hB hz1 hk1 hS => ?_)
  subst hw
  exact kk H1 locs1 (hW.post ht hB hS)
theorem bg_calls (X : Cx p m c meth cc nL s args own ret G) (hW : Wo G s M H locs) {y : MethodName} {cc' : ByteArray} {nL' d index n : Nat} {ret' : Option FieldType} {As st0 : List Value} {r : Int32} {M' : Mm} (hM : CTi l y cc' nL' ret' d G As M r M') (hw : ∀ w ∈ va_wsS own index y (.code y cc' nL' ret' :: gtbl), w ∈ gtbl) (hd : y.cls ≠ "java/lang/invoke/MethodHandle" ∧ y.cls ≠ "java/lang/invoke/VarHandle" ∧ (parseMethodDescriptor y.desc).map (fun d => d.parameters.length) = some n) (hn : As.length = n) (hst : st0 = As.reverse ++ rest) (hR : d + 1 ≤ R.frames ∧ 8 + (nL' + 11) + 48 * d ≤ R.locals) (hcs : cells + 0 ≤ R.cells ∧ slots + 0 ≤ R.slots) (hl : ls.size = nL) (hr : (rest.map fun v => v.category).sum ≤ 8) (hdg : decode cc pc = .ok (.invokestatic index, 3))
    (kk : ∀ (H1 : Heap) (locs1 : List Loc), Wo G s M' H1 locs1 → W p l e R s m args below meth c H1 locs1 cells slots Q (F0 m (pc + 3) ls (.int r :: rest))) : W p l e R s m args below meth c H locs cells slots Q (F0 m pc ls st0) := by
  subst hst
  refine va_calli (va_runS (As := As) (rest := rest) X.1 (hM H.size) (va_cwS n X.1.2.2.2.2 (gt_goodIn hw) rfl rfl rfl hd hR) ⟨Wd.blind, hW.pre X.2.2.2.1 X.2.2.2.2 _⟩ rfl hn hl rfl (lv_room hr) hdg hcs) hW.2.2 (fun q _ h => Aa.mono hW.2.2.1 h) (fun q h => Aa.mono hW.2.2.1 h) (fun r2 u t H1 locs1 ht hvm hw hB hz1 hk1 hS => ?_)
  obtain ⟨rfl, rfl⟩ := hw
  exact kk H1 locs1 (hW.post ht hB hS)
theorem ws_V {C : String} {y : MethodName} {index : Nat} {x : Cond} (h1 : Cond.methodLink own index y ∈ gtbl) (h2 : Cond.instanceMethod y ∈ gtbl) (h3 : Cond.selects C y y ∈ gtbl) (h4 : Cond.initialized C ∈ gtbl) (h5 : x ∈ gtbl) : ∀ w ∈ wsV own index C y (x :: gtbl), w ∈ gtbl := by
  intro w hw
  simp only [wsV, List.cons_append, List.nil_append, List.mem_cons] at hw
  rcases hw with rfl | rfl | rfl | rfl | rfl | hw <;> assumption
theorem ws_S {y : MethodName} {index : Nat} {x : Cond} (h1 : Cond.methodLink own index y ∈ gtbl) (h2 : Cond.static y ∈ gtbl) (h4 : Cond.initialized y.cls ∈ gtbl) (h5 : x ∈ gtbl) : ∀ w ∈ va_wsS own index y (x :: gtbl), w ∈ gtbl := by
  intro w hw
  simp only [va_wsS, List.cons_append, List.nil_append, List.mem_cons] at hw
  rcases hw with rfl | rfl | rfl | rfl | hw <;> assumption
/-- the library's own -/
theorem bg_max (X : Cx p m c meth cc nL s args own ret G) {index : Nat} {x y : Int32} (h1 : Cond.methodLink own index Lib.Math.max.name ∈ gtbl) (h2 : Cond.static Lib.Math.max.name ∈ gtbl) (h3 : Cond.initialized "java/lang/Math" ∈ gtbl) (h4 : Cond.code Lib.Math.max.name Lib.Math.max.code 2 (some .int) ∈ gtbl) (hl : ls.size = nL) (hf : 1 ≤ R.frames) (hr : (rest.map fun v => v.category).sum + 13 ≤ R.locals) (hcs : cells ≤ R.cells ∧ slots ≤ R.slots) (hdg : decode cc pc = .ok (.invokestatic index, 3))
    (kk : W p l e R s m args below meth c H locs cells slots Q (F0 m (pc + 3) ls (.int (if x < y then y else x) :: rest))) : W p l e R s m args below meth c H locs cells slots Q (F0 m pc ls (.int y :: .int x :: rest)) :=
  va_mmax X.1.1 X.1.2.1 (X.1.2.2.1.trans hl.symm) X.1.2.2.2.1 (X.1.2.2.2.2 _ h1) (X.1.2.2.2.2 _ h2) (X.1.2.2.2.2 _ h3) (X.1.2.2.2.2 _ h4) hf hr hcs.1 hcs.2 hdg kk
theorem bg_min (X : Cx p m c meth cc nL s args own ret G) {index : Nat} {x y : Int32} (h1 : Cond.methodLink own index Lib.Math.min.name ∈ gtbl) (h2 : Cond.static Lib.Math.min.name ∈ gtbl) (h3 : Cond.initialized "java/lang/Math" ∈ gtbl) (h4 : Cond.code Lib.Math.min.name Lib.Math.min.code 2 (some .int) ∈ gtbl) (hl : ls.size = nL) (hf : 1 ≤ R.frames) (hr : (rest.map fun v => v.category).sum + 13 ≤ R.locals) (hcs : cells ≤ R.cells ∧ slots ≤ R.slots) (hdg : decode cc pc = .ok (.invokestatic index, 3))
    (kk : W p l e R s m args below meth c H locs cells slots Q (F0 m (pc + 3) ls (.int (if y < x then y else x) :: rest))) : W p l e R s m args below meth c H locs cells slots Q (F0 m pc ls (.int y :: .int x :: rest)) :=
  va_mmin X.1.1 X.1.2.1 (X.1.2.2.1.trans hl.symm) X.1.2.2.2.1 (X.1.2.2.2.2 _ h1) (X.1.2.2.2.2 _ h2) (X.1.2.2.2.2 _ h3) (X.1.2.2.2.2 _ h4) hf hr hcs.1 hcs.2 hdg kk
/-- what System.arraycopy asks -/
def cp_bad (sp dp n : Int32) (n0 n1 : Nat) : Prop := sp < 0 ∨ dp < 0 ∨ n < 0 ∨ n0 < sp.toNatClampNeg + n.toNatClampNeg ∨ n1 < dp.toNatClampNeg + n.toNatClampNeg
theorem bg_copy (X : Cx p m c meth cc nL s args own ret G) (hW : Wo G s M H locs) {index c0 c1 n0 n1 : Nat} {sp dp n : Int32} (h1 : Cond.methodLink own index arraycopyName ∈ gtbl) (h2 : Cond.native arraycopyName ∈ gtbl) (h3 : Cond.static arraycopyName ∈ gtbl) (h4 : Cond.initialized "java/lang/System" ∈ gtbl) (hs0 : sh[c0]? = some (.inl n0)) (hs1 : sh[c1]? = some (.inl n1)) (hin : ¬ (sp < 0 ∨ dp < 0 ∨ n < 0 ∨ n0 < sp.toNatClampNeg + n.toNatClampNeg ∨ n1 < dp.toNatClampNeg + n.toNatClampNeg)) (hl : ls.size = nL) (hf : 1 ≤ R.frames) (hr : (rest.map fun v => v.category).sum + (nativeFrameWords "java/lang/System" "arraycopy" 5 + 11) ≤ R.locals) (hdg : decode cc pc = .ok (.invokestatic index, 3))
    (kk : ∀ M1 : Mm, M1 = sa M c1 (va_cpy (M.1 c0) (M.1 c1) sp.toNatClampNeg dp.toNatClampNeg n.toNatClampNeg) → ∀ (H1 : Heap) (locs1 : List Loc), Wo G s M1 H1 locs1 → W p l e R s m args below meth c H1 locs1 cells slots Q (F0 m (pc + 3) ls rest)) : W p l e R s m args below meth c H locs cells slots Q (F0 m pc ls (.int n :: .int dp :: .ref (G.2.2.2 c1) :: .int sp :: .ref (G.2.2.2 c0) :: rest)) := by
  simp only [not_or, Nat.not_lt] at hin
  obtain ⟨a1, a2, a3, a4, a5⟩ := hin
  exact va_copyi X.1.1 X.1.2.1 (X.1.2.2.1.trans hl.symm) X.1.2.2.2.1 (X.1.2.2.2.2 _ h1) (X.1.2.2.2.2 _ h2) (X.1.2.2.2.2 _ h3) (X.1.2.2.2.2 _ h4) X.2.2.2.1 hW.1 hW.2.1 hW.2.2 c0 c1 0 0 (wc_at hs0) (wc_at hs1) (ty := .int) rfl rfl rfl a1 a2 a3 a4 a5 (fun i _ => rfl) hf hr hdg (fun H1 locs1 hP hD hS => kk _ rfl H1 locs1 ⟨wc_sa hs1 ▸ hP, wc_sa hs1 ▸ hD, hS⟩)
end BK
end
