theorem lmw1 : Cond.initialized "BombFamilies" ∈ gtbl := gt_i 1 (by decide +kernel) rfl
theorem lmw9 : Cond.initialized "BombFamiliesModel" ∈ gtbl := gt_i 9 (by decide +kernel) rfl
theorem lmw220 : Cond.methodLink "BombFamiliesLaw" 23 ⟨"BombFamilies", "feed", "(IJ)I"⟩ ∈ gtbl := gt_i 220 (by decide +kernel) rfl
theorem lmw221 : Cond.instanceMethod ⟨"BombFamilies", "feed", "(IJ)I"⟩ ∈ gtbl := gt_i 221 (by decide +kernel) rfl
theorem lmw222 : Cond.selects "BombFamilies" ⟨"BombFamilies", "feed", "(IJ)I"⟩ ⟨"BombFamilies", "feed", "(IJ)I"⟩ ∈ gtbl := gt_i 222 (by decide +kernel) rfl
theorem lmw223 : Cond.code ⟨"BombFamilies", "feed", "(IJ)I"⟩ prog_1_method_2_code 5 (some .int) ∈ gtbl := gt_i 223 (by decide +kernel) rfl
theorem lmw228 : Cond.methodLink "BombFamiliesLaw" 28 ⟨"BombFamilies", "cut", "(I)I"⟩ ∈ gtbl := gt_i 228 (by decide +kernel) rfl
theorem lmw229 : Cond.instanceMethod ⟨"BombFamilies", "cut", "(I)I"⟩ ∈ gtbl := gt_i 229 (by decide +kernel) rfl
theorem lmw230 : Cond.selects "BombFamilies" ⟨"BombFamilies", "cut", "(I)I"⟩ ⟨"BombFamilies", "cut", "(I)I"⟩ ∈ gtbl := gt_i 230 (by decide +kernel) rfl
theorem lmw231 : Cond.code ⟨"BombFamilies", "cut", "(I)I"⟩ prog_1_method_3_code 3 (some .int) ∈ gtbl := gt_i 231 (by decide +kernel) rfl
theorem lmw239 : Cond.methodLink "BombFamiliesLaw" 33 ⟨"BombFamilies", "alter", "(II)I"⟩ ∈ gtbl := gt_i 239 (by decide +kernel) rfl
theorem lmw240 : Cond.instanceMethod ⟨"BombFamilies", "alter", "(II)I"⟩ ∈ gtbl := gt_i 240 (by decide +kernel) rfl
theorem lmw241 : Cond.selects "BombFamilies" ⟨"BombFamilies", "alter", "(II)I"⟩ ⟨"BombFamilies", "alter", "(II)I"⟩ ∈ gtbl := gt_i 241 (by decide +kernel) rfl
theorem lmw242 : Cond.code ⟨"BombFamilies", "alter", "(II)I"⟩ prog_1_method_4_code 4 (some .int) ∈ gtbl := gt_i 242 (by decide +kernel) rfl
theorem lmw251 : Cond.methodLink "BombFamiliesLaw" 38 ⟨"BombFamilies", "at", "(I)I"⟩ ∈ gtbl := gt_i 251 (by decide +kernel) rfl
theorem lmw252 : Cond.instanceMethod ⟨"BombFamilies", "at", "(I)I"⟩ ∈ gtbl := gt_i 252 (by decide +kernel) rfl
theorem lmw253 : Cond.selects "BombFamilies" ⟨"BombFamilies", "at", "(I)I"⟩ ⟨"BombFamilies", "at", "(I)I"⟩ ∈ gtbl := gt_i 253 (by decide +kernel) rfl
theorem lmw254 : Cond.code ⟨"BombFamilies", "at", "(I)I"⟩ prog_1_method_5_code 2 (some .int) ∈ gtbl := gt_i 254 (by decide +kernel) rfl
theorem lmw255 : Cond.methodLink "BombFamiliesLaw" 42 ⟨"BombFamilies", "mend", "()I"⟩ ∈ gtbl := gt_i 255 (by decide +kernel) rfl
theorem lmw256 : Cond.instanceMethod ⟨"BombFamilies", "mend", "()I"⟩ ∈ gtbl := gt_i 256 (by decide +kernel) rfl
theorem lmw257 : Cond.selects "BombFamilies" ⟨"BombFamilies", "mend", "()I"⟩ ⟨"BombFamilies", "mend", "()I"⟩ ∈ gtbl := gt_i 257 (by decide +kernel) rfl
theorem lmw258 : Cond.code ⟨"BombFamilies", "mend", "()I"⟩ prog_1_method_6_code 3 (some .int) ∈ gtbl := gt_i 258 (by decide +kernel) rfl
theorem lmw263 : Cond.methodLink "BombFamiliesLaw" 47 ⟨"BombFamilies", "draw", "(II)I"⟩ ∈ gtbl := gt_i 263 (by decide +kernel) rfl
theorem lmw264 : Cond.instanceMethod ⟨"BombFamilies", "draw", "(II)I"⟩ ∈ gtbl := gt_i 264 (by decide +kernel) rfl
theorem lmw265 : Cond.selects "BombFamilies" ⟨"BombFamilies", "draw", "(II)I"⟩ ⟨"BombFamilies", "draw", "(II)I"⟩ ∈ gtbl := gt_i 265 (by decide +kernel) rfl
theorem lmw266 : Cond.code ⟨"BombFamilies", "draw", "(II)I"⟩ prog_1_method_7_code 3 (some .int) ∈ gtbl := gt_i 266 (by decide +kernel) rfl
theorem lmw358 : Cond.methodLink "BombFamiliesLaw" 51 ⟨"BombFamilies", "open", "(III)I"⟩ ∈ gtbl := gt_i 358 (by decide +kernel) rfl
theorem lmw359 : Cond.instanceMethod ⟨"BombFamilies", "open", "(III)I"⟩ ∈ gtbl := gt_i 359 (by decide +kernel) rfl
theorem lmw360 : Cond.selects "BombFamilies" ⟨"BombFamilies", "open", "(III)I"⟩ ⟨"BombFamilies", "open", "(III)I"⟩ ∈ gtbl := gt_i 360 (by decide +kernel) rfl
theorem lmw361 : Cond.code ⟨"BombFamilies", "open", "(III)I"⟩ prog_1_method_8_code 5 (some .int) ∈ gtbl := gt_i 361 (by decide +kernel) rfl
theorem lmw480 : Cond.methodLink "BombFamiliesLaw" 56 ⟨"BombFamilies", "place", "()I"⟩ ∈ gtbl := gt_i 480 (by decide +kernel) rfl
theorem lmw481 : Cond.instanceMethod ⟨"BombFamilies", "place", "()I"⟩ ∈ gtbl := gt_i 481 (by decide +kernel) rfl
theorem lmw482 : Cond.selects "BombFamilies" ⟨"BombFamilies", "place", "()I"⟩ ⟨"BombFamilies", "place", "()I"⟩ ∈ gtbl := gt_i 482 (by decide +kernel) rfl
theorem lmw483 : Cond.code ⟨"BombFamilies", "place", "()I"⟩ prog_1_method_9_code 1 (some .int) ∈ gtbl := gt_i 483 (by decide +kernel) rfl
theorem lmw484 : Cond.methodLink "BombFamiliesLaw" 60 ⟨"BombFamilies", "out", "(I)I"⟩ ∈ gtbl := gt_i 484 (by decide +kernel) rfl
theorem lmw485 : Cond.instanceMethod ⟨"BombFamilies", "out", "(I)I"⟩ ∈ gtbl := gt_i 485 (by decide +kernel) rfl
theorem lmw486 : Cond.selects "BombFamilies" ⟨"BombFamilies", "out", "(I)I"⟩ ⟨"BombFamilies", "out", "(I)I"⟩ ∈ gtbl := gt_i 486 (by decide +kernel) rfl
theorem lmw487 : Cond.code ⟨"BombFamilies", "out", "(I)I"⟩ prog_1_method_10_code 2 (some .int) ∈ gtbl := gt_i 487 (by decide +kernel) rfl
theorem lmw488 : Cond.methodLink "BombFamiliesLaw" 64 ⟨"BombFamilies", "item", "(II)I"⟩ ∈ gtbl := gt_i 488 (by decide +kernel) rfl
theorem lmw489 : Cond.instanceMethod ⟨"BombFamilies", "item", "(II)I"⟩ ∈ gtbl := gt_i 489 (by decide +kernel) rfl
theorem lmw490 : Cond.selects "BombFamilies" ⟨"BombFamilies", "item", "(II)I"⟩ ⟨"BombFamilies", "item", "(II)I"⟩ ∈ gtbl := gt_i 490 (by decide +kernel) rfl
theorem lmw491 : Cond.code ⟨"BombFamilies", "item", "(II)I"⟩ prog_1_method_11_code 3 (some .int) ∈ gtbl := gt_i 491 (by decide +kernel) rfl
theorem lmw496 : Cond.methodLink "BombFamiliesLaw" 68 ⟨"BombFamilies", "shrink", "(III)I"⟩ ∈ gtbl := gt_i 496 (by decide +kernel) rfl
theorem lmw497 : Cond.instanceMethod ⟨"BombFamilies", "shrink", "(III)I"⟩ ∈ gtbl := gt_i 497 (by decide +kernel) rfl
theorem lmw498 : Cond.selects "BombFamilies" ⟨"BombFamilies", "shrink", "(III)I"⟩ ⟨"BombFamilies", "shrink", "(III)I"⟩ ∈ gtbl := gt_i 498 (by decide +kernel) rfl
theorem lmw499 : Cond.code ⟨"BombFamilies", "shrink", "(III)I"⟩ prog_1_method_12_code 8 (some .int) ∈ gtbl := gt_i 499 (by decide +kernel) rfl
theorem lmw517 : Cond.methodLink "BombFamiliesLaw" 72 ⟨"BombFamilies", "count", "(I)I"⟩ ∈ gtbl := gt_i 517 (by decide +kernel) rfl
theorem lmw518 : Cond.instanceMethod ⟨"BombFamilies", "count", "(I)I"⟩ ∈ gtbl := gt_i 518 (by decide +kernel) rfl
theorem lmw519 : Cond.selects "BombFamilies" ⟨"BombFamilies", "count", "(I)I"⟩ ⟨"BombFamilies", "count", "(I)I"⟩ ∈ gtbl := gt_i 519 (by decide +kernel) rfl
theorem lmw520 : Cond.code ⟨"BombFamilies", "count", "(I)I"⟩ prog_1_method_13_code 2 (some .int) ∈ gtbl := gt_i 520 (by decide +kernel) rfl
theorem lmw624 : Cond.methodLink "BombFamiliesLaw" 27 ⟨"BombFamiliesModel", "feed", "(IJ)I"⟩ ∈ gtbl := gt_i 624 (by decide +kernel) rfl
theorem lmw625 : Cond.instanceMethod ⟨"BombFamiliesModel", "feed", "(IJ)I"⟩ ∈ gtbl := gt_i 625 (by decide +kernel) rfl
theorem lmw626 : Cond.selects "BombFamiliesModel" ⟨"BombFamiliesModel", "feed", "(IJ)I"⟩ ⟨"BombFamiliesModel", "feed", "(IJ)I"⟩ ∈ gtbl := gt_i 626 (by decide +kernel) rfl
theorem lmw627 : Cond.code ⟨"BombFamiliesModel", "feed", "(IJ)I"⟩ prog_9_method_3_code 5 (some .int) ∈ gtbl := gt_i 627 (by decide +kernel) rfl
theorem lmw637 : Cond.methodLink "BombFamiliesLaw" 32 ⟨"BombFamiliesModel", "cut", "(I)I"⟩ ∈ gtbl := gt_i 637 (by decide +kernel) rfl
theorem lmw638 : Cond.instanceMethod ⟨"BombFamiliesModel", "cut", "(I)I"⟩ ∈ gtbl := gt_i 638 (by decide +kernel) rfl
theorem lmw639 : Cond.selects "BombFamiliesModel" ⟨"BombFamiliesModel", "cut", "(I)I"⟩ ⟨"BombFamiliesModel", "cut", "(I)I"⟩ ∈ gtbl := gt_i 639 (by decide +kernel) rfl
theorem lmw640 : Cond.code ⟨"BombFamiliesModel", "cut", "(I)I"⟩ prog_9_method_5_code 3 (some .int) ∈ gtbl := gt_i 640 (by decide +kernel) rfl
theorem lmw641 : Cond.methodLink "BombFamiliesLaw" 37 ⟨"BombFamiliesModel", "alter", "(II)I"⟩ ∈ gtbl := gt_i 641 (by decide +kernel) rfl
theorem lmw642 : Cond.instanceMethod ⟨"BombFamiliesModel", "alter", "(II)I"⟩ ∈ gtbl := gt_i 642 (by decide +kernel) rfl
theorem lmw643 : Cond.selects "BombFamiliesModel" ⟨"BombFamiliesModel", "alter", "(II)I"⟩ ⟨"BombFamiliesModel", "alter", "(II)I"⟩ ∈ gtbl := gt_i 643 (by decide +kernel) rfl
theorem lmw644 : Cond.code ⟨"BombFamiliesModel", "alter", "(II)I"⟩ prog_9_method_6_code 4 (some .int) ∈ gtbl := gt_i 644 (by decide +kernel) rfl
theorem lmw645 : Cond.methodLink "BombFamiliesLaw" 41 ⟨"BombFamiliesModel", "at", "(I)I"⟩ ∈ gtbl := gt_i 645 (by decide +kernel) rfl
theorem lmw646 : Cond.instanceMethod ⟨"BombFamiliesModel", "at", "(I)I"⟩ ∈ gtbl := gt_i 646 (by decide +kernel) rfl
theorem lmw647 : Cond.selects "BombFamiliesModel" ⟨"BombFamiliesModel", "at", "(I)I"⟩ ⟨"BombFamiliesModel", "at", "(I)I"⟩ ∈ gtbl := gt_i 647 (by decide +kernel) rfl
theorem lmw648 : Cond.code ⟨"BombFamiliesModel", "at", "(I)I"⟩ prog_9_method_7_code 2 (some .int) ∈ gtbl := gt_i 648 (by decide +kernel) rfl
theorem lmw649 : Cond.methodLink "BombFamiliesLaw" 46 ⟨"BombFamiliesModel", "mend", "()I"⟩ ∈ gtbl := gt_i 649 (by decide +kernel) rfl
theorem lmw650 : Cond.instanceMethod ⟨"BombFamiliesModel", "mend", "()I"⟩ ∈ gtbl := gt_i 650 (by decide +kernel) rfl
theorem lmw651 : Cond.selects "BombFamiliesModel" ⟨"BombFamiliesModel", "mend", "()I"⟩ ⟨"BombFamiliesModel", "mend", "()I"⟩ ∈ gtbl := gt_i 651 (by decide +kernel) rfl
theorem lmw652 : Cond.code ⟨"BombFamiliesModel", "mend", "()I"⟩ prog_9_method_9_code 1 (some .int) ∈ gtbl := gt_i 652 (by decide +kernel) rfl
theorem lmw657 : Cond.methodLink "BombFamiliesLaw" 50 ⟨"BombFamiliesModel", "draw", "(II)I"⟩ ∈ gtbl := gt_i 657 (by decide +kernel) rfl
theorem lmw658 : Cond.instanceMethod ⟨"BombFamiliesModel", "draw", "(II)I"⟩ ∈ gtbl := gt_i 658 (by decide +kernel) rfl
theorem lmw659 : Cond.selects "BombFamiliesModel" ⟨"BombFamiliesModel", "draw", "(II)I"⟩ ⟨"BombFamiliesModel", "draw", "(II)I"⟩ ∈ gtbl := gt_i 659 (by decide +kernel) rfl
theorem lmw660 : Cond.code ⟨"BombFamiliesModel", "draw", "(II)I"⟩ prog_9_method_17_code 4 (some .int) ∈ gtbl := gt_i 660 (by decide +kernel) rfl
theorem lmw693 : Cond.methodLink "BombFamiliesLaw" 55 ⟨"BombFamiliesModel", "open", "(III)I"⟩ ∈ gtbl := gt_i 693 (by decide +kernel) rfl
theorem lmw694 : Cond.instanceMethod ⟨"BombFamiliesModel", "open", "(III)I"⟩ ∈ gtbl := gt_i 694 (by decide +kernel) rfl
theorem lmw695 : Cond.selects "BombFamiliesModel" ⟨"BombFamiliesModel", "open", "(III)I"⟩ ⟨"BombFamiliesModel", "open", "(III)I"⟩ ∈ gtbl := gt_i 695 (by decide +kernel) rfl
theorem lmw696 : Cond.code ⟨"BombFamiliesModel", "open", "(III)I"⟩ prog_9_method_34_code 4 (some .int) ∈ gtbl := gt_i 696 (by decide +kernel) rfl
theorem lmw762 : Cond.methodLink "BombFamiliesLaw" 59 ⟨"BombFamiliesModel", "place", "()I"⟩ ∈ gtbl := gt_i 762 (by decide +kernel) rfl
theorem lmw763 : Cond.instanceMethod ⟨"BombFamiliesModel", "place", "()I"⟩ ∈ gtbl := gt_i 763 (by decide +kernel) rfl
theorem lmw764 : Cond.selects "BombFamiliesModel" ⟨"BombFamiliesModel", "place", "()I"⟩ ⟨"BombFamiliesModel", "place", "()I"⟩ ∈ gtbl := gt_i 764 (by decide +kernel) rfl
theorem lmw765 : Cond.code ⟨"BombFamiliesModel", "place", "()I"⟩ prog_9_method_35_code 1 (some .int) ∈ gtbl := gt_i 765 (by decide +kernel) rfl
theorem lmw766 : Cond.methodLink "BombFamiliesLaw" 63 ⟨"BombFamiliesModel", "out", "(I)I"⟩ ∈ gtbl := gt_i 766 (by decide +kernel) rfl
theorem lmw767 : Cond.instanceMethod ⟨"BombFamiliesModel", "out", "(I)I"⟩ ∈ gtbl := gt_i 767 (by decide +kernel) rfl
theorem lmw768 : Cond.selects "BombFamiliesModel" ⟨"BombFamiliesModel", "out", "(I)I"⟩ ⟨"BombFamiliesModel", "out", "(I)I"⟩ ∈ gtbl := gt_i 768 (by decide +kernel) rfl
theorem lmw769 : Cond.code ⟨"BombFamiliesModel", "out", "(I)I"⟩ prog_9_method_36_code 2 (some .int) ∈ gtbl := gt_i 769 (by decide +kernel) rfl
theorem lmw770 : Cond.methodLink "BombFamiliesLaw" 67 ⟨"BombFamiliesModel", "item", "(II)I"⟩ ∈ gtbl := gt_i 770 (by decide +kernel) rfl
theorem lmw771 : Cond.instanceMethod ⟨"BombFamiliesModel", "item", "(II)I"⟩ ∈ gtbl := gt_i 771 (by decide +kernel) rfl
theorem lmw772 : Cond.selects "BombFamiliesModel" ⟨"BombFamiliesModel", "item", "(II)I"⟩ ⟨"BombFamiliesModel", "item", "(II)I"⟩ ∈ gtbl := gt_i 772 (by decide +kernel) rfl
theorem lmw773 : Cond.code ⟨"BombFamiliesModel", "item", "(II)I"⟩ prog_9_method_37_code 3 (some .int) ∈ gtbl := gt_i 773 (by decide +kernel) rfl
theorem lmw774 : Cond.methodLink "BombFamiliesLaw" 71 ⟨"BombFamiliesModel", "shrink", "(III)I"⟩ ∈ gtbl := gt_i 774 (by decide +kernel) rfl
theorem lmw775 : Cond.instanceMethod ⟨"BombFamiliesModel", "shrink", "(III)I"⟩ ∈ gtbl := gt_i 775 (by decide +kernel) rfl
theorem lmw776 : Cond.selects "BombFamiliesModel" ⟨"BombFamiliesModel", "shrink", "(III)I"⟩ ⟨"BombFamiliesModel", "shrink", "(III)I"⟩ ∈ gtbl := gt_i 776 (by decide +kernel) rfl
theorem lmw777 : Cond.code ⟨"BombFamiliesModel", "shrink", "(III)I"⟩ prog_9_method_38_code 12 (some .int) ∈ gtbl := gt_i 777 (by decide +kernel) rfl
theorem lmw778 : Cond.methodLink "BombFamiliesLaw" 75 ⟨"BombFamiliesModel", "count", "(I)I"⟩ ∈ gtbl := gt_i 778 (by decide +kernel) rfl
theorem lmw779 : Cond.instanceMethod ⟨"BombFamiliesModel", "count", "(I)I"⟩ ∈ gtbl := gt_i 779 (by decide +kernel) rfl
theorem lmw780 : Cond.selects "BombFamiliesModel" ⟨"BombFamiliesModel", "count", "(I)I"⟩ ⟨"BombFamiliesModel", "count", "(I)I"⟩ ∈ gtbl := gt_i 780 (by decide +kernel) rfl
theorem lmw781 : Cond.code ⟨"BombFamiliesModel", "count", "(I)I"⟩ prog_9_method_39_code 2 (some .int) ∈ gtbl := gt_i 781 (by decide +kernel) rfl
theorem lmw782 : Cond.constantLong "BombFamiliesLaw" 21 4294967295 ∈ gtbl := gt_i 782 (by decide +kernel) rfl
theorem lkd_X6_alter : yX6_alter.cls = RX6 ∧ yX6_alter.cls ≠ "java/lang/invoke/MethodHandle" ∧ yX6_alter.cls ≠ "java/lang/invoke/VarHandle" ∧ (parseMethodDescriptor yX6_alter.desc).map (fun d => d.parameters.length) = some 2 := by decide +kernel
theorem lkd_X6_at : yX6_at.cls = RX6 ∧ yX6_at.cls ≠ "java/lang/invoke/MethodHandle" ∧ yX6_at.cls ≠ "java/lang/invoke/VarHandle" ∧ (parseMethodDescriptor yX6_at.desc).map (fun d => d.parameters.length) = some 1 := by decide +kernel
theorem lkd_X6_count : yX6_count.cls = RX6 ∧ yX6_count.cls ≠ "java/lang/invoke/MethodHandle" ∧ yX6_count.cls ≠ "java/lang/invoke/VarHandle" ∧ (parseMethodDescriptor yX6_count.desc).map (fun d => d.parameters.length) = some 1 := by decide +kernel
theorem lkd_X6_cut : yX6_cut.cls = RX6 ∧ yX6_cut.cls ≠ "java/lang/invoke/MethodHandle" ∧ yX6_cut.cls ≠ "java/lang/invoke/VarHandle" ∧ (parseMethodDescriptor yX6_cut.desc).map (fun d => d.parameters.length) = some 1 := by decide +kernel
theorem lkd_X6_draw : yX6_draw.cls = RX6 ∧ yX6_draw.cls ≠ "java/lang/invoke/MethodHandle" ∧ yX6_draw.cls ≠ "java/lang/invoke/VarHandle" ∧ (parseMethodDescriptor yX6_draw.desc).map (fun d => d.parameters.length) = some 2 := by decide +kernel
theorem lkd_X6_feed : yX6_feed.cls = RX6 ∧ yX6_feed.cls ≠ "java/lang/invoke/MethodHandle" ∧ yX6_feed.cls ≠ "java/lang/invoke/VarHandle" ∧ (parseMethodDescriptor yX6_feed.desc).map (fun d => d.parameters.length) = some 2 := by decide +kernel
theorem lkd_X6_item : yX6_item.cls = RX6 ∧ yX6_item.cls ≠ "java/lang/invoke/MethodHandle" ∧ yX6_item.cls ≠ "java/lang/invoke/VarHandle" ∧ (parseMethodDescriptor yX6_item.desc).map (fun d => d.parameters.length) = some 2 := by decide +kernel
theorem lkd_X6_mend : yX6_mend.cls = RX6 ∧ yX6_mend.cls ≠ "java/lang/invoke/MethodHandle" ∧ yX6_mend.cls ≠ "java/lang/invoke/VarHandle" ∧ (parseMethodDescriptor yX6_mend.desc).map (fun d => d.parameters.length) = some 0 := by decide +kernel
theorem lkd_X6_open : yX6_open.cls = RX6 ∧ yX6_open.cls ≠ "java/lang/invoke/MethodHandle" ∧ yX6_open.cls ≠ "java/lang/invoke/VarHandle" ∧ (parseMethodDescriptor yX6_open.desc).map (fun d => d.parameters.length) = some 3 := by decide +kernel
theorem lkd_X6_out : yX6_out.cls = RX6 ∧ yX6_out.cls ≠ "java/lang/invoke/MethodHandle" ∧ yX6_out.cls ≠ "java/lang/invoke/VarHandle" ∧ (parseMethodDescriptor yX6_out.desc).map (fun d => d.parameters.length) = some 1 := by decide +kernel
theorem lkd_X6_place : yX6_place.cls = RX6 ∧ yX6_place.cls ≠ "java/lang/invoke/MethodHandle" ∧ yX6_place.cls ≠ "java/lang/invoke/VarHandle" ∧ (parseMethodDescriptor yX6_place.desc).map (fun d => d.parameters.length) = some 0 := by decide +kernel
theorem lkd_X6_shrink : yX6_shrink.cls = RX6 ∧ yX6_shrink.cls ≠ "java/lang/invoke/MethodHandle" ∧ yX6_shrink.cls ≠ "java/lang/invoke/VarHandle" ∧ (parseMethodDescriptor yX6_shrink.desc).map (fun d => d.parameters.length) = some 3 := by decide +kernel
theorem lkd_X7_alter : yX7_alter.cls = RX7 ∧ yX7_alter.cls ≠ "java/lang/invoke/MethodHandle" ∧ yX7_alter.cls ≠ "java/lang/invoke/VarHandle" ∧ (parseMethodDescriptor yX7_alter.desc).map (fun d => d.parameters.length) = some 2 := by decide +kernel
theorem lkd_X7_at : yX7_at.cls = RX7 ∧ yX7_at.cls ≠ "java/lang/invoke/MethodHandle" ∧ yX7_at.cls ≠ "java/lang/invoke/VarHandle" ∧ (parseMethodDescriptor yX7_at.desc).map (fun d => d.parameters.length) = some 1 := by decide +kernel
theorem lkd_X7_count : yX7_count.cls = RX7 ∧ yX7_count.cls ≠ "java/lang/invoke/MethodHandle" ∧ yX7_count.cls ≠ "java/lang/invoke/VarHandle" ∧ (parseMethodDescriptor yX7_count.desc).map (fun d => d.parameters.length) = some 1 := by decide +kernel
theorem lkd_X7_cut : yX7_cut.cls = RX7 ∧ yX7_cut.cls ≠ "java/lang/invoke/MethodHandle" ∧ yX7_cut.cls ≠ "java/lang/invoke/VarHandle" ∧ (parseMethodDescriptor yX7_cut.desc).map (fun d => d.parameters.length) = some 1 := by decide +kernel
theorem lkd_X7_draw : yX7_draw.cls = RX7 ∧ yX7_draw.cls ≠ "java/lang/invoke/MethodHandle" ∧ yX7_draw.cls ≠ "java/lang/invoke/VarHandle" ∧ (parseMethodDescriptor yX7_draw.desc).map (fun d => d.parameters.length) = some 2 := by decide +kernel
theorem lkd_X7_feed : yX7_feed.cls = RX7 ∧ yX7_feed.cls ≠ "java/lang/invoke/MethodHandle" ∧ yX7_feed.cls ≠ "java/lang/invoke/VarHandle" ∧ (parseMethodDescriptor yX7_feed.desc).map (fun d => d.parameters.length) = some 2 := by decide +kernel
theorem lkd_X7_item_ : yX7_item_.cls = RX7 ∧ yX7_item_.cls ≠ "java/lang/invoke/MethodHandle" ∧ yX7_item_.cls ≠ "java/lang/invoke/VarHandle" ∧ (parseMethodDescriptor yX7_item_.desc).map (fun d => d.parameters.length) = some 2 := by decide +kernel
theorem lkd_X7_mend : yX7_mend.cls = RX7 ∧ yX7_mend.cls ≠ "java/lang/invoke/MethodHandle" ∧ yX7_mend.cls ≠ "java/lang/invoke/VarHandle" ∧ (parseMethodDescriptor yX7_mend.desc).map (fun d => d.parameters.length) = some 0 := by decide +kernel
theorem lkd_X7_open : yX7_open.cls = RX7 ∧ yX7_open.cls ≠ "java/lang/invoke/MethodHandle" ∧ yX7_open.cls ≠ "java/lang/invoke/VarHandle" ∧ (parseMethodDescriptor yX7_open.desc).map (fun d => d.parameters.length) = some 3 := by decide +kernel
theorem lkd_X7_out : yX7_out.cls = RX7 ∧ yX7_out.cls ≠ "java/lang/invoke/MethodHandle" ∧ yX7_out.cls ≠ "java/lang/invoke/VarHandle" ∧ (parseMethodDescriptor yX7_out.desc).map (fun d => d.parameters.length) = some 1 := by decide +kernel
theorem lkd_X7_place : yX7_place.cls = RX7 ∧ yX7_place.cls ≠ "java/lang/invoke/MethodHandle" ∧ yX7_place.cls ≠ "java/lang/invoke/VarHandle" ∧ (parseMethodDescriptor yX7_place.desc).map (fun d => d.parameters.length) = some 0 := by decide +kernel
theorem lkd_X7_shrink : yX7_shrink.cls = RX7 ∧ yX7_shrink.cls ≠ "java/lang/invoke/MethodHandle" ∧ yX7_shrink.cls ≠ "java/lang/invoke/VarHandle" ∧ (parseMethodDescriptor yX7_shrink.desc).map (fun d => d.parameters.length) = some 3 := by decide +kernel
theorem kwL_23 : ∀ w ∈ wsV RL 23 RX6 yX6_feed (Cond.code yX6_feed cX6_feed 5 (some .int) :: gtbl), w ∈ gtbl := ws_V lmw220 lmw221 lmw222 lmw1 lmw223
theorem kwL_27 : ∀ w ∈ wsV RL 27 RX7 yX7_feed (Cond.code yX7_feed cX7_feed 5 (some .int) :: gtbl), w ∈ gtbl := ws_V lmw624 lmw625 lmw626 lmw9 lmw627
theorem kwL_28 : ∀ w ∈ wsV RL 28 RX6 yX6_cut (Cond.code yX6_cut cX6_cut 3 (some .int) :: gtbl), w ∈ gtbl := ws_V lmw228 lmw229 lmw230 lmw1 lmw231
theorem kwL_32 : ∀ w ∈ wsV RL 32 RX7 yX7_cut (Cond.code yX7_cut cX7_cut 3 (some .int) :: gtbl), w ∈ gtbl := ws_V lmw637 lmw638 lmw639 lmw9 lmw640
theorem kwL_33 : ∀ w ∈ wsV RL 33 RX6 yX6_alter (Cond.code yX6_alter cX6_alter 4 (some .int) :: gtbl), w ∈ gtbl := ws_V lmw239 lmw240 lmw241 lmw1 lmw242
theorem kwL_37 : ∀ w ∈ wsV RL 37 RX7 yX7_alter (Cond.code yX7_alter cX7_alter 4 (some .int) :: gtbl), w ∈ gtbl := ws_V lmw641 lmw642 lmw643 lmw9 lmw644
theorem kwL_38 : ∀ w ∈ wsV RL 38 RX6 yX6_at (Cond.code yX6_at cX6_at 2 (some .int) :: gtbl), w ∈ gtbl := ws_V lmw251 lmw252 lmw253 lmw1 lmw254
theorem kwL_41 : ∀ w ∈ wsV RL 41 RX7 yX7_at (Cond.code yX7_at cX7_at 2 (some .int) :: gtbl), w ∈ gtbl := ws_V lmw645 lmw646 lmw647 lmw9 lmw648
theorem kwL_42 : ∀ w ∈ wsV RL 42 RX6 yX6_mend (Cond.code yX6_mend cX6_mend 3 (some .int) :: gtbl), w ∈ gtbl := ws_V lmw255 lmw256 lmw257 lmw1 lmw258
theorem kwL_46 : ∀ w ∈ wsV RL 46 RX7 yX7_mend (Cond.code yX7_mend cX7_mend 1 (some .int) :: gtbl), w ∈ gtbl := ws_V lmw649 lmw650 lmw651 lmw9 lmw652
theorem kwL_47 : ∀ w ∈ wsV RL 47 RX6 yX6_draw (Cond.code yX6_draw cX6_draw 3 (some .int) :: gtbl), w ∈ gtbl := ws_V lmw263 lmw264 lmw265 lmw1 lmw266
theorem kwL_50 : ∀ w ∈ wsV RL 50 RX7 yX7_draw (Cond.code yX7_draw cX7_draw 4 (some .int) :: gtbl), w ∈ gtbl := ws_V lmw657 lmw658 lmw659 lmw9 lmw660
theorem kwL_51 : ∀ w ∈ wsV RL 51 RX6 yX6_open (Cond.code yX6_open cX6_open 5 (some .int) :: gtbl), w ∈ gtbl := ws_V lmw358 lmw359 lmw360 lmw1 lmw361
theorem kwL_55 : ∀ w ∈ wsV RL 55 RX7 yX7_open (Cond.code yX7_open cX7_open 4 (some .int) :: gtbl), w ∈ gtbl := ws_V lmw693 lmw694 lmw695 lmw9 lmw696
theorem kwL_56 : ∀ w ∈ wsV RL 56 RX6 yX6_place (Cond.code yX6_place cX6_place 1 (some .int) :: gtbl), w ∈ gtbl := ws_V lmw480 lmw481 lmw482 lmw1 lmw483
theorem kwL_59 : ∀ w ∈ wsV RL 59 RX7 yX7_place (Cond.code yX7_place cX7_place 1 (some .int) :: gtbl), w ∈ gtbl := ws_V lmw762 lmw763 lmw764 lmw9 lmw765
theorem kwL_60 : ∀ w ∈ wsV RL 60 RX6 yX6_out (Cond.code yX6_out cX6_out 2 (some .int) :: gtbl), w ∈ gtbl := ws_V lmw484 lmw485 lmw486 lmw1 lmw487
theorem kwL_63 : ∀ w ∈ wsV RL 63 RX7 yX7_out (Cond.code yX7_out cX7_out 2 (some .int) :: gtbl), w ∈ gtbl := ws_V lmw766 lmw767 lmw768 lmw9 lmw769
theorem kwL_64 : ∀ w ∈ wsV RL 64 RX6 yX6_item (Cond.code yX6_item cX6_item 3 (some .int) :: gtbl), w ∈ gtbl := ws_V lmw488 lmw489 lmw490 lmw1 lmw491
theorem kwL_67 : ∀ w ∈ wsV RL 67 RX7 yX7_item_ (Cond.code yX7_item_ cX7_item_ 3 (some .int) :: gtbl), w ∈ gtbl := ws_V lmw770 lmw771 lmw772 lmw9 lmw773
theorem kwL_68 : ∀ w ∈ wsV RL 68 RX6 yX6_shrink (Cond.code yX6_shrink cX6_shrink 8 (some .int) :: gtbl), w ∈ gtbl := ws_V lmw496 lmw497 lmw498 lmw1 lmw499
theorem kwL_71 : ∀ w ∈ wsV RL 71 RX7 yX7_shrink (Cond.code yX7_shrink cX7_shrink 12 (some .int) :: gtbl), w ∈ gtbl := ws_V lmw774 lmw775 lmw776 lmw9 lmw777
theorem kwL_72 : ∀ w ∈ wsV RL 72 RX6 yX6_count (Cond.code yX6_count cX6_count 2 (some .int) :: gtbl), w ∈ gtbl := ws_V lmw517 lmw518 lmw519 lmw1 lmw520
theorem kwL_75 : ∀ w ∈ wsV RL 75 RX7 yX7_count (Cond.code yX7_count cX7_count 2 (some .int) :: gtbl), w ∈ gtbl := ws_V lmw778 lmw779 lmw780 lmw9 lmw781
def rL_law_b474 (L : Nat) (xs : Nat → Int32) (q30 : Int32 → Mm → Option Int32) (x3 : Int32) (M : Mm) : Option Int32 :=
    (lt_ (x3 + 4) fun y17 => q30 y17 M)
set_option maxRecDepth 100000 in
set_option maxHeartbeats 8000000 in
theorem sL_law_b474 {p : Program} {l : Launch} {e : Env} {s : State} {m : MethodId} {below : List Frame} {meth : Method} {c : Code} {G : Gg} {b L : Nat} {xs : Nat → Int32} (X : Cx p m c meth cL_law 4 s #[Value.ref b] RL ret G) (hX : va_X b L xs s s.heap) (hbl : b < s.heap.size) (hbA : ¬ Aa G s.heap.size b) (hGa : ∀ d, d < sh.length → s.heap.size ≤ G.2.2.2 d) {q30 : Int32 → Mm → Option Int32} (hq30 : ∀ (x3 : Int32) (M : Mm) (ls : Array Slot) (H : Heap) (locs : List Loc), lv_has ls 4 [(0, .ref b), (1, .ref (G.2.2.2 0)), (2, .ref (G.2.2.2 31)), (3, .int x3)] → Wo G s M H locs → q30 x3 M = some 1 → W p l e room_1 s m #[Value.ref b] below meth c H locs 50 26241 (lw_Z below #[Value.ref b] s) (F0 m 30 ls [])) : ∀ (x3 : Int32) (M : Mm) (ls : Array Slot) (H : Heap) (locs : List Loc), lv_has ls 4 [(0, .ref b), (1, .ref (G.2.2.2 0)), (2, .ref (G.2.2.2 31)), (3, .int x3)] → Wo G s M H locs → rL_law_b474 L xs q30 x3 M = some 1 → W p l e room_1 s m #[Value.ref b] below meth c H locs 50 26241 (lw_Z below #[Value.ref b] s) (F0 m 474 ls []) := by
    intro x3 M ls H locs hl hW h
    unfold rL_law_b474 at h
    have hx := X.1.1
    have hb := X.1.2.1
    obtain ⟨y17, ey17⟩ : ∃ y : Int32, y = (x3 + 4) := ⟨_, rfl⟩
    have h := ob_lt ey17 h
    refine lv_iinc (v := y17) (lv' := [(3, .int y17), (0, .ref b), (1, .ref (G.2.2.2 0)), (2, .ref (G.2.2.2 31))]) hx hb dL_law_474 hl (k := 3) rfl (by rw [ey17]; rfl) (by decide) rfl (fun ls hl => ?_)
    refine lv_goto (tgt := 30) hx hb dL_law_477 (by decide) ?_
    exact hq30 y17 M _ _ _ (lv_sub hl [1, 2, 3, 0] rfl) hW h
def rL_law_b30_s (L : Nat) (xs : Nat → Int32) (q30 : Int32 → Mm → Option Int32) (x3 : Int32) (M : Mm) : Option Int32 :=
    (if ((nI L) - (4 : Int32)) < x3 then (some (1 : Int32)) else (if x3 < 0 ∨ L ≤ (x3).toNatClampNeg then none else if ((xs (x3).toNatClampNeg) &&& (15 : Int32)) = 0 then (if (x3 + (1 : Int32)) < 0 ∨ L ≤ ((x3 + (1 : Int32))).toNatClampNeg then none else if (x3 + (2 : Int32)) < 0 ∨ L ≤ ((x3 + (2 : Int32))).toNatClampNeg then none else if (x3 + (3 : Int32)) < 0 ∨ L ≤ ((x3 + (3 : Int32))).toNatClampNeg then none else bd2 (rX6_feed (xs ((x3 + (1 : Int32))).toNatClampNeg) ((((xs ((x3 + (2 : Int32))).toNatClampNeg)).toInt64 <<< (((32 : Int32)).toInt64 &&& 63)) ||| (((xs ((x3 + (3 : Int32))).toNatClampNeg)).toInt64 &&& (4294967295 : Int64))) M) fun r9 M8 => if (x3 + (1 : Int32)) < 0 ∨ L ≤ ((x3 + (1 : Int32))).toNatClampNeg then none else if (x3 + (2 : Int32)) < 0 ∨ L ≤ ((x3 + (2 : Int32))).toNatClampNeg then none else if (x3 + (3 : Int32)) < 0 ∨ L ≤ ((x3 + (3 : Int32))).toNatClampNeg then none else bd2 (rX7_feed (xs ((x3 + (1 : Int32))).toNatClampNeg) ((((xs ((x3 + (2 : Int32))).toNatClampNeg)).toInt64 <<< (((32 : Int32)).toInt64 &&& 63)) ||| (((xs ((x3 + (3 : Int32))).toNatClampNeg)).toInt64 &&& (4294967295 : Int64))) M8) fun r15 M14 => if r9 = r15 then (rL_law_b474 L xs q30 x3 M14) else (some (0 : Int32))) else if ((xs (x3).toNatClampNeg) &&& (15 : Int32)) = 1 then (if (x3 + (1 : Int32)) < 0 ∨ L ≤ ((x3 + (1 : Int32))).toNatClampNeg then none else bd2 (rX6_cut (xs ((x3 + (1 : Int32))).toNatClampNeg) M) fun r22 M21 => if (x3 + (1 : Int32)) < 0 ∨ L ≤ ((x3 + (1 : Int32))).toNatClampNeg then none else bd2 (rX7_cut (xs ((x3 + (1 : Int32))).toNatClampNeg) M21) fun r26 M25 => if r22 = r26 then (rL_law_b474 L xs q30 x3 M25) else (some (0 : Int32))) else if ((xs (x3).toNatClampNeg) &&& (15 : Int32)) = 2 then (if (x3 + (1 : Int32)) < 0 ∨ L ≤ ((x3 + (1 : Int32))).toNatClampNeg then none else if (x3 + (2 : Int32)) < 0 ∨ L ≤ ((x3 + (2 : Int32))).toNatClampNeg then none else bd2 (rX6_alter (xs ((x3 + (1 : Int32))).toNatClampNeg) (xs ((x3 + (2 : Int32))).toNatClampNeg) M) fun r33 M32 => if (x3 + (1 : Int32)) < 0 ∨ L ≤ ((x3 + (1 : Int32))).toNatClampNeg then none else if (x3 + (2 : Int32)) < 0 ∨ L ≤ ((x3 + (2 : Int32))).toNatClampNeg then none else bd2 (rX7_alter (xs ((x3 + (1 : Int32))).toNatClampNeg) (xs ((x3 + (2 : Int32))).toNatClampNeg) M32) fun r38 M37 => if r33 = r38 then (rL_law_b474 L xs q30 x3 M37) else (some (0 : Int32))) else if ((xs (x3).toNatClampNeg) &&& (15 : Int32)) = 3 then (if (x3 + (1 : Int32)) < 0 ∨ L ≤ ((x3 + (1 : Int32))).toNatClampNeg then none else bd2 (rX6_at (xs ((x3 + (1 : Int32))).toNatClampNeg) M) fun r44 M43 => if (x3 + (1 : Int32)) < 0 ∨ L ≤ ((x3 + (1 : Int32))).toNatClampNeg then none else bd2 (rX7_at (xs ((x3 + (1 : Int32))).toNatClampNeg) M43) fun r48 M47 => if r44 = r48 then (rL_law_b474 L xs q30 x3 M47) else (some (0 : Int32))) else if ((xs (x3).toNatClampNeg) &&& (15 : Int32)) = 4 then (bd2 (rX6_mend M) fun r53 M52 => bd2 (rX7_mend M52) fun r56 M55 => if r53 = r56 then (rL_law_b474 L xs q30 x3 M55) else (some (0 : Int32))) else if ((xs (x3).toNatClampNeg) &&& (15 : Int32)) = 5 then (if (x3 + (1 : Int32)) < 0 ∨ L ≤ ((x3 + (1 : Int32))).toNatClampNeg then none else if (x3 + (2 : Int32)) < 0 ∨ L ≤ ((x3 + (2 : Int32))).toNatClampNeg then none else bd2 (rX6_draw (xs ((x3 + (1 : Int32))).toNatClampNeg) (xs ((x3 + (2 : Int32))).toNatClampNeg) M) fun r63 M62 => if (x3 + (1 : Int32)) < 0 ∨ L ≤ ((x3 + (1 : Int32))).toNatClampNeg then none else if (x3 + (2 : Int32)) < 0 ∨ L ≤ ((x3 + (2 : Int32))).toNatClampNeg then none else bd2 (rX7_draw (xs ((x3 + (1 : Int32))).toNatClampNeg) (xs ((x3 + (2 : Int32))).toNatClampNeg) M62) fun r68 M67 => if r63 = r68 then (rL_law_b474 L xs q30 x3 M67) else (some (0 : Int32))) else if ((xs (x3).toNatClampNeg) &&& (15 : Int32)) = 6 then (if (x3 + (1 : Int32)) < 0 ∨ L ≤ ((x3 + (1 : Int32))).toNatClampNeg then none else if (x3 + (2 : Int32)) < 0 ∨ L ≤ ((x3 + (2 : Int32))).toNatClampNeg then none else if (x3 + (3 : Int32)) < 0 ∨ L ≤ ((x3 + (3 : Int32))).toNatClampNeg then none else bd2 (rX6_open (xs ((x3 + (1 : Int32))).toNatClampNeg) (xs ((x3 + (2 : Int32))).toNatClampNeg) (xs ((x3 + (3 : Int32))).toNatClampNeg) M) fun r76 M75 => if (x3 + (1 : Int32)) < 0 ∨ L ≤ ((x3 + (1 : Int32))).toNatClampNeg then none else if (x3 + (2 : Int32)) < 0 ∨ L ≤ ((x3 + (2 : Int32))).toNatClampNeg then none else if (x3 + (3 : Int32)) < 0 ∨ L ≤ ((x3 + (3 : Int32))).toNatClampNeg then none else bd2 (rX7_open (xs ((x3 + (1 : Int32))).toNatClampNeg) (xs ((x3 + (2 : Int32))).toNatClampNeg) (xs ((x3 + (3 : Int32))).toNatClampNeg) M75) fun r82 M81 => if r76 = r82 then (rL_law_b474 L xs q30 x3 M81) else (some (0 : Int32))) else if ((xs (x3).toNatClampNeg) &&& (15 : Int32)) = 7 then (bd2 (rX6_place M) fun r87 M86 => bd2 (rX7_place M86) fun r90 M89 => if r87 = r90 then (rL_law_b474 L xs q30 x3 M89) else (some (0 : Int32))) else if ((xs (x3).toNatClampNeg) &&& (15 : Int32)) = 8 then (if (x3 + (1 : Int32)) < 0 ∨ L ≤ ((x3 + (1 : Int32))).toNatClampNeg then none else bd2 (rX6_out (xs ((x3 + (1 : Int32))).toNatClampNeg) M) fun r96 M95 => if (x3 + (1 : Int32)) < 0 ∨ L ≤ ((x3 + (1 : Int32))).toNatClampNeg then none else bd2 (rX7_out (xs ((x3 + (1 : Int32))).toNatClampNeg) M95) fun r100 M99 => if r96 = r100 then (rL_law_b474 L xs q30 x3 M99) else (some (0 : Int32))) else if ((xs (x3).toNatClampNeg) &&& (15 : Int32)) = 9 then (if (x3 + (1 : Int32)) < 0 ∨ L ≤ ((x3 + (1 : Int32))).toNatClampNeg then none else if (x3 + (2 : Int32)) < 0 ∨ L ≤ ((x3 + (2 : Int32))).toNatClampNeg then none else bd2 (rX6_item (xs ((x3 + (1 : Int32))).toNatClampNeg) (xs ((x3 + (2 : Int32))).toNatClampNeg) M) fun r107 M106 => if (x3 + (1 : Int32)) < 0 ∨ L ≤ ((x3 + (1 : Int32))).toNatClampNeg then none else if (x3 + (2 : Int32)) < 0 ∨ L ≤ ((x3 + (2 : Int32))).toNatClampNeg then none else bd2 (rX7_item_ (xs ((x3 + (1 : Int32))).toNatClampNeg) (xs ((x3 + (2 : Int32))).toNatClampNeg) M106) fun r112 M111 => if r107 = r112 then (rL_law_b474 L xs q30 x3 M111) else (some (0 : Int32))) else if ((xs (x3).toNatClampNeg) &&& (15 : Int32)) = 10 then (if (x3 + (1 : Int32)) < 0 ∨ L ≤ ((x3 + (1 : Int32))).toNatClampNeg then none else if (x3 + (2 : Int32)) < 0 ∨ L ≤ ((x3 + (2 : Int32))).toNatClampNeg then none else if (x3 + (3 : Int32)) < 0 ∨ L ≤ ((x3 + (3 : Int32))).toNatClampNeg then none else bd2 (rX6_shrink (xs ((x3 + (1 : Int32))).toNatClampNeg) (xs ((x3 + (2 : Int32))).toNatClampNeg) (xs ((x3 + (3 : Int32))).toNatClampNeg) M) fun r120 M119 => if (x3 + (1 : Int32)) < 0 ∨ L ≤ ((x3 + (1 : Int32))).toNatClampNeg then none else if (x3 + (2 : Int32)) < 0 ∨ L ≤ ((x3 + (2 : Int32))).toNatClampNeg then none else if (x3 + (3 : Int32)) < 0 ∨ L ≤ ((x3 + (3 : Int32))).toNatClampNeg then none else bd2 (rX7_shrink (xs ((x3 + (1 : Int32))).toNatClampNeg) (xs ((x3 + (2 : Int32))).toNatClampNeg) (xs ((x3 + (3 : Int32))).toNatClampNeg) M119) fun r126 M125 => if r120 = r126 then (rL_law_b474 L xs q30 x3 M125) else (some (0 : Int32))) else if ((xs (x3).toNatClampNeg) &&& (15 : Int32)) = 11 then (if (x3 + (1 : Int32)) < 0 ∨ L ≤ ((x3 + (1 : Int32))).toNatClampNeg then none else bd2 (rX6_count (xs ((x3 + (1 : Int32))).toNatClampNeg) M) fun r132 M131 => if (x3 + (1 : Int32)) < 0 ∨ L ≤ ((x3 + (1 : Int32))).toNatClampNeg then none else bd2 (rX7_count (xs ((x3 + (1 : Int32))).toNatClampNeg) M131) fun r136 M135 => if r132 = r136 then (rL_law_b474 L xs q30 x3 M135) else (some (0 : Int32))) else (rL_law_b474 L xs q30 x3 M)))
def rL_law_b30 (L : Nat) (xs : Nat → Int32) : Nat → Int32 → Mm → Option Int32
  | 0 => fun _ _ => none
  | n + 1 => rL_law_b30_s L xs (rL_law_b30 L xs n)
set_option maxRecDepth 100000 in
set_option maxHeartbeats 8000000 in
theorem sL_law_b30 {p : Program} {l : Launch} {e : Env} {s : State} {m : MethodId} {below : List Frame} {meth : Method} {c : Code} {G : Gg} {b L : Nat} {xs : Nat → Int32} (X : Cx p m c meth cL_law 4 s #[Value.ref b] RL ret G) (hX : va_X b L xs s s.heap) (hbl : b < s.heap.size) (hbA : ¬ Aa G s.heap.size b) (hGa : ∀ d, d < sh.length → s.heap.size ≤ G.2.2.2 d) : ∀ (n : Nat), ∀ (x3 : Int32) (M : Mm) (ls : Array Slot) (H : Heap) (locs : List Loc), lv_has ls 4 [(0, .ref b), (1, .ref (G.2.2.2 0)), (2, .ref (G.2.2.2 31)), (3, .int x3)] → Wo G s M H locs → rL_law_b30 L xs n x3 M = some 1 → W p l e room_1 s m #[Value.ref b] below meth c H locs 50 26241 (lw_Z below #[Value.ref b] s) (F0 m 30 ls []) := by
  intro n
  induction n with
  | zero =>
    intro x3 M ls H locs hl hW h
    cases (show (none : Option Int32) = some 1 from h)
  | succ n hq300 =>
    have hq30 : ∀ (x3 : Int32) (M : Mm) (ls : Array Slot) (H : Heap) (locs : List Loc), lv_has ls 4 [(0, .ref b), (1, .ref (G.2.2.2 0)), (2, .ref (G.2.2.2 31)), (3, .int x3)] → Wo G s M H locs → (rL_law_b30 L xs n) x3 M = some 1 → W p l e room_1 s m #[Value.ref b] below meth c H locs 50 26241 (lw_Z below #[Value.ref b] s) (F0 m 30 ls []) := hq300
    intro x3 M ls H locs hl hW h
    have h : rL_law_b30_s L xs (rL_law_b30 L xs n) x3 M = some 1 := h
    unfold rL_law_b30_s at h
    have hx := X.1.1
    have hb := X.1.2.1
    refine lv_iload_n hx hb dL_law_30 rfl (lv_at hl 3 rfl) ?_
    refine lv_aload_n hx hb dL_law_31 rfl (lv_at hl 0 rfl) ?_
    refine va_slen hx hb hX hbl hbA hW.2.2 dL_law_32 ?_
    refine lv_iconst (v := 4) hx hb dL_law_33 (by decide) ?_
    refine lv_isub hx hb dL_law_34 ?_
    refine lv_icmp_gt (tgt := 480) hx hb dL_law_35 (by decide) (fun c1 => ?_) (fun c1 => ?_)
    · have h := ob_pos c1 h
      refine lv_iconst (v := 1) hx hb dL_law_480 (by decide) ?_
      refine va_forget (fun q hq => (hW.2.2.2.2 q hq).elim (fun ⟨d, hd, e⟩ => e ▸ hGa d hd) id) ?_
      refine W.widen (k := 600000) (n := 7302249) (Nat.le_of_ble_eq_true rfl) (Nat.le_of_ble_eq_true rfl) ?_
      exact lw_ret hx hb X.2.1 X.2.2.1 dL_law_481
    · have h := ob_neg c1 h
      refine lv_aload_n hx hb dL_law_38 rfl (lv_at hl 0 rfl) ?_
      refine lv_iload_n hx hb dL_law_39 rfl (lv_at hl 3 rfl) ?_
      obtain ⟨g2, h⟩ := ob_gd h
      refine va_sld hx hb hX hbl hbA hW.2.2 g2 dL_law_40 ?_
      refine lv_bipush (v := 15) hx hb dL_law_41 (by decide) ?_
      refine lv_iand hx hb dL_law_43 ?_
      by_cases c3 : ((xs (x3).toNatClampNeg) &&& (15 : Int32)) = 0
      · have h := ob_pos c3 h
        refine lv_tableIn (off := 64) (tgt := 108) hx hb dL_law_44 (by rw [c3]; decide) (by rw [c3]; decide) (by rw [c3]; decide) (by decide) ?_
        refine lv_aload_n hx hb dL_law_108 rfl (lv_at hl 1 rfl) ?_
        refine lv_aload_n hx hb dL_law_109 rfl (lv_at hl 0 rfl) ?_
        refine lv_iload_n hx hb dL_law_110 rfl (lv_at hl 3 rfl) ?_
        refine lv_iconst (v := 1) hx hb dL_law_111 (by decide) ?_
        refine lv_iadd hx hb dL_law_112 ?_
        obtain ⟨g4, h⟩ := ob_gd h
        refine va_sld hx hb hX hbl hbA hW.2.2 g4 dL_law_113 ?_
        refine lv_aload_n hx hb dL_law_114 rfl (lv_at hl 0 rfl) ?_
        refine lv_iload_n hx hb dL_law_115 rfl (lv_at hl 3 rfl) ?_
        refine lv_iconst (v := 2) hx hb dL_law_116 (by decide) ?_
        refine lv_iadd hx hb dL_law_117 ?_
        obtain ⟨g5, h⟩ := ob_gd h
        refine va_sld hx hb hX hbl hbA hW.2.2 g5 dL_law_118 ?_
        refine lv_i2l hx hb dL_law_119 rfl ?_
        refine lv_bipush (v := 32) hx hb dL_law_120 (by decide) ?_
        refine lv_lshl hx hb dL_law_122 rfl ?_
        refine lv_aload_n hx hb dL_law_123 rfl (lv_at hl 0 rfl) ?_
        refine lv_iload_n hx hb dL_law_124 rfl (lv_at hl 3 rfl) ?_
        refine lv_iconst (v := 3) hx hb dL_law_125 (by decide) ?_
        refine lv_iadd hx hb dL_law_126 ?_
        obtain ⟨g6, h⟩ := ob_gd h
        refine va_sld hx hb hX hbl hbA hW.2.2 g6 dL_law_127 ?_
        refine lv_i2l hx hb dL_law_128 rfl ?_
        refine lv_ldc2 (v := 4294967295) hx hb X.1.2.2.2.1 (X.1.2.2.2.2 _ lmw782) dL_law_129 ?_
        refine lv_land hx hb dL_law_132 ?_
        refine lv_lor hx hb dL_law_133 ?_
        obtain ⟨r9, M8, e7, h⟩ := ob_bd2 h
        refine bg_calli X hW (cX6_feed_k e7) rfl rfl kwL_23 lkd_X6_feed rfl rfl ⟨Nat.le_of_ble_eq_true rfl, Nat.le_of_ble_eq_true rfl⟩ ⟨Nat.le_of_ble_eq_true rfl, Nat.le_of_ble_eq_true rfl⟩ hl.1 (Nat.le_of_ble_eq_true rfl) dL_law_134 (fun H locs hW => ?_)
        refine lv_aload_n hx hb dL_law_137 rfl (lv_at hl 2 rfl) ?_
        refine lv_aload_n hx hb dL_law_138 rfl (lv_at hl 0 rfl) ?_
        refine lv_iload_n hx hb dL_law_139 rfl (lv_at hl 3 rfl) ?_
        refine lv_iconst (v := 1) hx hb dL_law_140 (by decide) ?_
        refine lv_iadd hx hb dL_law_141 ?_
        obtain ⟨g10, h⟩ := ob_gd h
        refine va_sld hx hb hX hbl hbA hW.2.2 g10 dL_law_142 ?_
        refine lv_aload_n hx hb dL_law_143 rfl (lv_at hl 0 rfl) ?_
        refine lv_iload_n hx hb dL_law_144 rfl (lv_at hl 3 rfl) ?_
        refine lv_iconst (v := 2) hx hb dL_law_145 (by decide) ?_
        refine lv_iadd hx hb dL_law_146 ?_
        obtain ⟨g11, h⟩ := ob_gd h
        refine va_sld hx hb hX hbl hbA hW.2.2 g11 dL_law_147 ?_
        refine lv_i2l hx hb dL_law_148 rfl ?_
        refine lv_bipush (v := 32) hx hb dL_law_149 (by decide) ?_
        refine lv_lshl hx hb dL_law_151 rfl ?_
        refine lv_aload_n hx hb dL_law_152 rfl (lv_at hl 0 rfl) ?_
        refine lv_iload_n hx hb dL_law_153 rfl (lv_at hl 3 rfl) ?_
        refine lv_iconst (v := 3) hx hb dL_law_154 (by decide) ?_
        refine lv_iadd hx hb dL_law_155 ?_
        obtain ⟨g12, h⟩ := ob_gd h
        refine va_sld hx hb hX hbl hbA hW.2.2 g12 dL_law_156 ?_
        refine lv_i2l hx hb dL_law_157 rfl ?_
        refine lv_ldc2 (v := 4294967295) hx hb X.1.2.2.2.1 (X.1.2.2.2.2 _ lmw782) dL_law_158 ?_
        refine lv_land hx hb dL_law_161 ?_
        refine lv_lor hx hb dL_law_162 ?_
        obtain ⟨r15, M14, e13, h⟩ := ob_bd2 h
        refine bg_calli X hW (cX7_feed_k e13) rfl rfl kwL_27 lkd_X7_feed rfl rfl ⟨Nat.le_of_ble_eq_true rfl, Nat.le_of_ble_eq_true rfl⟩ ⟨Nat.le_of_ble_eq_true rfl, Nat.le_of_ble_eq_true rfl⟩ hl.1 (Nat.le_of_ble_eq_true rfl) dL_law_163 (fun H locs hW => ?_)
        refine lv_icmp_eq (tgt := 474) hx hb dL_law_166 (by decide) (fun c16 => ?_) (fun c16 => ?_)
        · have h := ob_pos c16 h
          exact sL_law_b474 X hX hbl hbA hGa hq30 x3 M14 _ _ _ (lv_sub hl [0, 1, 2, 3] rfl) hW h
        · have h := ob_neg c16 h
          refine lv_iconst (v := 0) hx hb dL_law_169 (by decide) ?_
          exact absurd h (by decide)
      · have h := ob_neg c3 h
        by_cases c18 : ((xs (x3).toNatClampNeg) &&& (15 : Int32)) = 1
        · have h := ob_pos c18 h
          refine lv_tableIn (off := 127) (tgt := 171) hx hb dL_law_44 (by rw [c18]; decide) (by rw [c18]; decide) (by rw [c18]; decide) (by decide) ?_
          refine lv_aload_n hx hb dL_law_171 rfl (lv_at hl 1 rfl) ?_
          refine lv_aload_n hx hb dL_law_172 rfl (lv_at hl 0 rfl) ?_
          refine lv_iload_n hx hb dL_law_173 rfl (lv_at hl 3 rfl) ?_
          refine lv_iconst (v := 1) hx hb dL_law_174 (by decide) ?_
          refine lv_iadd hx hb dL_law_175 ?_
          obtain ⟨g19, h⟩ := ob_gd h
          refine va_sld hx hb hX hbl hbA hW.2.2 g19 dL_law_176 ?_
          obtain ⟨r22, M21, e20, h⟩ := ob_bd2 h
          refine bg_calli X hW (cX6_cut_k e20) rfl rfl kwL_28 lkd_X6_cut rfl rfl ⟨Nat.le_of_ble_eq_true rfl, Nat.le_of_ble_eq_true rfl⟩ ⟨Nat.le_of_ble_eq_true rfl, Nat.le_of_ble_eq_true rfl⟩ hl.1 (Nat.le_of_ble_eq_true rfl) dL_law_177 (fun H locs hW => ?_)
          refine lv_aload_n hx hb dL_law_180 rfl (lv_at hl 2 rfl) ?_
          refine lv_aload_n hx hb dL_law_181 rfl (lv_at hl 0 rfl) ?_
          refine lv_iload_n hx hb dL_law_182 rfl (lv_at hl 3 rfl) ?_
          refine lv_iconst (v := 1) hx hb dL_law_183 (by decide) ?_
          refine lv_iadd hx hb dL_law_184 ?_
          obtain ⟨g23, h⟩ := ob_gd h
          refine va_sld hx hb hX hbl hbA hW.2.2 g23 dL_law_185 ?_
          obtain ⟨r26, M25, e24, h⟩ := ob_bd2 h
          refine bg_calli X hW (cX7_cut_k e24) rfl rfl kwL_32 lkd_X7_cut rfl rfl ⟨Nat.le_of_ble_eq_true rfl, Nat.le_of_ble_eq_true rfl⟩ ⟨Nat.le_of_ble_eq_true rfl, Nat.le_of_ble_eq_true rfl⟩ hl.1 (Nat.le_of_ble_eq_true rfl) dL_law_186 (fun H locs hW => ?_)
          refine lv_icmp_eq (tgt := 474) hx hb dL_law_189 (by decide) (fun c27 => ?_) (fun c27 => ?_)
          · have h := ob_pos c27 h
            exact sL_law_b474 X hX hbl hbA hGa hq30 x3 M25 _ _ _ (lv_sub hl [0, 1, 2, 3] rfl) hW h
          · have h := ob_neg c27 h
            refine lv_iconst (v := 0) hx hb dL_law_192 (by decide) ?_
            exact absurd h (by decide)
        · have h := ob_neg c18 h
          by_cases c28 : ((xs (x3).toNatClampNeg) &&& (15 : Int32)) = 2
          · have h := ob_pos c28 h
            refine lv_tableIn (off := 150) (tgt := 194) hx hb dL_law_44 (by rw [c28]; decide) (by rw [c28]; decide) (by rw [c28]; decide) (by decide) ?_
            refine lv_aload_n hx hb dL_law_194 rfl (lv_at hl 1 rfl) ?_
            refine lv_aload_n hx hb dL_law_195 rfl (lv_at hl 0 rfl) ?_
            refine lv_iload_n hx hb dL_law_196 rfl (lv_at hl 3 rfl) ?_
            refine lv_iconst (v := 1) hx hb dL_law_197 (by decide) ?_
            refine lv_iadd hx hb dL_law_198 ?_
            obtain ⟨g29, h⟩ := ob_gd h
            refine va_sld hx hb hX hbl hbA hW.2.2 g29 dL_law_199 ?_
            refine lv_aload_n hx hb dL_law_200 rfl (lv_at hl 0 rfl) ?_
            refine lv_iload_n hx hb dL_law_201 rfl (lv_at hl 3 rfl) ?_
            refine lv_iconst (v := 2) hx hb dL_law_202 (by decide) ?_
            refine lv_iadd hx hb dL_law_203 ?_
            obtain ⟨g30, h⟩ := ob_gd h
            refine va_sld hx hb hX hbl hbA hW.2.2 g30 dL_law_204 ?_
            obtain ⟨r33, M32, e31, h⟩ := ob_bd2 h
            refine bg_calli X hW (cX6_alter_k e31) rfl rfl kwL_33 lkd_X6_alter rfl rfl ⟨Nat.le_of_ble_eq_true rfl, Nat.le_of_ble_eq_true rfl⟩ ⟨Nat.le_of_ble_eq_true rfl, Nat.le_of_ble_eq_true rfl⟩ hl.1 (Nat.le_of_ble_eq_true rfl) dL_law_205 (fun H locs hW => ?_)
            refine lv_aload_n hx hb dL_law_208 rfl (lv_at hl 2 rfl) ?_
            refine lv_aload_n hx hb dL_law_209 rfl (lv_at hl 0 rfl) ?_
            refine lv_iload_n hx hb dL_law_210 rfl (lv_at hl 3 rfl) ?_
            refine lv_iconst (v := 1) hx hb dL_law_211 (by decide) ?_
            refine lv_iadd hx hb dL_law_212 ?_
            obtain ⟨g34, h⟩ := ob_gd h
            refine va_sld hx hb hX hbl hbA hW.2.2 g34 dL_law_213 ?_
            refine lv_aload_n hx hb dL_law_214 rfl (lv_at hl 0 rfl) ?_
            refine lv_iload_n hx hb dL_law_215 rfl (lv_at hl 3 rfl) ?_
            refine lv_iconst (v := 2) hx hb dL_law_216 (by decide) ?_
            refine lv_iadd hx hb dL_law_217 ?_
            obtain ⟨g35, h⟩ := ob_gd h
            refine va_sld hx hb hX hbl hbA hW.2.2 g35 dL_law_218 ?_
            obtain ⟨r38, M37, e36, h⟩ := ob_bd2 h
            refine bg_calli X hW (cX7_alter_k e36) rfl rfl kwL_37 lkd_X7_alter rfl rfl ⟨Nat.le_of_ble_eq_true rfl, Nat.le_of_ble_eq_true rfl⟩ ⟨Nat.le_of_ble_eq_true rfl, Nat.le_of_ble_eq_true rfl⟩ hl.1 (Nat.le_of_ble_eq_true rfl) dL_law_219 (fun H locs hW => ?_)
            refine lv_icmp_eq (tgt := 474) hx hb dL_law_222 (by decide) (fun c39 => ?_) (fun c39 => ?_)
            · have h := ob_pos c39 h
              exact sL_law_b474 X hX hbl hbA hGa hq30 x3 M37 _ _ _ (lv_sub hl [0, 1, 2, 3] rfl) hW h
            · have h := ob_neg c39 h
              refine lv_iconst (v := 0) hx hb dL_law_225 (by decide) ?_
              exact absurd h (by decide)
          · have h := ob_neg c28 h
            by_cases c40 : ((xs (x3).toNatClampNeg) &&& (15 : Int32)) = 3
            · have h := ob_pos c40 h
              refine lv_tableIn (off := 183) (tgt := 227) hx hb dL_law_44 (by rw [c40]; decide) (by rw [c40]; decide) (by rw [c40]; decide) (by decide) ?_
              refine lv_aload_n hx hb dL_law_227 rfl (lv_at hl 1 rfl) ?_
              refine lv_aload_n hx hb dL_law_228 rfl (lv_at hl 0 rfl) ?_
              refine lv_iload_n hx hb dL_law_229 rfl (lv_at hl 3 rfl) ?_
              refine lv_iconst (v := 1) hx hb dL_law_230 (by decide) ?_
              refine lv_iadd hx hb dL_law_231 ?_
              obtain ⟨g41, h⟩ := ob_gd h
              refine va_sld hx hb hX hbl hbA hW.2.2 g41 dL_law_232 ?_
              obtain ⟨r44, M43, e42, h⟩ := ob_bd2 h
              refine bg_calli X hW (cX6_at_k e42) rfl rfl kwL_38 lkd_X6_at rfl rfl ⟨Nat.le_of_ble_eq_true rfl, Nat.le_of_ble_eq_true rfl⟩ ⟨Nat.le_of_ble_eq_true rfl, Nat.le_of_ble_eq_true rfl⟩ hl.1 (Nat.le_of_ble_eq_true rfl) dL_law_233 (fun H locs hW => ?_)
              refine lv_aload_n hx hb dL_law_236 rfl (lv_at hl 2 rfl) ?_
              refine lv_aload_n hx hb dL_law_237 rfl (lv_at hl 0 rfl) ?_
              refine lv_iload_n hx hb dL_law_238 rfl (lv_at hl 3 rfl) ?_
              refine lv_iconst (v := 1) hx hb dL_law_239 (by decide) ?_
              refine lv_iadd hx hb dL_law_240 ?_
              obtain ⟨g45, h⟩ := ob_gd h
              refine va_sld hx hb hX hbl hbA hW.2.2 g45 dL_law_241 ?_
              obtain ⟨r48, M47, e46, h⟩ := ob_bd2 h
              refine bg_calli X hW (cX7_at_k e46) rfl rfl kwL_41 lkd_X7_at rfl rfl ⟨Nat.le_of_ble_eq_true rfl, Nat.le_of_ble_eq_true rfl⟩ ⟨Nat.le_of_ble_eq_true rfl, Nat.le_of_ble_eq_true rfl⟩ hl.1 (Nat.le_of_ble_eq_true rfl) dL_law_242 (fun H locs hW => ?_)
              refine lv_icmp_eq (tgt := 474) hx hb dL_law_245 (by decide) (fun c49 => ?_) (fun c49 => ?_)
              · have h := ob_pos c49 h
                exact sL_law_b474 X hX hbl hbA hGa hq30 x3 M47 _ _ _ (lv_sub hl [0, 1, 2, 3] rfl) hW h
              · have h := ob_neg c49 h
                refine lv_iconst (v := 0) hx hb dL_law_248 (by decide) ?_
                exact absurd h (by decide)
            · have h := ob_neg c40 h
              by_cases c50 : ((xs (x3).toNatClampNeg) &&& (15 : Int32)) = 4
              · have h := ob_pos c50 h
                refine lv_tableIn (off := 206) (tgt := 250) hx hb dL_law_44 (by rw [c50]; decide) (by rw [c50]; decide) (by rw [c50]; decide) (by decide) ?_
                refine lv_aload_n hx hb dL_law_250 rfl (lv_at hl 1 rfl) ?_
                obtain ⟨r53, M52, e51, h⟩ := ob_bd2 h
                refine bg_calli X hW (cX6_mend_k e51) rfl rfl kwL_42 lkd_X6_mend rfl rfl ⟨Nat.le_of_ble_eq_true rfl, Nat.le_of_ble_eq_true rfl⟩ ⟨Nat.le_of_ble_eq_true rfl, Nat.le_of_ble_eq_true rfl⟩ hl.1 (Nat.le_of_ble_eq_true rfl) dL_law_251 (fun H locs hW => ?_)
                refine lv_aload_n hx hb dL_law_254 rfl (lv_at hl 2 rfl) ?_
                obtain ⟨r56, M55, e54, h⟩ := ob_bd2 h
                refine bg_calli X hW (cX7_mend_k e54) rfl rfl kwL_46 lkd_X7_mend rfl rfl ⟨Nat.le_of_ble_eq_true rfl, Nat.le_of_ble_eq_true rfl⟩ ⟨Nat.le_of_ble_eq_true rfl, Nat.le_of_ble_eq_true rfl⟩ hl.1 (Nat.le_of_ble_eq_true rfl) dL_law_255 (fun H locs hW => ?_)
                refine lv_icmp_eq (tgt := 474) hx hb dL_law_258 (by decide) (fun c57 => ?_) (fun c57 => ?_)
                · have h := ob_pos c57 h
                  exact sL_law_b474 X hX hbl hbA hGa hq30 x3 M55 _ _ _ (lv_sub hl [0, 1, 2, 3] rfl) hW h
                · have h := ob_neg c57 h
                  refine lv_iconst (v := 0) hx hb dL_law_261 (by decide) ?_
                  exact absurd h (by decide)
              · have h := ob_neg c50 h
                by_cases c58 : ((xs (x3).toNatClampNeg) &&& (15 : Int32)) = 5
                · have h := ob_pos c58 h
                  refine lv_tableIn (off := 219) (tgt := 263) hx hb dL_law_44 (by rw [c58]; decide) (by rw [c58]; decide) (by rw [c58]; decide) (by decide) ?_
                  refine lv_aload_n hx hb dL_law_263 rfl (lv_at hl 1 rfl) ?_
                  refine lv_aload_n hx hb dL_law_264 rfl (lv_at hl 0 rfl) ?_
                  refine lv_iload_n hx hb dL_law_265 rfl (lv_at hl 3 rfl) ?_
                  refine lv_iconst (v := 1) hx hb dL_law_266 (by decide) ?_
                  refine lv_iadd hx hb dL_law_267 ?_
                  obtain ⟨g59, h⟩ := ob_gd h
                  refine va_sld hx hb hX hbl hbA hW.2.2 g59 dL_law_268 ?_
                  refine lv_aload_n hx hb dL_law_269 rfl (lv_at hl 0 rfl) ?_
                  refine lv_iload_n hx hb dL_law_270 rfl (lv_at hl 3 rfl) ?_
                  refine lv_iconst (v := 2) hx hb dL_law_271 (by decide) ?_
                  refine lv_iadd hx hb dL_law_272 ?_
                  obtain ⟨g60, h⟩ := ob_gd h
                  refine va_sld hx hb hX hbl hbA hW.2.2 g60 dL_law_273 ?_
                  obtain ⟨r63, M62, e61, h⟩ := ob_bd2 h
                  refine bg_calli X hW (cX6_draw_k e61) rfl rfl kwL_47 lkd_X6_draw rfl rfl ⟨Nat.le_of_ble_eq_true rfl, Nat.le_of_ble_eq_true rfl⟩ ⟨Nat.le_of_ble_eq_true rfl, Nat.le_of_ble_eq_true rfl⟩ hl.1 (Nat.le_of_ble_eq_true rfl) dL_law_274 (fun H locs hW => ?_)
                  refine lv_aload_n hx hb dL_law_277 rfl (lv_at hl 2 rfl) ?_
                  refine lv_aload_n hx hb dL_law_278 rfl (lv_at hl 0 rfl) ?_
                  refine lv_iload_n hx hb dL_law_279 rfl (lv_at hl 3 rfl) ?_
                  refine lv_iconst (v := 1) hx hb dL_law_280 (by decide) ?_
                  refine lv_iadd hx hb dL_law_281 ?_
                  obtain ⟨g64, h⟩ := ob_gd h
                  refine va_sld hx hb hX hbl hbA hW.2.2 g64 dL_law_282 ?_
                  refine lv_aload_n hx hb dL_law_283 rfl (lv_at hl 0 rfl) ?_
                  refine lv_iload_n hx hb dL_law_284 rfl (lv_at hl 3 rfl) ?_
                  refine lv_iconst (v := 2) hx hb dL_law_285 (by decide) ?_
                  refine lv_iadd hx hb dL_law_286 ?_
                  obtain ⟨g65, h⟩ := ob_gd h
                  refine va_sld hx hb hX hbl hbA hW.2.2 g65 dL_law_287 ?_
                  obtain ⟨r68, M67, e66, h⟩ := ob_bd2 h
                  refine bg_calli X hW (cX7_draw_k e66) rfl rfl kwL_50 lkd_X7_draw rfl rfl ⟨Nat.le_of_ble_eq_true rfl, Nat.le_of_ble_eq_true rfl⟩ ⟨Nat.le_of_ble_eq_true rfl, Nat.le_of_ble_eq_true rfl⟩ hl.1 (Nat.le_of_ble_eq_true rfl) dL_law_288 (fun H locs hW => ?_)
                  refine lv_icmp_eq (tgt := 474) hx hb dL_law_291 (by decide) (fun c69 => ?_) (fun c69 => ?_)
                  · have h := ob_pos c69 h
                    exact sL_law_b474 X hX hbl hbA hGa hq30 x3 M67 _ _ _ (lv_sub hl [0, 1, 2, 3] rfl) hW h
                  · have h := ob_neg c69 h
                    refine lv_iconst (v := 0) hx hb dL_law_294 (by decide) ?_
                    exact absurd h (by decide)
                · have h := ob_neg c58 h
                  by_cases c70 : ((xs (x3).toNatClampNeg) &&& (15 : Int32)) = 6
                  · have h := ob_pos c70 h
                    refine lv_tableIn (off := 252) (tgt := 296) hx hb dL_law_44 (by rw [c70]; decide) (by rw [c70]; decide) (by rw [c70]; decide) (by decide) ?_
                    refine lv_aload_n hx hb dL_law_296 rfl (lv_at hl 1 rfl) ?_
                    refine lv_aload_n hx hb dL_law_297 rfl (lv_at hl 0 rfl) ?_
                    refine lv_iload_n hx hb dL_law_298 rfl (lv_at hl 3 rfl) ?_
                    refine lv_iconst (v := 1) hx hb dL_law_299 (by decide) ?_
                    refine lv_iadd hx hb dL_law_300 ?_
                    obtain ⟨g71, h⟩ := ob_gd h
                    refine va_sld hx hb hX hbl hbA hW.2.2 g71 dL_law_301 ?_
                    refine lv_aload_n hx hb dL_law_302 rfl (lv_at hl 0 rfl) ?_
                    refine lv_iload_n hx hb dL_law_303 rfl (lv_at hl 3 rfl) ?_
                    refine lv_iconst (v := 2) hx hb dL_law_304 (by decide) ?_
                    refine lv_iadd hx hb dL_law_305 ?_
                    obtain ⟨g72, h⟩ := ob_gd h
                    refine va_sld hx hb hX hbl hbA hW.2.2 g72 dL_law_306 ?_
                    refine lv_aload_n hx hb dL_law_307 rfl (lv_at hl 0 rfl) ?_
                    refine lv_iload_n hx hb dL_law_308 rfl (lv_at hl 3 rfl) ?_
                    refine lv_iconst (v := 3) hx hb dL_law_309 (by decide) ?_
                    refine lv_iadd hx hb dL_law_310 ?_
                    obtain ⟨g73, h⟩ := ob_gd h
                    refine va_sld hx hb hX hbl hbA hW.2.2 g73 dL_law_311 ?_
                    obtain ⟨r76, M75, e74, h⟩ := ob_bd2 h
                    refine bg_calli X hW (cX6_open_k e74) rfl rfl kwL_51 lkd_X6_open rfl rfl ⟨Nat.le_of_ble_eq_true rfl, Nat.le_of_ble_eq_true rfl⟩ ⟨Nat.le_of_ble_eq_true rfl, Nat.le_of_ble_eq_true rfl⟩ hl.1 (Nat.le_of_ble_eq_true rfl) dL_law_312 (fun H locs hW => ?_)
                    refine lv_aload_n hx hb dL_law_315 rfl (lv_at hl 2 rfl) ?_
                    refine lv_aload_n hx hb dL_law_316 rfl (lv_at hl 0 rfl) ?_
                    refine lv_iload_n hx hb dL_law_317 rfl (lv_at hl 3 rfl) ?_
                    refine lv_iconst (v := 1) hx hb dL_law_318 (by decide) ?_
                    refine lv_iadd hx hb dL_law_319 ?_
                    obtain ⟨g77, h⟩ := ob_gd h
                    refine va_sld hx hb hX hbl hbA hW.2.2 g77 dL_law_320 ?_
                    refine lv_aload_n hx hb dL_law_321 rfl (lv_at hl 0 rfl) ?_
                    refine lv_iload_n hx hb dL_law_322 rfl (lv_at hl 3 rfl) ?_
                    refine lv_iconst (v := 2) hx hb dL_law_323 (by decide) ?_
                    refine lv_iadd hx hb dL_law_324 ?_
                    obtain ⟨g78, h⟩ := ob_gd h
                    refine va_sld hx hb hX hbl hbA hW.2.2 g78 dL_law_325 ?_
                    refine lv_aload_n hx hb dL_law_326 rfl (lv_at hl 0 rfl) ?_
                    refine lv_iload_n hx hb dL_law_327 rfl (lv_at hl 3 rfl) ?_
                    refine lv_iconst (v := 3) hx hb dL_law_328 (by decide) ?_
                    refine lv_iadd hx hb dL_law_329 ?_
                    obtain ⟨g79, h⟩ := ob_gd h
                    refine va_sld hx hb hX hbl hbA hW.2.2 g79 dL_law_330 ?_
                    obtain ⟨r82, M81, e80, h⟩ := ob_bd2 h
                    refine bg_calli X hW (cX7_open_k e80) rfl rfl kwL_55 lkd_X7_open rfl rfl ⟨Nat.le_of_ble_eq_true rfl, Nat.le_of_ble_eq_true rfl⟩ ⟨Nat.le_of_ble_eq_true rfl, Nat.le_of_ble_eq_true rfl⟩ hl.1 (Nat.le_of_ble_eq_true rfl) dL_law_331 (fun H locs hW => ?_)
                    refine lv_icmp_eq (tgt := 474) hx hb dL_law_334 (by decide) (fun c83 => ?_) (fun c83 => ?_)
                    · have h := ob_pos c83 h
                      exact sL_law_b474 X hX hbl hbA hGa hq30 x3 M81 _ _ _ (lv_sub hl [0, 1, 2, 3] rfl) hW h
                    · have h := ob_neg c83 h
                      refine lv_iconst (v := 0) hx hb dL_law_337 (by decide) ?_
                      exact absurd h (by decide)
                  · have h := ob_neg c70 h
                    by_cases c84 : ((xs (x3).toNatClampNeg) &&& (15 : Int32)) = 7
                    · have h := ob_pos c84 h
                      refine lv_tableIn (off := 295) (tgt := 339) hx hb dL_law_44 (by rw [c84]; decide) (by rw [c84]; decide) (by rw [c84]; decide) (by decide) ?_
                      refine lv_aload_n hx hb dL_law_339 rfl (lv_at hl 1 rfl) ?_
                      obtain ⟨r87, M86, e85, h⟩ := ob_bd2 h
                      refine bg_calli X hW (cX6_place_k e85) rfl rfl kwL_56 lkd_X6_place rfl rfl ⟨Nat.le_of_ble_eq_true rfl, Nat.le_of_ble_eq_true rfl⟩ ⟨Nat.le_of_ble_eq_true rfl, Nat.le_of_ble_eq_true rfl⟩ hl.1 (Nat.le_of_ble_eq_true rfl) dL_law_340 (fun H locs hW => ?_)
                      refine lv_aload_n hx hb dL_law_343 rfl (lv_at hl 2 rfl) ?_
                      obtain ⟨r90, M89, e88, h⟩ := ob_bd2 h
                      refine bg_calli X hW (cX7_place_k e88) rfl rfl kwL_59 lkd_X7_place rfl rfl ⟨Nat.le_of_ble_eq_true rfl, Nat.le_of_ble_eq_true rfl⟩ ⟨Nat.le_of_ble_eq_true rfl, Nat.le_of_ble_eq_true rfl⟩ hl.1 (Nat.le_of_ble_eq_true rfl) dL_law_344 (fun H locs hW => ?_)
                      refine lv_icmp_eq (tgt := 474) hx hb dL_law_347 (by decide) (fun c91 => ?_) (fun c91 => ?_)
                      · have h := ob_pos c91 h
                        exact sL_law_b474 X hX hbl hbA hGa hq30 x3 M89 _ _ _ (lv_sub hl [0, 1, 2, 3] rfl) hW h
                      · have h := ob_neg c91 h
                        refine lv_iconst (v := 0) hx hb dL_law_350 (by decide) ?_
                        exact absurd h (by decide)
                    · have h := ob_neg c84 h
                      by_cases c92 : ((xs (x3).toNatClampNeg) &&& (15 : Int32)) = 8
                      · have h := ob_pos c92 h
                        refine lv_tableIn (off := 308) (tgt := 352) hx hb dL_law_44 (by rw [c92]; decide) (by rw [c92]; decide) (by rw [c92]; decide) (by decide) ?_
                        refine lv_aload_n hx hb dL_law_352 rfl (lv_at hl 1 rfl) ?_
                        refine lv_aload_n hx hb dL_law_353 rfl (lv_at hl 0 rfl) ?_
                        refine lv_iload_n hx hb dL_law_354 rfl (lv_at hl 3 rfl) ?_
                        refine lv_iconst (v := 1) hx hb dL_law_355 (by decide) ?_
                        refine lv_iadd hx hb dL_law_356 ?_
                        obtain ⟨g93, h⟩ := ob_gd h
                        refine va_sld hx hb hX hbl hbA hW.2.2 g93 dL_law_357 ?_
                        obtain ⟨r96, M95, e94, h⟩ := ob_bd2 h
                        refine bg_calli X hW (cX6_out_k e94) rfl rfl kwL_60 lkd_X6_out rfl rfl ⟨Nat.le_of_ble_eq_true rfl, Nat.le_of_ble_eq_true rfl⟩ ⟨Nat.le_of_ble_eq_true rfl, Nat.le_of_ble_eq_true rfl⟩ hl.1 (Nat.le_of_ble_eq_true rfl) dL_law_358 (fun H locs hW => ?_)
                        refine lv_aload_n hx hb dL_law_361 rfl (lv_at hl 2 rfl) ?_
                        refine lv_aload_n hx hb dL_law_362 rfl (lv_at hl 0 rfl) ?_
                        refine lv_iload_n hx hb dL_law_363 rfl (lv_at hl 3 rfl) ?_
                        refine lv_iconst (v := 1) hx hb dL_law_364 (by decide) ?_
                        refine lv_iadd hx hb dL_law_365 ?_
                        obtain ⟨g97, h⟩ := ob_gd h
                        refine va_sld hx hb hX hbl hbA hW.2.2 g97 dL_law_366 ?_
                        obtain ⟨r100, M99, e98, h⟩ := ob_bd2 h
                        refine bg_calli X hW (cX7_out_k e98) rfl rfl kwL_63 lkd_X7_out rfl rfl ⟨Nat.le_of_ble_eq_true rfl, Nat.le_of_ble_eq_true rfl⟩ ⟨Nat.le_of_ble_eq_true rfl, Nat.le_of_ble_eq_true rfl⟩ hl.1 (Nat.le_of_ble_eq_true rfl) dL_law_367 (fun H locs hW => ?_)
                        refine lv_icmp_eq (tgt := 474) hx hb dL_law_370 (by decide) (fun c101 => ?_) (fun c101 => ?_)
                        · have h := ob_pos c101 h
                          exact sL_law_b474 X hX hbl hbA hGa hq30 x3 M99 _ _ _ (lv_sub hl [0, 1, 2, 3] rfl) hW h
                        · have h := ob_neg c101 h
                          refine lv_iconst (v := 0) hx hb dL_law_373 (by decide) ?_
                          exact absurd h (by decide)
                      · have h := ob_neg c92 h
                        by_cases c102 : ((xs (x3).toNatClampNeg) &&& (15 : Int32)) = 9
                        · have h := ob_pos c102 h
                          refine lv_tableIn (off := 331) (tgt := 375) hx hb dL_law_44 (by rw [c102]; decide) (by rw [c102]; decide) (by rw [c102]; decide) (by decide) ?_
                          refine lv_aload_n hx hb dL_law_375 rfl (lv_at hl 1 rfl) ?_
                          refine lv_aload_n hx hb dL_law_376 rfl (lv_at hl 0 rfl) ?_
                          refine lv_iload_n hx hb dL_law_377 rfl (lv_at hl 3 rfl) ?_
                          refine lv_iconst (v := 1) hx hb dL_law_378 (by decide) ?_
                          refine lv_iadd hx hb dL_law_379 ?_
                          obtain ⟨g103, h⟩ := ob_gd h
                          refine va_sld hx hb hX hbl hbA hW.2.2 g103 dL_law_380 ?_
                          refine lv_aload_n hx hb dL_law_381 rfl (lv_at hl 0 rfl) ?_
                          refine lv_iload_n hx hb dL_law_382 rfl (lv_at hl 3 rfl) ?_
                          refine lv_iconst (v := 2) hx hb dL_law_383 (by decide) ?_
                          refine lv_iadd hx hb dL_law_384 ?_
                          obtain ⟨g104, h⟩ := ob_gd h
                          refine va_sld hx hb hX hbl hbA hW.2.2 g104 dL_law_385 ?_
                          obtain ⟨r107, M106, e105, h⟩ := ob_bd2 h
                          refine bg_calli X hW (cX6_item_k e105) rfl rfl kwL_64 lkd_X6_item rfl rfl ⟨Nat.le_of_ble_eq_true rfl, Nat.le_of_ble_eq_true rfl⟩ ⟨Nat.le_of_ble_eq_true rfl, Nat.le_of_ble_eq_true rfl⟩ hl.1 (Nat.le_of_ble_eq_true rfl) dL_law_386 (fun H locs hW => ?_)
                          refine lv_aload_n hx hb dL_law_389 rfl (lv_at hl 2 rfl) ?_
                          refine lv_aload_n hx hb dL_law_390 rfl (lv_at hl 0 rfl) ?_
                          refine lv_iload_n hx hb dL_law_391 rfl (lv_at hl 3 rfl) ?_
                          refine lv_iconst (v := 1) hx hb dL_law_392 (by decide) ?_
                          refine lv_iadd hx hb dL_law_393 ?_
                          obtain ⟨g108, h⟩ := ob_gd h
                          refine va_sld hx hb hX hbl hbA hW.2.2 g108 dL_law_394 ?_
                          refine lv_aload_n hx hb dL_law_395 rfl (lv_at hl 0 rfl) ?_
                          refine lv_iload_n hx hb dL_law_396 rfl (lv_at hl 3 rfl) ?_
                          refine lv_iconst (v := 2) hx hb dL_law_397 (by decide) ?_
                          refine lv_iadd hx hb dL_law_398 ?_
                          obtain ⟨g109, h⟩ := ob_gd h
                          refine va_sld hx hb hX hbl hbA hW.2.2 g109 dL_law_399 ?_
                          obtain ⟨r112, M111, e110, h⟩ := ob_bd2 h
                          refine bg_calli X hW (cX7_item__k e110) rfl rfl kwL_67 lkd_X7_item_ rfl rfl ⟨Nat.le_of_ble_eq_true rfl, Nat.le_of_ble_eq_true rfl⟩ ⟨Nat.le_of_ble_eq_true rfl, Nat.le_of_ble_eq_true rfl⟩ hl.1 (Nat.le_of_ble_eq_true rfl) dL_law_400 (fun H locs hW => ?_)
                          refine lv_icmp_eq (tgt := 474) hx hb dL_law_403 (by decide) (fun c113 => ?_) (fun c113 => ?_)
                          · have h := ob_pos c113 h
                            exact sL_law_b474 X hX hbl hbA hGa hq30 x3 M111 _ _ _ (lv_sub hl [0, 1, 2, 3] rfl) hW h
                          · have h := ob_neg c113 h
                            refine lv_iconst (v := 0) hx hb dL_law_406 (by decide) ?_
                            exact absurd h (by decide)
                        · have h := ob_neg c102 h
                          by_cases c114 : ((xs (x3).toNatClampNeg) &&& (15 : Int32)) = 10
                          · have h := ob_pos c114 h
                            refine lv_tableIn (off := 364) (tgt := 408) hx hb dL_law_44 (by rw [c114]; decide) (by rw [c114]; decide) (by rw [c114]; decide) (by decide) ?_
                            refine lv_aload_n hx hb dL_law_408 rfl (lv_at hl 1 rfl) ?_
                            refine lv_aload_n hx hb dL_law_409 rfl (lv_at hl 0 rfl) ?_
                            refine lv_iload_n hx hb dL_law_410 rfl (lv_at hl 3 rfl) ?_
                            refine lv_iconst (v := 1) hx hb dL_law_411 (by decide) ?_
                            refine lv_iadd hx hb dL_law_412 ?_
                            obtain ⟨g115, h⟩ := ob_gd h
                            refine va_sld hx hb hX hbl hbA hW.2.2 g115 dL_law_413 ?_
                            refine lv_aload_n hx hb dL_law_414 rfl (lv_at hl 0 rfl) ?_
                            refine lv_iload_n hx hb dL_law_415 rfl (lv_at hl 3 rfl) ?_
                            refine lv_iconst (v := 2) hx hb dL_law_416 (by decide) ?_
                            refine lv_iadd hx hb dL_law_417 ?_
                            obtain ⟨g116, h⟩ := ob_gd h
                            refine va_sld hx hb hX hbl hbA hW.2.2 g116 dL_law_418 ?_
                            refine lv_aload_n hx hb dL_law_419 rfl (lv_at hl 0 rfl) ?_
                            refine lv_iload_n hx hb dL_law_420 rfl (lv_at hl 3 rfl) ?_
                            refine lv_iconst (v := 3) hx hb dL_law_421 (by decide) ?_
                            refine lv_iadd hx hb dL_law_422 ?_
                            obtain ⟨g117, h⟩ := ob_gd h
                            refine va_sld hx hb hX hbl hbA hW.2.2 g117 dL_law_423 ?_
                            obtain ⟨r120, M119, e118, h⟩ := ob_bd2 h
                            refine bg_calli X hW (cX6_shrink_k e118) rfl rfl kwL_68 lkd_X6_shrink rfl rfl ⟨Nat.le_of_ble_eq_true rfl, Nat.le_of_ble_eq_true rfl⟩ ⟨Nat.le_of_ble_eq_true rfl, Nat.le_of_ble_eq_true rfl⟩ hl.1 (Nat.le_of_ble_eq_true rfl) dL_law_424 (fun H locs hW => ?_)
                            refine lv_aload_n hx hb dL_law_427 rfl (lv_at hl 2 rfl) ?_
                            refine lv_aload_n hx hb dL_law_428 rfl (lv_at hl 0 rfl) ?_
                            refine lv_iload_n hx hb dL_law_429 rfl (lv_at hl 3 rfl) ?_
                            refine lv_iconst (v := 1) hx hb dL_law_430 (by decide) ?_
                            refine lv_iadd hx hb dL_law_431 ?_
                            obtain ⟨g121, h⟩ := ob_gd h
                            refine va_sld hx hb hX hbl hbA hW.2.2 g121 dL_law_432 ?_
                            refine lv_aload_n hx hb dL_law_433 rfl (lv_at hl 0 rfl) ?_
                            refine lv_iload_n hx hb dL_law_434 rfl (lv_at hl 3 rfl) ?_
                            refine lv_iconst (v := 2) hx hb dL_law_435 (by decide) ?_
                            refine lv_iadd hx hb dL_law_436 ?_
                            obtain ⟨g122, h⟩ := ob_gd h
                            refine va_sld hx hb hX hbl hbA hW.2.2 g122 dL_law_437 ?_
                            refine lv_aload_n hx hb dL_law_438 rfl (lv_at hl 0 rfl) ?_
                            refine lv_iload_n hx hb dL_law_439 rfl (lv_at hl 3 rfl) ?_
                            refine lv_iconst (v := 3) hx hb dL_law_440 (by decide) ?_
                            refine lv_iadd hx hb dL_law_441 ?_
                            obtain ⟨g123, h⟩ := ob_gd h
                            refine va_sld hx hb hX hbl hbA hW.2.2 g123 dL_law_442 ?_
                            obtain ⟨r126, M125, e124, h⟩ := ob_bd2 h
                            refine bg_calli X hW (cX7_shrink_k e124) rfl rfl kwL_71 lkd_X7_shrink rfl rfl ⟨Nat.le_of_ble_eq_true rfl, Nat.le_of_ble_eq_true rfl⟩ ⟨Nat.le_of_ble_eq_true rfl, Nat.le_of_ble_eq_true rfl⟩ hl.1 (Nat.le_of_ble_eq_true rfl) dL_law_443 (fun H locs hW => ?_)
                            refine lv_icmp_eq (tgt := 474) hx hb dL_law_446 (by decide) (fun c127 => ?_) (fun c127 => ?_)
                            · have h := ob_pos c127 h
                              exact sL_law_b474 X hX hbl hbA hGa hq30 x3 M125 _ _ _ (lv_sub hl [0, 1, 2, 3] rfl) hW h
                            · have h := ob_neg c127 h
                              refine lv_iconst (v := 0) hx hb dL_law_449 (by decide) ?_
                              exact absurd h (by decide)
                          · have h := ob_neg c114 h
                            by_cases c128 : ((xs (x3).toNatClampNeg) &&& (15 : Int32)) = 11
                            · have h := ob_pos c128 h
                              refine lv_tableIn (off := 407) (tgt := 451) hx hb dL_law_44 (by rw [c128]; decide) (by rw [c128]; decide) (by rw [c128]; decide) (by decide) ?_
                              refine lv_aload_n hx hb dL_law_451 rfl (lv_at hl 1 rfl) ?_
                              refine lv_aload_n hx hb dL_law_452 rfl (lv_at hl 0 rfl) ?_
                              refine lv_iload_n hx hb dL_law_453 rfl (lv_at hl 3 rfl) ?_
                              refine lv_iconst (v := 1) hx hb dL_law_454 (by decide) ?_
                              refine lv_iadd hx hb dL_law_455 ?_
                              obtain ⟨g129, h⟩ := ob_gd h
                              refine va_sld hx hb hX hbl hbA hW.2.2 g129 dL_law_456 ?_
                              obtain ⟨r132, M131, e130, h⟩ := ob_bd2 h
                              refine bg_calli X hW (cX6_count_k e130) rfl rfl kwL_72 lkd_X6_count rfl rfl ⟨Nat.le_of_ble_eq_true rfl, Nat.le_of_ble_eq_true rfl⟩ ⟨Nat.le_of_ble_eq_true rfl, Nat.le_of_ble_eq_true rfl⟩ hl.1 (Nat.le_of_ble_eq_true rfl) dL_law_457 (fun H locs hW => ?_)
                              refine lv_aload_n hx hb dL_law_460 rfl (lv_at hl 2 rfl) ?_
                              refine lv_aload_n hx hb dL_law_461 rfl (lv_at hl 0 rfl) ?_
                              refine lv_iload_n hx hb dL_law_462 rfl (lv_at hl 3 rfl) ?_
                              refine lv_iconst (v := 1) hx hb dL_law_463 (by decide) ?_
                              refine lv_iadd hx hb dL_law_464 ?_
                              obtain ⟨g133, h⟩ := ob_gd h
                              refine va_sld hx hb hX hbl hbA hW.2.2 g133 dL_law_465 ?_
                              obtain ⟨r136, M135, e134, h⟩ := ob_bd2 h
                              refine bg_calli X hW (cX7_count_k e134) rfl rfl kwL_75 lkd_X7_count rfl rfl ⟨Nat.le_of_ble_eq_true rfl, Nat.le_of_ble_eq_true rfl⟩ ⟨Nat.le_of_ble_eq_true rfl, Nat.le_of_ble_eq_true rfl⟩ hl.1 (Nat.le_of_ble_eq_true rfl) dL_law_466 (fun H locs hW => ?_)
                              refine lv_icmp_eq (tgt := 474) hx hb dL_law_469 (by decide) (fun c137 => ?_) (fun c137 => ?_)
                              · have h := ob_pos c137 h
                                exact sL_law_b474 X hX hbl hbA hGa hq30 x3 M135 _ _ _ (lv_sub hl [0, 1, 2, 3] rfl) hW h
                              · have h := ob_neg c137 h
                                refine lv_iconst (v := 0) hx hb dL_law_472 (by decide) ?_
                                exact absurd h (by decide)
                            · have h := ob_neg c128 h
                              refine lv_tableOut (tgt := 474) hx hb dL_law_44 (by have nc3 := lv_neT (a := 0) c3 rfl; have nc18 := lv_neT (a := 1) c18 rfl; have nc28 := lv_neT (a := 2) c28 rfl; have nc40 := lv_neT (a := 3) c40 rfl; have nc50 := lv_neT (a := 4) c50 rfl; have nc58 := lv_neT (a := 5) c58 rfl; have nc70 := lv_neT (a := 6) c70 rfl; have nc84 := lv_neT (a := 7) c84 rfl; have nc92 := lv_neT (a := 8) c92 rfl; have nc102 := lv_neT (a := 9) c102 rfl; have nc114 := lv_neT (a := 10) c114 rfl; have nc128 := lv_neT (a := 11) c128 rfl; omega) (by decide) ?_
                              exact sL_law_b474 X hX hbl hbA hGa hq30 x3 M _ _ _ (lv_sub hl [0, 1, 2, 3] rfl) hW h
