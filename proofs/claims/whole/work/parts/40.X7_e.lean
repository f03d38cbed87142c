def rX7_count (a1 : Int32) (M : Mm) : Option (Int32 × Mm) :=
    (if a1 = 0 then (some ((M.1 31 2), M)) else if a1 = 1 then (some ((M.1 31 4), M)) else if a1 = 2 then (some ((M.1 31 10), M)) else if a1 = 3 then (some ((M.1 31 11), M)) else if a1 = 4 then (some ((M.1 31 12), M)) else if a1 = 5 then (some ((M.1 31 8), M)) else if a1 = 6 then (some ((M.1 31 13), M)) else (some ((-1 : Int32), M)))
set_option maxRecDepth 100000 in
set_option maxHeartbeats 4000000 in
theorem cX7_count_k {l : Launch} {G : Gg} {a1 : Int32} {M M' : Mm} {r : Int32} (h : rX7_count a1 M = some (r, M')) : CTi l yX7_count cX7_count 2 (some .int) 0 G [.ref (G.2.2.2 31), .int a1] M r M' := by
  unfold rX7_count at h
  refine ct_i (by decide) (Nat.le_of_ble_eq_true rfl) (fun p e s m below meth c ls X hl hW => ?_)
  have hx := X.1.1
  have hb := X.1.2.1
  refine lv_iload_n hx hb dX7_count_0 rfl (lv_at hl 1 rfl) ?_
  by_cases c1 : a1 = 0
  · have h := ob_pos c1 h
    refine lv_tableIn (off := 43) (tgt := 44) hx hb dX7_count_1 (by rw [c1]; decide) (by rw [c1]; decide) (by rw [c1]; decide) (by decide) ?_
    refine lv_aload_n hx hb dX7_count_44 rfl (lv_at hl 0 rfl) ?_
    refine gf7_78 (cN := 31) X hW rfl dX7_count_45 ?_
    exact rt_i X hW h dX7_count_48
  · have h := ob_neg c1 h
    by_cases c2 : a1 = 1
    · have h := ob_pos c2 h
      refine lv_tableIn (off := 48) (tgt := 49) hx hb dX7_count_1 (by rw [c2]; decide) (by rw [c2]; decide) (by rw [c2]; decide) (by decide) ?_
      refine lv_aload_n hx hb dX7_count_49 rfl (lv_at hl 0 rfl) ?_
      refine gf7_140 (cN := 31) X hW rfl dX7_count_50 ?_
      exact rt_i X hW h dX7_count_53
    · have h := ob_neg c2 h
      by_cases c3 : a1 = 2
      · have h := ob_pos c3 h
        refine lv_tableIn (off := 53) (tgt := 54) hx hb dX7_count_1 (by rw [c3]; decide) (by rw [c3]; decide) (by rw [c3]; decide) (by decide) ?_
        refine lv_aload_n hx hb dX7_count_54 rfl (lv_at hl 0 rfl) ?_
        refine gf7_125 (cN := 31) X hW rfl dX7_count_55 ?_
        exact rt_i X hW h dX7_count_58
      · have h := ob_neg c3 h
        by_cases c4 : a1 = 3
        · have h := ob_pos c4 h
          refine lv_tableIn (off := 58) (tgt := 59) hx hb dX7_count_1 (by rw [c4]; decide) (by rw [c4]; decide) (by rw [c4]; decide) (by decide) ?_
          refine lv_aload_n hx hb dX7_count_59 rfl (lv_at hl 0 rfl) ?_
          refine gf7_143 (cN := 31) X hW rfl dX7_count_60 ?_
          exact rt_i X hW h dX7_count_63
        · have h := ob_neg c4 h
          by_cases c5 : a1 = 4
          · have h := ob_pos c5 h
            refine lv_tableIn (off := 63) (tgt := 64) hx hb dX7_count_1 (by rw [c5]; decide) (by rw [c5]; decide) (by rw [c5]; decide) (by decide) ?_
            refine lv_aload_n hx hb dX7_count_64 rfl (lv_at hl 0 rfl) ?_
            refine gf7_134 (cN := 31) X hW rfl dX7_count_65 ?_
            exact rt_i X hW h dX7_count_68
          · have h := ob_neg c5 h
            by_cases c6 : a1 = 5
            · have h := ob_pos c6 h
              refine lv_tableIn (off := 68) (tgt := 69) hx hb dX7_count_1 (by rw [c6]; decide) (by rw [c6]; decide) (by rw [c6]; decide) (by decide) ?_
              refine lv_aload_n hx hb dX7_count_69 rfl (lv_at hl 0 rfl) ?_
              refine gf7_122 (cN := 31) X hW rfl dX7_count_70 ?_
              exact rt_i X hW h dX7_count_73
            · have h := ob_neg c6 h
              by_cases c7 : a1 = 6
              · have h := ob_pos c7 h
                refine lv_tableIn (off := 73) (tgt := 74) hx hb dX7_count_1 (by rw [c7]; decide) (by rw [c7]; decide) (by rw [c7]; decide) (by decide) ?_
                refine lv_aload_n hx hb dX7_count_74 rfl (lv_at hl 0 rfl) ?_
                refine gf7_191 (cN := 31) X hW rfl dX7_count_75 ?_
                exact rt_i X hW h dX7_count_78
              · have h := ob_neg c7 h
                refine lv_tableOut (tgt := 79) hx hb dX7_count_1 (by have nc1 := lv_neT (a := 0) c1 rfl; have nc2 := lv_neT (a := 1) c2 rfl; have nc3 := lv_neT (a := 2) c3 rfl; have nc4 := lv_neT (a := 3) c4 rfl; have nc5 := lv_neT (a := 4) c5 rfl; have nc6 := lv_neT (a := 5) c6 rfl; have nc7 := lv_neT (a := 6) c7 rfl; omega) (by decide) ?_
                refine lv_iconst (v := (-1)) hx hb dX7_count_79 (by decide) ?_
                exact rt_i X hW h dX7_count_80
