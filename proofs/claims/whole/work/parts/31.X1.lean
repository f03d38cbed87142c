def rX1_append (a1 : Int32) (a2 : Int32) (a3 : Int32) (a4 : Int32) (a5 : Int32) (M : Mm) : Option Mm :=
    (if (600 : Int32) ≤ (M.1 9 5) then (some M) else (if (M.1 9 5) < 0 ∨ 600 ≤ ((M.1 9 5)).toNatClampNeg then none else lt_ (st M 10 ((M.1 9 5)).toNatClampNeg a1) fun M3 => if (M3.1 9 5) < 0 ∨ 600 ≤ ((M3.1 9 5)).toNatClampNeg then none else lt_ (st M3 11 ((M3.1 9 5)).toNatClampNeg a2) fun M5 => if (M5.1 9 5) < 0 ∨ 600 ≤ ((M5.1 9 5)).toNatClampNeg then none else lt_ (st M5 12 ((M5.1 9 5)).toNatClampNeg a3) fun M7 => if (M7.1 9 5) < 0 ∨ 600 ≤ ((M7.1 9 5)).toNatClampNeg then none else lt_ (st M7 13 ((M7.1 9 5)).toNatClampNeg a4) fun M9 => if (M9.1 9 5) < 0 ∨ 600 ≤ ((M9.1 9 5)).toNatClampNeg then none else lt_ (st M9 14 ((M9.1 9 5)).toNatClampNeg a5) fun M11 => lt_ (st M11 9 5 ((M11.1 9 5) + (1 : Int32))) fun M12 => some M12))
set_option maxRecDepth 100000 in
set_option maxHeartbeats 4000000 in
theorem cX1_append_k {l : Launch} {G : Gg} {a1 : Int32} {a2 : Int32} {a3 : Int32} {a4 : Int32} {a5 : Int32} {M M' : Mm} (h : rX1_append a1 a2 a3 a4 a5 M = some M') : CTv l yX1_append cX1_append 6 0 G [.ref (G.2.2.2 9), .int a1, .int a2, .int a3, .int a4, .int a5] M M' := by
  unfold rX1_append at h
  refine ct_v (by decide) (Nat.le_of_ble_eq_true rfl) (fun p e s m below meth c ls X hl hW => ?_)
  have hx := X.1.1
  have hb := X.1.2.1
  refine lv_aload_n hx hb dX1_append_0 rfl (lv_at hl 0 rfl) ?_
  refine gf1_27 (cN := 9) X hW rfl dX1_append_1 ?_
  refine lv_sipush (v := 600) hx hb dX1_append_4 (by decide) ?_
  refine lv_icmp_ge (tgt := 72) hx hb dX1_append_7 (by decide) (fun c1 => ?_) (fun c1 => ?_)
  · have h := ob_pos c1 h
    exact rt_v X hW h dX1_append_72
  · have h := ob_neg c1 h
    refine lv_aload_n hx hb dX1_append_10 rfl (lv_at hl 0 rfl) ?_
    refine gf1_9 (cN := 9) X hW rfl dX1_append_11 ?_
    refine lv_aload_n hx hb dX1_append_14 rfl (lv_at hl 0 rfl) ?_
    refine gf1_27 (cN := 9) X hW rfl dX1_append_15 ?_
    refine lv_iload_n hx hb dX1_append_18 rfl (lv_at hl 1 rfl) ?_
    obtain ⟨g2, h⟩ := ob_gd h
    refine bg_ast (cN := 10) X hW (n := 600) rfl g2 dX1_append_19 (fun M3 eM3 H locs hW => ?_)
    have h := ob_lt eM3 h
    refine lv_aload_n hx hb dX1_append_20 rfl (lv_at hl 0 rfl) ?_
    refine gf1_15 (cN := 9) X hW rfl dX1_append_21 ?_
    refine lv_aload_n hx hb dX1_append_24 rfl (lv_at hl 0 rfl) ?_
    refine gf1_27 (cN := 9) X hW rfl dX1_append_25 ?_
    refine lv_iload_n hx hb dX1_append_28 rfl (lv_at hl 2 rfl) ?_
    obtain ⟨g4, h⟩ := ob_gd h
    refine bg_ast (cN := 11) X hW (n := 600) rfl g4 dX1_append_29 (fun M5 eM5 H locs hW => ?_)
    have h := ob_lt eM5 h
    refine lv_aload_n hx hb dX1_append_30 rfl (lv_at hl 0 rfl) ?_
    refine gf1_18 (cN := 9) X hW rfl dX1_append_31 ?_
    refine lv_aload_n hx hb dX1_append_34 rfl (lv_at hl 0 rfl) ?_
    refine gf1_27 (cN := 9) X hW rfl dX1_append_35 ?_
    refine lv_iload_n hx hb dX1_append_38 rfl (lv_at hl 3 rfl) ?_
    obtain ⟨g6, h⟩ := ob_gd h
    refine bg_ast (cN := 12) X hW (n := 600) rfl g6 dX1_append_39 (fun M7 eM7 H locs hW => ?_)
    have h := ob_lt eM7 h
    refine lv_aload_n hx hb dX1_append_40 rfl (lv_at hl 0 rfl) ?_
    refine gf1_21 (cN := 9) X hW rfl dX1_append_41 ?_
    refine lv_aload_n hx hb dX1_append_44 rfl (lv_at hl 0 rfl) ?_
    refine gf1_27 (cN := 9) X hW rfl dX1_append_45 ?_
    refine lv_iload hx hb dX1_append_48 (lv_at hl 4 rfl) ?_
    obtain ⟨g8, h⟩ := ob_gd h
    refine bg_ast (cN := 13) X hW (n := 600) rfl g8 dX1_append_50 (fun M9 eM9 H locs hW => ?_)
    have h := ob_lt eM9 h
    refine lv_aload_n hx hb dX1_append_51 rfl (lv_at hl 0 rfl) ?_
    refine gf1_24 (cN := 9) X hW rfl dX1_append_52 ?_
    refine lv_aload_n hx hb dX1_append_55 rfl (lv_at hl 0 rfl) ?_
    refine gf1_27 (cN := 9) X hW rfl dX1_append_56 ?_
    refine lv_iload hx hb dX1_append_59 (lv_at hl 5 rfl) ?_
    obtain ⟨g10, h⟩ := ob_gd h
    refine bg_ast (cN := 14) X hW (n := 600) rfl g10 dX1_append_61 (fun M11 eM11 H locs hW => ?_)
    have h := ob_lt eM11 h
    refine lv_aload_n hx hb dX1_append_62 rfl (lv_at hl 0 rfl) ?_
    refine lv_dup hx hb dX1_append_63 rfl ?_
    refine gf1_27 (cN := 9) X hW rfl dX1_append_64 ?_
    refine lv_iconst (v := 1) hx hb dX1_append_67 (by decide) ?_
    refine lv_iadd hx hb dX1_append_68 ?_
    refine pf1_27 (cN := 9) X hW rfl dX1_append_69 (fun M12 eM12 H locs hW => ?_)
    have h := ob_lt eM12 h
    exact rt_v X hW h dX1_append_72
def rX1_get (a1 : Int32) (a2 : Int32) (M : Mm) : Option (Int32 × Mm) :=
    (if a1 < 0 then (some ((-1 : Int32), M)) else (if a1 < (M.1 9 5) then (if a2 = 0 then (if a1 < 0 ∨ 600 ≤ (a1).toNatClampNeg then none else some ((M.1 10 (a1).toNatClampNeg), M)) else if a2 = 1 then (if a1 < 0 ∨ 600 ≤ (a1).toNatClampNeg then none else some ((M.1 11 (a1).toNatClampNeg), M)) else if a2 = 2 then (if a1 < 0 ∨ 600 ≤ (a1).toNatClampNeg then none else some ((M.1 12 (a1).toNatClampNeg), M)) else if a2 = 3 then (if a1 < 0 ∨ 600 ≤ (a1).toNatClampNeg then none else some ((M.1 13 (a1).toNatClampNeg), M)) else (some ((-1 : Int32), M))) else (some ((-1 : Int32), M))))
set_option maxRecDepth 100000 in
set_option maxHeartbeats 4000000 in
theorem cX1_get_k {l : Launch} {G : Gg} {a1 : Int32} {a2 : Int32} {M M' : Mm} {r : Int32} (h : rX1_get a1 a2 M = some (r, M')) : CTi l yX1_get cX1_get 3 (some .int) 0 G [.ref (G.2.2.2 9), .int a1, .int a2] M r M' := by
  unfold rX1_get at h
  refine ct_i (by decide) (Nat.le_of_ble_eq_true rfl) (fun p e s m below meth c ls X hl hW => ?_)
  have hx := X.1.1
  have hb := X.1.2.1
  refine lv_iload_n hx hb dX1_get_0 rfl (lv_at hl 1 rfl) ?_
  refine lv_if_lt (tgt := 12) hx hb dX1_get_1 (by decide) (fun c1 => ?_) (fun c1 => ?_)
  · have h := ob_pos c1 h
    refine lv_iconst (v := (-1)) hx hb dX1_get_12 (by decide) ?_
    exact rt_i X hW h dX1_get_13
  · have h := ob_neg c1 h
    refine lv_iload_n hx hb dX1_get_4 rfl (lv_at hl 1 rfl) ?_
    refine lv_aload_n hx hb dX1_get_5 rfl (lv_at hl 0 rfl) ?_
    refine gf1_27 (cN := 9) X hW rfl dX1_get_6 ?_
    refine lv_icmp_lt (tgt := 14) hx hb dX1_get_9 (by decide) (fun c2 => ?_) (fun c2 => ?_)
    · have h := ob_pos c2 h
      refine lv_iload_n hx hb dX1_get_14 rfl (lv_at hl 2 rfl) ?_
      by_cases c3 : a2 = 0
      · have h := ob_pos c3 h
        refine lv_tableIn (off := 29) (tgt := 44) hx hb dX1_get_15 (by rw [c3]; decide) (by rw [c3]; decide) (by rw [c3]; decide) (by decide) ?_
        refine lv_aload_n hx hb dX1_get_44 rfl (lv_at hl 0 rfl) ?_
        refine gf1_9 (cN := 9) X hW rfl dX1_get_45 ?_
        refine lv_iload_n hx hb dX1_get_48 rfl (lv_at hl 1 rfl) ?_
        obtain ⟨g4, h⟩ := ob_gd h
        refine bg_ald (cN := 10) X hW (n := 600) rfl g4 dX1_get_49 ?_
        exact rt_i X hW h dX1_get_50
      · have h := ob_neg c3 h
        by_cases c5 : a2 = 1
        · have h := ob_pos c5 h
          refine lv_tableIn (off := 36) (tgt := 51) hx hb dX1_get_15 (by rw [c5]; decide) (by rw [c5]; decide) (by rw [c5]; decide) (by decide) ?_
          refine lv_aload_n hx hb dX1_get_51 rfl (lv_at hl 0 rfl) ?_
          refine gf1_15 (cN := 9) X hW rfl dX1_get_52 ?_
          refine lv_iload_n hx hb dX1_get_55 rfl (lv_at hl 1 rfl) ?_
          obtain ⟨g6, h⟩ := ob_gd h
          refine bg_ald (cN := 11) X hW (n := 600) rfl g6 dX1_get_56 ?_
          exact rt_i X hW h dX1_get_57
        · have h := ob_neg c5 h
          by_cases c7 : a2 = 2
          · have h := ob_pos c7 h
            refine lv_tableIn (off := 43) (tgt := 58) hx hb dX1_get_15 (by rw [c7]; decide) (by rw [c7]; decide) (by rw [c7]; decide) (by decide) ?_
            refine lv_aload_n hx hb dX1_get_58 rfl (lv_at hl 0 rfl) ?_
            refine gf1_18 (cN := 9) X hW rfl dX1_get_59 ?_
            refine lv_iload_n hx hb dX1_get_62 rfl (lv_at hl 1 rfl) ?_
            obtain ⟨g8, h⟩ := ob_gd h
            refine bg_ald (cN := 12) X hW (n := 600) rfl g8 dX1_get_63 ?_
            exact rt_i X hW h dX1_get_64
          · have h := ob_neg c7 h
            by_cases c9 : a2 = 3
            · have h := ob_pos c9 h
              refine lv_tableIn (off := 50) (tgt := 65) hx hb dX1_get_15 (by rw [c9]; decide) (by rw [c9]; decide) (by rw [c9]; decide) (by decide) ?_
              refine lv_aload_n hx hb dX1_get_65 rfl (lv_at hl 0 rfl) ?_
              refine gf1_21 (cN := 9) X hW rfl dX1_get_66 ?_
              refine lv_iload_n hx hb dX1_get_69 rfl (lv_at hl 1 rfl) ?_
              obtain ⟨g10, h⟩ := ob_gd h
              refine bg_ald (cN := 13) X hW (n := 600) rfl g10 dX1_get_70 ?_
              exact rt_i X hW h dX1_get_71
            · have h := ob_neg c9 h
              refine lv_tableOut (tgt := 72) hx hb dX1_get_15 (by have nc3 := lv_neT (a := 0) c3 rfl; have nc5 := lv_neT (a := 1) c5 rfl; have nc7 := lv_neT (a := 2) c7 rfl; have nc9 := lv_neT (a := 3) c9 rfl; omega) (by decide) ?_
              refine lv_iconst (v := (-1)) hx hb dX1_get_72 (by decide) ?_
              exact rt_i X hW h dX1_get_73
    · have h := ob_neg c2 h
      refine lv_iconst (v := (-1)) hx hb dX1_get_12 (by decide) ?_
      exact rt_i X hW h dX1_get_13
def rX1_copyLengths (M : Mm) : Option (Int32 × Mm) :=
    (lt_ (if (nI 600) < (M.1 9 5) then (nI 600) else (M.1 9 5)) fun y1 => if (0 : Int32) < 0 ∨ (0 : Int32) < 0 ∨ y1 < 0 ∨ 600 < ((0 : Int32)).toNatClampNeg + (y1).toNatClampNeg ∨ 600 < ((0 : Int32)).toNatClampNeg + (y1).toNatClampNeg then none else lt_ (sa M 30 (va_cpy (M.1 14) (M.1 30) ((0 : Int32)).toNatClampNeg ((0 : Int32)).toNatClampNeg (y1).toNatClampNeg)) fun M3 => some (y1, M3))
set_option maxRecDepth 100000 in
set_option maxHeartbeats 4000000 in
theorem cX1_copyLengths_k {l : Launch} {G : Gg} {M M' : Mm} {r : Int32} (h : rX1_copyLengths M = some (r, M')) : CTi l yX1_copyLengths cX1_copyLengths 3 (some .int) 3 G [.ref (G.2.2.2 9), .ref (G.2.2.2 30)] M r M' := by
  unfold rX1_copyLengths at h
  refine ct_i (by decide) (Nat.le_of_ble_eq_true rfl) (fun p e s m below meth c ls X hl hW => ?_)
  have hx := X.1.1
  have hb := X.1.2.1
  refine lv_aload_n hx hb dX1_copyLengths_0 rfl (lv_at hl 0 rfl) ?_
  refine gf1_27 (cN := 9) X hW rfl dX1_copyLengths_1 ?_
  refine lv_aload_n hx hb dX1_copyLengths_4 rfl (lv_at hl 1 rfl) ?_
  refine bg_len (cN := 30) X hW (n := 600) rfl dX1_copyLengths_5 ?_
  refine bg_min X mw504 mw237 mw3 mw238 hl.1 (Nat.le_of_ble_eq_true rfl) (Nat.le_of_ble_eq_true rfl) ⟨Nat.le_refl _, Nat.le_refl _⟩ dX1_copyLengths_6 ?_
  refine lv_topi (fun y1 ey1 => ?_)
  have h := ob_lt ey1 h
  refine lv_istore_n (lv' := [(2, .int y1), (0, .ref (G.2.2.2 9)), (1, .ref (G.2.2.2 30))]) hx hb dX1_copyLengths_9 rfl hl (by decide) rfl (fun ls hl => ?_)
  refine lv_aload_n hx hb dX1_copyLengths_10 rfl (lv_at hl 1 rfl) ?_
  refine gf1_24 (cN := 9) X hW rfl dX1_copyLengths_11 ?_
  refine lv_iconst (v := 0) hx hb dX1_copyLengths_14 (by decide) ?_
  refine lv_aload_n hx hb dX1_copyLengths_15 rfl (lv_at hl 2 rfl) ?_
  refine lv_iconst (v := 0) hx hb dX1_copyLengths_16 (by decide) ?_
  refine lv_iload_n hx hb dX1_copyLengths_17 rfl (lv_at hl 0 rfl) ?_
  obtain ⟨g2, h⟩ := ob_gd h
  refine bg_copy (c0 := 14) (c1 := 30) X hW (n0 := 600) (n1 := 600) mw505 mw507 mw506 mw10 rfl rfl g2 hl.1 (Nat.le_of_ble_eq_true rfl) (Nat.le_of_ble_eq_true rfl) dX1_copyLengths_18 (fun M3 eM3 H locs hW => ?_)
  have h := ob_lt eM3 h
  refine lv_iload_n hx hb dX1_copyLengths_21 rfl (lv_at hl 0 rfl) ?_
  exact rt_i X hW h dX1_copyLengths_22
