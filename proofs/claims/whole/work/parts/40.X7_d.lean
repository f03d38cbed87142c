def rX7_reads_b76_s (q76 : Mm → Option Mm) (M : Mm) : Option Mm :=
    (if (M.1 31 8) = 0 then (if (M.1 31 14) ≤ 0 then (some M) else (Option.bind (rX7_item M) fun M19 => q76  M19)) else (some M))
def rX7_reads_b76 : Nat → Mm → Option Mm
  | 0 => fun _ => none
  | n + 1 => rX7_reads_b76_s (rX7_reads_b76 n)
set_option maxRecDepth 100000 in
set_option maxHeartbeats 4000000 in
theorem sX7_reads_b76 {p : Program} {l : Launch} {e : Env} {s : State} {m : MethodId} {args : Array Value} {below : List Frame} {meth : Method} {c : Code} {G : Gg} {M' : Mm} (X : Cx p m c meth cX7_reads 4 s args RX7 none G) : ∀ (n : Nat), ∀ (M : Mm) (ls : Array Slot) (H : Heap) (locs : List Loc), lv_has ls 4 [(0, .ref (G.2.2.2 31))] → Wo G s M H locs → rX7_reads_b76 n  M = some M' → W p l e (rm 5) s m args below meth c H locs 0 0 (Qv below args s G M') (F0 m 76 ls []) := by
  intro n
  induction n with
  | zero =>
    intro M ls H locs hl hW h
    cases (show (none : Option Mm) = some M' from h)
  | succ n hq760 =>
    have hq76 : ∀ (M : Mm) (ls : Array Slot) (H : Heap) (locs : List Loc), lv_has ls 4 [(0, .ref (G.2.2.2 31))] → Wo G s M H locs → (rX7_reads_b76 n)  M = some M' → W p l e (rm 5) s m args below meth c H locs 0 0 (Qv below args s G M') (F0 m 76 ls []) := hq760
    intro M ls H locs hl hW h
    have h : rX7_reads_b76_s (rX7_reads_b76 n)  M = some M' := h
    unfold rX7_reads_b76_s at h
    have hx := X.1.1
    have hb := X.1.2.1
    refine lv_aload_n hx hb dX7_reads_76 rfl (lv_at hl 0 rfl) ?_
    refine gf7_122 (cN := 31) X hW rfl dX7_reads_77 ?_
    refine lv_if_ne (tgt := 97) hx hb dX7_reads_80 (by decide) (fun c16 => ?_) (fun c16 => ?_)
    · have h := ob_neg c16 h
      exact rt_v X hW h dX7_reads_97
    · have h := ob_pos c16 h
      refine lv_aload_n hx hb dX7_reads_83 rfl (lv_at hl 0 rfl) ?_
      refine gf7_137 (cN := 31) X hW rfl dX7_reads_84 ?_
      refine lv_if_le (tgt := 97) hx hb dX7_reads_87 (by decide) (fun c17 => ?_) (fun c17 => ?_)
      · have h := ob_pos c17 h
        exact rt_v X hW h dX7_reads_97
      · have h := ob_neg c17 h
        refine lv_aload_n hx hb dX7_reads_90 rfl (lv_at hl 0 rfl) ?_
        obtain ⟨M19, e18, h⟩ := ob_bind h
        refine bg_callv X hW (cX7_item_k e18) rfl rfl kw7_194 kd_X7_item rfl rfl ⟨Nat.le_of_ble_eq_true rfl, Nat.le_of_ble_eq_true rfl⟩ ⟨Nat.le_refl _, Nat.le_refl _⟩ hl.1 (Nat.le_of_ble_eq_true rfl) dX7_reads_91 (fun H locs hW => ?_)
        refine lv_goto (tgt := 76) hx hb dX7_reads_94 (by decide) ?_
        exact hq76 M19 _ _ _ (lv_sub hl [0] rfl) hW h
def rX7_reads (a1 : Int32) (a2 : Int32) (a3 : Int32) (M : Mm) : Option Mm :=
    (lt_ (st M 31 13 ((M.1 31 13) + (1 : Int32))) fun M1 => lt_ (st M1 31 5 a1) fun M2 => lt_ (st M2 31 6 a2) fun M3 => lt_ (st M3 31 7 a3) fun M4 => lt_ (st M4 31 4 (0 : Int32)) fun M5 => lt_ (st M5 31 8 (0 : Int32)) fun M6 => lt_ (st M6 31 9 (-1 : Int32)) fun M7 => lt_ (st M7 31 10 (0 : Int32)) fun M8 => lt_ (st M8 31 11 (0 : Int32)) fun M9 => lt_ (st M9 31 12 (0 : Int32)) fun M10 => lt_ (st M10 31 14 (0 : Int32)) fun M11 => if (0 : Int32) < 0 ∨ 10 ≤ ((0 : Int32)).toNatClampNeg then none else lt_ (st M11 38 ((0 : Int32)).toNatClampNeg (0 : Int32)) fun M13 => Option.bind (rX7_begins (0 : Int32) (M13.1 31 2) M13) fun M15 => rX7_reads_b76 FU  M15)
set_option maxRecDepth 100000 in
set_option maxHeartbeats 4000000 in
theorem cX7_reads_k {l : Launch} {G : Gg} {a1 : Int32} {a2 : Int32} {a3 : Int32} {M M' : Mm} (h : rX7_reads a1 a2 a3 M = some M') : CTv l yX7_reads cX7_reads 4 5 G [.ref (G.2.2.2 31), .int a1, .int a2, .int a3] M M' := by
  unfold rX7_reads at h
  refine ct_v (by decide) (Nat.le_of_ble_eq_true rfl) (fun p e s m below meth c ls X hl hW => ?_)
  have hx := X.1.1
  have hb := X.1.2.1
  refine lv_aload_n hx hb dX7_reads_0 rfl (lv_at hl 0 rfl) ?_
  refine lv_dup hx hb dX7_reads_1 rfl ?_
  refine gf7_191 (cN := 31) X hW rfl dX7_reads_2 ?_
  refine lv_iconst (v := 1) hx hb dX7_reads_5 (by decide) ?_
  refine lv_iadd hx hb dX7_reads_6 ?_
  refine pf7_191 (cN := 31) X hW rfl dX7_reads_7 (fun M1 eM1 H locs hW => ?_)
  have h := ob_lt eM1 h
  refine lv_aload_n hx hb dX7_reads_10 rfl (lv_at hl 0 rfl) ?_
  refine lv_iload_n hx hb dX7_reads_11 rfl (lv_at hl 1 rfl) ?_
  refine pf7_146 (cN := 31) X hW rfl dX7_reads_12 (fun M2 eM2 H locs hW => ?_)
  have h := ob_lt eM2 h
  refine lv_aload_n hx hb dX7_reads_15 rfl (lv_at hl 0 rfl) ?_
  refine lv_iload_n hx hb dX7_reads_16 rfl (lv_at hl 2 rfl) ?_
  refine pf7_128 (cN := 31) X hW rfl dX7_reads_17 (fun M3 eM3 H locs hW => ?_)
  have h := ob_lt eM3 h
  refine lv_aload_n hx hb dX7_reads_20 rfl (lv_at hl 0 rfl) ?_
  refine lv_iload_n hx hb dX7_reads_21 rfl (lv_at hl 3 rfl) ?_
  refine pf7_178 (cN := 31) X hW rfl dX7_reads_22 (fun M4 eM4 H locs hW => ?_)
  have h := ob_lt eM4 h
  refine lv_aload_n hx hb dX7_reads_25 rfl (lv_at hl 0 rfl) ?_
  refine lv_iconst (v := 0) hx hb dX7_reads_26 (by decide) ?_
  refine pf7_140 (cN := 31) X hW rfl dX7_reads_27 (fun M5 eM5 H locs hW => ?_)
  have h := ob_lt eM5 h
  refine lv_aload_n hx hb dX7_reads_30 rfl (lv_at hl 0 rfl) ?_
  refine lv_iconst (v := 0) hx hb dX7_reads_31 (by decide) ?_
  refine pf7_122 (cN := 31) X hW rfl dX7_reads_32 (fun M6 eM6 H locs hW => ?_)
  have h := ob_lt eM6 h
  refine lv_aload_n hx hb dX7_reads_35 rfl (lv_at hl 0 rfl) ?_
  refine lv_iconst (v := (-1)) hx hb dX7_reads_36 (by decide) ?_
  refine pf7_16 (cN := 31) X hW rfl dX7_reads_37 (fun M7 eM7 H locs hW => ?_)
  have h := ob_lt eM7 h
  refine lv_aload_n hx hb dX7_reads_40 rfl (lv_at hl 0 rfl) ?_
  refine lv_iconst (v := 0) hx hb dX7_reads_41 (by decide) ?_
  refine pf7_125 (cN := 31) X hW rfl dX7_reads_42 (fun M8 eM8 H locs hW => ?_)
  have h := ob_lt eM8 h
  refine lv_aload_n hx hb dX7_reads_45 rfl (lv_at hl 0 rfl) ?_
  refine lv_iconst (v := 0) hx hb dX7_reads_46 (by decide) ?_
  refine pf7_143 (cN := 31) X hW rfl dX7_reads_47 (fun M9 eM9 H locs hW => ?_)
  have h := ob_lt eM9 h
  refine lv_aload_n hx hb dX7_reads_50 rfl (lv_at hl 0 rfl) ?_
  refine lv_iconst (v := 0) hx hb dX7_reads_51 (by decide) ?_
  refine pf7_134 (cN := 31) X hW rfl dX7_reads_52 (fun M10 eM10 H locs hW => ?_)
  have h := ob_lt eM10 h
  refine lv_aload_n hx hb dX7_reads_55 rfl (lv_at hl 0 rfl) ?_
  refine lv_iconst (v := 0) hx hb dX7_reads_56 (by decide) ?_
  refine pf7_137 (cN := 31) X hW rfl dX7_reads_57 (fun M11 eM11 H locs hW => ?_)
  have h := ob_lt eM11 h
  refine lv_aload_n hx hb dX7_reads_60 rfl (lv_at hl 0 rfl) ?_
  refine gf7_32 (cN := 31) X hW rfl dX7_reads_61 ?_
  refine lv_iconst (v := 0) hx hb dX7_reads_64 (by decide) ?_
  refine lv_iconst (v := 0) hx hb dX7_reads_65 (by decide) ?_
  obtain ⟨g12, h⟩ := ob_gd h
  refine bg_ast (cN := 38) X hW (n := 10) rfl g12 dX7_reads_66 (fun M13 eM13 H locs hW => ?_)
  have h := ob_lt eM13 h
  refine lv_aload_n hx hb dX7_reads_67 rfl (lv_at hl 0 rfl) ?_
  refine lv_iconst (v := 0) hx hb dX7_reads_68 (by decide) ?_
  refine lv_aload_n hx hb dX7_reads_69 rfl (lv_at hl 0 rfl) ?_
  refine gf7_78 (cN := 31) X hW rfl dX7_reads_70 ?_
  obtain ⟨M15, e14, h⟩ := ob_bind h
  refine bg_callv X hW (cX7_begins_k e14) rfl rfl kw7_181 kd_X7_begins rfl rfl ⟨Nat.le_of_ble_eq_true rfl, Nat.le_of_ble_eq_true rfl⟩ ⟨Nat.le_refl _, Nat.le_refl _⟩ hl.1 (Nat.le_of_ble_eq_true rfl) dX7_reads_73 (fun H locs hW => ?_)
  exact sX7_reads_b76 X FU M15 _ _ _ (lv_sub hl [0] rfl) hW h
def rX7_isGood (a0 : Int32) (a1 : Int32) (a2 : Int32) (M : Mm) : Option (Int32 × Mm) :=
    (bd2 (rX7_in (a0).toInt64 (0 : Int64) (4000 : Int64) M) fun r3 M2 => if r3 = 0 then (if ¬ (0 : Int32) &&& 1 = (0 : Int32) then none else some ((0 : Int32), M2)) else (bd2 (rX7_in (a1).toInt64 (0 : Int64) (20000 : Int64) M2) fun r7 M6 => if r7 = 0 then (if ¬ (0 : Int32) &&& 1 = (0 : Int32) then none else some ((0 : Int32), M6)) else (bd2 (rX7_in (a2).toInt64 (0 : Int64) (8 : Int64) M6) fun r11 M10 => if r11 = 0 then (if ¬ (0 : Int32) &&& 1 = (0 : Int32) then none else some ((0 : Int32), M10)) else (if ¬ (1 : Int32) &&& 1 = (1 : Int32) then none else some ((1 : Int32), M10)))))
set_option maxRecDepth 100000 in
set_option maxHeartbeats 4000000 in
theorem cX7_isGood_k {l : Launch} {G : Gg} {a0 : Int32} {a1 : Int32} {a2 : Int32} {M M' : Mm} {r : Int32} (h : rX7_isGood a0 a1 a2 M = some (r, M')) : CTi l yX7_isGood cX7_isGood 3 (some .boolean) 1 G [.int a0, .int a1, .int a2] M r M' := by
  unfold rX7_isGood at h
  refine ct_i (by decide) (Nat.le_of_ble_eq_true rfl) (fun p e s m below meth c ls X hl hW => ?_)
  have hx := X.1.1
  have hb := X.1.2.1
  refine lv_iload_n hx hb dX7_isGood_0 rfl (lv_at hl 0 rfl) ?_
  refine lv_i2l hx hb dX7_isGood_1 rfl ?_
  refine lv_lconst (v := 0) hx hb dX7_isGood_2 (by decide) ?_
  refine lv_ldc2 (v := 4000) hx hb X.1.2.2.2.1 (X.1.2.2.2.2 _ mw700) dX7_isGood_3 ?_
  obtain ⟨r3, M2, e1, h⟩ := ob_bd2 h
  refine bg_calls X hW (cX7_in_k e1) kw7_74 kd_X7_in rfl rfl ⟨Nat.le_of_ble_eq_true rfl, Nat.le_of_ble_eq_true rfl⟩ ⟨Nat.le_refl _, Nat.le_refl _⟩ hl.1 (Nat.le_of_ble_eq_true rfl) dX7_isGood_6 (fun H locs hW => ?_)
  refine lv_if_eq (tgt := 40) hx hb dX7_isGood_9 (by decide) (fun c4 => ?_) (fun c4 => ?_)
  · have h := ob_pos c4 h
    refine lv_iconst (v := 0) hx hb dX7_isGood_40 (by decide) ?_
    exact rt_z X hW h dX7_isGood_41
  · have h := ob_neg c4 h
    refine lv_iload_n hx hb dX7_isGood_12 rfl (lv_at hl 1 rfl) ?_
    refine lv_i2l hx hb dX7_isGood_13 rfl ?_
    refine lv_lconst (v := 0) hx hb dX7_isGood_14 (by decide) ?_
    refine lv_ldc2 (v := 20000) hx hb X.1.2.2.2.1 (X.1.2.2.2.2 _ mw701) dX7_isGood_15 ?_
    obtain ⟨r7, M6, e5, h⟩ := ob_bd2 h
    refine bg_calls X hW (cX7_in_k e5) kw7_74 kd_X7_in rfl rfl ⟨Nat.le_of_ble_eq_true rfl, Nat.le_of_ble_eq_true rfl⟩ ⟨Nat.le_refl _, Nat.le_refl _⟩ hl.1 (Nat.le_of_ble_eq_true rfl) dX7_isGood_18 (fun H locs hW => ?_)
    refine lv_if_eq (tgt := 40) hx hb dX7_isGood_21 (by decide) (fun c8 => ?_) (fun c8 => ?_)
    · have h := ob_pos c8 h
      refine lv_iconst (v := 0) hx hb dX7_isGood_40 (by decide) ?_
      exact rt_z X hW h dX7_isGood_41
    · have h := ob_neg c8 h
      refine lv_iload_n hx hb dX7_isGood_24 rfl (lv_at hl 2 rfl) ?_
      refine lv_i2l hx hb dX7_isGood_25 rfl ?_
      refine lv_lconst (v := 0) hx hb dX7_isGood_26 (by decide) ?_
      refine lv_ldc2 (v := 8) hx hb X.1.2.2.2.1 (X.1.2.2.2.2 _ mw628) dX7_isGood_27 ?_
      obtain ⟨r11, M10, e9, h⟩ := ob_bd2 h
      refine bg_calls X hW (cX7_in_k e9) kw7_74 kd_X7_in rfl rfl ⟨Nat.le_of_ble_eq_true rfl, Nat.le_of_ble_eq_true rfl⟩ ⟨Nat.le_refl _, Nat.le_refl _⟩ hl.1 (Nat.le_of_ble_eq_true rfl) dX7_isGood_30 (fun H locs hW => ?_)
      refine lv_if_eq (tgt := 40) hx hb dX7_isGood_33 (by decide) (fun c12 => ?_) (fun c12 => ?_)
      · have h := ob_pos c12 h
        refine lv_iconst (v := 0) hx hb dX7_isGood_40 (by decide) ?_
        exact rt_z X hW h dX7_isGood_41
      · have h := ob_neg c12 h
        refine lv_iconst (v := 1) hx hb dX7_isGood_36 (by decide) ?_
        refine lv_goto (tgt := 41) hx hb dX7_isGood_37 (by decide) ?_
        exact rt_z X hW h dX7_isGood_41
def rX7_open (a1 : Int32) (a2 : Int32) (a3 : Int32) (M : Mm) : Option (Int32 × Mm) :=
    (bd2 (rX7_isGood a1 a2 a3 M) fun r3 M2 => if r3 = 0 then (some ((-2 : Int32), M2)) else (Option.bind (rX7_reads a1 a2 a3 M2) fun M6 => if (M6.1 31 8) ≤ 0 then (some ((M6.1 31 4), M6)) else (some (((-10 : Int32) - (M6.1 31 8)), M6))))
set_option maxRecDepth 100000 in
set_option maxHeartbeats 4000000 in
theorem cX7_open_k {l : Launch} {G : Gg} {a1 : Int32} {a2 : Int32} {a3 : Int32} {M M' : Mm} {r : Int32} (h : rX7_open a1 a2 a3 M = some (r, M')) : CTi l yX7_open cX7_open 4 (some .int) 6 G [.ref (G.2.2.2 31), .int a1, .int a2, .int a3] M r M' := by
  unfold rX7_open at h
  refine ct_i (by decide) (Nat.le_of_ble_eq_true rfl) (fun p e s m below meth c ls X hl hW => ?_)
  have hx := X.1.1
  have hb := X.1.2.1
  refine lv_iload_n hx hb dX7_open_0 rfl (lv_at hl 1 rfl) ?_
  refine lv_iload_n hx hb dX7_open_1 rfl (lv_at hl 2 rfl) ?_
  refine lv_iload_n hx hb dX7_open_2 rfl (lv_at hl 3 rfl) ?_
  obtain ⟨r3, M2, e1, h⟩ := ob_bd2 h
  refine bg_calls X hW (cX7_isGood_k e1) kw7_201 kd_X7_isGood rfl rfl ⟨Nat.le_of_ble_eq_true rfl, Nat.le_of_ble_eq_true rfl⟩ ⟨Nat.le_refl _, Nat.le_refl _⟩ hl.1 (Nat.le_of_ble_eq_true rfl) dX7_open_3 (fun H locs hW => ?_)
  refine lv_if_ne (tgt := 12) hx hb dX7_open_6 (by decide) (fun c4 => ?_) (fun c4 => ?_)
  · have h := ob_neg c4 h
    refine lv_aload_n hx hb dX7_open_12 rfl (lv_at hl 0 rfl) ?_
    refine lv_iload_n hx hb dX7_open_13 rfl (lv_at hl 1 rfl) ?_
    refine lv_iload_n hx hb dX7_open_14 rfl (lv_at hl 2 rfl) ?_
    refine lv_iload_n hx hb dX7_open_15 rfl (lv_at hl 3 rfl) ?_
    obtain ⟨M6, e5, h⟩ := ob_bind h
    refine bg_callv X hW (cX7_reads_k e5) rfl rfl kw7_204 kd_X7_reads rfl rfl ⟨Nat.le_of_ble_eq_true rfl, Nat.le_of_ble_eq_true rfl⟩ ⟨Nat.le_refl _, Nat.le_refl _⟩ hl.1 (Nat.le_of_ble_eq_true rfl) dX7_open_16 (fun H locs hW => ?_)
    refine lv_aload_n hx hb dX7_open_19 rfl (lv_at hl 0 rfl) ?_
    refine gf7_122 (cN := 31) X hW rfl dX7_open_20 ?_
    refine lv_if_le (tgt := 36) hx hb dX7_open_23 (by decide) (fun c7 => ?_) (fun c7 => ?_)
    · have h := ob_pos c7 h
      refine lv_aload_n hx hb dX7_open_36 rfl (lv_at hl 0 rfl) ?_
      refine gf7_140 (cN := 31) X hW rfl dX7_open_37 ?_
      exact rt_i X hW h dX7_open_40
    · have h := ob_neg c7 h
      refine lv_bipush (v := (-10)) hx hb dX7_open_26 (by decide) ?_
      refine lv_aload_n hx hb dX7_open_28 rfl (lv_at hl 0 rfl) ?_
      refine gf7_122 (cN := 31) X hW rfl dX7_open_29 ?_
      refine lv_isub hx hb dX7_open_32 ?_
      refine lv_goto (tgt := 40) hx hb dX7_open_33 (by decide) ?_
      exact rt_i X hW h dX7_open_40
  · have h := ob_pos c4 h
    refine lv_bipush (v := (-2)) hx hb dX7_open_9 (by decide) ?_
    exact rt_i X hW h dX7_open_11
def rX7_place (M : Mm) : Option (Int32 × Mm) :=
    (some ((M.1 31 9), M))
set_option maxRecDepth 100000 in
set_option maxHeartbeats 4000000 in
theorem cX7_place_k {l : Launch} {G : Gg} {M M' : Mm} {r : Int32} (h : rX7_place M = some (r, M')) : CTi l yX7_place cX7_place 1 (some .int) 0 G [.ref (G.2.2.2 31)] M r M' := by
  unfold rX7_place at h
  refine ct_i (by decide) (Nat.le_of_ble_eq_true rfl) (fun p e s m below meth c ls X hl hW => ?_)
  have hx := X.1.1
  have hb := X.1.2.1
  refine lv_aload_n hx hb dX7_place_0 rfl (lv_at hl 0 rfl) ?_
  refine gf7_16 (cN := 31) X hW rfl dX7_place_1 ?_
  exact rt_i X hW h dX7_place_4
def rX7_out (a1 : Int32) (M : Mm) : Option (Int32 × Mm) :=
    (bd2 (rX7_in (a1).toInt64 (0 : Int64) (((M.1 31 4) - (1 : Int32))).toInt64 M) fun r3 M2 => if r3 = 0 then (some ((-1 : Int32), M2)) else (if a1 < 0 ∨ 4000 ≤ (a1).toNatClampNeg then none else some ((M2.1 33 (a1).toNatClampNeg), M2)))
set_option maxRecDepth 100000 in
set_option maxHeartbeats 4000000 in
theorem cX7_out_k {l : Launch} {G : Gg} {a1 : Int32} {M M' : Mm} {r : Int32} (h : rX7_out a1 M = some (r, M')) : CTi l yX7_out cX7_out 2 (some .int) 1 G [.ref (G.2.2.2 31), .int a1] M r M' := by
  unfold rX7_out at h
  refine ct_i (by decide) (Nat.le_of_ble_eq_true rfl) (fun p e s m below meth c ls X hl hW => ?_)
  have hx := X.1.1
  have hb := X.1.2.1
  refine lv_iload_n hx hb dX7_out_0 rfl (lv_at hl 1 rfl) ?_
  refine lv_i2l hx hb dX7_out_1 rfl ?_
  refine lv_lconst (v := 0) hx hb dX7_out_2 (by decide) ?_
  refine lv_aload_n hx hb dX7_out_3 rfl (lv_at hl 0 rfl) ?_
  refine gf7_140 (cN := 31) X hW rfl dX7_out_4 ?_
  refine lv_iconst (v := 1) hx hb dX7_out_7 (by decide) ?_
  refine lv_isub hx hb dX7_out_8 ?_
  refine lv_i2l hx hb dX7_out_9 rfl ?_
  obtain ⟨r3, M2, e1, h⟩ := ob_bd2 h
  refine bg_calls X hW (cX7_in_k e1) kw7_74 kd_X7_in rfl rfl ⟨Nat.le_of_ble_eq_true rfl, Nat.le_of_ble_eq_true rfl⟩ ⟨Nat.le_refl _, Nat.le_refl _⟩ hl.1 (Nat.le_of_ble_eq_true rfl) dX7_out_10 (fun H locs hW => ?_)
  refine lv_if_eq (tgt := 25) hx hb dX7_out_13 (by decide) (fun c4 => ?_) (fun c4 => ?_)
  · have h := ob_pos c4 h
    refine lv_iconst (v := (-1)) hx hb dX7_out_25 (by decide) ?_
    exact rt_i X hW h dX7_out_26
  · have h := ob_neg c4 h
    refine lv_aload_n hx hb dX7_out_16 rfl (lv_at hl 0 rfl) ?_
    refine gf7_13 (cN := 31) X hW rfl dX7_out_17 ?_
    refine lv_iload_n hx hb dX7_out_20 rfl (lv_at hl 1 rfl) ?_
    obtain ⟨g5, h⟩ := ob_gd h
    refine bg_ald (cN := 33) X hW (n := 4000) rfl g5 dX7_out_21 ?_
    refine lv_goto (tgt := 26) hx hb dX7_out_22 (by decide) ?_
    exact rt_i X hW h dX7_out_26
def rX7_item_ (a1 : Int32) (a2 : Int32) (M : Mm) : Option (Int32 × Mm) :=
    (if a1 = (-1 : Int32) then (if (0 : Int32) < 0 ∨ 10 ≤ ((0 : Int32)).toNatClampNeg then none else some ((M.1 38 ((0 : Int32)).toNatClampNeg), M)) else (if (0 : Int32) < 0 ∨ 10 ≤ ((0 : Int32)).toNatClampNeg then none else bd2 (rX7_in (a1).toInt64 (0 : Int64) (((M.1 38 ((0 : Int32)).toNatClampNeg) - (1 : Int32))).toInt64 M) fun r5 M4 => if r5 = 0 then (some ((-1 : Int32), M4)) else (if a2 = 0 then (if a1 < 0 ∨ 600 ≤ (a1).toNatClampNeg then none else some ((M4.1 43 (a1).toNatClampNeg), M4)) else if a2 = 1 then (if a1 < 0 ∨ 600 ≤ (a1).toNatClampNeg then none else some ((M4.1 44 (a1).toNatClampNeg), M4)) else if a2 = 2 then (if a1 < 0 ∨ 600 ≤ (a1).toNatClampNeg then none else some ((M4.1 45 (a1).toNatClampNeg), M4)) else if a2 = 3 then (if a1 < 0 ∨ 600 ≤ (a1).toNatClampNeg then none else some ((M4.1 46 (a1).toNatClampNeg), M4)) else (some ((-1 : Int32), M4)))))
set_option maxRecDepth 100000 in
set_option maxHeartbeats 4000000 in
theorem cX7_item__k {l : Launch} {G : Gg} {a1 : Int32} {a2 : Int32} {M M' : Mm} {r : Int32} (h : rX7_item_ a1 a2 M = some (r, M')) : CTi l yX7_item_ cX7_item_ 3 (some .int) 1 G [.ref (G.2.2.2 31), .int a1, .int a2] M r M' := by
  unfold rX7_item_ at h
  refine ct_i (by decide) (Nat.le_of_ble_eq_true rfl) (fun p e s m below meth c ls X hl hW => ?_)
  have hx := X.1.1
  have hb := X.1.2.1
  refine lv_iload_n hx hb dX7_item__0 rfl (lv_at hl 1 rfl) ?_
  refine lv_iconst (v := (-1)) hx hb dX7_item__1 (by decide) ?_
  refine lv_icmp_ne (tgt := 12) hx hb dX7_item__2 (by decide) (fun c1 => ?_) (fun c1 => ?_)
  · have h := ob_neg c1 h
    refine lv_iload_n hx hb dX7_item__12 rfl (lv_at hl 1 rfl) ?_
    refine lv_i2l hx hb dX7_item__13 rfl ?_
    refine lv_lconst (v := 0) hx hb dX7_item__14 (by decide) ?_
    refine lv_aload_n hx hb dX7_item__15 rfl (lv_at hl 0 rfl) ?_
    refine gf7_32 (cN := 31) X hW rfl dX7_item__16 ?_
    refine lv_iconst (v := 0) hx hb dX7_item__19 (by decide) ?_
    obtain ⟨g2, h⟩ := ob_gd h
    refine bg_ald (cN := 38) X hW (n := 10) rfl g2 dX7_item__20 ?_
    refine lv_iconst (v := 1) hx hb dX7_item__21 (by decide) ?_
    refine lv_isub hx hb dX7_item__22 ?_
    refine lv_i2l hx hb dX7_item__23 rfl ?_
    obtain ⟨r5, M4, e3, h⟩ := ob_bd2 h
    refine bg_calls X hW (cX7_in_k e3) kw7_74 kd_X7_in rfl rfl ⟨Nat.le_of_ble_eq_true rfl, Nat.le_of_ble_eq_true rfl⟩ ⟨Nat.le_refl _, Nat.le_refl _⟩ hl.1 (Nat.le_of_ble_eq_true rfl) dX7_item__24 (fun H locs hW => ?_)
    refine lv_if_ne (tgt := 32) hx hb dX7_item__27 (by decide) (fun c6 => ?_) (fun c6 => ?_)
    · have h := ob_neg c6 h
      refine lv_iload_n hx hb dX7_item__32 rfl (lv_at hl 2 rfl) ?_
      by_cases c7 : a2 = 0
      · have h := ob_pos c7 h
        refine lv_tableIn (off := 31) (tgt := 64) hx hb dX7_item__33 (by rw [c7]; decide) (by rw [c7]; decide) (by rw [c7]; decide) (by decide) ?_
        refine lv_aload_n hx hb dX7_item__64 rfl (lv_at hl 0 rfl) ?_
        refine gf7_47 (cN := 31) X hW rfl dX7_item__65 ?_
        refine lv_iload_n hx hb dX7_item__68 rfl (lv_at hl 1 rfl) ?_
        obtain ⟨g8, h⟩ := ob_gd h
        refine bg_ald (cN := 43) X hW (n := 600) rfl g8 dX7_item__69 ?_
        exact rt_i X hW h dX7_item__70
      · have h := ob_neg c7 h
        by_cases c9 : a2 = 1
        · have h := ob_pos c9 h
          refine lv_tableIn (off := 38) (tgt := 71) hx hb dX7_item__33 (by rw [c9]; decide) (by rw [c9]; decide) (by rw [c9]; decide) (by decide) ?_
          refine lv_aload_n hx hb dX7_item__71 rfl (lv_at hl 0 rfl) ?_
          refine gf7_50 (cN := 31) X hW rfl dX7_item__72 ?_
          refine lv_iload_n hx hb dX7_item__75 rfl (lv_at hl 1 rfl) ?_
          obtain ⟨g10, h⟩ := ob_gd h
          refine bg_ald (cN := 44) X hW (n := 600) rfl g10 dX7_item__76 ?_
          exact rt_i X hW h dX7_item__77
        · have h := ob_neg c9 h
          by_cases c11 : a2 = 2
          · have h := ob_pos c11 h
            refine lv_tableIn (off := 45) (tgt := 78) hx hb dX7_item__33 (by rw [c11]; decide) (by rw [c11]; decide) (by rw [c11]; decide) (by decide) ?_
            refine lv_aload_n hx hb dX7_item__78 rfl (lv_at hl 0 rfl) ?_
            refine gf7_53 (cN := 31) X hW rfl dX7_item__79 ?_
            refine lv_iload_n hx hb dX7_item__82 rfl (lv_at hl 1 rfl) ?_
            obtain ⟨g12, h⟩ := ob_gd h
            refine bg_ald (cN := 45) X hW (n := 600) rfl g12 dX7_item__83 ?_
            exact rt_i X hW h dX7_item__84
          · have h := ob_neg c11 h
            by_cases c13 : a2 = 3
            · have h := ob_pos c13 h
              refine lv_tableIn (off := 52) (tgt := 85) hx hb dX7_item__33 (by rw [c13]; decide) (by rw [c13]; decide) (by rw [c13]; decide) (by decide) ?_
              refine lv_aload_n hx hb dX7_item__85 rfl (lv_at hl 0 rfl) ?_
              refine gf7_56 (cN := 31) X hW rfl dX7_item__86 ?_
              refine lv_iload_n hx hb dX7_item__89 rfl (lv_at hl 1 rfl) ?_
              obtain ⟨g14, h⟩ := ob_gd h
              refine bg_ald (cN := 46) X hW (n := 600) rfl g14 dX7_item__90 ?_
              exact rt_i X hW h dX7_item__91
            · have h := ob_neg c13 h
              refine lv_tableOut (tgt := 92) hx hb dX7_item__33 (by have nc7 := lv_neT (a := 0) c7 rfl; have nc9 := lv_neT (a := 1) c9 rfl; have nc11 := lv_neT (a := 2) c11 rfl; have nc13 := lv_neT (a := 3) c13 rfl; omega) (by decide) ?_
              refine lv_iconst (v := (-1)) hx hb dX7_item__92 (by decide) ?_
              exact rt_i X hW h dX7_item__93
    · have h := ob_pos c6 h
      refine lv_iconst (v := (-1)) hx hb dX7_item__30 (by decide) ?_
      exact rt_i X hW h dX7_item__31
  · have h := ob_pos c1 h
    refine lv_aload_n hx hb dX7_item__5 rfl (lv_at hl 0 rfl) ?_
    refine gf7_32 (cN := 31) X hW rfl dX7_item__6 ?_
    refine lv_iconst (v := 0) hx hb dX7_item__9 (by decide) ?_
    obtain ⟨g15, h⟩ := ob_gd h
    refine bg_ald (cN := 38) X hW (n := 10) rfl g15 dX7_item__10 ?_
    exact rt_i X hW h dX7_item__11
def rX7_shrink_b279 (q92 : Int32 → Int32 → Int32 → Int32 → Int32 → Int32 → Int32 → Mm → Option (Int32 × Mm)) (x1 : Int32) (x2 : Int32) (x3 : Int32) (x4 : Int32) (x5 : Int32) (x6 : Int32) (x7 : Int32) (M : Mm) : Option (Int32 × Mm) :=
    (lt_ (x7 + 1) fun y32 => q92 x1 x2 x3 x4 x5 x6 y32 M)
set_option maxRecDepth 100000 in
set_option maxHeartbeats 4000000 in
theorem sX7_shrink_b279 {p : Program} {l : Launch} {e : Env} {s : State} {m : MethodId} {args : Array Value} {below : List Frame} {meth : Method} {c : Code} {G : Gg} {r : Int32} {M' : Mm} (X : Cx p m c meth cX7_shrink 12 s args RX7 (some .int) G) {q92 : Int32 → Int32 → Int32 → Int32 → Int32 → Int32 → Int32 → Mm → Option (Int32 × Mm)} (hq92 : ∀ (x1 : Int32) (x2 : Int32) (x3 : Int32) (x4 : Int32) (x5 : Int32) (x6 : Int32) (x7 : Int32) (M : Mm) (ls : Array Slot) (H : Heap) (locs : List Loc), lv_has ls 12 [(0, .ref (G.2.2.2 31)), (1, .int x1), (2, .int x2), (3, .int x3), (4, .int x4), (5, .int x5), (6, .int x6), (7, .int x7)] → Wo G s M H locs → q92 x1 x2 x3 x4 x5 x6 x7 M = some (r, M') → W p l e (rm 6) s m args below meth c H locs 0 0 (Qi below args s G r M') (F0 m 92 ls [])) : ∀ (x1 : Int32) (x2 : Int32) (x3 : Int32) (x4 : Int32) (x5 : Int32) (x6 : Int32) (x7 : Int32) (M : Mm) (ls : Array Slot) (H : Heap) (locs : List Loc), lv_has ls 12 [(0, .ref (G.2.2.2 31)), (1, .int x1), (2, .int x2), (3, .int x3), (4, .int x4), (5, .int x5), (6, .int x6), (7, .int x7)] → Wo G s M H locs → rX7_shrink_b279 q92 x1 x2 x3 x4 x5 x6 x7 M = some (r, M') → W p l e (rm 6) s m args below meth c H locs 0 0 (Qi below args s G r M') (F0 m 279 ls []) := by
    intro x1 x2 x3 x4 x5 x6 x7 M ls H locs hl hW h
    unfold rX7_shrink_b279 at h
    have hx := X.1.1
    have hb := X.1.2.1
    obtain ⟨y32, ey32⟩ : ∃ y : Int32, y = (x7 + 1) := ⟨_, rfl⟩
    have h := ob_lt ey32 h
    refine lv_iinc (v := y32) (lv' := [(7, .int y32), (0, .ref (G.2.2.2 31)), (1, .int x1), (2, .int x2), (3, .int x3), (4, .int x4), (5, .int x5), (6, .int x6)]) hx hb dX7_shrink_279 hl (k := 7) rfl (by rw [ey32]; rfl) (by decide) rfl (fun ls hl => ?_)
    refine lv_goto (tgt := 92) hx hb dX7_shrink_282 (by decide) ?_
    exact hq92 x1 x2 x3 x4 x5 x6 y32 M _ _ _ (lv_sub hl [1, 2, 3, 4, 5, 6, 7, 0] rfl) hW h
def rX7_shrink_b250_s (q92 : Int32 → Int32 → Int32 → Int32 → Int32 → Int32 → Int32 → Mm → Option (Int32 × Mm)) (q250 : Int32 → Int32 → Int32 → Int32 → Int32 → Int32 → Int32 → Int32 → Mm → Option (Int32 × Mm)) (x1 : Int32) (x2 : Int32) (x3 : Int32) (x4 : Int32) (x5 : Int32) (x6 : Int32) (x7 : Int32) (x11 : Int32) (M : Mm) : Option (Int32 × Mm) :=
    (if (M.1 31 2) ≤ x11 then (rX7_shrink_b279 q92 x1 x2 x3 x4 x5 x6 x7 M) else (if x11 < 0 ∨ 1200 ≤ (x11).toNatClampNeg then none else if x11 < 0 ∨ 1200 ≤ (x11).toNatClampNeg then none else lt_ (st M 32 (x11).toNatClampNeg (M.1 48 (x11).toNatClampNeg)) fun M35 => lt_ (x11 + 1) fun y36 => q250 x1 x2 x3 x4 x5 x6 x7 y36 M35))
def rX7_shrink_b250 (q92 : Int32 → Int32 → Int32 → Int32 → Int32 → Int32 → Int32 → Mm → Option (Int32 × Mm)) : Nat → Int32 → Int32 → Int32 → Int32 → Int32 → Int32 → Int32 → Int32 → Mm → Option (Int32 × Mm)
  | 0 => fun _ _ _ _ _ _ _ _ _ => none
  | n + 1 => rX7_shrink_b250_s q92 (rX7_shrink_b250 q92 n)
set_option maxRecDepth 100000 in
set_option maxHeartbeats 4000000 in
theorem sX7_shrink_b250 {p : Program} {l : Launch} {e : Env} {s : State} {m : MethodId} {args : Array Value} {below : List Frame} {meth : Method} {c : Code} {G : Gg} {r : Int32} {M' : Mm} (X : Cx p m c meth cX7_shrink 12 s args RX7 (some .int) G) {q92 : Int32 → Int32 → Int32 → Int32 → Int32 → Int32 → Int32 → Mm → Option (Int32 × Mm)} (hq92 : ∀ (x1 : Int32) (x2 : Int32) (x3 : Int32) (x4 : Int32) (x5 : Int32) (x6 : Int32) (x7 : Int32) (M : Mm) (ls : Array Slot) (H : Heap) (locs : List Loc), lv_has ls 12 [(0, .ref (G.2.2.2 31)), (1, .int x1), (2, .int x2), (3, .int x3), (4, .int x4), (5, .int x5), (6, .int x6), (7, .int x7)] → Wo G s M H locs → q92 x1 x2 x3 x4 x5 x6 x7 M = some (r, M') → W p l e (rm 6) s m args below meth c H locs 0 0 (Qi below args s G r M') (F0 m 92 ls [])) : ∀ (n : Nat), ∀ (x1 : Int32) (x2 : Int32) (x3 : Int32) (x4 : Int32) (x5 : Int32) (x6 : Int32) (x7 : Int32) (x11 : Int32) (M : Mm) (ls : Array Slot) (H : Heap) (locs : List Loc), lv_has ls 12 [(0, .ref (G.2.2.2 31)), (1, .int x1), (2, .int x2), (3, .int x3), (4, .int x4), (5, .int x5), (6, .int x6), (7, .int x7), (11, .int x11)] → Wo G s M H locs → rX7_shrink_b250 q92 n x1 x2 x3 x4 x5 x6 x7 x11 M = some (r, M') → W p l e (rm 6) s m args below meth c H locs 0 0 (Qi below args s G r M') (F0 m 250 ls []) := by
  intro n
  induction n with
  | zero =>
    intro x1 x2 x3 x4 x5 x6 x7 x11 M ls H locs hl hW h
    cases (show (none : Option (Int32 × Mm)) = some (r, M') from h)
  | succ n hq2500 =>
    have hq250 : ∀ (x1 : Int32) (x2 : Int32) (x3 : Int32) (x4 : Int32) (x5 : Int32) (x6 : Int32) (x7 : Int32) (x11 : Int32) (M : Mm) (ls : Array Slot) (H : Heap) (locs : List Loc), lv_has ls 12 [(0, .ref (G.2.2.2 31)), (1, .int x1), (2, .int x2), (3, .int x3), (4, .int x4), (5, .int x5), (6, .int x6), (7, .int x7), (11, .int x11)] → Wo G s M H locs → (rX7_shrink_b250 q92 n) x1 x2 x3 x4 x5 x6 x7 x11 M = some (r, M') → W p l e (rm 6) s m args below meth c H locs 0 0 (Qi below args s G r M') (F0 m 250 ls []) := hq2500
    intro x1 x2 x3 x4 x5 x6 x7 x11 M ls H locs hl hW h
    have h : rX7_shrink_b250_s q92 (rX7_shrink_b250 q92 n) x1 x2 x3 x4 x5 x6 x7 x11 M = some (r, M') := h
    unfold rX7_shrink_b250_s at h
    have hx := X.1.1
    have hb := X.1.2.1
    refine lv_iload hx hb dX7_shrink_250 (lv_at hl 8 rfl) ?_
    refine lv_aload_n hx hb dX7_shrink_252 rfl (lv_at hl 0 rfl) ?_
    refine gf7_78 (cN := 31) X hW rfl dX7_shrink_253 ?_
    refine lv_icmp_ge (tgt := 279) hx hb dX7_shrink_256 (by decide) (fun c31 => ?_) (fun c31 => ?_)
    · have h := ob_pos c31 h
      exact sX7_shrink_b279 X hq92 x1 x2 x3 x4 x5 x6 x7 M _ _ _ (lv_sub hl [0, 1, 2, 3, 4, 5, 6, 7] rfl) hW h
    · have h := ob_neg c31 h
      refine lv_aload_n hx hb dX7_shrink_259 rfl (lv_at hl 0 rfl) ?_
      refine gf7_7 (cN := 31) X hW rfl dX7_shrink_260 ?_
      refine lv_iload hx hb dX7_shrink_263 (lv_at hl 8 rfl) ?_
      refine lv_aload_n hx hb dX7_shrink_265 rfl (lv_at hl 0 rfl) ?_
      refine gf7_62 (cN := 31) X hW rfl dX7_shrink_266 ?_
      refine lv_iload hx hb dX7_shrink_269 (lv_at hl 8 rfl) ?_
      obtain ⟨g33, h⟩ := ob_gd h
      refine bg_ald (cN := 48) X hW (n := 1200) rfl g33 dX7_shrink_271 ?_
      obtain ⟨g34, h⟩ := ob_gd h
      refine bg_ast (cN := 32) X hW (n := 1200) rfl g34 dX7_shrink_272 (fun M35 eM35 H locs hW => ?_)
      have h := ob_lt eM35 h
      obtain ⟨y36, ey36⟩ : ∃ y : Int32, y = (x11 + 1) := ⟨_, rfl⟩
      have h := ob_lt ey36 h
      refine lv_iinc (v := y36) (lv' := [(11, .int y36), (0, .ref (G.2.2.2 31)), (1, .int x1), (2, .int x2), (3, .int x3), (4, .int x4), (5, .int x5), (6, .int x6), (7, .int x7)]) hx hb dX7_shrink_273 hl (k := 8) rfl (by rw [ey36]; rfl) (by decide) rfl (fun ls hl => ?_)
      refine lv_goto (tgt := 250) hx hb dX7_shrink_276 (by decide) ?_
      exact hq250 x1 x2 x3 x4 x5 x6 x7 y36 M35 _ _ _ (lv_sub hl [1, 2, 3, 4, 5, 6, 7, 8, 0] rfl) hW h
def rX7_shrink_b183_s (q92 : Int32 → Int32 → Int32 → Int32 → Int32 → Int32 → Int32 → Mm → Option (Int32 × Mm)) (q183 : Int32 → Int32 → Int32 → Int32 → Int32 → Int32 → Int32 → Int32 → Int32 → Int32 → Mm → Option (Int32 × Mm)) (x1 : Int32) (x2 : Int32) (x3 : Int32) (x4 : Int32) (x5 : Int32) (x6 : Int32) (x7 : Int32) (x9 : Int32) (x10 : Int32) (x11 : Int32) (M : Mm) : Option (Int32 × Mm) :=
    (if (M.1 31 2) ≤ x11 then (Option.bind (rX7_reads x1 x2 x3 M) fun M28 => if (M28.1 31 8) = x4 then (lt_ (x6 + x9) fun y37 => rX7_shrink_b279 q92 x1 x2 x3 x4 x5 y37 x7 M28) else (lt_ (st M28 31 2 x10) fun M30 => rX7_shrink_b250 q92 FU x1 x2 x3 x4 x5 x6 x7 (0 : Int32) M30)) else (if (x11 + x9) < 0 ∨ 1200 ≤ ((x11 + x9)).toNatClampNeg then none else if x11 < 0 ∨ 1200 ≤ (x11).toNatClampNeg then none else lt_ (st M 32 (x11).toNatClampNeg (M.1 48 ((x11 + x9)).toNatClampNeg)) fun M40 => lt_ (x11 + 1) fun y41 => q183 x1 x2 x3 x4 x5 x6 x7 x9 x10 y41 M40))
def rX7_shrink_b183 (q92 : Int32 → Int32 → Int32 → Int32 → Int32 → Int32 → Int32 → Mm → Option (Int32 × Mm)) : Nat → Int32 → Int32 → Int32 → Int32 → Int32 → Int32 → Int32 → Int32 → Int32 → Int32 → Mm → Option (Int32 × Mm)
  | 0 => fun _ _ _ _ _ _ _ _ _ _ _ => none
  | n + 1 => rX7_shrink_b183_s q92 (rX7_shrink_b183 q92 n)
set_option maxRecDepth 100000 in
set_option maxHeartbeats 4000000 in
theorem sX7_shrink_b183 {p : Program} {l : Launch} {e : Env} {s : State} {m : MethodId} {args : Array Value} {below : List Frame} {meth : Method} {c : Code} {G : Gg} {r : Int32} {M' : Mm} (X : Cx p m c meth cX7_shrink 12 s args RX7 (some .int) G) {q92 : Int32 → Int32 → Int32 → Int32 → Int32 → Int32 → Int32 → Mm → Option (Int32 × Mm)} (hq92 : ∀ (x1 : Int32) (x2 : Int32) (x3 : Int32) (x4 : Int32) (x5 : Int32) (x6 : Int32) (x7 : Int32) (M : Mm) (ls : Array Slot) (H : Heap) (locs : List Loc), lv_has ls 12 [(0, .ref (G.2.2.2 31)), (1, .int x1), (2, .int x2), (3, .int x3), (4, .int x4), (5, .int x5), (6, .int x6), (7, .int x7)] → Wo G s M H locs → q92 x1 x2 x3 x4 x5 x6 x7 M = some (r, M') → W p l e (rm 6) s m args below meth c H locs 0 0 (Qi below args s G r M') (F0 m 92 ls [])) : ∀ (n : Nat), ∀ (x1 : Int32) (x2 : Int32) (x3 : Int32) (x4 : Int32) (x5 : Int32) (x6 : Int32) (x7 : Int32) (x9 : Int32) (x10 : Int32) (x11 : Int32) (M : Mm) (ls : Array Slot) (H : Heap) (locs : List Loc), lv_has ls 12 [(0, .ref (G.2.2.2 31)), (1, .int x1), (2, .int x2), (3, .int x3), (4, .int x4), (5, .int x5), (6, .int x6), (7, .int x7), (9, .int x9), (10, .int x10), (11, .int x11)] → Wo G s M H locs → rX7_shrink_b183 q92 n x1 x2 x3 x4 x5 x6 x7 x9 x10 x11 M = some (r, M') → W p l e (rm 6) s m args below meth c H locs 0 0 (Qi below args s G r M') (F0 m 183 ls []) := by
  intro n
  induction n with
  | zero =>
    intro x1 x2 x3 x4 x5 x6 x7 x9 x10 x11 M ls H locs hl hW h
    cases (show (none : Option (Int32 × Mm)) = some (r, M') from h)
  | succ n hq1830 =>
    have hq183 : ∀ (x1 : Int32) (x2 : Int32) (x3 : Int32) (x4 : Int32) (x5 : Int32) (x6 : Int32) (x7 : Int32) (x9 : Int32) (x10 : Int32) (x11 : Int32) (M : Mm) (ls : Array Slot) (H : Heap) (locs : List Loc), lv_has ls 12 [(0, .ref (G.2.2.2 31)), (1, .int x1), (2, .int x2), (3, .int x3), (4, .int x4), (5, .int x5), (6, .int x6), (7, .int x7), (9, .int x9), (10, .int x10), (11, .int x11)] → Wo G s M H locs → (rX7_shrink_b183 q92 n) x1 x2 x3 x4 x5 x6 x7 x9 x10 x11 M = some (r, M') → W p l e (rm 6) s m args below meth c H locs 0 0 (Qi below args s G r M') (F0 m 183 ls []) := hq1830
    intro x1 x2 x3 x4 x5 x6 x7 x9 x10 x11 M ls H locs hl hW h
    have h : rX7_shrink_b183_s q92 (rX7_shrink_b183 q92 n) x1 x2 x3 x4 x5 x6 x7 x9 x10 x11 M = some (r, M') := h
    unfold rX7_shrink_b183_s at h
    have hx := X.1.1
    have hb := X.1.2.1
    refine lv_iload hx hb dX7_shrink_183 (lv_at hl 10 rfl) ?_
    refine lv_aload_n hx hb dX7_shrink_185 rfl (lv_at hl 0 rfl) ?_
    refine gf7_78 (cN := 31) X hW rfl dX7_shrink_186 ?_
    refine lv_icmp_ge (tgt := 215) hx hb dX7_shrink_189 (by decide) (fun c26 => ?_) (fun c26 => ?_)
    · have h := ob_pos c26 h
      refine lv_aload_n hx hb dX7_shrink_215 rfl (lv_at hl 0 rfl) ?_
      refine lv_iload_n hx hb dX7_shrink_216 rfl (lv_at hl 1 rfl) ?_
      refine lv_iload_n hx hb dX7_shrink_217 rfl (lv_at hl 2 rfl) ?_
      refine lv_iload_n hx hb dX7_shrink_218 rfl (lv_at hl 3 rfl) ?_
      obtain ⟨M28, e27, h⟩ := ob_bind h
      refine bg_callv X hW (cX7_reads_k e27) rfl rfl kw7_204 kd_X7_reads rfl rfl ⟨Nat.le_of_ble_eq_true rfl, Nat.le_of_ble_eq_true rfl⟩ ⟨Nat.le_refl _, Nat.le_refl _⟩ hl.1 (Nat.le_of_ble_eq_true rfl) dX7_shrink_219 (fun H locs hW => ?_)
      refine lv_aload_n hx hb dX7_shrink_222 rfl (lv_at hl 0 rfl) ?_
      refine gf7_122 (cN := 31) X hW rfl dX7_shrink_223 ?_
      refine lv_iload hx hb dX7_shrink_226 (lv_at hl 4 rfl) ?_
      refine lv_icmp_ne (tgt := 241) hx hb dX7_shrink_228 (by decide) (fun c29 => ?_) (fun c29 => ?_)
      · have h := ob_neg c29 h
        refine lv_aload_n hx hb dX7_shrink_241 rfl (lv_at hl 0 rfl) ?_
        refine lv_iload hx hb dX7_shrink_242 (lv_at hl 9 rfl) ?_
        refine pf7_78 (cN := 31) X hW rfl dX7_shrink_244 (fun M30 eM30 H locs hW => ?_)
        have h := ob_lt eM30 h
        refine lv_iconst (v := 0) hx hb dX7_shrink_247 (by decide) ?_
        refine lv_istore (lv' := [(11, .int (0 : Int32)), (0, .ref (G.2.2.2 31)), (1, .int x1), (2, .int x2), (3, .int x3), (4, .int x4), (5, .int x5), (6, .int x6), (7, .int x7), (9, .int x9), (10, .int x10)]) hx hb dX7_shrink_248 hl (by decide) rfl (fun ls hl => ?_)
        exact sX7_shrink_b250 X hq92 FU x1 x2 x3 x4 x5 x6 x7 (0 : Int32) M30 _ _ _ (lv_sub hl [1, 2, 3, 4, 5, 6, 7, 8, 0] rfl) hW h
      · have h := ob_pos c29 h
        refine lv_iload hx hb dX7_shrink_231 (lv_at hl 6 rfl) ?_
        refine lv_iload hx hb dX7_shrink_233 (lv_at hl 8 rfl) ?_
        refine lv_iadd hx hb dX7_shrink_235 ?_
        refine lv_topi (fun y37 ey37 => ?_)
        have h := ob_lt ey37 h
        refine lv_istore (lv' := [(6, .int y37), (0, .ref (G.2.2.2 31)), (1, .int x1), (2, .int x2), (3, .int x3), (4, .int x4), (5, .int x5), (7, .int x7), (9, .int x9), (10, .int x10), (11, .int x11)]) hx hb dX7_shrink_236 hl (by decide) rfl (fun ls hl => ?_)
        refine lv_goto (tgt := 279) hx hb dX7_shrink_238 (by decide) ?_
        exact sX7_shrink_b279 X hq92 x1 x2 x3 x4 x5 y37 x7 M28 _ _ _ (lv_sub hl [1, 2, 3, 4, 5, 6, 0, 7] rfl) hW h
    · have h := ob_neg c26 h
      refine lv_aload_n hx hb dX7_shrink_192 rfl (lv_at hl 0 rfl) ?_
      refine gf7_7 (cN := 31) X hW rfl dX7_shrink_193 ?_
      refine lv_iload hx hb dX7_shrink_196 (lv_at hl 10 rfl) ?_
      refine lv_aload_n hx hb dX7_shrink_198 rfl (lv_at hl 0 rfl) ?_
      refine gf7_62 (cN := 31) X hW rfl dX7_shrink_199 ?_
      refine lv_iload hx hb dX7_shrink_202 (lv_at hl 10 rfl) ?_
      refine lv_iload hx hb dX7_shrink_204 (lv_at hl 8 rfl) ?_
      refine lv_iadd hx hb dX7_shrink_206 ?_
      obtain ⟨g38, h⟩ := ob_gd h
      refine bg_ald (cN := 48) X hW (n := 1200) rfl g38 dX7_shrink_207 ?_
      obtain ⟨g39, h⟩ := ob_gd h
      refine bg_ast (cN := 32) X hW (n := 1200) rfl g39 dX7_shrink_208 (fun M40 eM40 H locs hW => ?_)
      have h := ob_lt eM40 h
      obtain ⟨y41, ey41⟩ : ∃ y : Int32, y = (x11 + 1) := ⟨_, rfl⟩
      have h := ob_lt ey41 h
      refine lv_iinc (v := y41) (lv' := [(11, .int y41), (0, .ref (G.2.2.2 31)), (1, .int x1), (2, .int x2), (3, .int x3), (4, .int x4), (5, .int x5), (6, .int x6), (7, .int x7), (9, .int x9), (10, .int x10)]) hx hb dX7_shrink_209 hl (k := 10) rfl (by rw [ey41]; rfl) (by decide) rfl (fun ls hl => ?_)
      refine lv_goto (tgt := 183) hx hb dX7_shrink_212 (by decide) ?_
      exact hq183 x1 x2 x3 x4 x5 x6 x7 x9 x10 y41 M40 _ _ _ (lv_sub hl [1, 2, 3, 4, 5, 6, 7, 8, 9, 10, 0] rfl) hW h
def rX7_shrink_b139_s (q92 : Int32 → Int32 → Int32 → Int32 → Int32 → Int32 → Int32 → Mm → Option (Int32 × Mm)) (q139 : Int32 → Int32 → Int32 → Int32 → Int32 → Int32 → Int32 → Int32 → Int32 → Int32 → Int32 → Mm → Option (Int32 × Mm)) (x1 : Int32) (x2 : Int32) (x3 : Int32) (x4 : Int32) (x5 : Int32) (x6 : Int32) (x7 : Int32) (x8 : Int32) (x9 : Int32) (x10 : Int32) (x11 : Int32) (M : Mm) : Option (Int32 × Mm) :=
    (if (M.1 31 2) ≤ x11 then (lt_ (st M 31 2 ((M.1 31 2) - x9)) fun M25 => rX7_shrink_b183 q92 FU x1 x2 x3 x4 x5 x6 x7 x9 x10 x8 M25) else (if x11 < 0 ∨ 1200 ≤ (x11).toNatClampNeg then none else if x11 < 0 ∨ 1200 ≤ (x11).toNatClampNeg then none else lt_ (st M 48 (x11).toNatClampNeg (M.1 32 (x11).toNatClampNeg)) fun M44 => lt_ (x11 + 1) fun y45 => q139 x1 x2 x3 x4 x5 x6 x7 x8 x9 x10 y45 M44))
def rX7_shrink_b139 (q92 : Int32 → Int32 → Int32 → Int32 → Int32 → Int32 → Int32 → Mm → Option (Int32 × Mm)) : Nat → Int32 → Int32 → Int32 → Int32 → Int32 → Int32 → Int32 → Int32 → Int32 → Int32 → Int32 → Mm → Option (Int32 × Mm)
  | 0 => fun _ _ _ _ _ _ _ _ _ _ _ _ => none
  | n + 1 => rX7_shrink_b139_s q92 (rX7_shrink_b139 q92 n)
set_option maxRecDepth 100000 in
set_option maxHeartbeats 4000000 in
theorem sX7_shrink_b139 {p : Program} {l : Launch} {e : Env} {s : State} {m : MethodId} {args : Array Value} {below : List Frame} {meth : Method} {c : Code} {G : Gg} {r : Int32} {M' : Mm} (X : Cx p m c meth cX7_shrink 12 s args RX7 (some .int) G) {q92 : Int32 → Int32 → Int32 → Int32 → Int32 → Int32 → Int32 → Mm → Option (Int32 × Mm)} (hq92 : ∀ (x1 : Int32) (x2 : Int32) (x3 : Int32) (x4 : Int32) (x5 : Int32) (x6 : Int32) (x7 : Int32) (M : Mm) (ls : Array Slot) (H : Heap) (locs : List Loc), lv_has ls 12 [(0, .ref (G.2.2.2 31)), (1, .int x1), (2, .int x2), (3, .int x3), (4, .int x4), (5, .int x5), (6, .int x6), (7, .int x7)] → Wo G s M H locs → q92 x1 x2 x3 x4 x5 x6 x7 M = some (r, M') → W p l e (rm 6) s m args below meth c H locs 0 0 (Qi below args s G r M') (F0 m 92 ls [])) : ∀ (n : Nat), ∀ (x1 : Int32) (x2 : Int32) (x3 : Int32) (x4 : Int32) (x5 : Int32) (x6 : Int32) (x7 : Int32) (x8 : Int32) (x9 : Int32) (x10 : Int32) (x11 : Int32) (M : Mm) (ls : Array Slot) (H : Heap) (locs : List Loc), lv_has ls 12 [(0, .ref (G.2.2.2 31)), (1, .int x1), (2, .int x2), (3, .int x3), (4, .int x4), (5, .int x5), (6, .int x6), (7, .int x7), (8, .int x8), (9, .int x9), (10, .int x10), (11, .int x11)] → Wo G s M H locs → rX7_shrink_b139 q92 n x1 x2 x3 x4 x5 x6 x7 x8 x9 x10 x11 M = some (r, M') → W p l e (rm 6) s m args below meth c H locs 0 0 (Qi below args s G r M') (F0 m 139 ls []) := by
  intro n
  induction n with
  | zero =>
    intro x1 x2 x3 x4 x5 x6 x7 x8 x9 x10 x11 M ls H locs hl hW h
    cases (show (none : Option (Int32 × Mm)) = some (r, M') from h)
  | succ n hq1390 =>
    have hq139 : ∀ (x1 : Int32) (x2 : Int32) (x3 : Int32) (x4 : Int32) (x5 : Int32) (x6 : Int32) (x7 : Int32) (x8 : Int32) (x9 : Int32) (x10 : Int32) (x11 : Int32) (M : Mm) (ls : Array Slot) (H : Heap) (locs : List Loc), lv_has ls 12 [(0, .ref (G.2.2.2 31)), (1, .int x1), (2, .int x2), (3, .int x3), (4, .int x4), (5, .int x5), (6, .int x6), (7, .int x7), (8, .int x8), (9, .int x9), (10, .int x10), (11, .int x11)] → Wo G s M H locs → (rX7_shrink_b139 q92 n) x1 x2 x3 x4 x5 x6 x7 x8 x9 x10 x11 M = some (r, M') → W p l e (rm 6) s m args below meth c H locs 0 0 (Qi below args s G r M') (F0 m 139 ls []) := hq1390
    intro x1 x2 x3 x4 x5 x6 x7 x8 x9 x10 x11 M ls H locs hl hW h
    have h : rX7_shrink_b139_s q92 (rX7_shrink_b139 q92 n) x1 x2 x3 x4 x5 x6 x7 x8 x9 x10 x11 M = some (r, M') := h
    unfold rX7_shrink_b139_s at h
    have hx := X.1.1
    have hb := X.1.2.1
    refine lv_iload hx hb dX7_shrink_139 (lv_at hl 11 rfl) ?_
    refine lv_aload_n hx hb dX7_shrink_141 rfl (lv_at hl 0 rfl) ?_
    refine gf7_78 (cN := 31) X hW rfl dX7_shrink_142 ?_
    refine lv_icmp_ge (tgt := 168) hx hb dX7_shrink_145 (by decide) (fun c24 => ?_) (fun c24 => ?_)
    · have h := ob_pos c24 h
      refine lv_aload_n hx hb dX7_shrink_168 rfl (lv_at hl 0 rfl) ?_
      refine lv_dup hx hb dX7_shrink_169 rfl ?_
      refine gf7_78 (cN := 31) X hW rfl dX7_shrink_170 ?_
      refine lv_iload hx hb dX7_shrink_173 (lv_at hl 9 rfl) ?_
      refine lv_isub hx hb dX7_shrink_175 ?_
      refine pf7_78 (cN := 31) X hW rfl dX7_shrink_176 (fun M25 eM25 H locs hW => ?_)
      have h := ob_lt eM25 h
      refine lv_iload hx hb dX7_shrink_179 (lv_at hl 8 rfl) ?_
      refine lv_istore (lv' := [(11, .int x8), (0, .ref (G.2.2.2 31)), (1, .int x1), (2, .int x2), (3, .int x3), (4, .int x4), (5, .int x5), (6, .int x6), (7, .int x7), (8, .int x8), (9, .int x9), (10, .int x10)]) hx hb dX7_shrink_181 hl (by decide) rfl (fun ls hl => ?_)
      exact sX7_shrink_b183 X hq92 FU x1 x2 x3 x4 x5 x6 x7 x9 x10 x8 M25 _ _ _ (lv_sub hl [1, 2, 3, 4, 5, 6, 7, 8, 10, 11, 0] rfl) hW h
    · have h := ob_neg c24 h
      refine lv_aload_n hx hb dX7_shrink_148 rfl (lv_at hl 0 rfl) ?_
      refine gf7_62 (cN := 31) X hW rfl dX7_shrink_149 ?_
      refine lv_iload hx hb dX7_shrink_152 (lv_at hl 11 rfl) ?_
      refine lv_aload_n hx hb dX7_shrink_154 rfl (lv_at hl 0 rfl) ?_
      refine gf7_7 (cN := 31) X hW rfl dX7_shrink_155 ?_
      refine lv_iload hx hb dX7_shrink_158 (lv_at hl 11 rfl) ?_
      obtain ⟨g42, h⟩ := ob_gd h
      refine bg_ald (cN := 32) X hW (n := 1200) rfl g42 dX7_shrink_160 ?_
      obtain ⟨g43, h⟩ := ob_gd h
      refine bg_ast (cN := 48) X hW (n := 1200) rfl g43 dX7_shrink_161 (fun M44 eM44 H locs hW => ?_)
      have h := ob_lt eM44 h
      obtain ⟨y45, ey45⟩ : ∃ y : Int32, y = (x11 + 1) := ⟨_, rfl⟩
      have h := ob_lt ey45 h
      refine lv_iinc (v := y45) (lv' := [(11, .int y45), (0, .ref (G.2.2.2 31)), (1, .int x1), (2, .int x2), (3, .int x3), (4, .int x4), (5, .int x5), (6, .int x6), (7, .int x7), (8, .int x8), (9, .int x9), (10, .int x10)]) hx hb dX7_shrink_162 hl (k := 11) rfl (by rw [ey45]; rfl) (by decide) rfl (fun ls hl => ?_)
      refine lv_goto (tgt := 139) hx hb dX7_shrink_165 (by decide) ?_
      exact hq139 x1 x2 x3 x4 x5 x6 x7 x8 x9 x10 y45 M44 _ _ _ (lv_sub hl [1, 2, 3, 4, 5, 6, 7, 8, 9, 10, 11, 0] rfl) hW h
def rX7_shrink_b92_s (q92 : Int32 → Int32 → Int32 → Int32 → Int32 → Int32 → Int32 → Mm → Option (Int32 × Mm)) (x1 : Int32) (x2 : Int32) (x3 : Int32) (x4 : Int32) (x5 : Int32) (x6 : Int32) (x7 : Int32) (M : Mm) : Option (Int32 × Mm) :=
    (if x5 ≤ x7 then (Option.bind (rX7_reads x1 x2 x3 M) fun M17 => some ((M17.1 31 2), M17)) else (if x7 < 0 ∨ 601 ≤ (x7).toNatClampNeg then none else lt_ ((M.1 49 (x7).toNatClampNeg) - x6) fun y19 => if (x7 + (1 : Int32)) < 0 ∨ 601 ≤ ((x7 + (1 : Int32))).toNatClampNeg then none else if x7 < 0 ∨ 601 ≤ (x7).toNatClampNeg then none else lt_ ((M.1 49 ((x7 + (1 : Int32))).toNatClampNeg) - (M.1 49 (x7).toNatClampNeg)) fun y22 => lt_ (M.1 31 2) fun y23 => rX7_shrink_b139 q92 FU x1 x2 x3 x4 x5 x6 x7 y19 y22 y23 (0 : Int32) M))
def rX7_shrink_b92 : Nat → Int32 → Int32 → Int32 → Int32 → Int32 → Int32 → Int32 → Mm → Option (Int32 × Mm)
  | 0 => fun _ _ _ _ _ _ _ _ => none
  | n + 1 => rX7_shrink_b92_s (rX7_shrink_b92 n)
set_option maxRecDepth 100000 in
set_option maxHeartbeats 4000000 in
theorem sX7_shrink_b92 {p : Program} {l : Launch} {e : Env} {s : State} {m : MethodId} {args : Array Value} {below : List Frame} {meth : Method} {c : Code} {G : Gg} {r : Int32} {M' : Mm} (X : Cx p m c meth cX7_shrink 12 s args RX7 (some .int) G) : ∀ (n : Nat), ∀ (x1 : Int32) (x2 : Int32) (x3 : Int32) (x4 : Int32) (x5 : Int32) (x6 : Int32) (x7 : Int32) (M : Mm) (ls : Array Slot) (H : Heap) (locs : List Loc), lv_has ls 12 [(0, .ref (G.2.2.2 31)), (1, .int x1), (2, .int x2), (3, .int x3), (4, .int x4), (5, .int x5), (6, .int x6), (7, .int x7)] → Wo G s M H locs → rX7_shrink_b92 n x1 x2 x3 x4 x5 x6 x7 M = some (r, M') → W p l e (rm 6) s m args below meth c H locs 0 0 (Qi below args s G r M') (F0 m 92 ls []) := by
  intro n
  induction n with
  | zero =>
    intro x1 x2 x3 x4 x5 x6 x7 M ls H locs hl hW h
    cases (show (none : Option (Int32 × Mm)) = some (r, M') from h)
  | succ n hq920 =>
    have hq92 : ∀ (x1 : Int32) (x2 : Int32) (x3 : Int32) (x4 : Int32) (x5 : Int32) (x6 : Int32) (x7 : Int32) (M : Mm) (ls : Array Slot) (H : Heap) (locs : List Loc), lv_has ls 12 [(0, .ref (G.2.2.2 31)), (1, .int x1), (2, .int x2), (3, .int x3), (4, .int x4), (5, .int x5), (6, .int x6), (7, .int x7)] → Wo G s M H locs → (rX7_shrink_b92 n) x1 x2 x3 x4 x5 x6 x7 M = some (r, M') → W p l e (rm 6) s m args below meth c H locs 0 0 (Qi below args s G r M') (F0 m 92 ls []) := hq920
    intro x1 x2 x3 x4 x5 x6 x7 M ls H locs hl hW h
    have h : rX7_shrink_b92_s (rX7_shrink_b92 n) x1 x2 x3 x4 x5 x6 x7 M = some (r, M') := h
    unfold rX7_shrink_b92_s at h
    have hx := X.1.1
    have hb := X.1.2.1
    refine lv_iload hx hb dX7_shrink_92 (lv_at hl 7 rfl) ?_
    refine lv_iload hx hb dX7_shrink_94 (lv_at hl 5 rfl) ?_
    refine lv_icmp_ge (tgt := 285) hx hb dX7_shrink_96 (by decide) (fun c15 => ?_) (fun c15 => ?_)
    · have h := ob_pos c15 h
      refine lv_aload_n hx hb dX7_shrink_285 rfl (lv_at hl 0 rfl) ?_
      refine lv_iload_n hx hb dX7_shrink_286 rfl (lv_at hl 1 rfl) ?_
      refine lv_iload_n hx hb dX7_shrink_287 rfl (lv_at hl 2 rfl) ?_
      refine lv_iload_n hx hb dX7_shrink_288 rfl (lv_at hl 3 rfl) ?_
      obtain ⟨M17, e16, h⟩ := ob_bind h
      refine bg_callv X hW (cX7_reads_k e16) rfl rfl kw7_204 kd_X7_reads rfl rfl ⟨Nat.le_of_ble_eq_true rfl, Nat.le_of_ble_eq_true rfl⟩ ⟨Nat.le_refl _, Nat.le_refl _⟩ hl.1 (Nat.le_of_ble_eq_true rfl) dX7_shrink_289 (fun H locs hW => ?_)
      refine lv_aload_n hx hb dX7_shrink_292 rfl (lv_at hl 0 rfl) ?_
      refine gf7_78 (cN := 31) X hW rfl dX7_shrink_293 ?_
      exact rt_i X hW h dX7_shrink_296
    · have h := ob_neg c15 h
      refine lv_aload_n hx hb dX7_shrink_99 rfl (lv_at hl 0 rfl) ?_
      refine gf7_65 (cN := 31) X hW rfl dX7_shrink_100 ?_
      refine lv_iload hx hb dX7_shrink_103 (lv_at hl 7 rfl) ?_
      obtain ⟨g18, h⟩ := ob_gd h
      refine bg_ald (cN := 49) X hW (n := 601) rfl g18 dX7_shrink_105 ?_
      refine lv_iload hx hb dX7_shrink_106 (lv_at hl 6 rfl) ?_
      refine lv_isub hx hb dX7_shrink_108 ?_
      refine lv_topi (fun y19 ey19 => ?_)
      have h := ob_lt ey19 h
      refine lv_istore (lv' := [(8, .int y19), (0, .ref (G.2.2.2 31)), (1, .int x1), (2, .int x2), (3, .int x3), (4, .int x4), (5, .int x5), (6, .int x6), (7, .int x7)]) hx hb dX7_shrink_109 hl (by decide) rfl (fun ls hl => ?_)
      refine lv_aload_n hx hb dX7_shrink_111 rfl (lv_at hl 1 rfl) ?_
      refine gf7_65 (cN := 31) X hW rfl dX7_shrink_112 ?_
      refine lv_iload hx hb dX7_shrink_115 (lv_at hl 8 rfl) ?_
      refine lv_iconst (v := 1) hx hb dX7_shrink_117 (by decide) ?_
      refine lv_iadd hx hb dX7_shrink_118 ?_
      obtain ⟨g20, h⟩ := ob_gd h
      refine bg_ald (cN := 49) X hW (n := 601) rfl g20 dX7_shrink_119 ?_
      refine lv_aload_n hx hb dX7_shrink_120 rfl (lv_at hl 1 rfl) ?_
      refine gf7_65 (cN := 31) X hW rfl dX7_shrink_121 ?_
      refine lv_iload hx hb dX7_shrink_124 (lv_at hl 8 rfl) ?_
      obtain ⟨g21, h⟩ := ob_gd h
      refine bg_ald (cN := 49) X hW (n := 601) rfl g21 dX7_shrink_126 ?_
      refine lv_isub hx hb dX7_shrink_127 ?_
      refine lv_topi (fun y22 ey22 => ?_)
      have h := ob_lt ey22 h
      refine lv_istore (lv' := [(9, .int y22), (8, .int y19), (0, .ref (G.2.2.2 31)), (1, .int x1), (2, .int x2), (3, .int x3), (4, .int x4), (5, .int x5), (6, .int x6), (7, .int x7)]) hx hb dX7_shrink_128 hl (by decide) rfl (fun ls hl => ?_)
      refine lv_aload_n hx hb dX7_shrink_130 rfl (lv_at hl 2 rfl) ?_
      refine gf7_78 (cN := 31) X hW rfl dX7_shrink_131 ?_
      refine lv_topi (fun y23 ey23 => ?_)
      have h := ob_lt ey23 h
      refine lv_istore (lv' := [(10, .int y23), (9, .int y22), (8, .int y19), (0, .ref (G.2.2.2 31)), (1, .int x1), (2, .int x2), (3, .int x3), (4, .int x4), (5, .int x5), (6, .int x6), (7, .int x7)]) hx hb dX7_shrink_134 hl (by decide) rfl (fun ls hl => ?_)
      refine lv_iconst (v := 0) hx hb dX7_shrink_136 (by decide) ?_
      refine lv_istore (lv' := [(11, .int (0 : Int32)), (10, .int y23), (9, .int y22), (8, .int y19), (0, .ref (G.2.2.2 31)), (1, .int x1), (2, .int x2), (3, .int x3), (4, .int x4), (5, .int x5), (6, .int x6), (7, .int x7)]) hx hb dX7_shrink_137 hl (by decide) rfl (fun ls hl => ?_)
      exact sX7_shrink_b139 X hq92 FU x1 x2 x3 x4 x5 x6 x7 y19 y22 y23 (0 : Int32) M _ _ _ (lv_sub hl [4, 5, 6, 7, 8, 9, 10, 11, 3, 2, 1, 0] rfl) hW h
def rX7_shrink_b46_s (q46 : Int32 → Int32 → Int32 → Int32 → Int32 → Int32 → Mm → Option (Int32 × Mm)) (x1 : Int32) (x2 : Int32) (x3 : Int32) (x4 : Int32) (x5 : Int32) (x6 : Int32) (M : Mm) : Option (Int32 × Mm) :=
    (if x5 ≤ x6 then (if (0 : Int32) < 0 ∨ 10 ≤ ((0 : Int32)).toNatClampNeg then none else if x5 < 0 ∨ 601 ≤ (x5).toNatClampNeg then none else lt_ (st M 49 (x5).toNatClampNeg (M.1 36 ((0 : Int32)).toNatClampNeg)) fun M14 => rX7_shrink_b92 FU x1 x2 x3 x4 x5 (0 : Int32) (0 : Int32) M14) else (if x6 < 0 ∨ 600 ≤ (x6).toNatClampNeg then none else if x6 < 0 ∨ 601 ≤ (x6).toNatClampNeg then none else lt_ (st M 49 (x6).toNatClampNeg (M.1 44 (x6).toNatClampNeg)) fun M48 => lt_ (x6 + 1) fun y49 => q46 x1 x2 x3 x4 x5 y49 M48))
def rX7_shrink_b46 : Nat → Int32 → Int32 → Int32 → Int32 → Int32 → Int32 → Mm → Option (Int32 × Mm)
  | 0 => fun _ _ _ _ _ _ _ => none
  | n + 1 => rX7_shrink_b46_s (rX7_shrink_b46 n)
set_option maxRecDepth 100000 in
set_option maxHeartbeats 4000000 in
theorem sX7_shrink_b46 {p : Program} {l : Launch} {e : Env} {s : State} {m : MethodId} {args : Array Value} {below : List Frame} {meth : Method} {c : Code} {G : Gg} {r : Int32} {M' : Mm} (X : Cx p m c meth cX7_shrink 12 s args RX7 (some .int) G) : ∀ (n : Nat), ∀ (x1 : Int32) (x2 : Int32) (x3 : Int32) (x4 : Int32) (x5 : Int32) (x6 : Int32) (M : Mm) (ls : Array Slot) (H : Heap) (locs : List Loc), lv_has ls 12 [(0, .ref (G.2.2.2 31)), (1, .int x1), (2, .int x2), (3, .int x3), (4, .int x4), (5, .int x5), (6, .int x6)] → Wo G s M H locs → rX7_shrink_b46 n x1 x2 x3 x4 x5 x6 M = some (r, M') → W p l e (rm 6) s m args below meth c H locs 0 0 (Qi below args s G r M') (F0 m 46 ls []) := by
  intro n
  induction n with
  | zero =>
    intro x1 x2 x3 x4 x5 x6 M ls H locs hl hW h
    cases (show (none : Option (Int32 × Mm)) = some (r, M') from h)
  | succ n hq460 =>
    have hq46 : ∀ (x1 : Int32) (x2 : Int32) (x3 : Int32) (x4 : Int32) (x5 : Int32) (x6 : Int32) (M : Mm) (ls : Array Slot) (H : Heap) (locs : List Loc), lv_has ls 12 [(0, .ref (G.2.2.2 31)), (1, .int x1), (2, .int x2), (3, .int x3), (4, .int x4), (5, .int x5), (6, .int x6)] → Wo G s M H locs → (rX7_shrink_b46 n) x1 x2 x3 x4 x5 x6 M = some (r, M') → W p l e (rm 6) s m args below meth c H locs 0 0 (Qi below args s G r M') (F0 m 46 ls []) := hq460
    intro x1 x2 x3 x4 x5 x6 M ls H locs hl hW h
    have h : rX7_shrink_b46_s (rX7_shrink_b46 n) x1 x2 x3 x4 x5 x6 M = some (r, M') := h
    unfold rX7_shrink_b46_s at h
    have hx := X.1.1
    have hb := X.1.2.1
    refine lv_iload hx hb dX7_shrink_46 (lv_at hl 6 rfl) ?_
    refine lv_iload hx hb dX7_shrink_48 (lv_at hl 5 rfl) ?_
    refine lv_icmp_ge (tgt := 73) hx hb dX7_shrink_50 (by decide) (fun c11 => ?_) (fun c11 => ?_)
    · have h := ob_pos c11 h
      refine lv_aload_n hx hb dX7_shrink_73 rfl (lv_at hl 0 rfl) ?_
      refine gf7_65 (cN := 31) X hW rfl dX7_shrink_74 ?_
      refine lv_iload hx hb dX7_shrink_77 (lv_at hl 5 rfl) ?_
      refine lv_aload_n hx hb dX7_shrink_79 rfl (lv_at hl 0 rfl) ?_
      refine gf7_26 (cN := 31) X hW rfl dX7_shrink_80 ?_
      refine lv_iconst (v := 0) hx hb dX7_shrink_83 (by decide) ?_
      obtain ⟨g12, h⟩ := ob_gd h
      refine bg_ald (cN := 36) X hW (n := 10) rfl g12 dX7_shrink_84 ?_
      obtain ⟨g13, h⟩ := ob_gd h
      refine bg_ast (cN := 49) X hW (n := 601) rfl g13 dX7_shrink_85 (fun M14 eM14 H locs hW => ?_)
      have h := ob_lt eM14 h
      refine lv_iconst (v := 0) hx hb dX7_shrink_86 (by decide) ?_
      refine lv_istore (lv' := [(6, .int (0 : Int32)), (0, .ref (G.2.2.2 31)), (1, .int x1), (2, .int x2), (3, .int x3), (4, .int x4), (5, .int x5)]) hx hb dX7_shrink_87 hl (by decide) rfl (fun ls hl => ?_)
      refine lv_iconst (v := 0) hx hb dX7_shrink_89 (by decide) ?_
      refine lv_istore (lv' := [(7, .int (0 : Int32)), (6, .int (0 : Int32)), (0, .ref (G.2.2.2 31)), (1, .int x1), (2, .int x2), (3, .int x3), (4, .int x4), (5, .int x5)]) hx hb dX7_shrink_90 hl (by decide) rfl (fun ls hl => ?_)
      exact sX7_shrink_b92 X FU x1 x2 x3 x4 x5 (0 : Int32) (0 : Int32) M14 _ _ _ (lv_sub hl [2, 3, 4, 5, 6, 7, 1, 0] rfl) hW h
    · have h := ob_neg c11 h
      refine lv_aload_n hx hb dX7_shrink_53 rfl (lv_at hl 0 rfl) ?_
      refine gf7_65 (cN := 31) X hW rfl dX7_shrink_54 ?_
      refine lv_iload hx hb dX7_shrink_57 (lv_at hl 6 rfl) ?_
      refine lv_aload_n hx hb dX7_shrink_59 rfl (lv_at hl 0 rfl) ?_
      refine gf7_50 (cN := 31) X hW rfl dX7_shrink_60 ?_
      refine lv_iload hx hb dX7_shrink_63 (lv_at hl 6 rfl) ?_
      obtain ⟨g46, h⟩ := ob_gd h
      refine bg_ald (cN := 44) X hW (n := 600) rfl g46 dX7_shrink_65 ?_
      obtain ⟨g47, h⟩ := ob_gd h
      refine bg_ast (cN := 49) X hW (n := 601) rfl g47 dX7_shrink_66 (fun M48 eM48 H locs hW => ?_)
      have h := ob_lt eM48 h
      obtain ⟨y49, ey49⟩ : ∃ y : Int32, y = (x6 + 1) := ⟨_, rfl⟩
      have h := ob_lt ey49 h
      refine lv_iinc (v := y49) (lv' := [(6, .int y49), (0, .ref (G.2.2.2 31)), (1, .int x1), (2, .int x2), (3, .int x3), (4, .int x4), (5, .int x5)]) hx hb dX7_shrink_67 hl (k := 6) rfl (by rw [ey49]; rfl) (by decide) rfl (fun ls hl => ?_)
      refine lv_goto (tgt := 46) hx hb dX7_shrink_70 (by decide) ?_
      exact hq46 x1 x2 x3 x4 x5 y49 M48 _ _ _ (lv_sub hl [1, 2, 3, 4, 5, 6, 0] rfl) hW h
def rX7_shrink (a1 : Int32) (a2 : Int32) (a3 : Int32) (M : Mm) : Option (Int32 × Mm) :=
    (bd2 (rX7_isGood a1 a2 a3 M) fun r3 M2 => if r3 = 0 then (some ((-2 : Int32), M2)) else (Option.bind (rX7_reads a1 a2 a3 M2) fun M6 => if (M6.1 31 8) = 0 then (some ((-3 : Int32), M6)) else (lt_ (M6.1 31 8) fun y8 => if (0 : Int32) < 0 ∨ 10 ≤ ((0 : Int32)).toNatClampNeg then none else lt_ (M6.1 38 ((0 : Int32)).toNatClampNeg) fun y10 => rX7_shrink_b46 FU a1 a2 a3 y8 y10 (0 : Int32) M6)))
set_option maxRecDepth 100000 in
set_option maxHeartbeats 4000000 in
theorem cX7_shrink_k {l : Launch} {G : Gg} {a1 : Int32} {a2 : Int32} {a3 : Int32} {M M' : Mm} {r : Int32} (h : rX7_shrink a1 a2 a3 M = some (r, M')) : CTi l yX7_shrink cX7_shrink 12 (some .int) 6 G [.ref (G.2.2.2 31), .int a1, .int a2, .int a3] M r M' := by
  unfold rX7_shrink at h
  refine ct_i (by decide) (Nat.le_of_ble_eq_true rfl) (fun p e s m below meth c ls X hl hW => ?_)
  have hx := X.1.1
  have hb := X.1.2.1
  refine lv_iload_n hx hb dX7_shrink_0 rfl (lv_at hl 1 rfl) ?_
  refine lv_iload_n hx hb dX7_shrink_1 rfl (lv_at hl 2 rfl) ?_
  refine lv_iload_n hx hb dX7_shrink_2 rfl (lv_at hl 3 rfl) ?_
  obtain ⟨r3, M2, e1, h⟩ := ob_bd2 h
  refine bg_calls X hW (cX7_isGood_k e1) kw7_201 kd_X7_isGood rfl rfl ⟨Nat.le_of_ble_eq_true rfl, Nat.le_of_ble_eq_true rfl⟩ ⟨Nat.le_refl _, Nat.le_refl _⟩ hl.1 (Nat.le_of_ble_eq_true rfl) dX7_shrink_3 (fun H locs hW => ?_)
  refine lv_if_ne (tgt := 12) hx hb dX7_shrink_6 (by decide) (fun c4 => ?_) (fun c4 => ?_)
  · have h := ob_neg c4 h
    refine lv_aload_n hx hb dX7_shrink_12 rfl (lv_at hl 0 rfl) ?_
    refine lv_iload_n hx hb dX7_shrink_13 rfl (lv_at hl 1 rfl) ?_
    refine lv_iload_n hx hb dX7_shrink_14 rfl (lv_at hl 2 rfl) ?_
    refine lv_iload_n hx hb dX7_shrink_15 rfl (lv_at hl 3 rfl) ?_
    obtain ⟨M6, e5, h⟩ := ob_bind h
    refine bg_callv X hW (cX7_reads_k e5) rfl rfl kw7_204 kd_X7_reads rfl rfl ⟨Nat.le_of_ble_eq_true rfl, Nat.le_of_ble_eq_true rfl⟩ ⟨Nat.le_refl _, Nat.le_refl _⟩ hl.1 (Nat.le_of_ble_eq_true rfl) dX7_shrink_16 (fun H locs hW => ?_)
    refine lv_aload_n hx hb dX7_shrink_19 rfl (lv_at hl 0 rfl) ?_
    refine gf7_122 (cN := 31) X hW rfl dX7_shrink_20 ?_
    refine lv_if_ne (tgt := 29) hx hb dX7_shrink_23 (by decide) (fun c7 => ?_) (fun c7 => ?_)
    · have h := ob_neg c7 h
      refine lv_aload_n hx hb dX7_shrink_29 rfl (lv_at hl 0 rfl) ?_
      refine gf7_122 (cN := 31) X hW rfl dX7_shrink_30 ?_
      refine lv_topi (fun y8 ey8 => ?_)
      have h := ob_lt ey8 h
      refine lv_istore (lv' := [(4, .int y8), (0, .ref (G.2.2.2 31)), (1, .int a1), (2, .int a2), (3, .int a3)]) hx hb dX7_shrink_33 hl (by decide) rfl (fun ls hl => ?_)
      refine lv_aload_n hx hb dX7_shrink_35 rfl (lv_at hl 1 rfl) ?_
      refine gf7_32 (cN := 31) X hW rfl dX7_shrink_36 ?_
      refine lv_iconst (v := 0) hx hb dX7_shrink_39 (by decide) ?_
      obtain ⟨g9, h⟩ := ob_gd h
      refine bg_ald (cN := 38) X hW (n := 10) rfl g9 dX7_shrink_40 ?_
      refine lv_topi (fun y10 ey10 => ?_)
      have h := ob_lt ey10 h
      refine lv_istore (lv' := [(5, .int y10), (4, .int y8), (0, .ref (G.2.2.2 31)), (1, .int a1), (2, .int a2), (3, .int a3)]) hx hb dX7_shrink_41 hl (by decide) rfl (fun ls hl => ?_)
      refine lv_iconst (v := 0) hx hb dX7_shrink_43 (by decide) ?_
      refine lv_istore (lv' := [(6, .int (0 : Int32)), (5, .int y10), (4, .int y8), (0, .ref (G.2.2.2 31)), (1, .int a1), (2, .int a2), (3, .int a3)]) hx hb dX7_shrink_44 hl (by decide) rfl (fun ls hl => ?_)
      exact sX7_shrink_b46 X FU a1 a2 a3 y8 y10 (0 : Int32) M6 _ _ _ (lv_sub hl [3, 4, 5, 6, 2, 1, 0] rfl) hW h
    · have h := ob_pos c7 h
      refine lv_bipush (v := (-3)) hx hb dX7_shrink_26 (by decide) ?_
      exact rt_i X hW h dX7_shrink_28
  · have h := ob_pos c4 h
    refine lv_bipush (v := (-2)) hx hb dX7_shrink_9 (by decide) ?_
    exact rt_i X hW h dX7_shrink_11
def rX7_count (a1 : Int32) (M : Mm) : Option (Int32 × Mm) :=
    (if a1 = 0 then (some ((M.1 31 2), M)) else if a1 = 1 then (some ((M.1 31 4), M)) else if a1 = 2 then (some ((M.1 31 10), M)) else if a1 = 3 then (some ((M.1 31 11), M)) else if a1 = 4 then (some ((M.1 31 12), M)) else if a1 = 5 then (some ((M.1 31 8), M)) else if a1 = 6 then (some ((M.1 31 13), M)) else (some ((-1 : Int32), M)))
set_option maxRecDepth 100000 in
set_option maxHeartbeats 4000000 in
theorem cX7_count_k {l : Launch} {G : Gg} {a1 : Int32} {M M' : Mm} {r : Int32} (h : rX7_count a1 M = some (r, M')) : CTi l yX7_count cX7_count 2 (some .int) 0 G [.ref (G.2.2.2 31), .int a1] M r M' := by
  unfold rX7_count at h
  refine ct_i (by decide) (Nat.le_of_ble_eq_true rfl) (fun p e s m below meth c ls X hl hW => ?_)
  have hx := X.1.1
  have hb := X.1.2.1
  refine lv_iload_n hx hb dX7_count_0 rfl (lv_at hl 1 rfl) ?_
  by_cases c1 : a1 = 0
  · have h := ob_pos c1 h
    refine lv_tableIn (off := 43) (tgt := 44) hx hb dX7_count_1 (by rw [c1]; decide) (by rw [c1]; decide) (by rw [c1]; decide) (by decide) ?_
    refine lv_aload_n hx hb dX7_count_44 rfl (lv_at hl 0 rfl) ?_
    refine gf7_78 (cN := 31) X hW rfl dX7_count_45 ?_
    exact rt_i X hW h dX7_count_48
  · have h := ob_neg c1 h
    by_cases c2 : a1 = 1
    · have h := ob_pos c2 h
      refine lv_tableIn (off := 48) (tgt := 49) hx hb dX7_count_1 (by rw [c2]; decide) (by rw [c2]; decide) (by rw [c2]; decide) (by decide) ?_
      refine lv_aload_n hx hb dX7_count_49 rfl (lv_at hl 0 rfl) ?_
      refine gf7_140 (cN := 31) X hW rfl dX7_count_50 ?_
      exact rt_i X hW h dX7_count_53
    · have h := ob_neg c2 h
      by_cases c3 : a1 = 2
      · have h := ob_pos c3 h
        refine lv_tableIn (off := 53) (tgt := 54) hx hb dX7_count_1 (by rw [c3]; decide) (by rw [c3]; decide) (by rw [c3]; decide) (by decide) ?_
        refine lv_aload_n hx hb dX7_count_54 rfl (lv_at hl 0 rfl) ?_
        refine gf7_125 (cN := 31) X hW rfl dX7_count_55 ?_
        exact rt_i X hW h dX7_count_58
      · have h := ob_neg c3 h
        by_cases c4 : a1 = 3
        · have h := ob_pos c4 h
          refine lv_tableIn (off := 58) (tgt := 59) hx hb dX7_count_1 (by rw [c4]; decide) (by rw [c4]; decide) (by rw [c4]; decide) (by decide) ?_
          refine lv_aload_n hx hb dX7_count_59 rfl (lv_at hl 0 rfl) ?_
          refine gf7_143 (cN := 31) X hW rfl dX7_count_60 ?_
          exact rt_i X hW h dX7_count_63
        · have h := ob_neg c4 h
          by_cases c5 : a1 = 4
          · have h := ob_pos c5 h
            refine lv_tableIn (off := 63) (tgt := 64) hx hb dX7_count_1 (by rw [c5]; decide) (by rw [c5]; decide) (by rw [c5]; decide) (by decide) ?_
            refine lv_aload_n hx hb dX7_count_64 rfl (lv_at hl 0 rfl) ?_
            refine gf7_134 (cN := 31) X hW rfl dX7_count_65 ?_
            exact rt_i X hW h dX7_count_68
          · have h := ob_neg c5 h
            by_cases c6 : a1 = 5
            · have h := ob_pos c6 h
              refine lv_tableIn (off := 68) (tgt := 69) hx hb dX7_count_1 (by rw [c6]; decide) (by rw [c6]; decide) (by rw [c6]; decide) (by decide) ?_
              refine lv_aload_n hx hb dX7_count_69 rfl (lv_at hl 0 rfl) ?_
              refine gf7_122 (cN := 31) X hW rfl dX7_count_70 ?_
              exact rt_i X hW h dX7_count_73
            · have h := ob_neg c6 h
              by_cases c7 : a1 = 6
              · have h := ob_pos c7 h
                refine lv_tableIn (off := 73) (tgt := 74) hx hb dX7_count_1 (by rw [c7]; decide) (by rw [c7]; decide) (by rw [c7]; decide) (by decide) ?_
                refine lv_aload_n hx hb dX7_count_74 rfl (lv_at hl 0 rfl) ?_
                refine gf7_191 (cN := 31) X hW rfl dX7_count_75 ?_
                exact rt_i X hW h dX7_count_78
              · have h := ob_neg c7 h
                refine lv_tableOut (tgt := 79) hx hb dX7_count_1 (by have nc1 := lv_neT (a := 0) c1 rfl; have nc2 := lv_neT (a := 1) c2 rfl; have nc3 := lv_neT (a := 2) c3 rfl; have nc4 := lv_neT (a := 3) c4 rfl; have nc5 := lv_neT (a := 4) c5 rfl; have nc6 := lv_neT (a := 5) c6 rfl; have nc7 := lv_neT (a := 6) c7 rfl; omega) (by decide) ?_
                refine lv_iconst (v := (-1)) hx hb dX7_count_79 (by decide) ?_
                exact rt_i X hW h dX7_count_80
