def rX7_in (a0 : Int64) (a2 : Int64) (a4 : Int64) (M : Mm) : Option (Int32 × Mm) :=
    (if (lg_cmp a0 a2) < 0 then (if ¬ (0 : Int32) &&& 1 = (0 : Int32) then none else some ((0 : Int32), M)) else (if 0 < (lg_cmp a0 a4) then (if ¬ (0 : Int32) &&& 1 = (0 : Int32) then none else some ((0 : Int32), M)) else (if ¬ (1 : Int32) &&& 1 = (1 : Int32) then none else some ((1 : Int32), M))))
set_option maxRecDepth 100000 in
set_option maxHeartbeats 4000000 in
theorem cX7_in_k {l : Launch} {G : Gg} {a0 : Int64} {a2 : Int64} {a4 : Int64} {M M' : Mm} {r : Int32} (h : rX7_in a0 a2 a4 M = some (r, M')) : CTi l yX7_in cX7_in 6 (some .boolean) 0 G [.long a0, .long a2, .long a4] M r M' := by
  unfold rX7_in at h
  refine ct_i (by decide) (Nat.le_of_ble_eq_true rfl) (fun p e s m below meth c ls X hl hW => ?_)
  have hx := X.1.1
  have hb := X.1.2.1
  refine lv_lload_n hx hb dX7_in_0 rfl (lv_at hl 0 rfl) ?_
  refine lv_lload_n hx hb dX7_in_1 rfl (lv_at hl 1 rfl) ?_
  refine W.lcmp hx hb dX7_in_2 ?_
  refine lv_if_lt (tgt := 17) hx hb dX7_in_3 (by decide) (fun c1 => ?_) (fun c1 => ?_)
  · have h := ob_pos c1 h
    refine lv_iconst (v := 0) hx hb dX7_in_17 (by decide) ?_
    exact rt_z X hW h dX7_in_18
  · have h := ob_neg c1 h
    refine lv_lload_n hx hb dX7_in_6 rfl (lv_at hl 0 rfl) ?_
    refine lv_lload hx hb dX7_in_7 (lv_at hl 2 rfl) ?_
    refine W.lcmp hx hb dX7_in_9 ?_
    refine lv_if_gt (tgt := 17) hx hb dX7_in_10 (by decide) (fun c2 => ?_) (fun c2 => ?_)
    · have h := ob_pos c2 h
      refine lv_iconst (v := 0) hx hb dX7_in_17 (by decide) ?_
      exact rt_z X hW h dX7_in_18
    · have h := ob_neg c2 h
      refine lv_iconst (v := 1) hx hb dX7_in_13 (by decide) ?_
      refine lv_goto (tgt := 18) hx hb dX7_in_14 (by decide) ?_
      exact rt_z X hW h dX7_in_18
def rX7_lay (a1 : Int32) (M : Mm) : Option Mm :=
    (if (M.1 31 2) < 0 ∨ 1200 ≤ ((M.1 31 2)).toNatClampNeg then none else lt_ (st M 32 ((M.1 31 2)).toNatClampNeg a1) fun M2 => lt_ (st M2 31 2 ((M2.1 31 2) + (1 : Int32))) fun M3 => some M3)
set_option maxRecDepth 100000 in
set_option maxHeartbeats 4000000 in
theorem cX7_lay_k {l : Launch} {G : Gg} {a1 : Int32} {M M' : Mm} (h : rX7_lay a1 M = some M') : CTv l yX7_lay cX7_lay 2 0 G [.ref (G.2.2.2 31), .int a1] M M' := by
  unfold rX7_lay at h
  refine ct_v (by decide) (Nat.le_of_ble_eq_true rfl) (fun p e s m below meth c ls X hl hW => ?_)
  have hx := X.1.1
  have hb := X.1.2.1
  refine lv_aload_n hx hb dX7_lay_0 rfl (lv_at hl 0 rfl) ?_
  refine gf7_7 (cN := 31) X hW rfl dX7_lay_1 ?_
  refine lv_aload_n hx hb dX7_lay_4 rfl (lv_at hl 0 rfl) ?_
  refine gf7_78 (cN := 31) X hW rfl dX7_lay_5 ?_
  refine lv_iload_n hx hb dX7_lay_8 rfl (lv_at hl 1 rfl) ?_
  obtain ⟨g1, h⟩ := ob_gd h
  refine bg_ast (cN := 32) X hW (n := 1200) rfl g1 dX7_lay_9 (fun M2 eM2 H locs hW => ?_)
  have h := ob_lt eM2 h
  refine lv_aload_n hx hb dX7_lay_10 rfl (lv_at hl 0 rfl) ?_
  refine lv_dup hx hb dX7_lay_11 rfl ?_
  refine gf7_78 (cN := 31) X hW rfl dX7_lay_12 ?_
  refine lv_iconst (v := 1) hx hb dX7_lay_15 (by decide) ?_
  refine lv_iadd hx hb dX7_lay_16 ?_
  refine pf7_78 (cN := 31) X hW rfl dX7_lay_17 (fun M3 eM3 H locs hW => ?_)
  have h := ob_lt eM3 h
  exact rt_v X hW h dX7_lay_20
def rX7_feed_b35_s (q35 : Int64 → Int32 → Mm → Option (Int32 × Mm)) (x2 : Int64) (x4 : Int32) (M : Mm) : Option (Int32 × Mm) :=
    (if x4 < 0 then (some ((M.1 31 2), M)) else (Option.bind (rX7_lay (((x2 >>> ((((8 : Int32) * x4)).toInt64 &&& 63)) &&& (255 : Int64))).toInt32 M) fun M9 => lt_ (x4 + (-1)) fun y10 => q35 x2 y10 M9))
def rX7_feed_b35 : Nat → Int64 → Int32 → Mm → Option (Int32 × Mm)
  | 0 => fun _ _ _ => none
  | n + 1 => rX7_feed_b35_s (rX7_feed_b35 n)
set_option maxRecDepth 100000 in
set_option maxHeartbeats 4000000 in
theorem sX7_feed_b35 {p : Program} {l : Launch} {e : Env} {s : State} {m : MethodId} {args : Array Value} {below : List Frame} {meth : Method} {c : Code} {G : Gg} {r : Int32} {M' : Mm} (X : Cx p m c meth cX7_feed 5 s args RX7 (some .int) G) : ∀ (n : Nat), ∀ (x2 : Int64) (x4 : Int32) (M : Mm) (ls : Array Slot) (H : Heap) (locs : List Loc), lv_has ls 5 [(0, .ref (G.2.2.2 31)), (2, .long x2), (4, .int x4)] → Wo G s M H locs → rX7_feed_b35 n x2 x4 M = some (r, M') → W p l e (rm 1) s m args below meth c H locs 0 0 (Qi below args s G r M') (F0 m 35 ls []) := by
  intro n
  induction n with
  | zero =>
    intro x2 x4 M ls H locs hl hW h
    cases (show (none : Option (Int32 × Mm)) = some (r, M') from h)
  | succ n hq350 =>
    have hq35 : ∀ (x2 : Int64) (x4 : Int32) (M : Mm) (ls : Array Slot) (H : Heap) (locs : List Loc), lv_has ls 5 [(0, .ref (G.2.2.2 31)), (2, .long x2), (4, .int x4)] → Wo G s M H locs → (rX7_feed_b35 n) x2 x4 M = some (r, M') → W p l e (rm 1) s m args below meth c H locs 0 0 (Qi below args s G r M') (F0 m 35 ls []) := hq350
    intro x2 x4 M ls H locs hl hW h
    have h : rX7_feed_b35_s (rX7_feed_b35 n) x2 x4 M = some (r, M') := h
    unfold rX7_feed_b35_s at h
    have hx := X.1.1
    have hb := X.1.2.1
    refine lv_iload hx hb dX7_feed_35 (lv_at hl 2 rfl) ?_
    refine lv_if_lt (tgt := 62) hx hb dX7_feed_37 (by decide) (fun c7 => ?_) (fun c7 => ?_)
    · have h := ob_pos c7 h
      refine lv_aload_n hx hb dX7_feed_62 rfl (lv_at hl 0 rfl) ?_
      refine gf7_78 (cN := 31) X hW rfl dX7_feed_63 ?_
      exact rt_i X hW h dX7_feed_66
    · have h := ob_neg c7 h
      refine lv_aload_n hx hb dX7_feed_40 rfl (lv_at hl 0 rfl) ?_
      refine lv_lload_n hx hb dX7_feed_41 rfl (lv_at hl 1 rfl) ?_
      refine lv_bipush (v := 8) hx hb dX7_feed_42 (by decide) ?_
      refine lv_iload hx hb dX7_feed_44 (lv_at hl 2 rfl) ?_
      refine lv_imul hx hb dX7_feed_46 ?_
      refine lv_lshr hx hb dX7_feed_47 rfl ?_
      refine lv_ldc2 (v := 255) hx hb X.1.2.2.2.1 (X.1.2.2.2.2 _ mw632) dX7_feed_48 ?_
      refine lv_land hx hb dX7_feed_51 ?_
      refine lv_l2i hx hb dX7_feed_52 rfl ?_
      obtain ⟨M9, e8, h⟩ := ob_bind h
      refine bg_callv X hW (cX7_lay_k e8) rfl rfl kw7_83 kd_X7_lay rfl rfl ⟨Nat.le_of_ble_eq_true rfl, Nat.le_of_ble_eq_true rfl⟩ ⟨Nat.le_refl _, Nat.le_refl _⟩ hl.1 (Nat.le_of_ble_eq_true rfl) dX7_feed_53 (fun H locs hW => ?_)
      obtain ⟨y10, ey10⟩ : ∃ y : Int32, y = (x4 + (-1)) := ⟨_, rfl⟩
      have h := ob_lt ey10 h
      refine lv_iinc (v := y10) (lv' := [(4, .int y10), (0, .ref (G.2.2.2 31)), (2, .long x2)]) hx hb dX7_feed_56 hl (k := 2) rfl (by rw [ey10]; rfl) (by decide) rfl (fun ls hl => ?_)
      refine lv_goto (tgt := 35) hx hb dX7_feed_59 (by decide) ?_
      exact hq35 x2 y10 M9 _ _ _ (lv_sub hl [1, 2, 0] rfl) hW h
def rX7_feed (a1 : Int32) (a2 : Int64) (M : Mm) : Option (Int32 × Mm) :=
    (bd2 (rX7_in (a1).toInt64 (1 : Int64) (8 : Int64) M) fun r3 M2 => if r3 = 0 then (some ((-2 : Int32), M2)) else (if ((M2.1 31 2) + a1) ≤ (1200 : Int32) then (lt_ (a1 - (1 : Int32)) fun y6 => rX7_feed_b35 FU a2 y6 M2) else (some ((-4 : Int32), M2))))
set_option maxRecDepth 100000 in
set_option maxHeartbeats 4000000 in
theorem cX7_feed_k {l : Launch} {G : Gg} {a1 : Int32} {a2 : Int64} {M M' : Mm} {r : Int32} (h : rX7_feed a1 a2 M = some (r, M')) : CTi l yX7_feed cX7_feed 5 (some .int) 1 G [.ref (G.2.2.2 31), .int a1, .long a2] M r M' := by
  unfold rX7_feed at h
  refine ct_i (by decide) (Nat.le_of_ble_eq_true rfl) (fun p e s m below meth c ls X hl hW => ?_)
  have hx := X.1.1
  have hb := X.1.2.1
  refine lv_iload_n hx hb dX7_feed_0 rfl (lv_at hl 1 rfl) ?_
  refine lv_i2l hx hb dX7_feed_1 rfl ?_
  refine lv_lconst (v := 1) hx hb dX7_feed_2 (by decide) ?_
  refine lv_ldc2 (v := 8) hx hb X.1.2.2.2.1 (X.1.2.2.2.2 _ mw628) dX7_feed_3 ?_
  obtain ⟨r3, M2, e1, h⟩ := ob_bd2 h
  refine bg_calls X hW (cX7_in_k e1) kw7_74 kd_X7_in rfl rfl ⟨Nat.le_of_ble_eq_true rfl, Nat.le_of_ble_eq_true rfl⟩ ⟨Nat.le_refl _, Nat.le_refl _⟩ hl.1 (Nat.le_of_ble_eq_true rfl) dX7_feed_6 (fun H locs hW => ?_)
  refine lv_if_ne (tgt := 15) hx hb dX7_feed_9 (by decide) (fun c4 => ?_) (fun c4 => ?_)
  · have h := ob_neg c4 h
    refine lv_aload_n hx hb dX7_feed_15 rfl (lv_at hl 0 rfl) ?_
    refine gf7_78 (cN := 31) X hW rfl dX7_feed_16 ?_
    refine lv_iload_n hx hb dX7_feed_19 rfl (lv_at hl 1 rfl) ?_
    refine lv_iadd hx hb dX7_feed_20 ?_
    refine lv_sipush (v := 1200) hx hb dX7_feed_21 (by decide) ?_
    refine lv_icmp_le (tgt := 30) hx hb dX7_feed_24 (by decide) (fun c5 => ?_) (fun c5 => ?_)
    · have h := ob_pos c5 h
      refine lv_iload_n hx hb dX7_feed_30 rfl (lv_at hl 1 rfl) ?_
      refine lv_iconst (v := 1) hx hb dX7_feed_31 (by decide) ?_
      refine lv_isub hx hb dX7_feed_32 ?_
      refine lv_topi (fun y6 ey6 => ?_)
      have h := ob_lt ey6 h
      refine lv_istore (lv' := [(4, .int y6), (0, .ref (G.2.2.2 31)), (1, .int a1), (2, .long a2)]) hx hb dX7_feed_33 hl (by decide) rfl (fun ls hl => ?_)
      exact sX7_feed_b35 X FU a2 y6 M2 _ _ _ (lv_sub hl [1, 3, 0] rfl) hW h
    · have h := ob_neg c5 h
      refine lv_bipush (v := (-4)) hx hb dX7_feed_27 (by decide) ?_
      exact rt_i X hW h dX7_feed_29
  · have h := ob_pos c4 h
    refine lv_bipush (v := (-2)) hx hb dX7_feed_12 (by decide) ?_
    exact rt_i X hW h dX7_feed_14
def rX7_cut (a1 : Int32) (M : Mm) : Option (Int32 × Mm) :=
    (bd2 (rX7_in (a1).toInt64 (0 : Int64) ((M.1 31 2)).toInt64 M) fun r3 M2 => if r3 = 0 then (some ((-2 : Int32), M2)) else (lt_ ((M2.1 31 2) - a1) fun y5 => lt_ (st M2 31 2 a1) fun M6 => some (y5, M6)))
set_option maxRecDepth 100000 in
set_option maxHeartbeats 4000000 in
theorem cX7_cut_k {l : Launch} {G : Gg} {a1 : Int32} {M M' : Mm} {r : Int32} (h : rX7_cut a1 M = some (r, M')) : CTi l yX7_cut cX7_cut 3 (some .int) 1 G [.ref (G.2.2.2 31), .int a1] M r M' := by
  unfold rX7_cut at h
  refine ct_i (by decide) (Nat.le_of_ble_eq_true rfl) (fun p e s m below meth c ls X hl hW => ?_)
  have hx := X.1.1
  have hb := X.1.2.1
  refine lv_iload_n hx hb dX7_cut_0 rfl (lv_at hl 1 rfl) ?_
  refine lv_i2l hx hb dX7_cut_1 rfl ?_
  refine lv_lconst (v := 0) hx hb dX7_cut_2 (by decide) ?_
  refine lv_aload_n hx hb dX7_cut_3 rfl (lv_at hl 0 rfl) ?_
  refine gf7_78 (cN := 31) X hW rfl dX7_cut_4 ?_
  refine lv_i2l hx hb dX7_cut_7 rfl ?_
  obtain ⟨r3, M2, e1, h⟩ := ob_bd2 h
  refine bg_calls X hW (cX7_in_k e1) kw7_74 kd_X7_in rfl rfl ⟨Nat.le_of_ble_eq_true rfl, Nat.le_of_ble_eq_true rfl⟩ ⟨Nat.le_refl _, Nat.le_refl _⟩ hl.1 (Nat.le_of_ble_eq_true rfl) dX7_cut_8 (fun H locs hW => ?_)
  refine lv_if_ne (tgt := 17) hx hb dX7_cut_11 (by decide) (fun c4 => ?_) (fun c4 => ?_)
  · have h := ob_neg c4 h
    refine lv_aload_n hx hb dX7_cut_17 rfl (lv_at hl 0 rfl) ?_
    refine gf7_78 (cN := 31) X hW rfl dX7_cut_18 ?_
    refine lv_iload_n hx hb dX7_cut_21 rfl (lv_at hl 1 rfl) ?_
    refine lv_isub hx hb dX7_cut_22 ?_
    refine lv_topi (fun y5 ey5 => ?_)
    have h := ob_lt ey5 h
    refine lv_istore_n (lv' := [(2, .int y5), (0, .ref (G.2.2.2 31)), (1, .int a1)]) hx hb dX7_cut_23 rfl hl (by decide) rfl (fun ls hl => ?_)
    refine lv_aload_n hx hb dX7_cut_24 rfl (lv_at hl 1 rfl) ?_
    refine lv_iload_n hx hb dX7_cut_25 rfl (lv_at hl 2 rfl) ?_
    refine pf7_78 (cN := 31) X hW rfl dX7_cut_26 (fun M6 eM6 H locs hW => ?_)
    have h := ob_lt eM6 h
    refine lv_iload_n hx hb dX7_cut_29 rfl (lv_at hl 0 rfl) ?_
    exact rt_i X hW h dX7_cut_30
  · have h := ob_pos c4 h
    refine lv_bipush (v := (-2)) hx hb dX7_cut_14 (by decide) ?_
    exact rt_i X hW h dX7_cut_16
def rX7_alter (a1 : Int32) (a2 : Int32) (M : Mm) : Option (Int32 × Mm) :=
    (bd2 (rX7_in (a1).toInt64 (0 : Int64) (((M.1 31 2) - (1 : Int32))).toInt64 M) fun r3 M2 => if r3 = 0 then (some ((-2 : Int32), M2)) else (bd2 (rX7_in (a2).toInt64 (0 : Int64) (255 : Int64) M2) fun r7 M6 => if r7 = 0 then (some ((-2 : Int32), M6)) else (if a1 < 0 ∨ 1200 ≤ (a1).toNatClampNeg then none else lt_ (M6.1 32 (a1).toNatClampNeg) fun y10 => if a1 < 0 ∨ 1200 ≤ (a1).toNatClampNeg then none else lt_ (st M6 32 (a1).toNatClampNeg a2) fun M12 => some (y10, M12))))
set_option maxRecDepth 100000 in
set_option maxHeartbeats 4000000 in
theorem cX7_alter_k {l : Launch} {G : Gg} {a1 : Int32} {a2 : Int32} {M M' : Mm} {r : Int32} (h : rX7_alter a1 a2 M = some (r, M')) : CTi l yX7_alter cX7_alter 4 (some .int) 1 G [.ref (G.2.2.2 31), .int a1, .int a2] M r M' := by
  unfold rX7_alter at h
  refine ct_i (by decide) (Nat.le_of_ble_eq_true rfl) (fun p e s m below meth c ls X hl hW => ?_)
  have hx := X.1.1
  have hb := X.1.2.1
  refine lv_iload_n hx hb dX7_alter_0 rfl (lv_at hl 1 rfl) ?_
  refine lv_i2l hx hb dX7_alter_1 rfl ?_
  refine lv_lconst (v := 0) hx hb dX7_alter_2 (by decide) ?_
  refine lv_aload_n hx hb dX7_alter_3 rfl (lv_at hl 0 rfl) ?_
  refine gf7_78 (cN := 31) X hW rfl dX7_alter_4 ?_
  refine lv_iconst (v := 1) hx hb dX7_alter_7 (by decide) ?_
  refine lv_isub hx hb dX7_alter_8 ?_
  refine lv_i2l hx hb dX7_alter_9 rfl ?_
  obtain ⟨r3, M2, e1, h⟩ := ob_bd2 h
  refine bg_calls X hW (cX7_in_k e1) kw7_74 kd_X7_in rfl rfl ⟨Nat.le_of_ble_eq_true rfl, Nat.le_of_ble_eq_true rfl⟩ ⟨Nat.le_refl _, Nat.le_refl _⟩ hl.1 (Nat.le_of_ble_eq_true rfl) dX7_alter_10 (fun H locs hW => ?_)
  refine lv_if_eq (tgt := 28) hx hb dX7_alter_13 (by decide) (fun c4 => ?_) (fun c4 => ?_)
  · have h := ob_pos c4 h
    refine lv_bipush (v := (-2)) hx hb dX7_alter_28 (by decide) ?_
    exact rt_i X hW h dX7_alter_30
  · have h := ob_neg c4 h
    refine lv_iload_n hx hb dX7_alter_16 rfl (lv_at hl 2 rfl) ?_
    refine lv_i2l hx hb dX7_alter_17 rfl ?_
    refine lv_lconst (v := 0) hx hb dX7_alter_18 (by decide) ?_
    refine lv_ldc2 (v := 255) hx hb X.1.2.2.2.1 (X.1.2.2.2.2 _ mw632) dX7_alter_19 ?_
    obtain ⟨r7, M6, e5, h⟩ := ob_bd2 h
    refine bg_calls X hW (cX7_in_k e5) kw7_74 kd_X7_in rfl rfl ⟨Nat.le_of_ble_eq_true rfl, Nat.le_of_ble_eq_true rfl⟩ ⟨Nat.le_refl _, Nat.le_refl _⟩ hl.1 (Nat.le_of_ble_eq_true rfl) dX7_alter_22 (fun H locs hW => ?_)
    refine lv_if_ne (tgt := 31) hx hb dX7_alter_25 (by decide) (fun c8 => ?_) (fun c8 => ?_)
    · have h := ob_neg c8 h
      refine lv_aload_n hx hb dX7_alter_31 rfl (lv_at hl 0 rfl) ?_
      refine gf7_7 (cN := 31) X hW rfl dX7_alter_32 ?_
      refine lv_iload_n hx hb dX7_alter_35 rfl (lv_at hl 1 rfl) ?_
      obtain ⟨g9, h⟩ := ob_gd h
      refine bg_ald (cN := 32) X hW (n := 1200) rfl g9 dX7_alter_36 ?_
      refine lv_topi (fun y10 ey10 => ?_)
      have h := ob_lt ey10 h
      refine lv_istore_n (lv' := [(3, .int y10), (0, .ref (G.2.2.2 31)), (1, .int a1), (2, .int a2)]) hx hb dX7_alter_37 rfl hl (by decide) rfl (fun ls hl => ?_)
      refine lv_aload_n hx hb dX7_alter_38 rfl (lv_at hl 1 rfl) ?_
      refine gf7_7 (cN := 31) X hW rfl dX7_alter_39 ?_
      refine lv_iload_n hx hb dX7_alter_42 rfl (lv_at hl 2 rfl) ?_
      refine lv_iload_n hx hb dX7_alter_43 rfl (lv_at hl 3 rfl) ?_
      obtain ⟨g11, h⟩ := ob_gd h
      refine bg_ast (cN := 32) X hW (n := 1200) rfl g11 dX7_alter_44 (fun M12 eM12 H locs hW => ?_)
      have h := ob_lt eM12 h
      refine lv_iload_n hx hb dX7_alter_45 rfl (lv_at hl 0 rfl) ?_
      exact rt_i X hW h dX7_alter_46
    · have h := ob_pos c8 h
      refine lv_bipush (v := (-2)) hx hb dX7_alter_28 (by decide) ?_
      exact rt_i X hW h dX7_alter_30
def rX7_at (a1 : Int32) (M : Mm) : Option (Int32 × Mm) :=
    (bd2 (rX7_in (a1).toInt64 (0 : Int64) (((M.1 31 2) - (1 : Int32))).toInt64 M) fun r3 M2 => if r3 = 0 then (some ((-1 : Int32), M2)) else (if a1 < 0 ∨ 1200 ≤ (a1).toNatClampNeg then none else some ((M2.1 32 (a1).toNatClampNeg), M2)))
set_option maxRecDepth 100000 in
set_option maxHeartbeats 4000000 in
theorem cX7_at_k {l : Launch} {G : Gg} {a1 : Int32} {M M' : Mm} {r : Int32} (h : rX7_at a1 M = some (r, M')) : CTi l yX7_at cX7_at 2 (some .int) 1 G [.ref (G.2.2.2 31), .int a1] M r M' := by
  unfold rX7_at at h
  refine ct_i (by decide) (Nat.le_of_ble_eq_true rfl) (fun p e s m below meth c ls X hl hW => ?_)
  have hx := X.1.1
  have hb := X.1.2.1
  refine lv_iload_n hx hb dX7_at_0 rfl (lv_at hl 1 rfl) ?_
  refine lv_i2l hx hb dX7_at_1 rfl ?_
  refine lv_lconst (v := 0) hx hb dX7_at_2 (by decide) ?_
  refine lv_aload_n hx hb dX7_at_3 rfl (lv_at hl 0 rfl) ?_
  refine gf7_78 (cN := 31) X hW rfl dX7_at_4 ?_
  refine lv_iconst (v := 1) hx hb dX7_at_7 (by decide) ?_
  refine lv_isub hx hb dX7_at_8 ?_
  refine lv_i2l hx hb dX7_at_9 rfl ?_
  obtain ⟨r3, M2, e1, h⟩ := ob_bd2 h
  refine bg_calls X hW (cX7_in_k e1) kw7_74 kd_X7_in rfl rfl ⟨Nat.le_of_ble_eq_true rfl, Nat.le_of_ble_eq_true rfl⟩ ⟨Nat.le_refl _, Nat.le_refl _⟩ hl.1 (Nat.le_of_ble_eq_true rfl) dX7_at_10 (fun H locs hW => ?_)
  refine lv_if_eq (tgt := 25) hx hb dX7_at_13 (by decide) (fun c4 => ?_) (fun c4 => ?_)
  · have h := ob_pos c4 h
    refine lv_iconst (v := (-1)) hx hb dX7_at_25 (by decide) ?_
    exact rt_i X hW h dX7_at_26
  · have h := ob_neg c4 h
    refine lv_aload_n hx hb dX7_at_16 rfl (lv_at hl 0 rfl) ?_
    refine gf7_7 (cN := 31) X hW rfl dX7_at_17 ?_
    refine lv_iload_n hx hb dX7_at_20 rfl (lv_at hl 1 rfl) ?_
    obtain ⟨g5, h⟩ := ob_gd h
    refine bg_ald (cN := 32) X hW (n := 1200) rfl g5 dX7_at_21 ?_
    refine lv_goto (tgt := 26) hx hb dX7_at_22 (by decide) ?_
    exact rt_i X hW h dX7_at_26
def rX7_sumOf_b5_s (q5 : Int32 → Int32 → Int32 → Mm → Option (Int32 × Mm)) (x2 : Int32) (x3 : Int32) (x4 : Int32) (M : Mm) : Option (Int32 × Mm) :=
    (if x2 ≤ x4 then (some ((x3 &&& (255 : Int32)), M)) else (if x4 < 0 ∨ 1200 ≤ (x4).toNatClampNeg then none else lt_ (x3 + (M.1 32 (x4).toNatClampNeg)) fun y3 => lt_ (x4 + 1) fun y4 => q5 x2 y3 y4 M))
def rX7_sumOf_b5 : Nat → Int32 → Int32 → Int32 → Mm → Option (Int32 × Mm)
  | 0 => fun _ _ _ _ => none
  | n + 1 => rX7_sumOf_b5_s (rX7_sumOf_b5 n)
set_option maxRecDepth 100000 in
set_option maxHeartbeats 4000000 in
theorem sX7_sumOf_b5 {p : Program} {l : Launch} {e : Env} {s : State} {m : MethodId} {args : Array Value} {below : List Frame} {meth : Method} {c : Code} {G : Gg} {r : Int32} {M' : Mm} (X : Cx p m c meth cX7_sumOf 5 s args RX7 (some .int) G) : ∀ (n : Nat), ∀ (x2 : Int32) (x3 : Int32) (x4 : Int32) (M : Mm) (ls : Array Slot) (H : Heap) (locs : List Loc), lv_has ls 5 [(0, .ref (G.2.2.2 31)), (2, .int x2), (3, .int x3), (4, .int x4)] → Wo G s M H locs → rX7_sumOf_b5 n x2 x3 x4 M = some (r, M') → W p l e (rm 0) s m args below meth c H locs 0 0 (Qi below args s G r M') (F0 m 5 ls []) := by
  intro n
  induction n with
  | zero =>
    intro x2 x3 x4 M ls H locs hl hW h
    cases (show (none : Option (Int32 × Mm)) = some (r, M') from h)
  | succ n hq50 =>
    have hq5 : ∀ (x2 : Int32) (x3 : Int32) (x4 : Int32) (M : Mm) (ls : Array Slot) (H : Heap) (locs : List Loc), lv_has ls 5 [(0, .ref (G.2.2.2 31)), (2, .int x2), (3, .int x3), (4, .int x4)] → Wo G s M H locs → (rX7_sumOf_b5 n) x2 x3 x4 M = some (r, M') → W p l e (rm 0) s m args below meth c H locs 0 0 (Qi below args s G r M') (F0 m 5 ls []) := hq50
    intro x2 x3 x4 M ls H locs hl hW h
    have h : rX7_sumOf_b5_s (rX7_sumOf_b5 n) x2 x3 x4 M = some (r, M') := h
    unfold rX7_sumOf_b5_s at h
    have hx := X.1.1
    have hb := X.1.2.1
    refine lv_iload hx hb dX7_sumOf_5 (lv_at hl 3 rfl) ?_
    refine lv_iload_n hx hb dX7_sumOf_7 rfl (lv_at hl 1 rfl) ?_
    refine lv_icmp_ge (tgt := 27) hx hb dX7_sumOf_8 (by decide) (fun c1 => ?_) (fun c1 => ?_)
    · have h := ob_pos c1 h
      refine lv_iload_n hx hb dX7_sumOf_27 rfl (lv_at hl 2 rfl) ?_
      refine lv_sipush (v := 255) hx hb dX7_sumOf_28 (by decide) ?_
      refine lv_iand hx hb dX7_sumOf_31 ?_
      exact rt_i X hW h dX7_sumOf_32
    · have h := ob_neg c1 h
      refine lv_iload_n hx hb dX7_sumOf_11 rfl (lv_at hl 2 rfl) ?_
      refine lv_aload_n hx hb dX7_sumOf_12 rfl (lv_at hl 0 rfl) ?_
      refine gf7_7 (cN := 31) X hW rfl dX7_sumOf_13 ?_
      refine lv_iload hx hb dX7_sumOf_16 (lv_at hl 3 rfl) ?_
      obtain ⟨g2, h⟩ := ob_gd h
      refine bg_ald (cN := 32) X hW (n := 1200) rfl g2 dX7_sumOf_18 ?_
      refine lv_iadd hx hb dX7_sumOf_19 ?_
      refine lv_topi (fun y3 ey3 => ?_)
      have h := ob_lt ey3 h
      refine lv_istore_n (lv' := [(3, .int y3), (0, .ref (G.2.2.2 31)), (2, .int x2), (4, .int x4)]) hx hb dX7_sumOf_20 rfl hl (by decide) rfl (fun ls hl => ?_)
      obtain ⟨y4, ey4⟩ : ∃ y : Int32, y = (x4 + 1) := ⟨_, rfl⟩
      have h := ob_lt ey4 h
      refine lv_iinc (v := y4) (lv' := [(4, .int y4), (3, .int y3), (0, .ref (G.2.2.2 31)), (2, .int x2)]) hx hb dX7_sumOf_21 hl (k := 3) rfl (by rw [ey4]; rfl) (by decide) rfl (fun ls hl => ?_)
      refine lv_goto (tgt := 5) hx hb dX7_sumOf_24 (by decide) ?_
      exact hq5 x2 y3 y4 M _ _ _ (lv_sub hl [2, 3, 1, 0] rfl) hW h
def rX7_sumOf (a1 : Int32) (a2 : Int32) (M : Mm) : Option (Int32 × Mm) :=
    (rX7_sumOf_b5 FU a2 (0 : Int32) a1 M)
set_option maxRecDepth 100000 in
set_option maxHeartbeats 4000000 in
theorem cX7_sumOf_k {l : Launch} {G : Gg} {a1 : Int32} {a2 : Int32} {M M' : Mm} {r : Int32} (h : rX7_sumOf a1 a2 M = some (r, M')) : CTi l yX7_sumOf cX7_sumOf 5 (some .int) 0 G [.ref (G.2.2.2 31), .int a1, .int a2] M r M' := by
  unfold rX7_sumOf at h
  refine ct_i (by decide) (Nat.le_of_ble_eq_true rfl) (fun p e s m below meth c ls X hl hW => ?_)
  have hx := X.1.1
  have hb := X.1.2.1
  refine lv_iconst (v := 0) hx hb dX7_sumOf_0 (by decide) ?_
  refine lv_istore_n (lv' := [(3, .int (0 : Int32)), (0, .ref (G.2.2.2 31)), (1, .int a1), (2, .int a2)]) hx hb dX7_sumOf_1 rfl hl (by decide) rfl (fun ls hl => ?_)
  refine lv_iload_n hx hb dX7_sumOf_2 rfl (lv_at hl 2 rfl) ?_
  refine lv_istore (lv' := [(4, .int a1), (3, .int (0 : Int32)), (0, .ref (G.2.2.2 31)), (1, .int a1), (2, .int a2)]) hx hb dX7_sumOf_3 hl (by decide) rfl (fun ls hl => ?_)
  exact sX7_sumOf_b5 X FU a2 (0 : Int32) a1 M _ _ _ (lv_sub hl [2, 4, 1, 0] rfl) hW h
def rX7_mend (M : Mm) : Option (Int32 × Mm) :=
    (if (M.1 31 2) = 0 then (some ((-3 : Int32), M)) else (bd2 (rX7_sumOf (0 : Int32) ((M.1 31 2) - (1 : Int32)) M) fun r4 M3 => if ((M.1 31 2) - (1 : Int32)) < 0 ∨ 1200 ≤ (((M.1 31 2) - (1 : Int32))).toNatClampNeg then none else lt_ (st M3 32 (((M.1 31 2) - (1 : Int32))).toNatClampNeg r4) fun M6 => if ((M6.1 31 2) - (1 : Int32)) < 0 ∨ 1200 ≤ (((M6.1 31 2) - (1 : Int32))).toNatClampNeg then none else some ((M6.1 32 (((M6.1 31 2) - (1 : Int32))).toNatClampNeg), M6)))
set_option maxRecDepth 100000 in
set_option maxHeartbeats 4000000 in
theorem cX7_mend_k {l : Launch} {G : Gg} {M M' : Mm} {r : Int32} (h : rX7_mend M = some (r, M')) : CTi l yX7_mend cX7_mend 1 (some .int) 1 G [.ref (G.2.2.2 31)] M r M' := by
  unfold rX7_mend at h
  refine ct_i (by decide) (Nat.le_of_ble_eq_true rfl) (fun p e s m below meth c ls X hl hW => ?_)
  have hx := X.1.1
  have hb := X.1.2.1
  refine lv_aload_n hx hb dX7_mend_0 rfl (lv_at hl 0 rfl) ?_
  refine gf7_78 (cN := 31) X hW rfl dX7_mend_1 ?_
  refine lv_if_ne (tgt := 10) hx hb dX7_mend_4 (by decide) (fun c1 => ?_) (fun c1 => ?_)
  · have h := ob_neg c1 h
    refine lv_aload_n hx hb dX7_mend_10 rfl (lv_at hl 0 rfl) ?_
    refine gf7_7 (cN := 31) X hW rfl dX7_mend_11 ?_
    refine lv_aload_n hx hb dX7_mend_14 rfl (lv_at hl 0 rfl) ?_
    refine gf7_78 (cN := 31) X hW rfl dX7_mend_15 ?_
    refine lv_iconst (v := 1) hx hb dX7_mend_18 (by decide) ?_
    refine lv_isub hx hb dX7_mend_19 ?_
    refine lv_aload_n hx hb dX7_mend_20 rfl (lv_at hl 0 rfl) ?_
    refine lv_iconst (v := 0) hx hb dX7_mend_21 (by decide) ?_
    refine lv_aload_n hx hb dX7_mend_22 rfl (lv_at hl 0 rfl) ?_
    refine gf7_78 (cN := 31) X hW rfl dX7_mend_23 ?_
    refine lv_iconst (v := 1) hx hb dX7_mend_26 (by decide) ?_
    refine lv_isub hx hb dX7_mend_27 ?_
    obtain ⟨r4, M3, e2, h⟩ := ob_bd2 h
    refine bg_calli X hW (cX7_sumOf_k e2) rfl rfl kw7_87 kd_X7_sumOf rfl rfl ⟨Nat.le_of_ble_eq_true rfl, Nat.le_of_ble_eq_true rfl⟩ ⟨Nat.le_refl _, Nat.le_refl _⟩ hl.1 (Nat.le_of_ble_eq_true rfl) dX7_mend_28 (fun H locs hW => ?_)
    obtain ⟨g5, h⟩ := ob_gd h
    refine bg_ast (cN := 32) X hW (n := 1200) rfl g5 dX7_mend_31 (fun M6 eM6 H locs hW => ?_)
    have h := ob_lt eM6 h
    refine lv_aload_n hx hb dX7_mend_32 rfl (lv_at hl 0 rfl) ?_
    refine gf7_7 (cN := 31) X hW rfl dX7_mend_33 ?_
    refine lv_aload_n hx hb dX7_mend_36 rfl (lv_at hl 0 rfl) ?_
    refine gf7_78 (cN := 31) X hW rfl dX7_mend_37 ?_
    refine lv_iconst (v := 1) hx hb dX7_mend_40 (by decide) ?_
    refine lv_isub hx hb dX7_mend_41 ?_
    obtain ⟨g7, h⟩ := ob_gd h
    refine bg_ald (cN := 32) X hW (n := 1200) rfl g7 dX7_mend_42 ?_
    exact rt_i X hW h dX7_mend_43
  · have h := ob_pos c1 h
    refine lv_bipush (v := (-3)) hx hb dX7_mend_7 (by decide) ?_
    exact rt_i X hW h dX7_mend_9
def rX7_draws (a1 : Int32) (M : Mm) : Option (Int32 × Mm) :=
    (lt_ (stl M 31 0 (((M.2 31 0) * (6364136223846793005 : Int64)) + (1442695040888963407 : Int64))) fun M1 => if (a1).toInt64 = 0 then none else some ((((((M1.2 31 0)).toUInt64 >>> (((31 : Int32)).toInt64.toUInt64 &&& Int64.toUInt64 63)).toInt64 - (((M1.2 31 0)).toUInt64 >>> (((31 : Int32)).toInt64.toUInt64 &&& Int64.toUInt64 63)).toInt64 / (a1).toInt64 * (a1).toInt64)).toInt32, M1))
set_option maxRecDepth 100000 in
set_option maxHeartbeats 4000000 in
theorem cX7_draws_k {l : Launch} {G : Gg} {a1 : Int32} {M M' : Mm} {r : Int32} (h : rX7_draws a1 M = some (r, M')) : CTi l yX7_draws cX7_draws 2 (some .int) 0 G [.ref (G.2.2.2 31), .int a1] M r M' := by
  unfold rX7_draws at h
  refine ct_i (by decide) (Nat.le_of_ble_eq_true rfl) (fun p e s m below meth c ls X hl hW => ?_)
  have hx := X.1.1
  have hb := X.1.2.1
  refine lv_aload_n hx hb dX7_draws_0 rfl (lv_at hl 0 rfl) ?_
  refine lv_aload_n hx hb dX7_draws_1 rfl (lv_at hl 0 rfl) ?_
  refine gf7_68 (cN := 31) X hW rfl dX7_draws_2 ?_
  refine lv_ldc2 (v := 6364136223846793005) hx hb X.1.2.2.2.1 (X.1.2.2.2.2 _ mw679) dX7_draws_5 ?_
  refine lv_lmul hx hb dX7_draws_8 ?_
  refine lv_ldc2 (v := 1442695040888963407) hx hb X.1.2.2.2.1 (X.1.2.2.2.2 _ mw680) dX7_draws_9 ?_
  refine lv_ladd hx hb dX7_draws_12 ?_
  refine pf7_68 (cN := 31) X hW rfl dX7_draws_13 (fun M1 eM1 H locs hW => ?_)
  have h := ob_lt eM1 h
  refine lv_aload_n hx hb dX7_draws_16 rfl (lv_at hl 0 rfl) ?_
  refine gf7_68 (cN := 31) X hW rfl dX7_draws_17 ?_
  refine lv_bipush (v := 31) hx hb dX7_draws_20 (by decide) ?_
  refine lv_lushr hx hb dX7_draws_22 rfl ?_
  refine lv_iload_n hx hb dX7_draws_23 rfl (lv_at hl 1 rfl) ?_
  refine lv_i2l hx hb dX7_draws_24 rfl ?_
  obtain ⟨g2, h⟩ := ob_gd h
  refine lv_lrem hx hb dX7_draws_25 g2 ?_
  refine lv_l2i hx hb dX7_draws_26 rfl ?_
  exact rt_i X hW h dX7_draws_27
def rX7_lays (a1 : Int32) (a2 : Int32) (M : Mm) : Option Mm :=
    (Option.bind (rX7_lay a1 M) fun M2 => Option.bind (rX7_lay a2 M2) fun M4 => some M4)
set_option maxRecDepth 100000 in
set_option maxHeartbeats 4000000 in
theorem cX7_lays_k {l : Launch} {G : Gg} {a1 : Int32} {a2 : Int32} {M M' : Mm} (h : rX7_lays a1 a2 M = some M') : CTv l yX7_lays cX7_lays 3 1 G [.ref (G.2.2.2 31), .int a1, .int a2] M M' := by
  unfold rX7_lays at h
  refine ct_v (by decide) (Nat.le_of_ble_eq_true rfl) (fun p e s m below meth c ls X hl hW => ?_)
  have hx := X.1.1
  have hb := X.1.2.1
  refine lv_aload_n hx hb dX7_lays_0 rfl (lv_at hl 0 rfl) ?_
  refine lv_iload_n hx hb dX7_lays_1 rfl (lv_at hl 1 rfl) ?_
  obtain ⟨M2, e1, h⟩ := ob_bind h
  refine bg_callv X hW (cX7_lay_k e1) rfl rfl kw7_83 kd_X7_lay rfl rfl ⟨Nat.le_of_ble_eq_true rfl, Nat.le_of_ble_eq_true rfl⟩ ⟨Nat.le_refl _, Nat.le_refl _⟩ hl.1 (Nat.le_of_ble_eq_true rfl) dX7_lays_2 (fun H locs hW => ?_)
  refine lv_aload_n hx hb dX7_lays_5 rfl (lv_at hl 0 rfl) ?_
  refine lv_iload_n hx hb dX7_lays_6 rfl (lv_at hl 2 rfl) ?_
  obtain ⟨M4, e3, h⟩ := ob_bind h
  refine bg_callv X hW (cX7_lay_k e3) rfl rfl kw7_83 kd_X7_lay rfl rfl ⟨Nat.le_of_ble_eq_true rfl, Nat.le_of_ble_eq_true rfl⟩ ⟨Nat.le_refl _, Nat.le_refl _⟩ hl.1 (Nat.le_of_ble_eq_true rfl) dX7_lays_7 (fun H locs hW => ?_)
  exact rt_v X hW h dX7_lays_10
def rX7_close (a1 : Int32) (M : Mm) : Option Mm :=
    (Option.bind (rX7_lay (0 : Int32) M) fun M2 => bd2 (rX7_sumOf a1 (M2.1 31 2) M2) fun r5 M4 => Option.bind (rX7_lay r5 M4) fun M7 => some M7)
set_option maxRecDepth 100000 in
set_option maxHeartbeats 4000000 in
theorem cX7_close_k {l : Launch} {G : Gg} {a1 : Int32} {M M' : Mm} (h : rX7_close a1 M = some M') : CTv l yX7_close cX7_close 2 1 G [.ref (G.2.2.2 31), .int a1] M M' := by
  unfold rX7_close at h
  refine ct_v (by decide) (Nat.le_of_ble_eq_true rfl) (fun p e s m below meth c ls X hl hW => ?_)
  have hx := X.1.1
  have hb := X.1.2.1
  refine lv_aload_n hx hb dX7_close_0 rfl (lv_at hl 0 rfl) ?_
  refine lv_iconst (v := 0) hx hb dX7_close_1 (by decide) ?_
  obtain ⟨M2, e1, h⟩ := ob_bind h
  refine bg_callv X hW (cX7_lay_k e1) rfl rfl kw7_83 kd_X7_lay rfl rfl ⟨Nat.le_of_ble_eq_true rfl, Nat.le_of_ble_eq_true rfl⟩ ⟨Nat.le_refl _, Nat.le_refl _⟩ hl.1 (Nat.le_of_ble_eq_true rfl) dX7_close_2 (fun H locs hW => ?_)
  refine lv_aload_n hx hb dX7_close_5 rfl (lv_at hl 0 rfl) ?_
  refine lv_aload_n hx hb dX7_close_6 rfl (lv_at hl 0 rfl) ?_
  refine lv_iload_n hx hb dX7_close_7 rfl (lv_at hl 1 rfl) ?_
  refine lv_aload_n hx hb dX7_close_8 rfl (lv_at hl 0 rfl) ?_
  refine gf7_78 (cN := 31) X hW rfl dX7_close_9 ?_
  obtain ⟨r5, M4, e3, h⟩ := ob_bd2 h
  refine bg_calli X hW (cX7_sumOf_k e3) rfl rfl kw7_87 kd_X7_sumOf rfl rfl ⟨Nat.le_of_ble_eq_true rfl, Nat.le_of_ble_eq_true rfl⟩ ⟨Nat.le_refl _, Nat.le_refl _⟩ hl.1 (Nat.le_of_ble_eq_true rfl) dX7_close_12 (fun H locs hW => ?_)
  obtain ⟨M7, e6, h⟩ := ob_bind h
  refine bg_callv X hW (cX7_lay_k e6) rfl rfl kw7_83 kd_X7_lay rfl rfl ⟨Nat.le_of_ble_eq_true rfl, Nat.le_of_ble_eq_true rfl⟩ ⟨Nat.le_refl _, Nat.le_refl _⟩ hl.1 (Nat.le_of_ble_eq_true rfl) dX7_close_15 (fun H locs hW => ?_)
  exact rt_v X hW h dX7_close_18
def rX7_some_b8_s (q8 : Int32 → Int32 → Mm → Option Mm) (x2 : Int32) (x3 : Int32) (M : Mm) : Option Mm :=
    (if x2 ≤ x3 then (some M) else (bd2 (rX7_draws (256 : Int32) M) fun r6 M5 => Option.bind (rX7_lay r6 M5) fun M8 => lt_ (x3 + 1) fun y9 => q8 x2 y9 M8))
def rX7_some_b8 : Nat → Int32 → Int32 → Mm → Option Mm
  | 0 => fun _ _ _ => none
  | n + 1 => rX7_some_b8_s (rX7_some_b8 n)
set_option maxRecDepth 100000 in
set_option maxHeartbeats 4000000 in
theorem sX7_some_b8 {p : Program} {l : Launch} {e : Env} {s : State} {m : MethodId} {args : Array Value} {below : List Frame} {meth : Method} {c : Code} {G : Gg} {M' : Mm} (X : Cx p m c meth cX7_some 4 s args RX7 none G) : ∀ (n : Nat), ∀ (x2 : Int32) (x3 : Int32) (M : Mm) (ls : Array Slot) (H : Heap) (locs : List Loc), lv_has ls 4 [(0, .ref (G.2.2.2 31)), (2, .int x2), (3, .int x3)] → Wo G s M H locs → rX7_some_b8 n x2 x3 M = some M' → W p l e (rm 2) s m args below meth c H locs 0 0 (Qv below args s G M') (F0 m 8 ls []) := by
  intro n
  induction n with
  | zero =>
    intro x2 x3 M ls H locs hl hW h
    cases (show (none : Option Mm) = some M' from h)
  | succ n hq80 =>
    have hq8 : ∀ (x2 : Int32) (x3 : Int32) (M : Mm) (ls : Array Slot) (H : Heap) (locs : List Loc), lv_has ls 4 [(0, .ref (G.2.2.2 31)), (2, .int x2), (3, .int x3)] → Wo G s M H locs → (rX7_some_b8 n) x2 x3 M = some M' → W p l e (rm 2) s m args below meth c H locs 0 0 (Qv below args s G M') (F0 m 8 ls []) := hq80
    intro x2 x3 M ls H locs hl hW h
    have h : rX7_some_b8_s (rX7_some_b8 n) x2 x3 M = some M' := h
    unfold rX7_some_b8_s at h
    have hx := X.1.1
    have hb := X.1.2.1
    refine lv_iload_n hx hb dX7_some_8 rfl (lv_at hl 2 rfl) ?_
    refine lv_iload_n hx hb dX7_some_9 rfl (lv_at hl 1 rfl) ?_
    refine lv_icmp_ge (tgt := 30) hx hb dX7_some_10 (by decide) (fun c3 => ?_) (fun c3 => ?_)
    · have h := ob_pos c3 h
      exact rt_v X hW h dX7_some_30
    · have h := ob_neg c3 h
      refine lv_aload_n hx hb dX7_some_13 rfl (lv_at hl 0 rfl) ?_
      refine lv_aload_n hx hb dX7_some_14 rfl (lv_at hl 0 rfl) ?_
      refine lv_sipush (v := 256) hx hb dX7_some_15 (by decide) ?_
      obtain ⟨r6, M5, e4, h⟩ := ob_bd2 h
      refine bg_calli X hW (cX7_draws_k e4) rfl rfl kw7_99 kd_X7_draws rfl rfl ⟨Nat.le_of_ble_eq_true rfl, Nat.le_of_ble_eq_true rfl⟩ ⟨Nat.le_refl _, Nat.le_refl _⟩ hl.1 (Nat.le_of_ble_eq_true rfl) dX7_some_18 (fun H locs hW => ?_)
      obtain ⟨M8, e7, h⟩ := ob_bind h
      refine bg_callv X hW (cX7_lay_k e7) rfl rfl kw7_83 kd_X7_lay rfl rfl ⟨Nat.le_of_ble_eq_true rfl, Nat.le_of_ble_eq_true rfl⟩ ⟨Nat.le_refl _, Nat.le_refl _⟩ hl.1 (Nat.le_of_ble_eq_true rfl) dX7_some_21 (fun H locs hW => ?_)
      obtain ⟨y9, ey9⟩ : ∃ y : Int32, y = (x3 + 1) := ⟨_, rfl⟩
      have h := ob_lt ey9 h
      refine lv_iinc (v := y9) (lv' := [(3, .int y9), (0, .ref (G.2.2.2 31)), (2, .int x2)]) hx hb dX7_some_24 hl (k := 2) rfl (by rw [ey9]; rfl) (by decide) rfl (fun ls hl => ?_)
      refine lv_goto (tgt := 8) hx hb dX7_some_27 (by decide) ?_
      exact hq8 x2 y9 M8 _ _ _ (lv_sub hl [1, 2, 0] rfl) hW h
def rX7_some (a1 : Int32) (a2 : Int32) (M : Mm) : Option Mm :=
    (Option.bind (rX7_lays a1 a2 M) fun M2 => rX7_some_b8 FU a2 (0 : Int32) M2)
set_option maxRecDepth 100000 in
set_option maxHeartbeats 4000000 in
theorem cX7_some_k {l : Launch} {G : Gg} {a1 : Int32} {a2 : Int32} {M M' : Mm} (h : rX7_some a1 a2 M = some M') : CTv l yX7_some cX7_some 4 2 G [.ref (G.2.2.2 31), .int a1, .int a2] M M' := by
  unfold rX7_some at h
  refine ct_v (by decide) (Nat.le_of_ble_eq_true rfl) (fun p e s m below meth c ls X hl hW => ?_)
  have hx := X.1.1
  have hb := X.1.2.1
  refine lv_aload_n hx hb dX7_some_0 rfl (lv_at hl 0 rfl) ?_
  refine lv_iload_n hx hb dX7_some_1 rfl (lv_at hl 1 rfl) ?_
  refine lv_iload_n hx hb dX7_some_2 rfl (lv_at hl 2 rfl) ?_
  obtain ⟨M2, e1, h⟩ := ob_bind h
  refine bg_callv X hW (cX7_lays_k e1) rfl rfl kw7_95 kd_X7_lays rfl rfl ⟨Nat.le_of_ble_eq_true rfl, Nat.le_of_ble_eq_true rfl⟩ ⟨Nat.le_refl _, Nat.le_refl _⟩ hl.1 (Nat.le_of_ble_eq_true rfl) dX7_some_3 (fun H locs hW => ?_)
  refine lv_iconst (v := 0) hx hb dX7_some_6 (by decide) ?_
  refine lv_istore_n (lv' := [(3, .int (0 : Int32)), (0, .ref (G.2.2.2 31)), (1, .int a1), (2, .int a2)]) hx hb dX7_some_7 rfl hl (by decide) rfl (fun ls hl => ?_)
  exact sX7_some_b8 X FU a2 (0 : Int32) M2 _ _ _ (lv_sub hl [1, 3, 0] rfl) hW h
def rX7_drawItem_b132 (x2 : Int32) (M : Mm) : Option Mm :=
    (if x2 = (4 : Int32) then (Option.bind (rX7_some (1 : Int32) (1 : Int32) M) fun M25 => some M25) else (bd2 (rX7_draws (5 : Int32) M) fun r12 M11 => Option.bind (rX7_lays (4 : Int32) (0 : Int32) M11) fun M14 => Option.bind (rX7_lay (r12 + (6 : Int32)) M14) fun M16 => lt_ (M16.1 31 2) fun y17 => Option.bind (rX7_lays (80 : Int32) (75 : Int32) M16) fun M19 => Option.bind (rX7_some (1 : Int32) r12 M19) fun M21 => Option.bind (rX7_close y17 M21) fun M23 => some M23))
set_option maxRecDepth 100000 in
set_option maxHeartbeats 4000000 in
theorem sX7_drawItem_b132 {p : Program} {l : Launch} {e : Env} {s : State} {m : MethodId} {args : Array Value} {below : List Frame} {meth : Method} {c : Code} {G : Gg} {M' : Mm} (X : Cx p m c meth cX7_drawItem 5 s args RX7 none G) : ∀ (x2 : Int32) (M : Mm) (ls : Array Slot) (H : Heap) (locs : List Loc), lv_has ls 5 [(0, .ref (G.2.2.2 31)), (2, .int x2)] → Wo G s M H locs → rX7_drawItem_b132 x2 M = some M' → W p l e (rm 3) s m args below meth c H locs 0 0 (Qv below args s G M') (F0 m 132 ls []) := by
    intro x2 M ls H locs hl hW h
    unfold rX7_drawItem_b132 at h
    have hx := X.1.1
    have hb := X.1.2.1
    refine lv_iload_n hx hb dX7_drawItem_132 rfl (lv_at hl 1 rfl) ?_
    refine lv_iconst (v := 4) hx hb dX7_drawItem_133 (by decide) ?_
    refine lv_icmp_ne (tgt := 146) hx hb dX7_drawItem_134 (by decide) (fun c9 => ?_) (fun c9 => ?_)
    · have h := ob_neg c9 h
      refine lv_aload_n hx hb dX7_drawItem_146 rfl (lv_at hl 0 rfl) ?_
      refine lv_iconst (v := 5) hx hb dX7_drawItem_147 (by decide) ?_
      obtain ⟨r12, M11, e10, h⟩ := ob_bd2 h
      refine bg_calli X hW (cX7_draws_k e10) rfl rfl kw7_99 kd_X7_draws rfl rfl ⟨Nat.le_of_ble_eq_true rfl, Nat.le_of_ble_eq_true rfl⟩ ⟨Nat.le_refl _, Nat.le_refl _⟩ hl.1 (Nat.le_of_ble_eq_true rfl) dX7_drawItem_148 (fun H locs hW => ?_)
      refine lv_istore_n (lv' := [(3, .int r12), (0, .ref (G.2.2.2 31)), (2, .int x2)]) hx hb dX7_drawItem_151 rfl hl (by decide) rfl (fun ls hl => ?_)
      refine lv_aload_n hx hb dX7_drawItem_152 rfl (lv_at hl 1 rfl) ?_
      refine lv_iconst (v := 4) hx hb dX7_drawItem_153 (by decide) ?_
      refine lv_iconst (v := 0) hx hb dX7_drawItem_154 (by decide) ?_
      obtain ⟨M14, e13, h⟩ := ob_bind h
      refine bg_callv X hW (cX7_lays_k e13) rfl rfl kw7_95 kd_X7_lays rfl rfl ⟨Nat.le_of_ble_eq_true rfl, Nat.le_of_ble_eq_true rfl⟩ ⟨Nat.le_refl _, Nat.le_refl _⟩ hl.1 (Nat.le_of_ble_eq_true rfl) dX7_drawItem_155 (fun H locs hW => ?_)
      refine lv_aload_n hx hb dX7_drawItem_158 rfl (lv_at hl 1 rfl) ?_
      refine lv_iload_n hx hb dX7_drawItem_159 rfl (lv_at hl 0 rfl) ?_
      refine lv_bipush (v := 6) hx hb dX7_drawItem_160 (by decide) ?_
      refine lv_iadd hx hb dX7_drawItem_162 ?_
      obtain ⟨M16, e15, h⟩ := ob_bind h
      refine bg_callv X hW (cX7_lay_k e15) rfl rfl kw7_83 kd_X7_lay rfl rfl ⟨Nat.le_of_ble_eq_true rfl, Nat.le_of_ble_eq_true rfl⟩ ⟨Nat.le_refl _, Nat.le_refl _⟩ hl.1 (Nat.le_of_ble_eq_true rfl) dX7_drawItem_163 (fun H locs hW => ?_)
      refine lv_aload_n hx hb dX7_drawItem_166 rfl (lv_at hl 1 rfl) ?_
      refine gf7_78 (cN := 31) X hW rfl dX7_drawItem_167 ?_
      refine lv_topi (fun y17 ey17 => ?_)
      have h := ob_lt ey17 h
      refine lv_istore (lv' := [(4, .int y17), (3, .int r12), (0, .ref (G.2.2.2 31)), (2, .int x2)]) hx hb dX7_drawItem_170 hl (by decide) rfl (fun ls hl => ?_)
      refine lv_aload_n hx hb dX7_drawItem_172 rfl (lv_at hl 2 rfl) ?_
      refine lv_bipush (v := 80) hx hb dX7_drawItem_173 (by decide) ?_
      refine lv_bipush (v := 75) hx hb dX7_drawItem_175 (by decide) ?_
      obtain ⟨M19, e18, h⟩ := ob_bind h
      refine bg_callv X hW (cX7_lays_k e18) rfl rfl kw7_95 kd_X7_lays rfl rfl ⟨Nat.le_of_ble_eq_true rfl, Nat.le_of_ble_eq_true rfl⟩ ⟨Nat.le_refl _, Nat.le_refl _⟩ hl.1 (Nat.le_of_ble_eq_true rfl) dX7_drawItem_177 (fun H locs hW => ?_)
      refine lv_aload_n hx hb dX7_drawItem_180 rfl (lv_at hl 2 rfl) ?_
      refine lv_iconst (v := 1) hx hb dX7_drawItem_181 (by decide) ?_
      refine lv_iload_n hx hb dX7_drawItem_182 rfl (lv_at hl 1 rfl) ?_
      obtain ⟨M21, e20, h⟩ := ob_bind h
      refine bg_callv X hW (cX7_some_k e20) rfl rfl kw7_103 kd_X7_some rfl rfl ⟨Nat.le_of_ble_eq_true rfl, Nat.le_of_ble_eq_true rfl⟩ ⟨Nat.le_refl _, Nat.le_refl _⟩ hl.1 (Nat.le_of_ble_eq_true rfl) dX7_drawItem_183 (fun H locs hW => ?_)
      refine lv_aload_n hx hb dX7_drawItem_186 rfl (lv_at hl 2 rfl) ?_
      refine lv_iload hx hb dX7_drawItem_187 (lv_at hl 0 rfl) ?_
      obtain ⟨M23, e22, h⟩ := ob_bind h
      refine bg_callv X hW (cX7_close_k e22) rfl rfl kw7_106 kd_X7_close rfl rfl ⟨Nat.le_of_ble_eq_true rfl, Nat.le_of_ble_eq_true rfl⟩ ⟨Nat.le_refl _, Nat.le_refl _⟩ hl.1 (Nat.le_of_ble_eq_true rfl) dX7_drawItem_189 (fun H locs hW => ?_)
      exact rt_v X hW h dX7_drawItem_192
    · have h := ob_pos c9 h
      refine lv_aload_n hx hb dX7_drawItem_137 rfl (lv_at hl 0 rfl) ?_
      refine lv_iconst (v := 1) hx hb dX7_drawItem_138 (by decide) ?_
      refine lv_iconst (v := 1) hx hb dX7_drawItem_139 (by decide) ?_
      obtain ⟨M25, e24, h⟩ := ob_bind h
      refine bg_callv X hW (cX7_some_k e24) rfl rfl kw7_103 kd_X7_some rfl rfl ⟨Nat.le_of_ble_eq_true rfl, Nat.le_of_ble_eq_true rfl⟩ ⟨Nat.le_refl _, Nat.le_refl _⟩ hl.1 (Nat.le_of_ble_eq_true rfl) dX7_drawItem_140 (fun H locs hW => ?_)
      refine lv_goto (tgt := 192) hx hb dX7_drawItem_143 (by decide) ?_
      exact rt_v X hW h dX7_drawItem_192
def rX7_drawItem (a1 : Int32) (M : Mm) : Option Mm :=
    (bd2 (rX7_draws (6 : Int32) M) fun r3 M2 => if r3 = 0 then (bd2 (rX7_draws (6 : Int32) M2) fun r60 M59 => Option.bind (rX7_some (1 : Int32) ((1 : Int32) + r60) M59) fun M62 => some M62) else (if r3 = (1 : Int32) then (bd2 (rX7_draws (20 : Int32) M2) fun r50 M49 => Option.bind (rX7_lays (2 : Int32) r50 M49) fun M52 => bd2 (rX7_draws (256 : Int32) M52) fun r55 M54 => Option.bind (rX7_lay r55 M54) fun M57 => some M57) else (if r3 = (2 : Int32) then (bd2 (rX7_draws (4 : Int32) M2) fun r39 M38 => lt_ ((1 : Int32) + r39) fun y40 => Option.bind (rX7_lays (3 : Int32) y40 M38) fun M42 => bd2 (rX7_draws (12 : Int32) M42) fun r45 M44 => Option.bind (rX7_lay r45 M44) fun M47 => some M47) else (if r3 = (3 : Int32) then (bd2 (rX7_draws (4 : Int32) M2) fun r34 M33 => Option.bind (rX7_some (5 : Int32) r34 M33) fun M36 => some M36) else (if r3 = (4 : Int32) then (if a1 ≤ 0 then (rX7_drawItem_b132 r3 M2) else (bd2 (rX7_draws a1 M2) fun r29 M28 => Option.bind (rX7_lays (6 : Int32) r29 M28) fun M31 => some M31)) else (rX7_drawItem_b132 r3 M2))))))
set_option maxRecDepth 100000 in
set_option maxHeartbeats 4000000 in
theorem cX7_drawItem_k {l : Launch} {G : Gg} {a1 : Int32} {M M' : Mm} (h : rX7_drawItem a1 M = some M') : CTv l yX7_drawItem cX7_drawItem 5 3 G [.ref (G.2.2.2 31), .int a1] M M' := by
  unfold rX7_drawItem at h
  refine ct_v (by decide) (Nat.le_of_ble_eq_true rfl) (fun p e s m below meth c ls X hl hW => ?_)
  have hx := X.1.1
  have hb := X.1.2.1
  refine lv_aload_n hx hb dX7_drawItem_0 rfl (lv_at hl 0 rfl) ?_
  refine lv_bipush (v := 6) hx hb dX7_drawItem_1 (by decide) ?_
  obtain ⟨r3, M2, e1, h⟩ := ob_bd2 h
  refine bg_calli X hW (cX7_draws_k e1) rfl rfl kw7_99 kd_X7_draws rfl rfl ⟨Nat.le_of_ble_eq_true rfl, Nat.le_of_ble_eq_true rfl⟩ ⟨Nat.le_refl _, Nat.le_refl _⟩ hl.1 (Nat.le_of_ble_eq_true rfl) dX7_drawItem_3 (fun H locs hW => ?_)
  refine lv_istore_n (lv' := [(2, .int r3), (0, .ref (G.2.2.2 31)), (1, .int a1)]) hx hb dX7_drawItem_6 rfl hl (by decide) rfl (fun ls hl => ?_)
  refine lv_iload_n hx hb dX7_drawItem_7 rfl (lv_at hl 0 rfl) ?_
  refine lv_if_ne (tgt := 27) hx hb dX7_drawItem_8 (by decide) (fun c4 => ?_) (fun c4 => ?_)
  · have h := ob_neg c4 h
    refine lv_iload_n hx hb dX7_drawItem_27 rfl (lv_at hl 0 rfl) ?_
    refine lv_iconst (v := 1) hx hb dX7_drawItem_28 (by decide) ?_
    refine lv_icmp_ne (tgt := 59) hx hb dX7_drawItem_29 (by decide) (fun c5 => ?_) (fun c5 => ?_)
    · have h := ob_neg c5 h
      refine lv_iload_n hx hb dX7_drawItem_59 rfl (lv_at hl 0 rfl) ?_
      refine lv_iconst (v := 2) hx hb dX7_drawItem_60 (by decide) ?_
      refine lv_icmp_ne (tgt := 91) hx hb dX7_drawItem_61 (by decide) (fun c6 => ?_) (fun c6 => ?_)
      · have h := ob_neg c6 h
        refine lv_iload_n hx hb dX7_drawItem_91 rfl (lv_at hl 0 rfl) ?_
        refine lv_iconst (v := 3) hx hb dX7_drawItem_92 (by decide) ?_
        refine lv_icmp_ne (tgt := 109) hx hb dX7_drawItem_93 (by decide) (fun c7 => ?_) (fun c7 => ?_)
        · have h := ob_neg c7 h
          refine lv_iload_n hx hb dX7_drawItem_109 rfl (lv_at hl 0 rfl) ?_
          refine lv_iconst (v := 4) hx hb dX7_drawItem_110 (by decide) ?_
          refine lv_icmp_ne (tgt := 132) hx hb dX7_drawItem_111 (by decide) (fun c8 => ?_) (fun c8 => ?_)
          · have h := ob_neg c8 h
            exact sX7_drawItem_b132 X r3 M2 _ _ _ (lv_sub hl [1, 0] rfl) hW h
          · have h := ob_pos c8 h
            refine lv_iload_n hx hb dX7_drawItem_114 rfl (lv_at hl 2 rfl) ?_
            refine lv_if_le (tgt := 132) hx hb dX7_drawItem_115 (by decide) (fun c26 => ?_) (fun c26 => ?_)
            · have h := ob_pos c26 h
              exact sX7_drawItem_b132 X r3 M2 _ _ _ (lv_sub hl [1, 0] rfl) hW h
            · have h := ob_neg c26 h
              refine lv_aload_n hx hb dX7_drawItem_118 rfl (lv_at hl 1 rfl) ?_
              refine lv_bipush (v := 6) hx hb dX7_drawItem_119 (by decide) ?_
              refine lv_aload_n hx hb dX7_drawItem_121 rfl (lv_at hl 1 rfl) ?_
              refine lv_iload_n hx hb dX7_drawItem_122 rfl (lv_at hl 2 rfl) ?_
              obtain ⟨r29, M28, e27, h⟩ := ob_bd2 h
              refine bg_calli X hW (cX7_draws_k e27) rfl rfl kw7_99 kd_X7_draws rfl rfl ⟨Nat.le_of_ble_eq_true rfl, Nat.le_of_ble_eq_true rfl⟩ ⟨Nat.le_refl _, Nat.le_refl _⟩ hl.1 (Nat.le_of_ble_eq_true rfl) dX7_drawItem_123 (fun H locs hW => ?_)
              obtain ⟨M31, e30, h⟩ := ob_bind h
              refine bg_callv X hW (cX7_lays_k e30) rfl rfl kw7_95 kd_X7_lays rfl rfl ⟨Nat.le_of_ble_eq_true rfl, Nat.le_of_ble_eq_true rfl⟩ ⟨Nat.le_refl _, Nat.le_refl _⟩ hl.1 (Nat.le_of_ble_eq_true rfl) dX7_drawItem_126 (fun H locs hW => ?_)
              refine lv_goto (tgt := 192) hx hb dX7_drawItem_129 (by decide) ?_
              exact rt_v X hW h dX7_drawItem_192
        · have h := ob_pos c7 h
          refine lv_aload_n hx hb dX7_drawItem_96 rfl (lv_at hl 1 rfl) ?_
          refine lv_iconst (v := 5) hx hb dX7_drawItem_97 (by decide) ?_
          refine lv_aload_n hx hb dX7_drawItem_98 rfl (lv_at hl 1 rfl) ?_
          refine lv_iconst (v := 4) hx hb dX7_drawItem_99 (by decide) ?_
          obtain ⟨r34, M33, e32, h⟩ := ob_bd2 h
          refine bg_calli X hW (cX7_draws_k e32) rfl rfl kw7_99 kd_X7_draws rfl rfl ⟨Nat.le_of_ble_eq_true rfl, Nat.le_of_ble_eq_true rfl⟩ ⟨Nat.le_refl _, Nat.le_refl _⟩ hl.1 (Nat.le_of_ble_eq_true rfl) dX7_drawItem_100 (fun H locs hW => ?_)
          obtain ⟨M36, e35, h⟩ := ob_bind h
          refine bg_callv X hW (cX7_some_k e35) rfl rfl kw7_103 kd_X7_some rfl rfl ⟨Nat.le_of_ble_eq_true rfl, Nat.le_of_ble_eq_true rfl⟩ ⟨Nat.le_refl _, Nat.le_refl _⟩ hl.1 (Nat.le_of_ble_eq_true rfl) dX7_drawItem_103 (fun H locs hW => ?_)
          refine lv_goto (tgt := 192) hx hb dX7_drawItem_106 (by decide) ?_
          exact rt_v X hW h dX7_drawItem_192
      · have h := ob_pos c6 h
        refine lv_iconst (v := 1) hx hb dX7_drawItem_64 (by decide) ?_
        refine lv_aload_n hx hb dX7_drawItem_65 rfl (lv_at hl 1 rfl) ?_
        refine lv_iconst (v := 4) hx hb dX7_drawItem_66 (by decide) ?_
        obtain ⟨r39, M38, e37, h⟩ := ob_bd2 h
        refine bg_calli X hW (cX7_draws_k e37) rfl rfl kw7_99 kd_X7_draws rfl rfl ⟨Nat.le_of_ble_eq_true rfl, Nat.le_of_ble_eq_true rfl⟩ ⟨Nat.le_refl _, Nat.le_refl _⟩ hl.1 (Nat.le_of_ble_eq_true rfl) dX7_drawItem_67 (fun H locs hW => ?_)
        refine lv_iadd hx hb dX7_drawItem_70 ?_
        refine lv_topi (fun y40 ey40 => ?_)
        have h := ob_lt ey40 h
        refine lv_istore_n (lv' := [(3, .int y40), (2, .int r3), (0, .ref (G.2.2.2 31)), (1, .int a1)]) hx hb dX7_drawItem_71 rfl hl (by decide) rfl (fun ls hl => ?_)
        refine lv_aload_n hx hb dX7_drawItem_72 rfl (lv_at hl 2 rfl) ?_
        refine lv_iconst (v := 3) hx hb dX7_drawItem_73 (by decide) ?_
        refine lv_iload_n hx hb dX7_drawItem_74 rfl (lv_at hl 0 rfl) ?_
        obtain ⟨M42, e41, h⟩ := ob_bind h
        refine bg_callv X hW (cX7_lays_k e41) rfl rfl kw7_95 kd_X7_lays rfl rfl ⟨Nat.le_of_ble_eq_true rfl, Nat.le_of_ble_eq_true rfl⟩ ⟨Nat.le_refl _, Nat.le_refl _⟩ hl.1 (Nat.le_of_ble_eq_true rfl) dX7_drawItem_75 (fun H locs hW => ?_)
        refine lv_aload_n hx hb dX7_drawItem_78 rfl (lv_at hl 2 rfl) ?_
        refine lv_aload_n hx hb dX7_drawItem_79 rfl (lv_at hl 2 rfl) ?_
        refine lv_bipush (v := 12) hx hb dX7_drawItem_80 (by decide) ?_
        obtain ⟨r45, M44, e43, h⟩ := ob_bd2 h
        refine bg_calli X hW (cX7_draws_k e43) rfl rfl kw7_99 kd_X7_draws rfl rfl ⟨Nat.le_of_ble_eq_true rfl, Nat.le_of_ble_eq_true rfl⟩ ⟨Nat.le_refl _, Nat.le_refl _⟩ hl.1 (Nat.le_of_ble_eq_true rfl) dX7_drawItem_82 (fun H locs hW => ?_)
        obtain ⟨M47, e46, h⟩ := ob_bind h
        refine bg_callv X hW (cX7_lay_k e46) rfl rfl kw7_83 kd_X7_lay rfl rfl ⟨Nat.le_of_ble_eq_true rfl, Nat.le_of_ble_eq_true rfl⟩ ⟨Nat.le_refl _, Nat.le_refl _⟩ hl.1 (Nat.le_of_ble_eq_true rfl) dX7_drawItem_85 (fun H locs hW => ?_)
        refine lv_goto (tgt := 192) hx hb dX7_drawItem_88 (by decide) ?_
        exact rt_v X hW h dX7_drawItem_192
    · have h := ob_pos c5 h
      refine lv_aload_n hx hb dX7_drawItem_32 rfl (lv_at hl 1 rfl) ?_
      refine lv_bipush (v := 20) hx hb dX7_drawItem_33 (by decide) ?_
      obtain ⟨r50, M49, e48, h⟩ := ob_bd2 h
      refine bg_calli X hW (cX7_draws_k e48) rfl rfl kw7_99 kd_X7_draws rfl rfl ⟨Nat.le_of_ble_eq_true rfl, Nat.le_of_ble_eq_true rfl⟩ ⟨Nat.le_refl _, Nat.le_refl _⟩ hl.1 (Nat.le_of_ble_eq_true rfl) dX7_drawItem_35 (fun H locs hW => ?_)
      refine lv_istore_n (lv' := [(3, .int r50), (2, .int r3), (0, .ref (G.2.2.2 31)), (1, .int a1)]) hx hb dX7_drawItem_38 rfl hl (by decide) rfl (fun ls hl => ?_)
      refine lv_aload_n hx hb dX7_drawItem_39 rfl (lv_at hl 2 rfl) ?_
      refine lv_iconst (v := 2) hx hb dX7_drawItem_40 (by decide) ?_
      refine lv_iload_n hx hb dX7_drawItem_41 rfl (lv_at hl 0 rfl) ?_
      obtain ⟨M52, e51, h⟩ := ob_bind h
      refine bg_callv X hW (cX7_lays_k e51) rfl rfl kw7_95 kd_X7_lays rfl rfl ⟨Nat.le_of_ble_eq_true rfl, Nat.le_of_ble_eq_true rfl⟩ ⟨Nat.le_refl _, Nat.le_refl _⟩ hl.1 (Nat.le_of_ble_eq_true rfl) dX7_drawItem_42 (fun H locs hW => ?_)
      refine lv_aload_n hx hb dX7_drawItem_45 rfl (lv_at hl 2 rfl) ?_
      refine lv_aload_n hx hb dX7_drawItem_46 rfl (lv_at hl 2 rfl) ?_
      refine lv_sipush (v := 256) hx hb dX7_drawItem_47 (by decide) ?_
      obtain ⟨r55, M54, e53, h⟩ := ob_bd2 h
      refine bg_calli X hW (cX7_draws_k e53) rfl rfl kw7_99 kd_X7_draws rfl rfl ⟨Nat.le_of_ble_eq_true rfl, Nat.le_of_ble_eq_true rfl⟩ ⟨Nat.le_refl _, Nat.le_refl _⟩ hl.1 (Nat.le_of_ble_eq_true rfl) dX7_drawItem_50 (fun H locs hW => ?_)
      obtain ⟨M57, e56, h⟩ := ob_bind h
      refine bg_callv X hW (cX7_lay_k e56) rfl rfl kw7_83 kd_X7_lay rfl rfl ⟨Nat.le_of_ble_eq_true rfl, Nat.le_of_ble_eq_true rfl⟩ ⟨Nat.le_refl _, Nat.le_refl _⟩ hl.1 (Nat.le_of_ble_eq_true rfl) dX7_drawItem_53 (fun H locs hW => ?_)
      refine lv_goto (tgt := 192) hx hb dX7_drawItem_56 (by decide) ?_
      exact rt_v X hW h dX7_drawItem_192
  · have h := ob_pos c4 h
    refine lv_aload_n hx hb dX7_drawItem_11 rfl (lv_at hl 1 rfl) ?_
    refine lv_iconst (v := 1) hx hb dX7_drawItem_12 (by decide) ?_
    refine lv_iconst (v := 1) hx hb dX7_drawItem_13 (by decide) ?_
    refine lv_aload_n hx hb dX7_drawItem_14 rfl (lv_at hl 1 rfl) ?_
    refine lv_bipush (v := 6) hx hb dX7_drawItem_15 (by decide) ?_
    obtain ⟨r60, M59, e58, h⟩ := ob_bd2 h
    refine bg_calli X hW (cX7_draws_k e58) rfl rfl kw7_99 kd_X7_draws rfl rfl ⟨Nat.le_of_ble_eq_true rfl, Nat.le_of_ble_eq_true rfl⟩ ⟨Nat.le_refl _, Nat.le_refl _⟩ hl.1 (Nat.le_of_ble_eq_true rfl) dX7_drawItem_17 (fun H locs hW => ?_)
    refine lv_iadd hx hb dX7_drawItem_20 ?_
    obtain ⟨M62, e61, h⟩ := ob_bind h
    refine bg_callv X hW (cX7_some_k e61) rfl rfl kw7_103 kd_X7_some rfl rfl ⟨Nat.le_of_ble_eq_true rfl, Nat.le_of_ble_eq_true rfl⟩ ⟨Nat.le_refl _, Nat.le_refl _⟩ hl.1 (Nat.le_of_ble_eq_true rfl) dX7_drawItem_21 (fun H locs hW => ?_)
    refine lv_goto (tgt := 192) hx hb dX7_drawItem_24 (by decide) ?_
    exact rt_v X hW h dX7_drawItem_192
def rX7_deep_b75_s (q75 : Int32 → Int32 → Int32 → Mm → Option Mm) (x1 : Int32) (x2 : Int32) (x3 : Int32) (M : Mm) : Option Mm :=
    (if x1 < x3 then (some M) else (Option.bind (rX7_close (x2 - ((5 : Int32) * x3)) M) fun M11 => lt_ (x3 + 1) fun y12 => q75 x1 x2 y12 M11))
def rX7_deep_b75 : Nat → Int32 → Int32 → Int32 → Mm → Option Mm
  | 0 => fun _ _ _ _ => none
  | n + 1 => rX7_deep_b75_s (rX7_deep_b75 n)
set_option maxRecDepth 100000 in
set_option maxHeartbeats 4000000 in
theorem sX7_deep_b75 {p : Program} {l : Launch} {e : Env} {s : State} {m : MethodId} {args : Array Value} {below : List Frame} {meth : Method} {c : Code} {G : Gg} {M' : Mm} (X : Cx p m c meth cX7_deep 4 s args RX7 none G) : ∀ (n : Nat), ∀ (x1 : Int32) (x2 : Int32) (x3 : Int32) (M : Mm) (ls : Array Slot) (H : Heap) (locs : List Loc), lv_has ls 4 [(0, .ref (G.2.2.2 31)), (1, .int x1), (2, .int x2), (3, .int x3)] → Wo G s M H locs → rX7_deep_b75 n x1 x2 x3 M = some M' → W p l e (rm 3) s m args below meth c H locs 0 0 (Qv below args s G M') (F0 m 75 ls []) := by
  intro n
  induction n with
  | zero =>
    intro x1 x2 x3 M ls H locs hl hW h
    cases (show (none : Option Mm) = some M' from h)
  | succ n hq750 =>
    have hq75 : ∀ (x1 : Int32) (x2 : Int32) (x3 : Int32) (M : Mm) (ls : Array Slot) (H : Heap) (locs : List Loc), lv_has ls 4 [(0, .ref (G.2.2.2 31)), (1, .int x1), (2, .int x2), (3, .int x3)] → Wo G s M H locs → (rX7_deep_b75 n) x1 x2 x3 M = some M' → W p l e (rm 3) s m args below meth c H locs 0 0 (Qv below args s G M') (F0 m 75 ls []) := hq750
    intro x1 x2 x3 M ls H locs hl hW h
    have h : rX7_deep_b75_s (rX7_deep_b75 n) x1 x2 x3 M = some M' := h
    unfold rX7_deep_b75_s at h
    have hx := X.1.1
    have hb := X.1.2.1
    refine lv_iload_n hx hb dX7_deep_75 rfl (lv_at hl 3 rfl) ?_
    refine lv_iload_n hx hb dX7_deep_76 rfl (lv_at hl 1 rfl) ?_
    refine lv_icmp_gt (tgt := 95) hx hb dX7_deep_77 (by decide) (fun c9 => ?_) (fun c9 => ?_)
    · have h := ob_pos c9 h
      exact rt_v X hW h dX7_deep_95
    · have h := ob_neg c9 h
      refine lv_aload_n hx hb dX7_deep_80 rfl (lv_at hl 0 rfl) ?_
      refine lv_iload_n hx hb dX7_deep_81 rfl (lv_at hl 2 rfl) ?_
      refine lv_iconst (v := 5) hx hb dX7_deep_82 (by decide) ?_
      refine lv_iload_n hx hb dX7_deep_83 rfl (lv_at hl 3 rfl) ?_
      refine lv_imul hx hb dX7_deep_84 ?_
      refine lv_isub hx hb dX7_deep_85 ?_
      obtain ⟨M11, e10, h⟩ := ob_bind h
      refine bg_callv X hW (cX7_close_k e10) rfl rfl kw7_106 kd_X7_close rfl rfl ⟨Nat.le_of_ble_eq_true rfl, Nat.le_of_ble_eq_true rfl⟩ ⟨Nat.le_refl _, Nat.le_refl _⟩ hl.1 (Nat.le_of_ble_eq_true rfl) dX7_deep_86 (fun H locs hW => ?_)
      obtain ⟨y12, ey12⟩ : ∃ y : Int32, y = (x3 + 1) := ⟨_, rfl⟩
      have h := ob_lt ey12 h
      refine lv_iinc (v := y12) (lv' := [(3, .int y12), (0, .ref (G.2.2.2 31)), (1, .int x1), (2, .int x2)]) hx hb dX7_deep_89 hl (k := 3) rfl (by rw [ey12]; rfl) (by decide) rfl (fun ls hl => ?_)
      refine lv_goto (tgt := 75) hx hb dX7_deep_92 (by decide) ?_
      exact hq75 x1 x2 y12 M11 _ _ _ (lv_sub hl [1, 2, 3, 0] rfl) hW h
def rX7_deep_b2_s (q2 : Int32 → Int32 → Mm → Option Mm) (x1 : Int32) (x2 : Int32) (M : Mm) : Option Mm :=
    (if x2 ≤ 0 then (lt_ (M.1 31 2) fun y2 => Option.bind (rX7_lays (80 : Int32) (75 : Int32) M) fun M4 => Option.bind (rX7_some (1 : Int32) (1 : Int32) M4) fun M6 => Option.bind (rX7_close y2 M6) fun M8 => rX7_deep_b75 FU x1 y2 (1 : Int32) M8) else (lt_ ((7 : Int32) + ((7 : Int32) * (x2 - (1 : Int32)))) fun y13 => Option.bind (rX7_lays (80 : Int32) (75 : Int32) M) fun M15 => Option.bind (rX7_lay (4 : Int32) M15) fun M17 => Option.bind (rX7_lays (y13 / (256 : Int32)) (y13 - y13 / (256 : Int32) * (256 : Int32)) M17) fun M21 => lt_ (x2 + (-1)) fun y22 => q2 x1 y22 M21))
def rX7_deep_b2 : Nat → Int32 → Int32 → Mm → Option Mm
  | 0 => fun _ _ _ => none
  | n + 1 => rX7_deep_b2_s (rX7_deep_b2 n)
set_option maxRecDepth 100000 in
set_option maxHeartbeats 4000000 in
theorem sX7_deep_b2 {p : Program} {l : Launch} {e : Env} {s : State} {m : MethodId} {args : Array Value} {below : List Frame} {meth : Method} {c : Code} {G : Gg} {M' : Mm} (X : Cx p m c meth cX7_deep 4 s args RX7 none G) : ∀ (n : Nat), ∀ (x1 : Int32) (x2 : Int32) (M : Mm) (ls : Array Slot) (H : Heap) (locs : List Loc), lv_has ls 4 [(0, .ref (G.2.2.2 31)), (1, .int x1), (2, .int x2)] → Wo G s M H locs → rX7_deep_b2 n x1 x2 M = some M' → W p l e (rm 3) s m args below meth c H locs 0 0 (Qv below args s G M') (F0 m 2 ls []) := by
  intro n
  induction n with
  | zero =>
    intro x1 x2 M ls H locs hl hW h
    cases (show (none : Option Mm) = some M' from h)
  | succ n hq20 =>
    have hq2 : ∀ (x1 : Int32) (x2 : Int32) (M : Mm) (ls : Array Slot) (H : Heap) (locs : List Loc), lv_has ls 4 [(0, .ref (G.2.2.2 31)), (1, .int x1), (2, .int x2)] → Wo G s M H locs → (rX7_deep_b2 n) x1 x2 M = some M' → W p l e (rm 3) s m args below meth c H locs 0 0 (Qv below args s G M') (F0 m 2 ls []) := hq20
    intro x1 x2 M ls H locs hl hW h
    have h : rX7_deep_b2_s (rX7_deep_b2 n) x1 x2 M = some M' := h
    unfold rX7_deep_b2_s at h
    have hx := X.1.1
    have hb := X.1.2.1
    refine lv_iload_n hx hb dX7_deep_2 rfl (lv_at hl 2 rfl) ?_
    refine lv_if_le (tgt := 49) hx hb dX7_deep_3 (by decide) (fun c1 => ?_) (fun c1 => ?_)
    · have h := ob_pos c1 h
      refine lv_aload_n hx hb dX7_deep_49 rfl (lv_at hl 0 rfl) ?_
      refine gf7_78 (cN := 31) X hW rfl dX7_deep_50 ?_
      refine lv_topi (fun y2 ey2 => ?_)
      have h := ob_lt ey2 h
      refine lv_istore_n (lv' := [(2, .int y2), (0, .ref (G.2.2.2 31)), (1, .int x1)]) hx hb dX7_deep_53 rfl hl (by decide) rfl (fun ls hl => ?_)
      refine lv_aload_n hx hb dX7_deep_54 rfl (lv_at hl 1 rfl) ?_
      refine lv_bipush (v := 80) hx hb dX7_deep_55 (by decide) ?_
      refine lv_bipush (v := 75) hx hb dX7_deep_57 (by decide) ?_
      obtain ⟨M4, e3, h⟩ := ob_bind h
      refine bg_callv X hW (cX7_lays_k e3) rfl rfl kw7_95 kd_X7_lays rfl rfl ⟨Nat.le_of_ble_eq_true rfl, Nat.le_of_ble_eq_true rfl⟩ ⟨Nat.le_refl _, Nat.le_refl _⟩ hl.1 (Nat.le_of_ble_eq_true rfl) dX7_deep_59 (fun H locs hW => ?_)
      refine lv_aload_n hx hb dX7_deep_62 rfl (lv_at hl 1 rfl) ?_
      refine lv_iconst (v := 1) hx hb dX7_deep_63 (by decide) ?_
      refine lv_iconst (v := 1) hx hb dX7_deep_64 (by decide) ?_
      obtain ⟨M6, e5, h⟩ := ob_bind h
      refine bg_callv X hW (cX7_some_k e5) rfl rfl kw7_103 kd_X7_some rfl rfl ⟨Nat.le_of_ble_eq_true rfl, Nat.le_of_ble_eq_true rfl⟩ ⟨Nat.le_refl _, Nat.le_refl _⟩ hl.1 (Nat.le_of_ble_eq_true rfl) dX7_deep_65 (fun H locs hW => ?_)
      refine lv_aload_n hx hb dX7_deep_68 rfl (lv_at hl 1 rfl) ?_
      refine lv_iload_n hx hb dX7_deep_69 rfl (lv_at hl 0 rfl) ?_
      obtain ⟨M8, e7, h⟩ := ob_bind h
      refine bg_callv X hW (cX7_close_k e7) rfl rfl kw7_106 kd_X7_close rfl rfl ⟨Nat.le_of_ble_eq_true rfl, Nat.le_of_ble_eq_true rfl⟩ ⟨Nat.le_refl _, Nat.le_refl _⟩ hl.1 (Nat.le_of_ble_eq_true rfl) dX7_deep_70 (fun H locs hW => ?_)
      refine lv_iconst (v := 1) hx hb dX7_deep_73 (by decide) ?_
      refine lv_istore_n (lv' := [(3, .int (1 : Int32)), (2, .int y2), (0, .ref (G.2.2.2 31)), (1, .int x1)]) hx hb dX7_deep_74 rfl hl (by decide) rfl (fun ls hl => ?_)
      exact sX7_deep_b75 X FU x1 y2 (1 : Int32) M8 _ _ _ (lv_sub hl [2, 3, 1, 0] rfl) hW h
    · have h := ob_neg c1 h
      refine lv_bipush (v := 7) hx hb dX7_deep_6 (by decide) ?_
      refine lv_bipush (v := 7) hx hb dX7_deep_8 (by decide) ?_
      refine lv_iload_n hx hb dX7_deep_10 rfl (lv_at hl 2 rfl) ?_
      refine lv_iconst (v := 1) hx hb dX7_deep_11 (by decide) ?_
      refine lv_isub hx hb dX7_deep_12 ?_
      refine lv_imul hx hb dX7_deep_13 ?_
      refine lv_iadd hx hb dX7_deep_14 ?_
      refine lv_topi (fun y13 ey13 => ?_)
      have h := ob_lt ey13 h
      refine lv_istore_n (lv' := [(3, .int y13), (0, .ref (G.2.2.2 31)), (1, .int x1), (2, .int x2)]) hx hb dX7_deep_15 rfl hl (by decide) rfl (fun ls hl => ?_)
      refine lv_aload_n hx hb dX7_deep_16 rfl (lv_at hl 1 rfl) ?_
      refine lv_bipush (v := 80) hx hb dX7_deep_17 (by decide) ?_
      refine lv_bipush (v := 75) hx hb dX7_deep_19 (by decide) ?_
      obtain ⟨M15, e14, h⟩ := ob_bind h
      refine bg_callv X hW (cX7_lays_k e14) rfl rfl kw7_95 kd_X7_lays rfl rfl ⟨Nat.le_of_ble_eq_true rfl, Nat.le_of_ble_eq_true rfl⟩ ⟨Nat.le_refl _, Nat.le_refl _⟩ hl.1 (Nat.le_of_ble_eq_true rfl) dX7_deep_21 (fun H locs hW => ?_)
      refine lv_aload_n hx hb dX7_deep_24 rfl (lv_at hl 1 rfl) ?_
      refine lv_iconst (v := 4) hx hb dX7_deep_25 (by decide) ?_
      obtain ⟨M17, e16, h⟩ := ob_bind h
      refine bg_callv X hW (cX7_lay_k e16) rfl rfl kw7_83 kd_X7_lay rfl rfl ⟨Nat.le_of_ble_eq_true rfl, Nat.le_of_ble_eq_true rfl⟩ ⟨Nat.le_refl _, Nat.le_refl _⟩ hl.1 (Nat.le_of_ble_eq_true rfl) dX7_deep_26 (fun H locs hW => ?_)
      refine lv_aload_n hx hb dX7_deep_29 rfl (lv_at hl 1 rfl) ?_
      refine lv_iload_n hx hb dX7_deep_30 rfl (lv_at hl 0 rfl) ?_
      refine lv_sipush (v := 256) hx hb dX7_deep_31 (by decide) ?_
      have g18 : ¬ (256 : Int32) = 0 := by decide
      refine lv_idiv hx hb dX7_deep_34 g18 ?_
      refine lv_iload_n hx hb dX7_deep_35 rfl (lv_at hl 0 rfl) ?_
      refine lv_sipush (v := 256) hx hb dX7_deep_36 (by decide) ?_
      have g19 : ¬ (256 : Int32) = 0 := by decide
      refine lv_irem hx hb dX7_deep_39 g19 ?_
      obtain ⟨M21, e20, h⟩ := ob_bind h
      refine bg_callv X hW (cX7_lays_k e20) rfl rfl kw7_95 kd_X7_lays rfl rfl ⟨Nat.le_of_ble_eq_true rfl, Nat.le_of_ble_eq_true rfl⟩ ⟨Nat.le_refl _, Nat.le_refl _⟩ hl.1 (Nat.le_of_ble_eq_true rfl) dX7_deep_40 (fun H locs hW => ?_)
      obtain ⟨y22, ey22⟩ : ∃ y : Int32, y = (x2 + (-1)) := ⟨_, rfl⟩
      have h := ob_lt ey22 h
      refine lv_iinc (v := y22) (lv' := [(2, .int y22), (3, .int y13), (0, .ref (G.2.2.2 31)), (1, .int x1)]) hx hb dX7_deep_43 hl (k := 3) rfl (by rw [ey22]; rfl) (by decide) rfl (fun ls hl => ?_)
      refine lv_goto (tgt := 2) hx hb dX7_deep_46 (by decide) ?_
      exact hq2 x1 y22 M21 _ _ _ (lv_sub hl [2, 3, 0] rfl) hW h
def rX7_deep (a1 : Int32) (M : Mm) : Option Mm :=
    (rX7_deep_b2 FU a1 a1 M)
set_option maxRecDepth 100000 in
set_option maxHeartbeats 4000000 in
theorem cX7_deep_k {l : Launch} {G : Gg} {a1 : Int32} {M M' : Mm} (h : rX7_deep a1 M = some M') : CTv l yX7_deep cX7_deep 4 3 G [.ref (G.2.2.2 31), .int a1] M M' := by
  unfold rX7_deep at h
  refine ct_v (by decide) (Nat.le_of_ble_eq_true rfl) (fun p e s m below meth c ls X hl hW => ?_)
  have hx := X.1.1
  have hb := X.1.2.1
  refine lv_iload_n hx hb dX7_deep_0 rfl (lv_at hl 1 rfl) ?_
  refine lv_istore_n (lv' := [(2, .int a1), (0, .ref (G.2.2.2 31)), (1, .int a1)]) hx hb dX7_deep_1 rfl hl (by decide) rfl (fun ls hl => ?_)
  exact sX7_deep_b2 X FU a1 a1 M _ _ _ (lv_sub hl [1, 2, 0] rfl) hW h
def rX7_family_b238_s (q238 : Int32 → Int32 → Mm → Option Mm) (x2 : Int32) (x3 : Int32) (M : Mm) : Option Mm :=
    (if x2 ≤ x3 then (some M) else (Option.bind (rX7_drawItem x3 M) fun M8 => lt_ (x3 + 1) fun y9 => q238 x2 y9 M8))
def rX7_family_b238 : Nat → Int32 → Int32 → Mm → Option Mm
  | 0 => fun _ _ _ => none
  | n + 1 => rX7_family_b238_s (rX7_family_b238 n)
set_option maxRecDepth 100000 in
set_option maxHeartbeats 4000000 in
theorem sX7_family_b238 {p : Program} {l : Launch} {e : Env} {s : State} {m : MethodId} {args : Array Value} {below : List Frame} {meth : Method} {c : Code} {G : Gg} {M' : Mm} (X : Cx p m c meth cX7_family 4 s args RX7 none G) : ∀ (n : Nat), ∀ (x2 : Int32) (x3 : Int32) (M : Mm) (ls : Array Slot) (H : Heap) (locs : List Loc), lv_has ls 4 [(0, .ref (G.2.2.2 31)), (2, .int x2), (3, .int x3)] → Wo G s M H locs → rX7_family_b238 n x2 x3 M = some M' → W p l e (rm 4) s m args below meth c H locs 0 0 (Qv below args s G M') (F0 m 238 ls []) := by
  intro n
  induction n with
  | zero =>
    intro x2 x3 M ls H locs hl hW h
    cases (show (none : Option Mm) = some M' from h)
  | succ n hq2380 =>
    have hq238 : ∀ (x2 : Int32) (x3 : Int32) (M : Mm) (ls : Array Slot) (H : Heap) (locs : List Loc), lv_has ls 4 [(0, .ref (G.2.2.2 31)), (2, .int x2), (3, .int x3)] → Wo G s M H locs → (rX7_family_b238 n) x2 x3 M = some M' → W p l e (rm 4) s m args below meth c H locs 0 0 (Qv below args s G M') (F0 m 238 ls []) := hq2380
    intro x2 x3 M ls H locs hl hW h
    have h : rX7_family_b238_s (rX7_family_b238 n) x2 x3 M = some M' := h
    unfold rX7_family_b238_s at h
    have hx := X.1.1
    have hb := X.1.2.1
    refine lv_iload_n hx hb dX7_family_238 rfl (lv_at hl 2 rfl) ?_
    refine lv_iload_n hx hb dX7_family_239 rfl (lv_at hl 1 rfl) ?_
    refine lv_icmp_ge (tgt := 254) hx hb dX7_family_240 (by decide) (fun c6 => ?_) (fun c6 => ?_)
    · have h := ob_pos c6 h
      exact rt_v X hW h dX7_family_254
    · have h := ob_neg c6 h
      refine lv_aload_n hx hb dX7_family_243 rfl (lv_at hl 0 rfl) ?_
      refine lv_iload_n hx hb dX7_family_244 rfl (lv_at hl 2 rfl) ?_
      obtain ⟨M8, e7, h⟩ := ob_bind h
      refine bg_callv X hW (cX7_drawItem_k e7) rfl rfl kw7_109 kd_X7_drawItem rfl rfl ⟨Nat.le_of_ble_eq_true rfl, Nat.le_of_ble_eq_true rfl⟩ ⟨Nat.le_refl _, Nat.le_refl _⟩ hl.1 (Nat.le_of_ble_eq_true rfl) dX7_family_245 (fun H locs hW => ?_)
      obtain ⟨y9, ey9⟩ : ∃ y : Int32, y = (x3 + 1) := ⟨_, rfl⟩
      have h := ob_lt ey9 h
      refine lv_iinc (v := y9) (lv' := [(3, .int y9), (0, .ref (G.2.2.2 31)), (2, .int x2)]) hx hb dX7_family_248 hl (k := 2) rfl (by rw [ey9]; rfl) (by decide) rfl (fun ls hl => ?_)
      refine lv_goto (tgt := 238) hx hb dX7_family_251 (by decide) ?_
      exact hq238 x2 y9 M8 _ _ _ (lv_sub hl [1, 2, 0] rfl) hW h
def rX7_family_b216_s (q216 : Int32 → Int32 → Mm → Option Mm) (x2 : Int32) (x3 : Int32) (M : Mm) : Option Mm :=
    (if x2 ≤ x3 then (some M) else (Option.bind (rX7_lays (5 : Int32) (0 : Int32) M) fun M18 => lt_ (x3 + 1) fun y19 => q216 x2 y19 M18))
def rX7_family_b216 : Nat → Int32 → Int32 → Mm → Option Mm
  | 0 => fun _ _ _ => none
  | n + 1 => rX7_family_b216_s (rX7_family_b216 n)
set_option maxRecDepth 100000 in
set_option maxHeartbeats 4000000 in
theorem sX7_family_b216 {p : Program} {l : Launch} {e : Env} {s : State} {m : MethodId} {args : Array Value} {below : List Frame} {meth : Method} {c : Code} {G : Gg} {M' : Mm} (X : Cx p m c meth cX7_family 4 s args RX7 none G) : ∀ (n : Nat), ∀ (x2 : Int32) (x3 : Int32) (M : Mm) (ls : Array Slot) (H : Heap) (locs : List Loc), lv_has ls 4 [(0, .ref (G.2.2.2 31)), (2, .int x2), (3, .int x3)] → Wo G s M H locs → rX7_family_b216 n x2 x3 M = some M' → W p l e (rm 4) s m args below meth c H locs 0 0 (Qv below args s G M') (F0 m 216 ls []) := by
  intro n
  induction n with
  | zero =>
    intro x2 x3 M ls H locs hl hW h
    cases (show (none : Option Mm) = some M' from h)
  | succ n hq2160 =>
    have hq216 : ∀ (x2 : Int32) (x3 : Int32) (M : Mm) (ls : Array Slot) (H : Heap) (locs : List Loc), lv_has ls 4 [(0, .ref (G.2.2.2 31)), (2, .int x2), (3, .int x3)] → Wo G s M H locs → (rX7_family_b216 n) x2 x3 M = some M' → W p l e (rm 4) s m args below meth c H locs 0 0 (Qv below args s G M') (F0 m 216 ls []) := hq2160
    intro x2 x3 M ls H locs hl hW h
    have h : rX7_family_b216_s (rX7_family_b216 n) x2 x3 M = some M' := h
    unfold rX7_family_b216_s at h
    have hx := X.1.1
    have hb := X.1.2.1
    refine lv_iload_n hx hb dX7_family_216 rfl (lv_at hl 2 rfl) ?_
    refine lv_iload_n hx hb dX7_family_217 rfl (lv_at hl 1 rfl) ?_
    refine lv_icmp_ge (tgt := 233) hx hb dX7_family_218 (by decide) (fun c16 => ?_) (fun c16 => ?_)
    · have h := ob_pos c16 h
      refine lv_goto (tgt := 254) hx hb dX7_family_233 (by decide) ?_
      exact rt_v X hW h dX7_family_254
    · have h := ob_neg c16 h
      refine lv_aload_n hx hb dX7_family_221 rfl (lv_at hl 0 rfl) ?_
      refine lv_iconst (v := 5) hx hb dX7_family_222 (by decide) ?_
      refine lv_iconst (v := 0) hx hb dX7_family_223 (by decide) ?_
      obtain ⟨M18, e17, h⟩ := ob_bind h
      refine bg_callv X hW (cX7_lays_k e17) rfl rfl kw7_95 kd_X7_lays rfl rfl ⟨Nat.le_of_ble_eq_true rfl, Nat.le_of_ble_eq_true rfl⟩ ⟨Nat.le_refl _, Nat.le_refl _⟩ hl.1 (Nat.le_of_ble_eq_true rfl) dX7_family_224 (fun H locs hW => ?_)
      obtain ⟨y19, ey19⟩ : ∃ y : Int32, y = (x3 + 1) := ⟨_, rfl⟩
      have h := ob_lt ey19 h
      refine lv_iinc (v := y19) (lv' := [(3, .int y19), (0, .ref (G.2.2.2 31)), (2, .int x2)]) hx hb dX7_family_227 hl (k := 2) rfl (by rw [ey19]; rfl) (by decide) rfl (fun ls hl => ?_)
      refine lv_goto (tgt := 216) hx hb dX7_family_230 (by decide) ?_
      exact hq216 x2 y19 M18 _ _ _ (lv_sub hl [1, 2, 0] rfl) hW h
def rX7_family_b187_s (q187 : Int32 → Int32 → Mm → Option Mm) (x2 : Int32) (x3 : Int32) (M : Mm) : Option Mm :=
    (if (8 : Int32) ≤ x3 then (Option.bind (rX7_lay (0 : Int32) M) fun M15 => rX7_family_b216 FU x2 (0 : Int32) M15) else (bd2 (rX7_draws (8 : Int32) M) fun r22 M21 => Option.bind (rX7_lay r22 M21) fun M24 => lt_ (x3 + 1) fun y25 => q187 x2 y25 M24))
def rX7_family_b187 : Nat → Int32 → Int32 → Mm → Option Mm
  | 0 => fun _ _ _ => none
  | n + 1 => rX7_family_b187_s (rX7_family_b187 n)
set_option maxRecDepth 100000 in
set_option maxHeartbeats 4000000 in
theorem sX7_family_b187 {p : Program} {l : Launch} {e : Env} {s : State} {m : MethodId} {args : Array Value} {below : List Frame} {meth : Method} {c : Code} {G : Gg} {M' : Mm} (X : Cx p m c meth cX7_family 4 s args RX7 none G) : ∀ (n : Nat), ∀ (x2 : Int32) (x3 : Int32) (M : Mm) (ls : Array Slot) (H : Heap) (locs : List Loc), lv_has ls 4 [(0, .ref (G.2.2.2 31)), (2, .int x2), (3, .int x3)] → Wo G s M H locs → rX7_family_b187 n x2 x3 M = some M' → W p l e (rm 4) s m args below meth c H locs 0 0 (Qv below args s G M') (F0 m 187 ls []) := by
  intro n
  induction n with
  | zero =>
    intro x2 x3 M ls H locs hl hW h
    cases (show (none : Option Mm) = some M' from h)
  | succ n hq1870 =>
    have hq187 : ∀ (x2 : Int32) (x3 : Int32) (M : Mm) (ls : Array Slot) (H : Heap) (locs : List Loc), lv_has ls 4 [(0, .ref (G.2.2.2 31)), (2, .int x2), (3, .int x3)] → Wo G s M H locs → (rX7_family_b187 n) x2 x3 M = some M' → W p l e (rm 4) s m args below meth c H locs 0 0 (Qv below args s G M') (F0 m 187 ls []) := hq1870
    intro x2 x3 M ls H locs hl hW h
    have h : rX7_family_b187_s (rX7_family_b187 n) x2 x3 M = some M' := h
    unfold rX7_family_b187_s at h
    have hx := X.1.1
    have hb := X.1.2.1
    refine lv_iload_n hx hb dX7_family_187 rfl (lv_at hl 2 rfl) ?_
    refine lv_bipush (v := 8) hx hb dX7_family_188 (by decide) ?_
    refine lv_icmp_ge (tgt := 209) hx hb dX7_family_190 (by decide) (fun c13 => ?_) (fun c13 => ?_)
    · have h := ob_pos c13 h
      refine lv_aload_n hx hb dX7_family_209 rfl (lv_at hl 0 rfl) ?_
      refine lv_iconst (v := 0) hx hb dX7_family_210 (by decide) ?_
      obtain ⟨M15, e14, h⟩ := ob_bind h
      refine bg_callv X hW (cX7_lay_k e14) rfl rfl kw7_83 kd_X7_lay rfl rfl ⟨Nat.le_of_ble_eq_true rfl, Nat.le_of_ble_eq_true rfl⟩ ⟨Nat.le_refl _, Nat.le_refl _⟩ hl.1 (Nat.le_of_ble_eq_true rfl) dX7_family_211 (fun H locs hW => ?_)
      refine lv_iconst (v := 0) hx hb dX7_family_214 (by decide) ?_
      refine lv_istore_n (lv' := [(3, .int (0 : Int32)), (0, .ref (G.2.2.2 31)), (2, .int x2)]) hx hb dX7_family_215 rfl hl (by decide) rfl (fun ls hl => ?_)
      exact sX7_family_b216 X FU x2 (0 : Int32) M15 _ _ _ (lv_sub hl [1, 2, 0] rfl) hW h
    · have h := ob_neg c13 h
      refine lv_aload_n hx hb dX7_family_193 rfl (lv_at hl 0 rfl) ?_
      refine lv_aload_n hx hb dX7_family_194 rfl (lv_at hl 0 rfl) ?_
      refine lv_bipush (v := 8) hx hb dX7_family_195 (by decide) ?_
      obtain ⟨r22, M21, e20, h⟩ := ob_bd2 h
      refine bg_calli X hW (cX7_draws_k e20) rfl rfl kw7_99 kd_X7_draws rfl rfl ⟨Nat.le_of_ble_eq_true rfl, Nat.le_of_ble_eq_true rfl⟩ ⟨Nat.le_refl _, Nat.le_refl _⟩ hl.1 (Nat.le_of_ble_eq_true rfl) dX7_family_197 (fun H locs hW => ?_)
      obtain ⟨M24, e23, h⟩ := ob_bind h
      refine bg_callv X hW (cX7_lay_k e23) rfl rfl kw7_83 kd_X7_lay rfl rfl ⟨Nat.le_of_ble_eq_true rfl, Nat.le_of_ble_eq_true rfl⟩ ⟨Nat.le_refl _, Nat.le_refl _⟩ hl.1 (Nat.le_of_ble_eq_true rfl) dX7_family_200 (fun H locs hW => ?_)
      obtain ⟨y25, ey25⟩ : ∃ y : Int32, y = (x3 + 1) := ⟨_, rfl⟩
      have h := ob_lt ey25 h
      refine lv_iinc (v := y25) (lv' := [(3, .int y25), (0, .ref (G.2.2.2 31)), (2, .int x2)]) hx hb dX7_family_203 hl (k := 2) rfl (by rw [ey25]; rfl) (by decide) rfl (fun ls hl => ?_)
      refine lv_goto (tgt := 187) hx hb dX7_family_206 (by decide) ?_
      exact hq187 x2 y25 M24 _ _ _ (lv_sub hl [1, 2, 0] rfl) hW h
def rX7_family_b168_s (q168 : Int32 → Int32 → Mm → Option Mm) (x2 : Int32) (x3 : Int32) (M : Mm) : Option Mm :=
    (if (8 : Int32) ≤ x3 then (rX7_family_b187 FU x2 (0 : Int32) M) else (Option.bind (rX7_lay x3 M) fun M27 => lt_ (x3 + 1) fun y28 => q168 x2 y28 M27))
def rX7_family_b168 : Nat → Int32 → Int32 → Mm → Option Mm
  | 0 => fun _ _ _ => none
  | n + 1 => rX7_family_b168_s (rX7_family_b168 n)
set_option maxRecDepth 100000 in
set_option maxHeartbeats 4000000 in
theorem sX7_family_b168 {p : Program} {l : Launch} {e : Env} {s : State} {m : MethodId} {args : Array Value} {below : List Frame} {meth : Method} {c : Code} {G : Gg} {M' : Mm} (X : Cx p m c meth cX7_family 4 s args RX7 none G) : ∀ (n : Nat), ∀ (x2 : Int32) (x3 : Int32) (M : Mm) (ls : Array Slot) (H : Heap) (locs : List Loc), lv_has ls 4 [(0, .ref (G.2.2.2 31)), (2, .int x2), (3, .int x3)] → Wo G s M H locs → rX7_family_b168 n x2 x3 M = some M' → W p l e (rm 4) s m args below meth c H locs 0 0 (Qv below args s G M') (F0 m 168 ls []) := by
  intro n
  induction n with
  | zero =>
    intro x2 x3 M ls H locs hl hW h
    cases (show (none : Option Mm) = some M' from h)
  | succ n hq1680 =>
    have hq168 : ∀ (x2 : Int32) (x3 : Int32) (M : Mm) (ls : Array Slot) (H : Heap) (locs : List Loc), lv_has ls 4 [(0, .ref (G.2.2.2 31)), (2, .int x2), (3, .int x3)] → Wo G s M H locs → (rX7_family_b168 n) x2 x3 M = some M' → W p l e (rm 4) s m args below meth c H locs 0 0 (Qv below args s G M') (F0 m 168 ls []) := hq1680
    intro x2 x3 M ls H locs hl hW h
    have h : rX7_family_b168_s (rX7_family_b168 n) x2 x3 M = some M' := h
    unfold rX7_family_b168_s at h
    have hx := X.1.1
    have hb := X.1.2.1
    refine lv_iload_n hx hb dX7_family_168 rfl (lv_at hl 2 rfl) ?_
    refine lv_bipush (v := 8) hx hb dX7_family_169 (by decide) ?_
    refine lv_icmp_ge (tgt := 185) hx hb dX7_family_171 (by decide) (fun c12 => ?_) (fun c12 => ?_)
    · have h := ob_pos c12 h
      refine lv_iconst (v := 0) hx hb dX7_family_185 (by decide) ?_
      refine lv_istore_n (lv' := [(3, .int (0 : Int32)), (0, .ref (G.2.2.2 31)), (2, .int x2)]) hx hb dX7_family_186 rfl hl (by decide) rfl (fun ls hl => ?_)
      exact sX7_family_b187 X FU x2 (0 : Int32) M _ _ _ (lv_sub hl [1, 2, 0] rfl) hW h
    · have h := ob_neg c12 h
      refine lv_aload_n hx hb dX7_family_174 rfl (lv_at hl 0 rfl) ?_
      refine lv_iload_n hx hb dX7_family_175 rfl (lv_at hl 2 rfl) ?_
      obtain ⟨M27, e26, h⟩ := ob_bind h
      refine bg_callv X hW (cX7_lay_k e26) rfl rfl kw7_83 kd_X7_lay rfl rfl ⟨Nat.le_of_ble_eq_true rfl, Nat.le_of_ble_eq_true rfl⟩ ⟨Nat.le_refl _, Nat.le_refl _⟩ hl.1 (Nat.le_of_ble_eq_true rfl) dX7_family_176 (fun H locs hW => ?_)
      obtain ⟨y28, ey28⟩ : ∃ y : Int32, y = (x3 + 1) := ⟨_, rfl⟩
      have h := ob_lt ey28 h
      refine lv_iinc (v := y28) (lv' := [(3, .int y28), (0, .ref (G.2.2.2 31)), (2, .int x2)]) hx hb dX7_family_179 hl (k := 2) rfl (by rw [ey28]; rfl) (by decide) rfl (fun ls hl => ?_)
      refine lv_goto (tgt := 168) hx hb dX7_family_182 (by decide) ?_
      exact hq168 x2 y28 M27 _ _ _ (lv_sub hl [1, 2, 0] rfl) hW h
def rX7_family_b131_s (q131 : Int32 → Int32 → Mm → Option Mm) (x2 : Int32) (x3 : Int32) (M : Mm) : Option Mm :=
    (if x2 ≤ x3 then (some M) else (Option.bind (rX7_lays (6 : Int32) x3 M) fun M38 => lt_ (x3 + 1) fun y39 => q131 x2 y39 M38))
def rX7_family_b131 : Nat → Int32 → Int32 → Mm → Option Mm
  | 0 => fun _ _ _ => none
  | n + 1 => rX7_family_b131_s (rX7_family_b131 n)
set_option maxRecDepth 100000 in
set_option maxHeartbeats 4000000 in
theorem sX7_family_b131 {p : Program} {l : Launch} {e : Env} {s : State} {m : MethodId} {args : Array Value} {below : List Frame} {meth : Method} {c : Code} {G : Gg} {M' : Mm} (X : Cx p m c meth cX7_family 4 s args RX7 none G) : ∀ (n : Nat), ∀ (x2 : Int32) (x3 : Int32) (M : Mm) (ls : Array Slot) (H : Heap) (locs : List Loc), lv_has ls 4 [(0, .ref (G.2.2.2 31)), (2, .int x2), (3, .int x3)] → Wo G s M H locs → rX7_family_b131 n x2 x3 M = some M' → W p l e (rm 4) s m args below meth c H locs 0 0 (Qv below args s G M') (F0 m 131 ls []) := by
  intro n
  induction n with
  | zero =>
    intro x2 x3 M ls H locs hl hW h
    cases (show (none : Option Mm) = some M' from h)
  | succ n hq1310 =>
    have hq131 : ∀ (x2 : Int32) (x3 : Int32) (M : Mm) (ls : Array Slot) (H : Heap) (locs : List Loc), lv_has ls 4 [(0, .ref (G.2.2.2 31)), (2, .int x2), (3, .int x3)] → Wo G s M H locs → (rX7_family_b131 n) x2 x3 M = some M' → W p l e (rm 4) s m args below meth c H locs 0 0 (Qv below args s G M') (F0 m 131 ls []) := hq1310
    intro x2 x3 M ls H locs hl hW h
    have h : rX7_family_b131_s (rX7_family_b131 n) x2 x3 M = some M' := h
    unfold rX7_family_b131_s at h
    have hx := X.1.1
    have hb := X.1.2.1
    refine lv_iload_n hx hb dX7_family_131 rfl (lv_at hl 2 rfl) ?_
    refine lv_iload_n hx hb dX7_family_132 rfl (lv_at hl 1 rfl) ?_
    refine lv_icmp_ge (tgt := 149) hx hb dX7_family_133 (by decide) (fun c36 => ?_) (fun c36 => ?_)
    · have h := ob_pos c36 h
      refine lv_goto (tgt := 254) hx hb dX7_family_149 (by decide) ?_
      exact rt_v X hW h dX7_family_254
    · have h := ob_neg c36 h
      refine lv_aload_n hx hb dX7_family_136 rfl (lv_at hl 0 rfl) ?_
      refine lv_bipush (v := 6) hx hb dX7_family_137 (by decide) ?_
      refine lv_iload_n hx hb dX7_family_139 rfl (lv_at hl 2 rfl) ?_
      obtain ⟨M38, e37, h⟩ := ob_bind h
      refine bg_callv X hW (cX7_lays_k e37) rfl rfl kw7_95 kd_X7_lays rfl rfl ⟨Nat.le_of_ble_eq_true rfl, Nat.le_of_ble_eq_true rfl⟩ ⟨Nat.le_refl _, Nat.le_refl _⟩ hl.1 (Nat.le_of_ble_eq_true rfl) dX7_family_140 (fun H locs hW => ?_)
      obtain ⟨y39, ey39⟩ : ∃ y : Int32, y = (x3 + 1) := ⟨_, rfl⟩
      have h := ob_lt ey39 h
      refine lv_iinc (v := y39) (lv' := [(3, .int y39), (0, .ref (G.2.2.2 31)), (2, .int x2)]) hx hb dX7_family_143 hl (k := 2) rfl (by rw [ey39]; rfl) (by decide) rfl (fun ls hl => ?_)
      refine lv_goto (tgt := 131) hx hb dX7_family_146 (by decide) ?_
      exact hq131 x2 y39 M38 _ _ _ (lv_sub hl [1, 2, 0] rfl) hW h
def rX7_family_b87_s (q87 : Int32 → Int32 → Mm → Option Mm) (x2 : Int32) (x3 : Int32) (M : Mm) : Option Mm :=
    (if x2 ≤ x3 then (some M) else (Option.bind (rX7_lays (5 : Int32) (0 : Int32) M) fun M42 => lt_ (x3 + 1) fun y43 => q87 x2 y43 M42))
def rX7_family_b87 : Nat → Int32 → Int32 → Mm → Option Mm
  | 0 => fun _ _ _ => none
  | n + 1 => rX7_family_b87_s (rX7_family_b87 n)
set_option maxRecDepth 100000 in
set_option maxHeartbeats 4000000 in
theorem sX7_family_b87 {p : Program} {l : Launch} {e : Env} {s : State} {m : MethodId} {args : Array Value} {below : List Frame} {meth : Method} {c : Code} {G : Gg} {M' : Mm} (X : Cx p m c meth cX7_family 4 s args RX7 none G) : ∀ (n : Nat), ∀ (x2 : Int32) (x3 : Int32) (M : Mm) (ls : Array Slot) (H : Heap) (locs : List Loc), lv_has ls 4 [(0, .ref (G.2.2.2 31)), (2, .int x2), (3, .int x3)] → Wo G s M H locs → rX7_family_b87 n x2 x3 M = some M' → W p l e (rm 4) s m args below meth c H locs 0 0 (Qv below args s G M') (F0 m 87 ls []) := by
  intro n
  induction n with
  | zero =>
    intro x2 x3 M ls H locs hl hW h
    cases (show (none : Option Mm) = some M' from h)
  | succ n hq870 =>
    have hq87 : ∀ (x2 : Int32) (x3 : Int32) (M : Mm) (ls : Array Slot) (H : Heap) (locs : List Loc), lv_has ls 4 [(0, .ref (G.2.2.2 31)), (2, .int x2), (3, .int x3)] → Wo G s M H locs → (rX7_family_b87 n) x2 x3 M = some M' → W p l e (rm 4) s m args below meth c H locs 0 0 (Qv below args s G M') (F0 m 87 ls []) := hq870
    intro x2 x3 M ls H locs hl hW h
    have h : rX7_family_b87_s (rX7_family_b87 n) x2 x3 M = some M' := h
    unfold rX7_family_b87_s at h
    have hx := X.1.1
    have hb := X.1.2.1
    refine lv_iload_n hx hb dX7_family_87 rfl (lv_at hl 2 rfl) ?_
    refine lv_iload_n hx hb dX7_family_88 rfl (lv_at hl 1 rfl) ?_
    refine lv_icmp_ge (tgt := 104) hx hb dX7_family_89 (by decide) (fun c40 => ?_) (fun c40 => ?_)
    · have h := ob_pos c40 h
      refine lv_goto (tgt := 254) hx hb dX7_family_104 (by decide) ?_
      exact rt_v X hW h dX7_family_254
    · have h := ob_neg c40 h
      refine lv_aload_n hx hb dX7_family_92 rfl (lv_at hl 0 rfl) ?_
      refine lv_iconst (v := 5) hx hb dX7_family_93 (by decide) ?_
      refine lv_iconst (v := 0) hx hb dX7_family_94 (by decide) ?_
      obtain ⟨M42, e41, h⟩ := ob_bind h
      refine bg_callv X hW (cX7_lays_k e41) rfl rfl kw7_95 kd_X7_lays rfl rfl ⟨Nat.le_of_ble_eq_true rfl, Nat.le_of_ble_eq_true rfl⟩ ⟨Nat.le_refl _, Nat.le_refl _⟩ hl.1 (Nat.le_of_ble_eq_true rfl) dX7_family_95 (fun H locs hW => ?_)
      obtain ⟨y43, ey43⟩ : ∃ y : Int32, y = (x3 + 1) := ⟨_, rfl⟩
      have h := ob_lt ey43 h
      refine lv_iinc (v := y43) (lv' := [(3, .int y43), (0, .ref (G.2.2.2 31)), (2, .int x2)]) hx hb dX7_family_98 hl (k := 2) rfl (by rw [ey43]; rfl) (by decide) rfl (fun ls hl => ?_)
      refine lv_goto (tgt := 87) hx hb dX7_family_101 (by decide) ?_
      exact hq87 x2 y43 M42 _ _ _ (lv_sub hl [1, 2, 0] rfl) hW h
def rX7_family_b53_s (q53 : Int32 → Int32 → Mm → Option Mm) (x2 : Int32) (x3 : Int32) (M : Mm) : Option Mm :=
    (if x2 ≤ x3 then (some M) else (Option.bind (rX7_lays (3 : Int32) (1 : Int32) M) fun M48 => Option.bind (rX7_lay (255 : Int32) M48) fun M50 => lt_ (x3 + 1) fun y51 => q53 x2 y51 M50))
def rX7_family_b53 : Nat → Int32 → Int32 → Mm → Option Mm
  | 0 => fun _ _ _ => none
  | n + 1 => rX7_family_b53_s (rX7_family_b53 n)
set_option maxRecDepth 100000 in
set_option maxHeartbeats 4000000 in
theorem sX7_family_b53 {p : Program} {l : Launch} {e : Env} {s : State} {m : MethodId} {args : Array Value} {below : List Frame} {meth : Method} {c : Code} {G : Gg} {M' : Mm} (X : Cx p m c meth cX7_family 4 s args RX7 none G) : ∀ (n : Nat), ∀ (x2 : Int32) (x3 : Int32) (M : Mm) (ls : Array Slot) (H : Heap) (locs : List Loc), lv_has ls 4 [(0, .ref (G.2.2.2 31)), (2, .int x2), (3, .int x3)] → Wo G s M H locs → rX7_family_b53 n x2 x3 M = some M' → W p l e (rm 4) s m args below meth c H locs 0 0 (Qv below args s G M') (F0 m 53 ls []) := by
  intro n
  induction n with
  | zero =>
    intro x2 x3 M ls H locs hl hW h
    cases (show (none : Option Mm) = some M' from h)
  | succ n hq530 =>
    have hq53 : ∀ (x2 : Int32) (x3 : Int32) (M : Mm) (ls : Array Slot) (H : Heap) (locs : List Loc), lv_has ls 4 [(0, .ref (G.2.2.2 31)), (2, .int x2), (3, .int x3)] → Wo G s M H locs → (rX7_family_b53 n) x2 x3 M = some M' → W p l e (rm 4) s m args below meth c H locs 0 0 (Qv below args s G M') (F0 m 53 ls []) := hq530
    intro x2 x3 M ls H locs hl hW h
    have h : rX7_family_b53_s (rX7_family_b53 n) x2 x3 M = some M' := h
    unfold rX7_family_b53_s at h
    have hx := X.1.1
    have hb := X.1.2.1
    refine lv_iload_n hx hb dX7_family_53 rfl (lv_at hl 2 rfl) ?_
    refine lv_iload_n hx hb dX7_family_54 rfl (lv_at hl 1 rfl) ?_
    refine lv_icmp_ge (tgt := 77) hx hb dX7_family_55 (by decide) (fun c46 => ?_) (fun c46 => ?_)
    · have h := ob_pos c46 h
      refine lv_goto (tgt := 254) hx hb dX7_family_77 (by decide) ?_
      exact rt_v X hW h dX7_family_254
    · have h := ob_neg c46 h
      refine lv_aload_n hx hb dX7_family_58 rfl (lv_at hl 0 rfl) ?_
      refine lv_iconst (v := 3) hx hb dX7_family_59 (by decide) ?_
      refine lv_iconst (v := 1) hx hb dX7_family_60 (by decide) ?_
      obtain ⟨M48, e47, h⟩ := ob_bind h
      refine bg_callv X hW (cX7_lays_k e47) rfl rfl kw7_95 kd_X7_lays rfl rfl ⟨Nat.le_of_ble_eq_true rfl, Nat.le_of_ble_eq_true rfl⟩ ⟨Nat.le_refl _, Nat.le_refl _⟩ hl.1 (Nat.le_of_ble_eq_true rfl) dX7_family_61 (fun H locs hW => ?_)
      refine lv_aload_n hx hb dX7_family_64 rfl (lv_at hl 0 rfl) ?_
      refine lv_sipush (v := 255) hx hb dX7_family_65 (by decide) ?_
      obtain ⟨M50, e49, h⟩ := ob_bind h
      refine bg_callv X hW (cX7_lay_k e49) rfl rfl kw7_83 kd_X7_lay rfl rfl ⟨Nat.le_of_ble_eq_true rfl, Nat.le_of_ble_eq_true rfl⟩ ⟨Nat.le_refl _, Nat.le_refl _⟩ hl.1 (Nat.le_of_ble_eq_true rfl) dX7_family_68 (fun H locs hW => ?_)
      obtain ⟨y51, ey51⟩ : ∃ y : Int32, y = (x3 + 1) := ⟨_, rfl⟩
      have h := ob_lt ey51 h
      refine lv_iinc (v := y51) (lv' := [(3, .int y51), (0, .ref (G.2.2.2 31)), (2, .int x2)]) hx hb dX7_family_71 hl (k := 2) rfl (by rw [ey51]; rfl) (by decide) rfl (fun ls hl => ?_)
      refine lv_goto (tgt := 53) hx hb dX7_family_74 (by decide) ?_
      exact hq53 x2 y51 M50 _ _ _ (lv_sub hl [1, 2, 0] rfl) hW h
def rX7_family_b7_s (q7 : Int32 → Int32 → Mm → Option Mm) (x2 : Int32) (x3 : Int32) (M : Mm) : Option Mm :=
    (if x2 ≤ x3 then (some M) else (Option.bind (rX7_lays (2 : Int32) (255 : Int32) M) fun M54 => bd2 (rX7_draws (256 : Int32) M54) fun r57 M56 => Option.bind (rX7_lay r57 M56) fun M59 => lt_ (x3 + 1) fun y60 => q7 x2 y60 M59))
def rX7_family_b7 : Nat → Int32 → Int32 → Mm → Option Mm
  | 0 => fun _ _ _ => none
  | n + 1 => rX7_family_b7_s (rX7_family_b7 n)
set_option maxRecDepth 100000 in
set_option maxHeartbeats 4000000 in
theorem sX7_family_b7 {p : Program} {l : Launch} {e : Env} {s : State} {m : MethodId} {args : Array Value} {below : List Frame} {meth : Method} {c : Code} {G : Gg} {M' : Mm} (X : Cx p m c meth cX7_family 4 s args RX7 none G) : ∀ (n : Nat), ∀ (x2 : Int32) (x3 : Int32) (M : Mm) (ls : Array Slot) (H : Heap) (locs : List Loc), lv_has ls 4 [(0, .ref (G.2.2.2 31)), (2, .int x2), (3, .int x3)] → Wo G s M H locs → rX7_family_b7 n x2 x3 M = some M' → W p l e (rm 4) s m args below meth c H locs 0 0 (Qv below args s G M') (F0 m 7 ls []) := by
  intro n
  induction n with
  | zero =>
    intro x2 x3 M ls H locs hl hW h
    cases (show (none : Option Mm) = some M' from h)
  | succ n hq70 =>
    have hq7 : ∀ (x2 : Int32) (x3 : Int32) (M : Mm) (ls : Array Slot) (H : Heap) (locs : List Loc), lv_has ls 4 [(0, .ref (G.2.2.2 31)), (2, .int x2), (3, .int x3)] → Wo G s M H locs → (rX7_family_b7 n) x2 x3 M = some M' → W p l e (rm 4) s m args below meth c H locs 0 0 (Qv below args s G M') (F0 m 7 ls []) := hq70
    intro x2 x3 M ls H locs hl hW h
    have h : rX7_family_b7_s (rX7_family_b7 n) x2 x3 M = some M' := h
    unfold rX7_family_b7_s at h
    have hx := X.1.1
    have hb := X.1.2.1
    refine lv_iload_n hx hb dX7_family_7 rfl (lv_at hl 2 rfl) ?_
    refine lv_iload_n hx hb dX7_family_8 rfl (lv_at hl 1 rfl) ?_
    refine lv_icmp_ge (tgt := 37) hx hb dX7_family_9 (by decide) (fun c52 => ?_) (fun c52 => ?_)
    · have h := ob_pos c52 h
      refine lv_goto (tgt := 254) hx hb dX7_family_37 (by decide) ?_
      exact rt_v X hW h dX7_family_254
    · have h := ob_neg c52 h
      refine lv_aload_n hx hb dX7_family_12 rfl (lv_at hl 0 rfl) ?_
      refine lv_iconst (v := 2) hx hb dX7_family_13 (by decide) ?_
      refine lv_sipush (v := 255) hx hb dX7_family_14 (by decide) ?_
      obtain ⟨M54, e53, h⟩ := ob_bind h
      refine bg_callv X hW (cX7_lays_k e53) rfl rfl kw7_95 kd_X7_lays rfl rfl ⟨Nat.le_of_ble_eq_true rfl, Nat.le_of_ble_eq_true rfl⟩ ⟨Nat.le_refl _, Nat.le_refl _⟩ hl.1 (Nat.le_of_ble_eq_true rfl) dX7_family_17 (fun H locs hW => ?_)
      refine lv_aload_n hx hb dX7_family_20 rfl (lv_at hl 0 rfl) ?_
      refine lv_aload_n hx hb dX7_family_21 rfl (lv_at hl 0 rfl) ?_
      refine lv_sipush (v := 256) hx hb dX7_family_22 (by decide) ?_
      obtain ⟨r57, M56, e55, h⟩ := ob_bd2 h
      refine bg_calli X hW (cX7_draws_k e55) rfl rfl kw7_99 kd_X7_draws rfl rfl ⟨Nat.le_of_ble_eq_true rfl, Nat.le_of_ble_eq_true rfl⟩ ⟨Nat.le_refl _, Nat.le_refl _⟩ hl.1 (Nat.le_of_ble_eq_true rfl) dX7_family_25 (fun H locs hW => ?_)
      obtain ⟨M59, e58, h⟩ := ob_bind h
      refine bg_callv X hW (cX7_lay_k e58) rfl rfl kw7_83 kd_X7_lay rfl rfl ⟨Nat.le_of_ble_eq_true rfl, Nat.le_of_ble_eq_true rfl⟩ ⟨Nat.le_refl _, Nat.le_refl _⟩ hl.1 (Nat.le_of_ble_eq_true rfl) dX7_family_28 (fun H locs hW => ?_)
      obtain ⟨y60, ey60⟩ : ∃ y : Int32, y = (x3 + 1) := ⟨_, rfl⟩
      have h := ob_lt ey60 h
      refine lv_iinc (v := y60) (lv' := [(3, .int y60), (0, .ref (G.2.2.2 31)), (2, .int x2)]) hx hb dX7_family_31 hl (k := 2) rfl (by rw [ey60]; rfl) (by decide) rfl (fun ls hl => ?_)
      refine lv_goto (tgt := 7) hx hb dX7_family_34 (by decide) ?_
      exact hq7 x2 y60 M59 _ _ _ (lv_sub hl [1, 2, 0] rfl) hW h
def rX7_family (a1 : Int32) (a2 : Int32) (M : Mm) : Option Mm :=
    (if a1 = (1 : Int32) then (rX7_family_b7 FU a2 (0 : Int32) M) else (if a1 = (2 : Int32) then (Option.bind (rX7_some (1 : Int32) (1 : Int32) M) fun M45 => rX7_family_b53 FU a2 (0 : Int32) M45) else (if a1 = (4 : Int32) then (rX7_family_b87 FU a2 (0 : Int32) M) else (if a1 = (5 : Int32) then (Option.bind (rX7_lays (2 : Int32) (1 : Int32) M) fun M30 => bd2 (rX7_draws (256 : Int32) M30) fun r33 M32 => Option.bind (rX7_lay r33 M32) fun M35 => rX7_family_b131 FU a2 (0 : Int32) M35) else (if a1 = (6 : Int32) then (Option.bind (rX7_lays (7 : Int32) (8 : Int32) M) fun M11 => rX7_family_b168 FU a2 (0 : Int32) M11) else (rX7_family_b238 FU a2 (0 : Int32) M))))))
set_option maxRecDepth 100000 in
set_option maxHeartbeats 4000000 in
theorem cX7_family_k {l : Launch} {G : Gg} {a1 : Int32} {a2 : Int32} {M M' : Mm} (h : rX7_family a1 a2 M = some M') : CTv l yX7_family cX7_family 4 4 G [.ref (G.2.2.2 31), .int a1, .int a2] M M' := by
  unfold rX7_family at h
  refine ct_v (by decide) (Nat.le_of_ble_eq_true rfl) (fun p e s m below meth c ls X hl hW => ?_)
  have hx := X.1.1
  have hb := X.1.2.1
  refine lv_iload_n hx hb dX7_family_0 rfl (lv_at hl 1 rfl) ?_
  refine lv_iconst (v := 1) hx hb dX7_family_1 (by decide) ?_
  refine lv_icmp_ne (tgt := 40) hx hb dX7_family_2 (by decide) (fun c1 => ?_) (fun c1 => ?_)
  · have h := ob_neg c1 h
    refine lv_iload_n hx hb dX7_family_40 rfl (lv_at hl 1 rfl) ?_
    refine lv_iconst (v := 2) hx hb dX7_family_41 (by decide) ?_
    refine lv_icmp_ne (tgt := 80) hx hb dX7_family_42 (by decide) (fun c2 => ?_) (fun c2 => ?_)
    · have h := ob_neg c2 h
      refine lv_iload_n hx hb dX7_family_80 rfl (lv_at hl 1 rfl) ?_
      refine lv_iconst (v := 4) hx hb dX7_family_81 (by decide) ?_
      refine lv_icmp_ne (tgt := 107) hx hb dX7_family_82 (by decide) (fun c3 => ?_) (fun c3 => ?_)
      · have h := ob_neg c3 h
        refine lv_iload_n hx hb dX7_family_107 rfl (lv_at hl 1 rfl) ?_
        refine lv_iconst (v := 5) hx hb dX7_family_108 (by decide) ?_
        refine lv_icmp_ne (tgt := 152) hx hb dX7_family_109 (by decide) (fun c4 => ?_) (fun c4 => ?_)
        · have h := ob_neg c4 h
          refine lv_iload_n hx hb dX7_family_152 rfl (lv_at hl 1 rfl) ?_
          refine lv_bipush (v := 6) hx hb dX7_family_153 (by decide) ?_
          refine lv_icmp_ne (tgt := 236) hx hb dX7_family_155 (by decide) (fun c5 => ?_) (fun c5 => ?_)
          · have h := ob_neg c5 h
            refine lv_iconst (v := 0) hx hb dX7_family_236 (by decide) ?_
            refine lv_istore_n (lv' := [(3, .int (0 : Int32)), (0, .ref (G.2.2.2 31)), (1, .int a1), (2, .int a2)]) hx hb dX7_family_237 rfl hl (by decide) rfl (fun ls hl => ?_)
            exact sX7_family_b238 X FU a2 (0 : Int32) M _ _ _ (lv_sub hl [1, 3, 0] rfl) hW h
          · have h := ob_pos c5 h
            refine lv_aload_n hx hb dX7_family_158 rfl (lv_at hl 0 rfl) ?_
            refine lv_bipush (v := 7) hx hb dX7_family_159 (by decide) ?_
            refine lv_bipush (v := 8) hx hb dX7_family_161 (by decide) ?_
            obtain ⟨M11, e10, h⟩ := ob_bind h
            refine bg_callv X hW (cX7_lays_k e10) rfl rfl kw7_95 kd_X7_lays rfl rfl ⟨Nat.le_of_ble_eq_true rfl, Nat.le_of_ble_eq_true rfl⟩ ⟨Nat.le_refl _, Nat.le_refl _⟩ hl.1 (Nat.le_of_ble_eq_true rfl) dX7_family_163 (fun H locs hW => ?_)
            refine lv_iconst (v := 0) hx hb dX7_family_166 (by decide) ?_
            refine lv_istore_n (lv' := [(3, .int (0 : Int32)), (0, .ref (G.2.2.2 31)), (1, .int a1), (2, .int a2)]) hx hb dX7_family_167 rfl hl (by decide) rfl (fun ls hl => ?_)
            exact sX7_family_b168 X FU a2 (0 : Int32) M11 _ _ _ (lv_sub hl [1, 3, 0] rfl) hW h
        · have h := ob_pos c4 h
          refine lv_aload_n hx hb dX7_family_112 rfl (lv_at hl 0 rfl) ?_
          refine lv_iconst (v := 2) hx hb dX7_family_113 (by decide) ?_
          refine lv_iconst (v := 1) hx hb dX7_family_114 (by decide) ?_
          obtain ⟨M30, e29, h⟩ := ob_bind h
          refine bg_callv X hW (cX7_lays_k e29) rfl rfl kw7_95 kd_X7_lays rfl rfl ⟨Nat.le_of_ble_eq_true rfl, Nat.le_of_ble_eq_true rfl⟩ ⟨Nat.le_refl _, Nat.le_refl _⟩ hl.1 (Nat.le_of_ble_eq_true rfl) dX7_family_115 (fun H locs hW => ?_)
          refine lv_aload_n hx hb dX7_family_118 rfl (lv_at hl 0 rfl) ?_
          refine lv_aload_n hx hb dX7_family_119 rfl (lv_at hl 0 rfl) ?_
          refine lv_sipush (v := 256) hx hb dX7_family_120 (by decide) ?_
          obtain ⟨r33, M32, e31, h⟩ := ob_bd2 h
          refine bg_calli X hW (cX7_draws_k e31) rfl rfl kw7_99 kd_X7_draws rfl rfl ⟨Nat.le_of_ble_eq_true rfl, Nat.le_of_ble_eq_true rfl⟩ ⟨Nat.le_refl _, Nat.le_refl _⟩ hl.1 (Nat.le_of_ble_eq_true rfl) dX7_family_123 (fun H locs hW => ?_)
          obtain ⟨M35, e34, h⟩ := ob_bind h
          refine bg_callv X hW (cX7_lay_k e34) rfl rfl kw7_83 kd_X7_lay rfl rfl ⟨Nat.le_of_ble_eq_true rfl, Nat.le_of_ble_eq_true rfl⟩ ⟨Nat.le_refl _, Nat.le_refl _⟩ hl.1 (Nat.le_of_ble_eq_true rfl) dX7_family_126 (fun H locs hW => ?_)
          refine lv_iconst (v := 0) hx hb dX7_family_129 (by decide) ?_
          refine lv_istore_n (lv' := [(3, .int (0 : Int32)), (0, .ref (G.2.2.2 31)), (1, .int a1), (2, .int a2)]) hx hb dX7_family_130 rfl hl (by decide) rfl (fun ls hl => ?_)
          exact sX7_family_b131 X FU a2 (0 : Int32) M35 _ _ _ (lv_sub hl [1, 3, 0] rfl) hW h
      · have h := ob_pos c3 h
        refine lv_iconst (v := 0) hx hb dX7_family_85 (by decide) ?_
        refine lv_istore_n (lv' := [(3, .int (0 : Int32)), (0, .ref (G.2.2.2 31)), (1, .int a1), (2, .int a2)]) hx hb dX7_family_86 rfl hl (by decide) rfl (fun ls hl => ?_)
        exact sX7_family_b87 X FU a2 (0 : Int32) M _ _ _ (lv_sub hl [1, 3, 0] rfl) hW h
    · have h := ob_pos c2 h
      refine lv_aload_n hx hb dX7_family_45 rfl (lv_at hl 0 rfl) ?_
      refine lv_iconst (v := 1) hx hb dX7_family_46 (by decide) ?_
      refine lv_iconst (v := 1) hx hb dX7_family_47 (by decide) ?_
      obtain ⟨M45, e44, h⟩ := ob_bind h
      refine bg_callv X hW (cX7_some_k e44) rfl rfl kw7_103 kd_X7_some rfl rfl ⟨Nat.le_of_ble_eq_true rfl, Nat.le_of_ble_eq_true rfl⟩ ⟨Nat.le_refl _, Nat.le_refl _⟩ hl.1 (Nat.le_of_ble_eq_true rfl) dX7_family_48 (fun H locs hW => ?_)
      refine lv_iconst (v := 0) hx hb dX7_family_51 (by decide) ?_
      refine lv_istore_n (lv' := [(3, .int (0 : Int32)), (0, .ref (G.2.2.2 31)), (1, .int a1), (2, .int a2)]) hx hb dX7_family_52 rfl hl (by decide) rfl (fun ls hl => ?_)
      exact sX7_family_b53 X FU a2 (0 : Int32) M45 _ _ _ (lv_sub hl [1, 3, 0] rfl) hW h
  · have h := ob_pos c1 h
    refine lv_iconst (v := 0) hx hb dX7_family_5 (by decide) ?_
    refine lv_istore_n (lv' := [(3, .int (0 : Int32)), (0, .ref (G.2.2.2 31)), (1, .int a1), (2, .int a2)]) hx hb dX7_family_6 rfl hl (by decide) rfl (fun ls hl => ?_)
    exact sX7_family_b7 X FU a2 (0 : Int32) M _ _ _ (lv_sub hl [1, 3, 0] rfl) hW h
