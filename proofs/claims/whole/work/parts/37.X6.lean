def rX6_feed_b37_s (q37 : Int64 → Int32 → Mm → Option (Int32 × Mm)) (x2 : Int64) (x4 : Int32) (M : Mm) : Option (Int32 × Mm) :=
    (if x4 < 0 then (some ((M.1 1 1), M)) else (Option.bind (rX0_append 1 1200 1200 ((((x2).toUInt64 >>> ((((8 : Int32) * x4)).toInt64.toUInt64 &&& Int64.toUInt64 63)).toInt64).toInt32 &&& (255 : Int32)) M) fun M7 => lt_ (x4 + (-1)) fun y8 => q37 x2 y8 M7))
def rX6_feed_b37 : Nat → Int64 → Int32 → Mm → Option (Int32 × Mm)
  | 0 => fun _ _ _ => none
  | n + 1 => rX6_feed_b37_s (rX6_feed_b37 n)
set_option maxRecDepth 100000 in
set_option maxHeartbeats 4000000 in
theorem sX6_feed_b37 {p : Program} {l : Launch} {e : Env} {s : State} {m : MethodId} {args : Array Value} {below : List Frame} {meth : Method} {c : Code} {G : Gg} {r : Int32} {M' : Mm} (X : Cx p m c meth cX6_feed 5 s args RX6 (some .int) G) : ∀ (n : Nat), ∀ (x2 : Int64) (x4 : Int32) (M : Mm) (ls : Array Slot) (H : Heap) (locs : List Loc), lv_has ls 5 [(0, .ref (G.2.2.2 0)), (2, .long x2), (4, .int x4)] → Wo G s M H locs → rX6_feed_b37 n x2 x4 M = some (r, M') → W p l e (rm 1) s m args below meth c H locs 0 0 (Qi below args s G r M') (F0 m 37 ls []) := by
  intro n
  induction n with
  | zero =>
    intro x2 x4 M ls H locs hl hW h
    cases (show (none : Option (Int32 × Mm)) = some (r, M') from h)
  | succ n hq370 =>
    have hq37 : ∀ (x2 : Int64) (x4 : Int32) (M : Mm) (ls : Array Slot) (H : Heap) (locs : List Loc), lv_has ls 5 [(0, .ref (G.2.2.2 0)), (2, .long x2), (4, .int x4)] → Wo G s M H locs → (rX6_feed_b37 n) x2 x4 M = some (r, M') → W p l e (rm 1) s m args below meth c H locs 0 0 (Qi below args s G r M') (F0 m 37 ls []) := hq370
    intro x2 x4 M ls H locs hl hW h
    have h : rX6_feed_b37_s (rX6_feed_b37 n) x2 x4 M = some (r, M') := h
    unfold rX6_feed_b37_s at h
    have hx := X.1.1
    have hb := X.1.2.1
    refine lv_iload hx hb dX6_feed_37 (lv_at hl 2 rfl) ?_
    refine lv_if_lt (tgt := 67) hx hb dX6_feed_39 (by decide) (fun c5 => ?_) (fun c5 => ?_)
    · have h := ob_pos c5 h
      refine lv_aload_n hx hb dX6_feed_67 rfl (lv_at hl 0 rfl) ?_
      refine gf6_14 (cN := 0) X hW rfl dX6_feed_68 ?_
      refine gf6_40 (cN := 1) X hW rfl dX6_feed_71 ?_
      exact rt_i X hW h dX6_feed_74
    · have h := ob_neg c5 h
      refine lv_aload_n hx hb dX6_feed_42 rfl (lv_at hl 0 rfl) ?_
      refine gf6_14 (cN := 0) X hW rfl dX6_feed_43 ?_
      refine lv_lload_n hx hb dX6_feed_46 rfl (lv_at hl 1 rfl) ?_
      refine lv_bipush (v := 8) hx hb dX6_feed_47 (by decide) ?_
      refine lv_iload hx hb dX6_feed_49 (lv_at hl 2 rfl) ?_
      refine lv_imul hx hb dX6_feed_51 ?_
      refine lv_lushr hx hb dX6_feed_52 rfl ?_
      refine lv_l2i hx hb dX6_feed_53 rfl ?_
      refine lv_sipush (v := 255) hx hb dX6_feed_54 (by decide) ?_
      refine lv_iand hx hb dX6_feed_57 ?_
      obtain ⟨M7, e6, h⟩ := ob_bind h
      refine bg_callv X hW (cX0_append_k rfl rfl rfl e6) rfl rfl kw6_44 kd_X0_append rfl rfl ⟨Nat.le_of_ble_eq_true rfl, Nat.le_of_ble_eq_true rfl⟩ ⟨Nat.le_refl _, Nat.le_refl _⟩ hl.1 (Nat.le_of_ble_eq_true rfl) dX6_feed_58 (fun H locs hW => ?_)
      obtain ⟨y8, ey8⟩ : ∃ y : Int32, y = (x4 + (-1)) := ⟨_, rfl⟩
      have h := ob_lt ey8 h
      refine lv_iinc (v := y8) (lv' := [(4, .int y8), (0, .ref (G.2.2.2 0)), (2, .long x2)]) hx hb dX6_feed_61 hl (k := 2) rfl (by rw [ey8]; rfl) (by decide) rfl (fun ls hl => ?_)
      refine lv_goto (tgt := 37) hx hb dX6_feed_64 (by decide) ?_
      exact hq37 x2 y8 M7 _ _ _ (lv_sub hl [1, 2, 0] rfl) hW h
def rX6_feed (a1 : Int32) (a2 : Int64) (M : Mm) : Option (Int32 × Mm) :=
    (if a1 < (1 : Int32) then (some ((-2 : Int32), M)) else (if a1 ≤ (8 : Int32) then (if ((M.1 1 1) + a1) ≤ (1200 : Int32) then (lt_ (a1 - (1 : Int32)) fun y4 => rX6_feed_b37 FU a2 y4 M) else (some ((-4 : Int32), M))) else (some ((-2 : Int32), M))))
set_option maxRecDepth 100000 in
set_option maxHeartbeats 4000000 in
theorem cX6_feed_k {l : Launch} {G : Gg} {a1 : Int32} {a2 : Int64} {M M' : Mm} {r : Int32} (h : rX6_feed a1 a2 M = some (r, M')) : CTi l yX6_feed cX6_feed 5 (some .int) 1 G [.ref (G.2.2.2 0), .int a1, .long a2] M r M' := by
  unfold rX6_feed at h
  refine ct_i (by decide) (Nat.le_of_ble_eq_true rfl) (fun p e s m below meth c ls X hl hW => ?_)
  have hx := X.1.1
  have hb := X.1.2.1
  refine lv_iload_n hx hb dX6_feed_0 rfl (lv_at hl 1 rfl) ?_
  refine lv_iconst (v := 1) hx hb dX6_feed_1 (by decide) ?_
  refine lv_icmp_lt (tgt := 11) hx hb dX6_feed_2 (by decide) (fun c1 => ?_) (fun c1 => ?_)
  · have h := ob_pos c1 h
    refine lv_bipush (v := (-2)) hx hb dX6_feed_11 (by decide) ?_
    exact rt_i X hW h dX6_feed_13
  · have h := ob_neg c1 h
    refine lv_iload_n hx hb dX6_feed_5 rfl (lv_at hl 1 rfl) ?_
    refine lv_bipush (v := 8) hx hb dX6_feed_6 (by decide) ?_
    refine lv_icmp_le (tgt := 14) hx hb dX6_feed_8 (by decide) (fun c2 => ?_) (fun c2 => ?_)
    · have h := ob_pos c2 h
      refine lv_aload_n hx hb dX6_feed_14 rfl (lv_at hl 0 rfl) ?_
      refine gf6_14 (cN := 0) X hW rfl dX6_feed_15 ?_
      refine gf6_40 (cN := 1) X hW rfl dX6_feed_18 ?_
      refine lv_iload_n hx hb dX6_feed_21 rfl (lv_at hl 1 rfl) ?_
      refine lv_iadd hx hb dX6_feed_22 ?_
      refine lv_sipush (v := 1200) hx hb dX6_feed_23 (by decide) ?_
      refine lv_icmp_le (tgt := 32) hx hb dX6_feed_26 (by decide) (fun c3 => ?_) (fun c3 => ?_)
      · have h := ob_pos c3 h
        refine lv_iload_n hx hb dX6_feed_32 rfl (lv_at hl 1 rfl) ?_
        refine lv_iconst (v := 1) hx hb dX6_feed_33 (by decide) ?_
        refine lv_isub hx hb dX6_feed_34 ?_
        refine lv_topi (fun y4 ey4 => ?_)
        have h := ob_lt ey4 h
        refine lv_istore (lv' := [(4, .int y4), (0, .ref (G.2.2.2 0)), (1, .int a1), (2, .long a2)]) hx hb dX6_feed_35 hl (by decide) rfl (fun ls hl => ?_)
        exact sX6_feed_b37 X FU a2 y4 M _ _ _ (lv_sub hl [1, 3, 0] rfl) hW h
      · have h := ob_neg c3 h
        refine lv_bipush (v := (-4)) hx hb dX6_feed_29 (by decide) ?_
        exact rt_i X hW h dX6_feed_31
    · have h := ob_neg c2 h
      refine lv_bipush (v := (-2)) hx hb dX6_feed_11 (by decide) ?_
      exact rt_i X hW h dX6_feed_13
def rX6_cut (a1 : Int32) (M : Mm) : Option (Int32 × Mm) :=
    (if a1 < 0 then (some ((-2 : Int32), M)) else (if a1 ≤ (M.1 1 1) then (lt_ ((M.1 1 1) - a1) fun y3 => Option.bind (rX0_keepFirst 1 1200 1200 a1 M) fun M5 => some (y3, M5)) else (some ((-2 : Int32), M))))
set_option maxRecDepth 100000 in
set_option maxHeartbeats 4000000 in
theorem cX6_cut_k {l : Launch} {G : Gg} {a1 : Int32} {M M' : Mm} {r : Int32} (h : rX6_cut a1 M = some (r, M')) : CTi l yX6_cut cX6_cut 3 (some .int) 2 G [.ref (G.2.2.2 0), .int a1] M r M' := by
  unfold rX6_cut at h
  refine ct_i (by decide) (Nat.le_of_ble_eq_true rfl) (fun p e s m below meth c ls X hl hW => ?_)
  have hx := X.1.1
  have hb := X.1.2.1
  refine lv_iload_n hx hb dX6_cut_0 rfl (lv_at hl 1 rfl) ?_
  refine lv_if_lt (tgt := 15) hx hb dX6_cut_1 (by decide) (fun c1 => ?_) (fun c1 => ?_)
  · have h := ob_pos c1 h
    refine lv_bipush (v := (-2)) hx hb dX6_cut_15 (by decide) ?_
    exact rt_i X hW h dX6_cut_17
  · have h := ob_neg c1 h
    refine lv_iload_n hx hb dX6_cut_4 rfl (lv_at hl 1 rfl) ?_
    refine lv_aload_n hx hb dX6_cut_5 rfl (lv_at hl 0 rfl) ?_
    refine gf6_14 (cN := 0) X hW rfl dX6_cut_6 ?_
    refine gf6_40 (cN := 1) X hW rfl dX6_cut_9 ?_
    refine lv_icmp_le (tgt := 18) hx hb dX6_cut_12 (by decide) (fun c2 => ?_) (fun c2 => ?_)
    · have h := ob_pos c2 h
      refine lv_aload_n hx hb dX6_cut_18 rfl (lv_at hl 0 rfl) ?_
      refine gf6_14 (cN := 0) X hW rfl dX6_cut_19 ?_
      refine gf6_40 (cN := 1) X hW rfl dX6_cut_22 ?_
      refine lv_iload_n hx hb dX6_cut_25 rfl (lv_at hl 1 rfl) ?_
      refine lv_isub hx hb dX6_cut_26 ?_
      refine lv_topi (fun y3 ey3 => ?_)
      have h := ob_lt ey3 h
      refine lv_istore_n (lv' := [(2, .int y3), (0, .ref (G.2.2.2 0)), (1, .int a1)]) hx hb dX6_cut_27 rfl hl (by decide) rfl (fun ls hl => ?_)
      refine lv_aload_n hx hb dX6_cut_28 rfl (lv_at hl 1 rfl) ?_
      refine gf6_14 (cN := 0) X hW rfl dX6_cut_29 ?_
      refine lv_iload_n hx hb dX6_cut_32 rfl (lv_at hl 2 rfl) ?_
      obtain ⟨M5, e4, h⟩ := ob_bind h
      refine bg_callv X hW (cX0_keepFirst_k rfl rfl rfl e4) rfl rfl kw6_48 kd_X0_keepFirst rfl rfl ⟨Nat.le_of_ble_eq_true rfl, Nat.le_of_ble_eq_true rfl⟩ ⟨Nat.le_refl _, Nat.le_refl _⟩ hl.1 (Nat.le_of_ble_eq_true rfl) dX6_cut_33 (fun H locs hW => ?_)
      refine lv_iload_n hx hb dX6_cut_36 rfl (lv_at hl 0 rfl) ?_
      exact rt_i X hW h dX6_cut_37
    · have h := ob_neg c2 h
      refine lv_bipush (v := (-2)) hx hb dX6_cut_15 (by decide) ?_
      exact rt_i X hW h dX6_cut_17
def rX6_alter (a1 : Int32) (a2 : Int32) (M : Mm) : Option (Int32 × Mm) :=
    (if a1 < 0 then (some ((-2 : Int32), M)) else (if (M.1 1 1) ≤ a1 then (some ((-2 : Int32), M)) else (if a2 < 0 then (some ((-2 : Int32), M)) else (if a2 ≤ (255 : Int32) then (bd2 (rX0_get 1 1200 1200 a1 M) fun r7 M6 => Option.bind (rX0_put 1 1200 1200 a1 a2 M6) fun M9 => some (r7, M9)) else (some ((-2 : Int32), M))))))
set_option maxRecDepth 100000 in
set_option maxHeartbeats 4000000 in
theorem cX6_alter_k {l : Launch} {G : Gg} {a1 : Int32} {a2 : Int32} {M M' : Mm} {r : Int32} (h : rX6_alter a1 a2 M = some (r, M')) : CTi l yX6_alter cX6_alter 4 (some .int) 1 G [.ref (G.2.2.2 0), .int a1, .int a2] M r M' := by
  unfold rX6_alter at h
  refine ct_i (by decide) (Nat.le_of_ble_eq_true rfl) (fun p e s m below meth c ls X hl hW => ?_)
  have hx := X.1.1
  have hb := X.1.2.1
  refine lv_iload_n hx hb dX6_alter_0 rfl (lv_at hl 1 rfl) ?_
  refine lv_if_lt (tgt := 26) hx hb dX6_alter_1 (by decide) (fun c1 => ?_) (fun c1 => ?_)
  · have h := ob_pos c1 h
    refine lv_bipush (v := (-2)) hx hb dX6_alter_26 (by decide) ?_
    exact rt_i X hW h dX6_alter_28
  · have h := ob_neg c1 h
    refine lv_iload_n hx hb dX6_alter_4 rfl (lv_at hl 1 rfl) ?_
    refine lv_aload_n hx hb dX6_alter_5 rfl (lv_at hl 0 rfl) ?_
    refine gf6_14 (cN := 0) X hW rfl dX6_alter_6 ?_
    refine gf6_40 (cN := 1) X hW rfl dX6_alter_9 ?_
    refine lv_icmp_ge (tgt := 26) hx hb dX6_alter_12 (by decide) (fun c2 => ?_) (fun c2 => ?_)
    · have h := ob_pos c2 h
      refine lv_bipush (v := (-2)) hx hb dX6_alter_26 (by decide) ?_
      exact rt_i X hW h dX6_alter_28
    · have h := ob_neg c2 h
      refine lv_iload_n hx hb dX6_alter_15 rfl (lv_at hl 2 rfl) ?_
      refine lv_if_lt (tgt := 26) hx hb dX6_alter_16 (by decide) (fun c3 => ?_) (fun c3 => ?_)
      · have h := ob_pos c3 h
        refine lv_bipush (v := (-2)) hx hb dX6_alter_26 (by decide) ?_
        exact rt_i X hW h dX6_alter_28
      · have h := ob_neg c3 h
        refine lv_iload_n hx hb dX6_alter_19 rfl (lv_at hl 2 rfl) ?_
        refine lv_sipush (v := 255) hx hb dX6_alter_20 (by decide) ?_
        refine lv_icmp_le (tgt := 29) hx hb dX6_alter_23 (by decide) (fun c4 => ?_) (fun c4 => ?_)
        · have h := ob_pos c4 h
          refine lv_aload_n hx hb dX6_alter_29 rfl (lv_at hl 0 rfl) ?_
          refine gf6_14 (cN := 0) X hW rfl dX6_alter_30 ?_
          refine lv_iload_n hx hb dX6_alter_33 rfl (lv_at hl 1 rfl) ?_
          obtain ⟨r7, M6, e5, h⟩ := ob_bd2 h
          refine bg_calli X hW (cX0_get_k rfl rfl rfl e5) rfl rfl kw6_51 kd_X0_get rfl rfl ⟨Nat.le_of_ble_eq_true rfl, Nat.le_of_ble_eq_true rfl⟩ ⟨Nat.le_refl _, Nat.le_refl _⟩ hl.1 (Nat.le_of_ble_eq_true rfl) dX6_alter_34 (fun H locs hW => ?_)
          refine lv_istore_n (lv' := [(3, .int r7), (0, .ref (G.2.2.2 0)), (1, .int a1), (2, .int a2)]) hx hb dX6_alter_37 rfl hl (by decide) rfl (fun ls hl => ?_)
          refine lv_aload_n hx hb dX6_alter_38 rfl (lv_at hl 1 rfl) ?_
          refine gf6_14 (cN := 0) X hW rfl dX6_alter_39 ?_
          refine lv_iload_n hx hb dX6_alter_42 rfl (lv_at hl 2 rfl) ?_
          refine lv_iload_n hx hb dX6_alter_43 rfl (lv_at hl 3 rfl) ?_
          obtain ⟨M9, e8, h⟩ := ob_bind h
          refine bg_callv X hW (cX0_put_k rfl rfl rfl e8) rfl rfl kw6_55 kd_X0_put rfl rfl ⟨Nat.le_of_ble_eq_true rfl, Nat.le_of_ble_eq_true rfl⟩ ⟨Nat.le_refl _, Nat.le_refl _⟩ hl.1 (Nat.le_of_ble_eq_true rfl) dX6_alter_44 (fun H locs hW => ?_)
          refine lv_iload_n hx hb dX6_alter_47 rfl (lv_at hl 0 rfl) ?_
          exact rt_i X hW h dX6_alter_48
        · have h := ob_neg c4 h
          refine lv_bipush (v := (-2)) hx hb dX6_alter_26 (by decide) ?_
          exact rt_i X hW h dX6_alter_28
def rX6_at (a1 : Int32) (M : Mm) : Option (Int32 × Mm) :=
    (bd2 (rX0_get 1 1200 1200 a1 M) fun r3 M2 => some (r3, M2))
set_option maxRecDepth 100000 in
set_option maxHeartbeats 4000000 in
theorem cX6_at_k {l : Launch} {G : Gg} {a1 : Int32} {M M' : Mm} {r : Int32} (h : rX6_at a1 M = some (r, M')) : CTi l yX6_at cX6_at 2 (some .int) 1 G [.ref (G.2.2.2 0), .int a1] M r M' := by
  unfold rX6_at at h
  refine ct_i (by decide) (Nat.le_of_ble_eq_true rfl) (fun p e s m below meth c ls X hl hW => ?_)
  have hx := X.1.1
  have hb := X.1.2.1
  refine lv_aload_n hx hb dX6_at_0 rfl (lv_at hl 0 rfl) ?_
  refine gf6_14 (cN := 0) X hW rfl dX6_at_1 ?_
  refine lv_iload_n hx hb dX6_at_4 rfl (lv_at hl 1 rfl) ?_
  obtain ⟨r3, M2, e1, h⟩ := ob_bd2 h
  refine bg_calli X hW (cX0_get_k rfl rfl rfl e1) rfl rfl kw6_51 kd_X0_get rfl rfl ⟨Nat.le_of_ble_eq_true rfl, Nat.le_of_ble_eq_true rfl⟩ ⟨Nat.le_refl _, Nat.le_refl _⟩ hl.1 (Nat.le_of_ble_eq_true rfl) dX6_at_5 (fun H locs hW => ?_)
  exact rt_i X hW h dX6_at_8
def rX6_mend (M : Mm) : Option (Int32 × Mm) :=
    (if (M.1 1 1) = 0 then (some ((-3 : Int32), M)) else (lt_ ((M.1 1 1) - (1 : Int32)) fun y2 => bd2 (rX0_checkOf 1 1200 1200 (0 : Int32) y2 M) fun r5 M4 => Option.bind (rX0_put 1 1200 1200 y2 r5 M4) fun M7 => some (r5, M7)))
set_option maxRecDepth 100000 in
set_option maxHeartbeats 4000000 in
theorem cX6_mend_k {l : Launch} {G : Gg} {M M' : Mm} {r : Int32} (h : rX6_mend M = some (r, M')) : CTi l yX6_mend cX6_mend 3 (some .int) 2 G [.ref (G.2.2.2 0)] M r M' := by
  unfold rX6_mend at h
  refine ct_i (by decide) (Nat.le_of_ble_eq_true rfl) (fun p e s m below meth c ls X hl hW => ?_)
  have hx := X.1.1
  have hb := X.1.2.1
  refine lv_aload_n hx hb dX6_mend_0 rfl (lv_at hl 0 rfl) ?_
  refine gf6_14 (cN := 0) X hW rfl dX6_mend_1 ?_
  refine gf6_40 (cN := 1) X hW rfl dX6_mend_4 ?_
  refine lv_if_ne (tgt := 13) hx hb dX6_mend_7 (by decide) (fun c1 => ?_) (fun c1 => ?_)
  · have h := ob_neg c1 h
    refine lv_aload_n hx hb dX6_mend_13 rfl (lv_at hl 0 rfl) ?_
    refine gf6_14 (cN := 0) X hW rfl dX6_mend_14 ?_
    refine gf6_40 (cN := 1) X hW rfl dX6_mend_17 ?_
    refine lv_iconst (v := 1) hx hb dX6_mend_20 (by decide) ?_
    refine lv_isub hx hb dX6_mend_21 ?_
    refine lv_topi (fun y2 ey2 => ?_)
    have h := ob_lt ey2 h
    refine lv_istore_n (lv' := [(1, .int y2), (0, .ref (G.2.2.2 0))]) hx hb dX6_mend_22 rfl hl (by decide) rfl (fun ls hl => ?_)
    refine lv_aload_n hx hb dX6_mend_23 rfl (lv_at hl 1 rfl) ?_
    refine gf6_14 (cN := 0) X hW rfl dX6_mend_24 ?_
    refine lv_iconst (v := 0) hx hb dX6_mend_27 (by decide) ?_
    refine lv_iload_n hx hb dX6_mend_28 rfl (lv_at hl 0 rfl) ?_
    obtain ⟨r5, M4, e3, h⟩ := ob_bd2 h
    refine bg_calli X hW (cX0_checkOf_k rfl rfl rfl e3) rfl rfl kw6_58 kd_X0_checkOf rfl rfl ⟨Nat.le_of_ble_eq_true rfl, Nat.le_of_ble_eq_true rfl⟩ ⟨Nat.le_refl _, Nat.le_refl _⟩ hl.1 (Nat.le_of_ble_eq_true rfl) dX6_mend_29 (fun H locs hW => ?_)
    refine lv_istore_n (lv' := [(2, .int r5), (1, .int y2), (0, .ref (G.2.2.2 0))]) hx hb dX6_mend_32 rfl hl (by decide) rfl (fun ls hl => ?_)
    refine lv_aload_n hx hb dX6_mend_33 rfl (lv_at hl 2 rfl) ?_
    refine gf6_14 (cN := 0) X hW rfl dX6_mend_34 ?_
    refine lv_iload_n hx hb dX6_mend_37 rfl (lv_at hl 1 rfl) ?_
    refine lv_iload_n hx hb dX6_mend_38 rfl (lv_at hl 0 rfl) ?_
    obtain ⟨M7, e6, h⟩ := ob_bind h
    refine bg_callv X hW (cX0_put_k rfl rfl rfl e6) rfl rfl kw6_55 kd_X0_put rfl rfl ⟨Nat.le_of_ble_eq_true rfl, Nat.le_of_ble_eq_true rfl⟩ ⟨Nat.le_refl _, Nat.le_refl _⟩ hl.1 (Nat.le_of_ble_eq_true rfl) dX6_mend_39 (fun H locs hW => ?_)
    refine lv_iload_n hx hb dX6_mend_42 rfl (lv_at hl 0 rfl) ?_
    exact rt_i X hW h dX6_mend_43
  · have h := ob_pos c1 h
    refine lv_bipush (v := (-3)) hx hb dX6_mend_10 (by decide) ?_
    exact rt_i X hW h dX6_mend_12
def rX6_draw (a1 : Int32) (a2 : Int32) (M : Mm) : Option (Int32 × Mm) :=
    (if a1 < 0 then (some ((-2 : Int32), M)) else (if (9 : Int32) < a1 then (some ((-2 : Int32), M)) else (if a2 < 0 then (some ((-2 : Int32), M)) else (if a2 ≤ (60 : Int32) then (Option.bind (rX2_make a1 a2 M) fun M6 => some ((M6.1 1 1), M6)) else (some ((-2 : Int32), M))))))
set_option maxRecDepth 100000 in
set_option maxHeartbeats 4000000 in
theorem cX6_draw_k {l : Launch} {G : Gg} {a1 : Int32} {a2 : Int32} {M M' : Mm} {r : Int32} (h : rX6_draw a1 a2 M = some (r, M')) : CTi l yX6_draw cX6_draw 3 (some .int) 7 G [.ref (G.2.2.2 0), .int a1, .int a2] M r M' := by
  unfold rX6_draw at h
  refine ct_i (by decide) (Nat.le_of_ble_eq_true rfl) (fun p e s m below meth c ls X hl hW => ?_)
  have hx := X.1.1
  have hb := X.1.2.1
  refine lv_iload_n hx hb dX6_draw_0 rfl (lv_at hl 1 rfl) ?_
  refine lv_if_lt (tgt := 20) hx hb dX6_draw_1 (by decide) (fun c1 => ?_) (fun c1 => ?_)
  · have h := ob_pos c1 h
    refine lv_bipush (v := (-2)) hx hb dX6_draw_20 (by decide) ?_
    exact rt_i X hW h dX6_draw_22
  · have h := ob_neg c1 h
    refine lv_iload_n hx hb dX6_draw_4 rfl (lv_at hl 1 rfl) ?_
    refine lv_bipush (v := 9) hx hb dX6_draw_5 (by decide) ?_
    refine lv_icmp_gt (tgt := 20) hx hb dX6_draw_7 (by decide) (fun c2 => ?_) (fun c2 => ?_)
    · have h := ob_pos c2 h
      refine lv_bipush (v := (-2)) hx hb dX6_draw_20 (by decide) ?_
      exact rt_i X hW h dX6_draw_22
    · have h := ob_neg c2 h
      refine lv_iload_n hx hb dX6_draw_10 rfl (lv_at hl 2 rfl) ?_
      refine lv_if_lt (tgt := 20) hx hb dX6_draw_11 (by decide) (fun c3 => ?_) (fun c3 => ?_)
      · have h := ob_pos c3 h
        refine lv_bipush (v := (-2)) hx hb dX6_draw_20 (by decide) ?_
        exact rt_i X hW h dX6_draw_22
      · have h := ob_neg c3 h
        refine lv_iload_n hx hb dX6_draw_14 rfl (lv_at hl 2 rfl) ?_
        refine lv_bipush (v := 60) hx hb dX6_draw_15 (by decide) ?_
        refine lv_icmp_le (tgt := 23) hx hb dX6_draw_17 (by decide) (fun c4 => ?_) (fun c4 => ?_)
        · have h := ob_pos c4 h
          refine lv_aload_n hx hb dX6_draw_23 rfl (lv_at hl 0 rfl) ?_
          refine gf6_23 (cN := 0) X hW rfl dX6_draw_24 ?_
          refine lv_iload_n hx hb dX6_draw_27 rfl (lv_at hl 1 rfl) ?_
          refine lv_iload_n hx hb dX6_draw_28 rfl (lv_at hl 2 rfl) ?_
          obtain ⟨M6, e5, h⟩ := ob_bind h
          refine bg_callv X hW (cX2_make_k e5) rfl rfl kw6_62 kd_X2_make rfl rfl ⟨Nat.le_of_ble_eq_true rfl, Nat.le_of_ble_eq_true rfl⟩ ⟨Nat.le_refl _, Nat.le_refl _⟩ hl.1 (Nat.le_of_ble_eq_true rfl) dX6_draw_29 (fun H locs hW => ?_)
          refine lv_aload_n hx hb dX6_draw_32 rfl (lv_at hl 0 rfl) ?_
          refine gf6_14 (cN := 0) X hW rfl dX6_draw_33 ?_
          refine gf6_40 (cN := 1) X hW rfl dX6_draw_36 ?_
          exact rt_i X hW h dX6_draw_39
        · have h := ob_neg c4 h
          refine lv_bipush (v := (-2)) hx hb dX6_draw_20 (by decide) ?_
          exact rt_i X hW h dX6_draw_22
def rX6_areBounds (a0 : Int32) (a1 : Int32) (a2 : Int32) (M : Mm) : Option (Int32 × Mm) :=
    (if a0 < 0 then (if ¬ (0 : Int32) &&& 1 = (0 : Int32) then none else some ((0 : Int32), M)) else (if (4000 : Int32) < a0 then (if ¬ (0 : Int32) &&& 1 = (0 : Int32) then none else some ((0 : Int32), M)) else (if a1 < 0 then (if ¬ (0 : Int32) &&& 1 = (0 : Int32) then none else some ((0 : Int32), M)) else (if (20000 : Int32) < a1 then (if ¬ (0 : Int32) &&& 1 = (0 : Int32) then none else some ((0 : Int32), M)) else (if a2 < 0 then (if ¬ (0 : Int32) &&& 1 = (0 : Int32) then none else some ((0 : Int32), M)) else (if (8 : Int32) < a2 then (if ¬ (0 : Int32) &&& 1 = (0 : Int32) then none else some ((0 : Int32), M)) else (if ¬ (1 : Int32) &&& 1 = (1 : Int32) then none else some ((1 : Int32), M))))))))
set_option maxRecDepth 100000 in
set_option maxHeartbeats 4000000 in
theorem cX6_areBounds_k {l : Launch} {G : Gg} {a0 : Int32} {a1 : Int32} {a2 : Int32} {M M' : Mm} {r : Int32} (h : rX6_areBounds a0 a1 a2 M = some (r, M')) : CTi l yX6_areBounds cX6_areBounds 3 (some .boolean) 0 G [.int a0, .int a1, .int a2] M r M' := by
  unfold rX6_areBounds at h
  refine ct_i (by decide) (Nat.le_of_ble_eq_true rfl) (fun p e s m below meth c ls X hl hW => ?_)
  have hx := X.1.1
  have hb := X.1.2.1
  refine lv_iload_n hx hb dX6_areBounds_0 rfl (lv_at hl 0 rfl) ?_
  refine lv_if_lt (tgt := 36) hx hb dX6_areBounds_1 (by decide) (fun c1 => ?_) (fun c1 => ?_)
  · have h := ob_pos c1 h
    refine lv_iconst (v := 0) hx hb dX6_areBounds_36 (by decide) ?_
    exact rt_z X hW h dX6_areBounds_37
  · have h := ob_neg c1 h
    refine lv_iload_n hx hb dX6_areBounds_4 rfl (lv_at hl 0 rfl) ?_
    refine lv_sipush (v := 4000) hx hb dX6_areBounds_5 (by decide) ?_
    refine lv_icmp_gt (tgt := 36) hx hb dX6_areBounds_8 (by decide) (fun c2 => ?_) (fun c2 => ?_)
    · have h := ob_pos c2 h
      refine lv_iconst (v := 0) hx hb dX6_areBounds_36 (by decide) ?_
      exact rt_z X hW h dX6_areBounds_37
    · have h := ob_neg c2 h
      refine lv_iload_n hx hb dX6_areBounds_11 rfl (lv_at hl 1 rfl) ?_
      refine lv_if_lt (tgt := 36) hx hb dX6_areBounds_12 (by decide) (fun c3 => ?_) (fun c3 => ?_)
      · have h := ob_pos c3 h
        refine lv_iconst (v := 0) hx hb dX6_areBounds_36 (by decide) ?_
        exact rt_z X hW h dX6_areBounds_37
      · have h := ob_neg c3 h
        refine lv_iload_n hx hb dX6_areBounds_15 rfl (lv_at hl 1 rfl) ?_
        refine lv_sipush (v := 20000) hx hb dX6_areBounds_16 (by decide) ?_
        refine lv_icmp_gt (tgt := 36) hx hb dX6_areBounds_19 (by decide) (fun c4 => ?_) (fun c4 => ?_)
        · have h := ob_pos c4 h
          refine lv_iconst (v := 0) hx hb dX6_areBounds_36 (by decide) ?_
          exact rt_z X hW h dX6_areBounds_37
        · have h := ob_neg c4 h
          refine lv_iload_n hx hb dX6_areBounds_22 rfl (lv_at hl 2 rfl) ?_
          refine lv_if_lt (tgt := 36) hx hb dX6_areBounds_23 (by decide) (fun c5 => ?_) (fun c5 => ?_)
          · have h := ob_pos c5 h
            refine lv_iconst (v := 0) hx hb dX6_areBounds_36 (by decide) ?_
            exact rt_z X hW h dX6_areBounds_37
          · have h := ob_neg c5 h
            refine lv_iload_n hx hb dX6_areBounds_26 rfl (lv_at hl 2 rfl) ?_
            refine lv_bipush (v := 8) hx hb dX6_areBounds_27 (by decide) ?_
            refine lv_icmp_gt (tgt := 36) hx hb dX6_areBounds_29 (by decide) (fun c6 => ?_) (fun c6 => ?_)
            · have h := ob_pos c6 h
              refine lv_iconst (v := 0) hx hb dX6_areBounds_36 (by decide) ?_
              exact rt_z X hW h dX6_areBounds_37
            · have h := ob_neg c6 h
              refine lv_iconst (v := 1) hx hb dX6_areBounds_32 (by decide) ?_
              refine lv_goto (tgt := 37) hx hb dX6_areBounds_33 (by decide) ?_
              exact rt_z X hW h dX6_areBounds_37
def rX6_open (a1 : Int32) (a2 : Int32) (a3 : Int32) (M : Mm) : Option (Int32 × Mm) :=
    (bd2 (rX6_areBounds a1 a2 a3 M) fun r3 M2 => if r3 = 0 then (some ((-2 : Int32), M2)) else (bd2 (rX4_read a1 a2 a3 M2) fun r7 M6 => if r7 = 0 then (some ((M6.1 6 1), M6)) else (some (((-10 : Int32) - r7), M6))))
set_option maxRecDepth 100000 in
set_option maxHeartbeats 4000000 in
theorem cX6_open_k {l : Launch} {G : Gg} {a1 : Int32} {a2 : Int32} {a3 : Int32} {M M' : Mm} {r : Int32} (h : rX6_open a1 a2 a3 M = some (r, M')) : CTi l yX6_open cX6_open 5 (some .int) 40 G [.ref (G.2.2.2 0), .int a1, .int a2, .int a3] M r M' := by
  unfold rX6_open at h
  refine ct_i (by decide) (Nat.le_of_ble_eq_true rfl) (fun p e s m below meth c ls X hl hW => ?_)
  have hx := X.1.1
  have hb := X.1.2.1
  refine lv_iload_n hx hb dX6_open_0 rfl (lv_at hl 1 rfl) ?_
  refine lv_iload_n hx hb dX6_open_1 rfl (lv_at hl 2 rfl) ?_
  refine lv_iload_n hx hb dX6_open_2 rfl (lv_at hl 3 rfl) ?_
  obtain ⟨r3, M2, e1, h⟩ := ob_bd2 h
  refine bg_calls X hW (cX6_areBounds_k e1) kw6_65 kd_X6_areBounds rfl rfl ⟨Nat.le_of_ble_eq_true rfl, Nat.le_of_ble_eq_true rfl⟩ ⟨Nat.le_refl _, Nat.le_refl _⟩ hl.1 (Nat.le_of_ble_eq_true rfl) dX6_open_3 (fun H locs hW => ?_)
  refine lv_if_ne (tgt := 12) hx hb dX6_open_6 (by decide) (fun c4 => ?_) (fun c4 => ?_)
  · have h := ob_neg c4 h
    refine lv_aload_n hx hb dX6_open_12 rfl (lv_at hl 0 rfl) ?_
    refine gf6_32 (cN := 0) X hW rfl dX6_open_13 ?_
    refine lv_iload_n hx hb dX6_open_16 rfl (lv_at hl 1 rfl) ?_
    refine lv_iload_n hx hb dX6_open_17 rfl (lv_at hl 2 rfl) ?_
    refine lv_iload_n hx hb dX6_open_18 rfl (lv_at hl 3 rfl) ?_
    obtain ⟨r7, M6, e5, h⟩ := ob_bd2 h
    refine bg_calli X hW (cX4_read_k e5) rfl rfl kw6_69 kd_X4_read rfl rfl ⟨Nat.le_of_ble_eq_true rfl, Nat.le_of_ble_eq_true rfl⟩ ⟨Nat.le_refl _, Nat.le_refl _⟩ hl.1 (Nat.le_of_ble_eq_true rfl) dX6_open_19 (fun H locs hW => ?_)
    refine lv_istore (lv' := [(4, .int r7), (0, .ref (G.2.2.2 0)), (1, .int a1), (2, .int a2), (3, .int a3)]) hx hb dX6_open_22 hl (by decide) rfl (fun ls hl => ?_)
    refine lv_iload hx hb dX6_open_24 (lv_at hl 0 rfl) ?_
    refine lv_if_ne (tgt := 42) hx hb dX6_open_26 (by decide) (fun c8 => ?_) (fun c8 => ?_)
    · have h := ob_neg c8 h
      refine lv_bipush (v := (-10)) hx hb dX6_open_42 (by decide) ?_
      refine lv_iload hx hb dX6_open_44 (lv_at hl 0 rfl) ?_
      refine lv_isub hx hb dX6_open_46 ?_
      exact rt_i X hW h dX6_open_47
    · have h := ob_pos c8 h
      refine lv_aload_n hx hb dX6_open_29 rfl (lv_at hl 1 rfl) ?_
      refine gf6_32 (cN := 0) X hW rfl dX6_open_30 ?_
      refine gf6_73 (cN := 5) X hW rfl dX6_open_33 ?_
      refine gf6_40 (cN := 6) X hW rfl dX6_open_36 ?_
      refine lv_goto (tgt := 47) hx hb dX6_open_39 (by decide) ?_
      exact rt_i X hW h dX6_open_47
  · have h := ob_pos c4 h
    refine lv_bipush (v := (-2)) hx hb dX6_open_9 (by decide) ?_
    exact rt_i X hW h dX6_open_11
def rX6_place (M : Mm) : Option (Int32 × Mm) :=
    (some ((M.1 5 16), M))
set_option maxRecDepth 100000 in
set_option maxHeartbeats 4000000 in
theorem cX6_place_k {l : Launch} {G : Gg} {M M' : Mm} {r : Int32} (h : rX6_place M = some (r, M')) : CTi l yX6_place cX6_place 1 (some .int) 0 G [.ref (G.2.2.2 0)] M r M' := by
  unfold rX6_place at h
  refine ct_i (by decide) (Nat.le_of_ble_eq_true rfl) (fun p e s m below meth c ls X hl hW => ?_)
  have hx := X.1.1
  have hb := X.1.2.1
  refine lv_aload_n hx hb dX6_place_0 rfl (lv_at hl 0 rfl) ?_
  refine gf6_32 (cN := 0) X hW rfl dX6_place_1 ?_
  refine gf6_76 (cN := 5) X hW rfl dX6_place_4 ?_
  exact rt_i X hW h dX6_place_7
def rX6_out (a1 : Int32) (M : Mm) : Option (Int32 × Mm) :=
    (bd2 (rX0_get 6 4000 0 a1 M) fun r3 M2 => some (r3, M2))
set_option maxRecDepth 100000 in
set_option maxHeartbeats 4000000 in
theorem cX6_out_k {l : Launch} {G : Gg} {a1 : Int32} {M M' : Mm} {r : Int32} (h : rX6_out a1 M = some (r, M')) : CTi l yX6_out cX6_out 2 (some .int) 1 G [.ref (G.2.2.2 0), .int a1] M r M' := by
  unfold rX6_out at h
  refine ct_i (by decide) (Nat.le_of_ble_eq_true rfl) (fun p e s m below meth c ls X hl hW => ?_)
  have hx := X.1.1
  have hb := X.1.2.1
  refine lv_aload_n hx hb dX6_out_0 rfl (lv_at hl 0 rfl) ?_
  refine gf6_32 (cN := 0) X hW rfl dX6_out_1 ?_
  refine gf6_73 (cN := 5) X hW rfl dX6_out_4 ?_
  refine lv_iload_n hx hb dX6_out_7 rfl (lv_at hl 1 rfl) ?_
  obtain ⟨r3, M2, e1, h⟩ := ob_bd2 h
  refine bg_calli X hW (cX0_get_k rfl rfl rfl e1) rfl rfl kw6_51 kd_X0_get rfl rfl ⟨Nat.le_of_ble_eq_true rfl, Nat.le_of_ble_eq_true rfl⟩ ⟨Nat.le_refl _, Nat.le_refl _⟩ hl.1 (Nat.le_of_ble_eq_true rfl) dX6_out_8 (fun H locs hW => ?_)
  exact rt_i X hW h dX6_out_11
def rX6_item (a1 : Int32) (a2 : Int32) (M : Mm) : Option (Int32 × Mm) :=
    (if a1 = (-1 : Int32) then (some ((M.1 9 5), M)) else (bd2 (rX1_get a1 a2 M) fun r4 M3 => some (r4, M3)))
set_option maxRecDepth 100000 in
set_option maxHeartbeats 4000000 in
theorem cX6_item_k {l : Launch} {G : Gg} {a1 : Int32} {a2 : Int32} {M M' : Mm} {r : Int32} (h : rX6_item a1 a2 M = some (r, M')) : CTi l yX6_item cX6_item 3 (some .int) 1 G [.ref (G.2.2.2 0), .int a1, .int a2] M r M' := by
  unfold rX6_item at h
  refine ct_i (by decide) (Nat.le_of_ble_eq_true rfl) (fun p e s m below meth c ls X hl hW => ?_)
  have hx := X.1.1
  have hb := X.1.2.1
  refine lv_iload_n hx hb dX6_item_0 rfl (lv_at hl 1 rfl) ?_
  refine lv_iconst (v := (-1)) hx hb dX6_item_1 (by decide) ?_
  refine lv_icmp_ne (tgt := 18) hx hb dX6_item_2 (by decide) (fun c1 => ?_) (fun c1 => ?_)
  · have h := ob_neg c1 h
    refine lv_aload_n hx hb dX6_item_18 rfl (lv_at hl 0 rfl) ?_
    refine gf6_32 (cN := 0) X hW rfl dX6_item_19 ?_
    refine gf6_79 (cN := 5) X hW rfl dX6_item_22 ?_
    refine lv_iload_n hx hb dX6_item_25 rfl (lv_at hl 1 rfl) ?_
    refine lv_iload_n hx hb dX6_item_26 rfl (lv_at hl 2 rfl) ?_
    obtain ⟨r4, M3, e2, h⟩ := ob_bd2 h
    refine bg_calli X hW (cX1_get_k e2) rfl rfl kw6_86 kd_X1_get rfl rfl ⟨Nat.le_of_ble_eq_true rfl, Nat.le_of_ble_eq_true rfl⟩ ⟨Nat.le_refl _, Nat.le_refl _⟩ hl.1 (Nat.le_of_ble_eq_true rfl) dX6_item_27 (fun H locs hW => ?_)
    exact rt_i X hW h dX6_item_30
  · have h := ob_pos c1 h
    refine lv_aload_n hx hb dX6_item_5 rfl (lv_at hl 0 rfl) ?_
    refine gf6_32 (cN := 0) X hW rfl dX6_item_6 ?_
    refine gf6_79 (cN := 5) X hW rfl dX6_item_9 ?_
    refine gf6_83 (cN := 9) X hW rfl dX6_item_12 ?_
    refine lv_goto (tgt := 30) hx hb dX6_item_15 (by decide) ?_
    exact rt_i X hW h dX6_item_30
def rX6_shrink_b129 (x1 : Int32) (x2 : Int32) (x3 : Int32) (M : Mm) : Option (Int32 × Mm) :=
    (bd2 (rX4_read x1 x2 x3 M) fun r15 M14 => some ((M14.1 1 1), M14))
set_option maxRecDepth 100000 in
set_option maxHeartbeats 4000000 in
theorem sX6_shrink_b129 {p : Program} {l : Launch} {e : Env} {s : State} {m : MethodId} {args : Array Value} {below : List Frame} {meth : Method} {c : Code} {G : Gg} {r : Int32} {M' : Mm} (X : Cx p m c meth cX6_shrink 8 s args RX6 (some .int) G) : ∀ (x1 : Int32) (x2 : Int32) (x3 : Int32) (M : Mm) (ls : Array Slot) (H : Heap) (locs : List Loc), lv_has ls 8 [(0, .ref (G.2.2.2 0)), (1, .int x1), (2, .int x2), (3, .int x3)] → Wo G s M H locs → rX6_shrink_b129 x1 x2 x3 M = some (r, M') → W p l e (rm 40) s m args below meth c H locs 0 0 (Qi below args s G r M') (F0 m 129 ls []) := by
    intro x1 x2 x3 M ls H locs hl hW h
    unfold rX6_shrink_b129 at h
    have hx := X.1.1
    have hb := X.1.2.1
    refine lv_aload_n hx hb dX6_shrink_129 rfl (lv_at hl 0 rfl) ?_
    refine gf6_32 (cN := 0) X hW rfl dX6_shrink_130 ?_
    refine lv_iload_n hx hb dX6_shrink_133 rfl (lv_at hl 1 rfl) ?_
    refine lv_iload_n hx hb dX6_shrink_134 rfl (lv_at hl 2 rfl) ?_
    refine lv_iload_n hx hb dX6_shrink_135 rfl (lv_at hl 3 rfl) ?_
    obtain ⟨r15, M14, e13, h⟩ := ob_bd2 h
    refine bg_calli X hW (cX4_read_k e13) rfl rfl kw6_69 kd_X4_read rfl rfl ⟨Nat.le_of_ble_eq_true rfl, Nat.le_of_ble_eq_true rfl⟩ ⟨Nat.le_refl _, Nat.le_refl _⟩ hl.1 (Nat.le_of_ble_eq_true rfl) dX6_shrink_136 (fun H locs hW => ?_)
    refine lv_pop hx hb dX6_shrink_139 rfl ?_
    refine lv_aload_n hx hb dX6_shrink_140 rfl (lv_at hl 0 rfl) ?_
    refine gf6_14 (cN := 0) X hW rfl dX6_shrink_141 ?_
    refine gf6_40 (cN := 1) X hW rfl dX6_shrink_144 ?_
    exact rt_i X hW h dX6_shrink_147
def rX6_shrink_b123 (q54 : Int32 → Int32 → Int32 → Int32 → Int32 → Int32 → Int32 → Mm → Option (Int32 × Mm)) (x1 : Int32) (x2 : Int32) (x3 : Int32) (x4 : Int32) (x5 : Int32) (x6 : Int32) (x7 : Int32) (M : Mm) : Option (Int32 × Mm) :=
    (lt_ (x7 + 1) fun y24 => q54 x1 x2 x3 x4 x5 x6 y24 M)
set_option maxRecDepth 100000 in
set_option maxHeartbeats 4000000 in
theorem sX6_shrink_b123 {p : Program} {l : Launch} {e : Env} {s : State} {m : MethodId} {args : Array Value} {below : List Frame} {meth : Method} {c : Code} {G : Gg} {r : Int32} {M' : Mm} (X : Cx p m c meth cX6_shrink 8 s args RX6 (some .int) G) {q54 : Int32 → Int32 → Int32 → Int32 → Int32 → Int32 → Int32 → Mm → Option (Int32 × Mm)} (hq54 : ∀ (x1 : Int32) (x2 : Int32) (x3 : Int32) (x4 : Int32) (x5 : Int32) (x6 : Int32) (x7 : Int32) (M : Mm) (ls : Array Slot) (H : Heap) (locs : List Loc), lv_has ls 8 [(0, .ref (G.2.2.2 0)), (1, .int x1), (2, .int x2), (3, .int x3), (4, .int x4), (5, .int x5), (6, .int x6), (7, .int x7)] → Wo G s M H locs → q54 x1 x2 x3 x4 x5 x6 x7 M = some (r, M') → W p l e (rm 40) s m args below meth c H locs 0 0 (Qi below args s G r M') (F0 m 54 ls [])) : ∀ (x1 : Int32) (x2 : Int32) (x3 : Int32) (x4 : Int32) (x5 : Int32) (x6 : Int32) (x7 : Int32) (M : Mm) (ls : Array Slot) (H : Heap) (locs : List Loc), lv_has ls 8 [(0, .ref (G.2.2.2 0)), (1, .int x1), (2, .int x2), (3, .int x3), (4, .int x4), (5, .int x5), (6, .int x6), (7, .int x7)] → Wo G s M H locs → rX6_shrink_b123 q54 x1 x2 x3 x4 x5 x6 x7 M = some (r, M') → W p l e (rm 40) s m args below meth c H locs 0 0 (Qi below args s G r M') (F0 m 123 ls []) := by
    intro x1 x2 x3 x4 x5 x6 x7 M ls H locs hl hW h
    unfold rX6_shrink_b123 at h
    have hx := X.1.1
    have hb := X.1.2.1
    obtain ⟨y24, ey24⟩ : ∃ y : Int32, y = (x7 + 1) := ⟨_, rfl⟩
    have h := ob_lt ey24 h
    refine lv_iinc (v := y24) (lv' := [(7, .int y24), (0, .ref (G.2.2.2 0)), (1, .int x1), (2, .int x2), (3, .int x3), (4, .int x4), (5, .int x5), (6, .int x6)]) hx hb dX6_shrink_123 hl (k := 7) rfl (by rw [ey24]; rfl) (by decide) rfl (fun ls hl => ?_)
    refine lv_goto (tgt := 54) hx hb dX6_shrink_126 (by decide) ?_
    exact hq54 x1 x2 x3 x4 x5 x6 y24 M _ _ _ (lv_sub hl [1, 2, 3, 4, 5, 6, 7, 0] rfl) hW h
def rX6_shrink_b54_s (q54 : Int32 → Int32 → Int32 → Int32 → Int32 → Int32 → Int32 → Mm → Option (Int32 × Mm)) (x1 : Int32) (x2 : Int32) (x3 : Int32) (x4 : Int32) (x5 : Int32) (x6 : Int32) (x7 : Int32) (M : Mm) : Option (Int32 × Mm) :=
    (if x5 ≤ x7 then (rX6_shrink_b129 x1 x2 x3 M) else (if (nI 600) ≤ x7 then (rX6_shrink_b129 x1 x2 x3 M) else (if x7 < 0 ∨ 600 ≤ (x7).toNatClampNeg then none else Option.bind (rX0_takeOut 1 1200 1200 x6 (M.1 30 (x7).toNatClampNeg) M) fun M19 => bd2 (rX4_read x1 x2 x3 M19) fun r22 M21 => if r22 = x4 then (rX6_shrink_b123 q54 x1 x2 x3 x4 x5 x6 x7 M21) else (Option.bind (rX0_putBack 1 1200 1200 x6 M21) fun M26 => if x7 < 0 ∨ 600 ≤ (x7).toNatClampNeg then none else lt_ (x6 + (M26.1 30 (x7).toNatClampNeg)) fun y28 => rX6_shrink_b123 q54 x1 x2 x3 x4 x5 y28 x7 M26))))
def rX6_shrink_b54 : Nat → Int32 → Int32 → Int32 → Int32 → Int32 → Int32 → Int32 → Mm → Option (Int32 × Mm)
  | 0 => fun _ _ _ _ _ _ _ _ => none
  | n + 1 => rX6_shrink_b54_s (rX6_shrink_b54 n)
set_option maxRecDepth 100000 in
set_option maxHeartbeats 4000000 in
theorem sX6_shrink_b54 {p : Program} {l : Launch} {e : Env} {s : State} {m : MethodId} {args : Array Value} {below : List Frame} {meth : Method} {c : Code} {G : Gg} {r : Int32} {M' : Mm} (X : Cx p m c meth cX6_shrink 8 s args RX6 (some .int) G) : ∀ (n : Nat), ∀ (x1 : Int32) (x2 : Int32) (x3 : Int32) (x4 : Int32) (x5 : Int32) (x6 : Int32) (x7 : Int32) (M : Mm) (ls : Array Slot) (H : Heap) (locs : List Loc), lv_has ls 8 [(0, .ref (G.2.2.2 0)), (1, .int x1), (2, .int x2), (3, .int x3), (4, .int x4), (5, .int x5), (6, .int x6), (7, .int x7)] → Wo G s M H locs → rX6_shrink_b54 n x1 x2 x3 x4 x5 x6 x7 M = some (r, M') → W p l e (rm 40) s m args below meth c H locs 0 0 (Qi below args s G r M') (F0 m 54 ls []) := by
  intro n
  induction n with
  | zero =>
    intro x1 x2 x3 x4 x5 x6 x7 M ls H locs hl hW h
    cases (show (none : Option (Int32 × Mm)) = some (r, M') from h)
  | succ n hq540 =>
    have hq54 : ∀ (x1 : Int32) (x2 : Int32) (x3 : Int32) (x4 : Int32) (x5 : Int32) (x6 : Int32) (x7 : Int32) (M : Mm) (ls : Array Slot) (H : Heap) (locs : List Loc), lv_has ls 8 [(0, .ref (G.2.2.2 0)), (1, .int x1), (2, .int x2), (3, .int x3), (4, .int x4), (5, .int x5), (6, .int x6), (7, .int x7)] → Wo G s M H locs → (rX6_shrink_b54 n) x1 x2 x3 x4 x5 x6 x7 M = some (r, M') → W p l e (rm 40) s m args below meth c H locs 0 0 (Qi below args s G r M') (F0 m 54 ls []) := hq540
    intro x1 x2 x3 x4 x5 x6 x7 M ls H locs hl hW h
    have h : rX6_shrink_b54_s (rX6_shrink_b54 n) x1 x2 x3 x4 x5 x6 x7 M = some (r, M') := h
    unfold rX6_shrink_b54_s at h
    have hx := X.1.1
    have hb := X.1.2.1
    refine lv_iload hx hb dX6_shrink_54 (lv_at hl 7 rfl) ?_
    refine lv_iload hx hb dX6_shrink_56 (lv_at hl 5 rfl) ?_
    refine lv_icmp_ge (tgt := 129) hx hb dX6_shrink_58 (by decide) (fun c12 => ?_) (fun c12 => ?_)
    · have h := ob_pos c12 h
      exact sX6_shrink_b129 X x1 x2 x3 M _ _ _ (lv_sub hl [0, 1, 2, 3] rfl) hW h
    · have h := ob_neg c12 h
      refine lv_iload hx hb dX6_shrink_61 (lv_at hl 7 rfl) ?_
      refine lv_aload_n hx hb dX6_shrink_63 rfl (lv_at hl 0 rfl) ?_
      refine gf6_36 (cN := 0) X hW rfl dX6_shrink_64 ?_
      refine bg_len (cN := 30) X hW (n := 600) rfl dX6_shrink_67 ?_
      refine lv_icmp_ge (tgt := 129) hx hb dX6_shrink_68 (by decide) (fun c16 => ?_) (fun c16 => ?_)
      · have h := ob_pos c16 h
        exact sX6_shrink_b129 X x1 x2 x3 M _ _ _ (lv_sub hl [0, 1, 2, 3] rfl) hW h
      · have h := ob_neg c16 h
        refine lv_aload_n hx hb dX6_shrink_71 rfl (lv_at hl 0 rfl) ?_
        refine gf6_14 (cN := 0) X hW rfl dX6_shrink_72 ?_
        refine lv_iload hx hb dX6_shrink_75 (lv_at hl 6 rfl) ?_
        refine lv_aload_n hx hb dX6_shrink_77 rfl (lv_at hl 0 rfl) ?_
        refine gf6_36 (cN := 0) X hW rfl dX6_shrink_78 ?_
        refine lv_iload hx hb dX6_shrink_81 (lv_at hl 7 rfl) ?_
        obtain ⟨g17, h⟩ := ob_gd h
        refine bg_ald (cN := 30) X hW (n := 600) rfl g17 dX6_shrink_83 ?_
        obtain ⟨M19, e18, h⟩ := ob_bind h
        refine bg_callv X hW (cX0_takeOut_k rfl rfl rfl e18) rfl rfl kw6_92 kd_X0_takeOut rfl rfl ⟨Nat.le_of_ble_eq_true rfl, Nat.le_of_ble_eq_true rfl⟩ ⟨Nat.le_refl _, Nat.le_refl _⟩ hl.1 (Nat.le_of_ble_eq_true rfl) dX6_shrink_84 (fun H locs hW => ?_)
        refine lv_aload_n hx hb dX6_shrink_87 rfl (lv_at hl 0 rfl) ?_
        refine gf6_32 (cN := 0) X hW rfl dX6_shrink_88 ?_
        refine lv_iload_n hx hb dX6_shrink_91 rfl (lv_at hl 1 rfl) ?_
        refine lv_iload_n hx hb dX6_shrink_92 rfl (lv_at hl 2 rfl) ?_
        refine lv_iload_n hx hb dX6_shrink_93 rfl (lv_at hl 3 rfl) ?_
        obtain ⟨r22, M21, e20, h⟩ := ob_bd2 h
        refine bg_calli X hW (cX4_read_k e20) rfl rfl kw6_69 kd_X4_read rfl rfl ⟨Nat.le_of_ble_eq_true rfl, Nat.le_of_ble_eq_true rfl⟩ ⟨Nat.le_refl _, Nat.le_refl _⟩ hl.1 (Nat.le_of_ble_eq_true rfl) dX6_shrink_94 (fun H locs hW => ?_)
        refine lv_iload hx hb dX6_shrink_97 (lv_at hl 4 rfl) ?_
        refine lv_icmp_eq (tgt := 123) hx hb dX6_shrink_99 (by decide) (fun c23 => ?_) (fun c23 => ?_)
        · have h := ob_pos c23 h
          exact sX6_shrink_b123 X hq54 x1 x2 x3 x4 x5 x6 x7 M21 _ _ _ (lv_sub hl [0, 1, 2, 3, 4, 5, 6, 7] rfl) hW h
        · have h := ob_neg c23 h
          refine lv_aload_n hx hb dX6_shrink_102 rfl (lv_at hl 0 rfl) ?_
          refine gf6_14 (cN := 0) X hW rfl dX6_shrink_103 ?_
          refine lv_iload hx hb dX6_shrink_106 (lv_at hl 6 rfl) ?_
          obtain ⟨M26, e25, h⟩ := ob_bind h
          refine bg_callv X hW (cX0_putBack_k rfl rfl rfl e25) rfl rfl kw6_95 kd_X0_putBack rfl rfl ⟨Nat.le_of_ble_eq_true rfl, Nat.le_of_ble_eq_true rfl⟩ ⟨Nat.le_refl _, Nat.le_refl _⟩ hl.1 (Nat.le_of_ble_eq_true rfl) dX6_shrink_108 (fun H locs hW => ?_)
          refine lv_iload hx hb dX6_shrink_111 (lv_at hl 6 rfl) ?_
          refine lv_aload_n hx hb dX6_shrink_113 rfl (lv_at hl 0 rfl) ?_
          refine gf6_36 (cN := 0) X hW rfl dX6_shrink_114 ?_
          refine lv_iload hx hb dX6_shrink_117 (lv_at hl 7 rfl) ?_
          obtain ⟨g27, h⟩ := ob_gd h
          refine bg_ald (cN := 30) X hW (n := 600) rfl g27 dX6_shrink_119 ?_
          refine lv_iadd hx hb dX6_shrink_120 ?_
          refine lv_topi (fun y28 ey28 => ?_)
          have h := ob_lt ey28 h
          refine lv_istore (lv' := [(6, .int y28), (0, .ref (G.2.2.2 0)), (1, .int x1), (2, .int x2), (3, .int x3), (4, .int x4), (5, .int x5), (7, .int x7)]) hx hb dX6_shrink_121 hl (by decide) rfl (fun ls hl => ?_)
          exact sX6_shrink_b123 X hq54 x1 x2 x3 x4 x5 y28 x7 M26 _ _ _ (lv_sub hl [1, 2, 3, 4, 5, 6, 0, 7] rfl) hW h
def rX6_shrink (a1 : Int32) (a2 : Int32) (a3 : Int32) (M : Mm) : Option (Int32 × Mm) :=
    (bd2 (rX6_areBounds a1 a2 a3 M) fun r3 M2 => if r3 = 0 then (some ((-2 : Int32), M2)) else (bd2 (rX4_read a1 a2 a3 M2) fun r7 M6 => if r7 = 0 then (some ((-3 : Int32), M6)) else (bd2 (rX1_copyLengths M6) fun r11 M10 => rX6_shrink_b54 FU a1 a2 a3 r7 r11 (2 : Int32) (0 : Int32) M10)))
set_option maxRecDepth 100000 in
set_option maxHeartbeats 4000000 in
theorem cX6_shrink_k {l : Launch} {G : Gg} {a1 : Int32} {a2 : Int32} {a3 : Int32} {M M' : Mm} {r : Int32} (h : rX6_shrink a1 a2 a3 M = some (r, M')) : CTi l yX6_shrink cX6_shrink 8 (some .int) 40 G [.ref (G.2.2.2 0), .int a1, .int a2, .int a3] M r M' := by
  unfold rX6_shrink at h
  refine ct_i (by decide) (Nat.le_of_ble_eq_true rfl) (fun p e s m below meth c ls X hl hW => ?_)
  have hx := X.1.1
  have hb := X.1.2.1
  refine lv_iload_n hx hb dX6_shrink_0 rfl (lv_at hl 1 rfl) ?_
  refine lv_iload_n hx hb dX6_shrink_1 rfl (lv_at hl 2 rfl) ?_
  refine lv_iload_n hx hb dX6_shrink_2 rfl (lv_at hl 3 rfl) ?_
  obtain ⟨r3, M2, e1, h⟩ := ob_bd2 h
  refine bg_calls X hW (cX6_areBounds_k e1) kw6_65 kd_X6_areBounds rfl rfl ⟨Nat.le_of_ble_eq_true rfl, Nat.le_of_ble_eq_true rfl⟩ ⟨Nat.le_refl _, Nat.le_refl _⟩ hl.1 (Nat.le_of_ble_eq_true rfl) dX6_shrink_3 (fun H locs hW => ?_)
  refine lv_if_ne (tgt := 12) hx hb dX6_shrink_6 (by decide) (fun c4 => ?_) (fun c4 => ?_)
  · have h := ob_neg c4 h
    refine lv_aload_n hx hb dX6_shrink_12 rfl (lv_at hl 0 rfl) ?_
    refine gf6_32 (cN := 0) X hW rfl dX6_shrink_13 ?_
    refine lv_iload_n hx hb dX6_shrink_16 rfl (lv_at hl 1 rfl) ?_
    refine lv_iload_n hx hb dX6_shrink_17 rfl (lv_at hl 2 rfl) ?_
    refine lv_iload_n hx hb dX6_shrink_18 rfl (lv_at hl 3 rfl) ?_
    obtain ⟨r7, M6, e5, h⟩ := ob_bd2 h
    refine bg_calli X hW (cX4_read_k e5) rfl rfl kw6_69 kd_X4_read rfl rfl ⟨Nat.le_of_ble_eq_true rfl, Nat.le_of_ble_eq_true rfl⟩ ⟨Nat.le_refl _, Nat.le_refl _⟩ hl.1 (Nat.le_of_ble_eq_true rfl) dX6_shrink_19 (fun H locs hW => ?_)
    refine lv_istore (lv' := [(4, .int r7), (0, .ref (G.2.2.2 0)), (1, .int a1), (2, .int a2), (3, .int a3)]) hx hb dX6_shrink_22 hl (by decide) rfl (fun ls hl => ?_)
    refine lv_iload hx hb dX6_shrink_24 (lv_at hl 0 rfl) ?_
    refine lv_if_ne (tgt := 32) hx hb dX6_shrink_26 (by decide) (fun c8 => ?_) (fun c8 => ?_)
    · have h := ob_neg c8 h
      refine lv_aload_n hx hb dX6_shrink_32 rfl (lv_at hl 1 rfl) ?_
      refine gf6_32 (cN := 0) X hW rfl dX6_shrink_33 ?_
      refine gf6_79 (cN := 5) X hW rfl dX6_shrink_36 ?_
      refine lv_aload_n hx hb dX6_shrink_39 rfl (lv_at hl 1 rfl) ?_
      refine gf6_36 (cN := 0) X hW rfl dX6_shrink_40 ?_
      obtain ⟨r11, M10, e9, h⟩ := ob_bd2 h
      refine bg_calli X hW (cX1_copyLengths_k e9) rfl rfl kw6_88 kd_X1_copyLengths rfl rfl ⟨Nat.le_of_ble_eq_true rfl, Nat.le_of_ble_eq_true rfl⟩ ⟨Nat.le_refl _, Nat.le_refl _⟩ hl.1 (Nat.le_of_ble_eq_true rfl) dX6_shrink_43 (fun H locs hW => ?_)
      refine lv_istore (lv' := [(5, .int r11), (4, .int r7), (0, .ref (G.2.2.2 0)), (1, .int a1), (2, .int a2), (3, .int a3)]) hx hb dX6_shrink_46 hl (by decide) rfl (fun ls hl => ?_)
      refine lv_iconst (v := 2) hx hb dX6_shrink_48 (by decide) ?_
      refine lv_istore (lv' := [(6, .int (2 : Int32)), (5, .int r11), (4, .int r7), (0, .ref (G.2.2.2 0)), (1, .int a1), (2, .int a2), (3, .int a3)]) hx hb dX6_shrink_49 hl (by decide) rfl (fun ls hl => ?_)
      refine lv_iconst (v := 0) hx hb dX6_shrink_51 (by decide) ?_
      refine lv_istore (lv' := [(7, .int (0 : Int32)), (6, .int (2 : Int32)), (5, .int r11), (4, .int r7), (0, .ref (G.2.2.2 0)), (1, .int a1), (2, .int a2), (3, .int a3)]) hx hb dX6_shrink_52 hl (by decide) rfl (fun ls hl => ?_)
      exact sX6_shrink_b54 X FU a1 a2 a3 r7 r11 (2 : Int32) (0 : Int32) M10 _ _ _ (lv_sub hl [4, 5, 6, 7, 3, 2, 1, 0] rfl) hW h
    · have h := ob_pos c8 h
      refine lv_bipush (v := (-3)) hx hb dX6_shrink_29 (by decide) ?_
      exact rt_i X hW h dX6_shrink_31
  · have h := ob_pos c4 h
    refine lv_bipush (v := (-2)) hx hb dX6_shrink_9 (by decide) ?_
    exact rt_i X hW h dX6_shrink_11
def rX6_count (a1 : Int32) (M : Mm) : Option (Int32 × Mm) :=
    (if a1 = 0 then (some ((M.1 1 1), M)) else if a1 = 1 then (some ((M.1 6 1), M)) else if a1 = 2 then (some ((M.1 5 12), M)) else if a1 = 3 then (some ((M.1 5 13), M)) else if a1 = 4 then (some ((M.1 5 14), M)) else if a1 = 5 then (some ((M.1 5 15), M)) else if a1 = 6 then (some ((M.1 5 17), M)) else (some ((-1 : Int32), M)))
set_option maxRecDepth 100000 in
set_option maxHeartbeats 4000000 in
theorem cX6_count_k {l : Launch} {G : Gg} {a1 : Int32} {M M' : Mm} {r : Int32} (h : rX6_count a1 M = some (r, M')) : CTi l yX6_count cX6_count 2 (some .int) 0 G [.ref (G.2.2.2 0), .int a1] M r M' := by
  unfold rX6_count at h
  refine ct_i (by decide) (Nat.le_of_ble_eq_true rfl) (fun p e s m below meth c ls X hl hW => ?_)
  have hx := X.1.1
  have hb := X.1.2.1
  refine lv_iload_n hx hb dX6_count_0 rfl (lv_at hl 1 rfl) ?_
  by_cases c1 : a1 = 0
  · have h := ob_pos c1 h
    refine lv_tableIn (off := 43) (tgt := 44) hx hb dX6_count_1 (by rw [c1]; decide) (by rw [c1]; decide) (by rw [c1]; decide) (by decide) ?_
    refine lv_aload_n hx hb dX6_count_44 rfl (lv_at hl 0 rfl) ?_
    refine gf6_14 (cN := 0) X hW rfl dX6_count_45 ?_
    refine gf6_40 (cN := 1) X hW rfl dX6_count_48 ?_
    exact rt_i X hW h dX6_count_51
  · have h := ob_neg c1 h
    by_cases c2 : a1 = 1
    · have h := ob_pos c2 h
      refine lv_tableIn (off := 51) (tgt := 52) hx hb dX6_count_1 (by rw [c2]; decide) (by rw [c2]; decide) (by rw [c2]; decide) (by decide) ?_
      refine lv_aload_n hx hb dX6_count_52 rfl (lv_at hl 0 rfl) ?_
      refine gf6_32 (cN := 0) X hW rfl dX6_count_53 ?_
      refine gf6_73 (cN := 5) X hW rfl dX6_count_56 ?_
      refine gf6_40 (cN := 6) X hW rfl dX6_count_59 ?_
      exact rt_i X hW h dX6_count_62
    · have h := ob_neg c2 h
      by_cases c3 : a1 = 2
      · have h := ob_pos c3 h
        refine lv_tableIn (off := 62) (tgt := 63) hx hb dX6_count_1 (by rw [c3]; decide) (by rw [c3]; decide) (by rw [c3]; decide) (by decide) ?_
        refine lv_aload_n hx hb dX6_count_63 rfl (lv_at hl 0 rfl) ?_
        refine gf6_32 (cN := 0) X hW rfl dX6_count_64 ?_
        refine gf6_98 (cN := 5) X hW rfl dX6_count_67 ?_
        exact rt_i X hW h dX6_count_70
      · have h := ob_neg c3 h
        by_cases c4 : a1 = 3
        · have h := ob_pos c4 h
          refine lv_tableIn (off := 70) (tgt := 71) hx hb dX6_count_1 (by rw [c4]; decide) (by rw [c4]; decide) (by rw [c4]; decide) (by decide) ?_
          refine lv_aload_n hx hb dX6_count_71 rfl (lv_at hl 0 rfl) ?_
          refine gf6_32 (cN := 0) X hW rfl dX6_count_72 ?_
          refine gf6_101 (cN := 5) X hW rfl dX6_count_75 ?_
          exact rt_i X hW h dX6_count_78
        · have h := ob_neg c4 h
          by_cases c5 : a1 = 4
          · have h := ob_pos c5 h
            refine lv_tableIn (off := 78) (tgt := 79) hx hb dX6_count_1 (by rw [c5]; decide) (by rw [c5]; decide) (by rw [c5]; decide) (by decide) ?_
            refine lv_aload_n hx hb dX6_count_79 rfl (lv_at hl 0 rfl) ?_
            refine gf6_32 (cN := 0) X hW rfl dX6_count_80 ?_
            refine gf6_104 (cN := 5) X hW rfl dX6_count_83 ?_
            exact rt_i X hW h dX6_count_86
          · have h := ob_neg c5 h
            by_cases c6 : a1 = 5
            · have h := ob_pos c6 h
              refine lv_tableIn (off := 86) (tgt := 87) hx hb dX6_count_1 (by rw [c6]; decide) (by rw [c6]; decide) (by rw [c6]; decide) (by decide) ?_
              refine lv_aload_n hx hb dX6_count_87 rfl (lv_at hl 0 rfl) ?_
              refine gf6_32 (cN := 0) X hW rfl dX6_count_88 ?_
              refine gf6_107 (cN := 5) X hW rfl dX6_count_91 ?_
              exact rt_i X hW h dX6_count_94
            · have h := ob_neg c6 h
              by_cases c7 : a1 = 6
              · have h := ob_pos c7 h
                refine lv_tableIn (off := 94) (tgt := 95) hx hb dX6_count_1 (by rw [c7]; decide) (by rw [c7]; decide) (by rw [c7]; decide) (by decide) ?_
                refine lv_aload_n hx hb dX6_count_95 rfl (lv_at hl 0 rfl) ?_
                refine gf6_32 (cN := 0) X hW rfl dX6_count_96 ?_
                refine gf6_110 (cN := 5) X hW rfl dX6_count_99 ?_
                exact rt_i X hW h dX6_count_102
              · have h := ob_neg c7 h
                refine lv_tableOut (tgt := 103) hx hb dX6_count_1 (by have nc1 := lv_neT (a := 0) c1 rfl; have nc2 := lv_neT (a := 1) c2 rfl; have nc3 := lv_neT (a := 2) c3 rfl; have nc4 := lv_neT (a := 3) c4 rfl; have nc5 := lv_neT (a := 4) c5 rfl; have nc6 := lv_neT (a := 5) c6 rfl; have nc7 := lv_neT (a := 6) c7 rfl; omega) (by decide) ?_
                refine lv_iconst (v := (-1)) hx hb dX6_count_103 (by decide) ?_
                exact rt_i X hW h dX6_count_104
