def rX3_begin (pk : Nat) (a1 : Int32) (a2 : Int32) (a3 : Int32) (a4 : Int32) (M : Mm) : Option Mm :=
    (lt_ (st M pk 0 a1) fun M1 => lt_ (st M1 pk 1 a2) fun M2 => lt_ (st M2 pk 2 a3) fun M3 => lt_ (st M3 pk 3 a4) fun M4 => lt_ (st M4 pk 4 (0 : Int32)) fun M5 => some M5)
set_option maxRecDepth 100000 in
set_option maxHeartbeats 4000000 in
theorem cX3_begin_k {l : Launch} {G : Gg} {pk : Nat} (hpk : sh[pk]? = some skX3) {a1 : Int32} {a2 : Int32} {a3 : Int32} {a4 : Int32} {M M' : Mm} (h : rX3_begin pk a1 a2 a3 a4 M = some M') : CTv l yX3_begin cX3_begin 5 0 G [.ref (G.2.2.2 pk), .int a1, .int a2, .int a3, .int a4] M M' := by
  unfold rX3_begin at h
  refine ct_v (by decide) (Nat.le_of_ble_eq_true rfl) (fun p e s m below meth c ls X hl hW => ?_)
  have hx := X.1.1
  have hb := X.1.2.1
  refine lv_aload_n hx hb dX3_begin_0 rfl (lv_at hl 0 rfl) ?_
  refine lv_iload_n hx hb dX3_begin_1 rfl (lv_at hl 1 rfl) ?_
  refine pf3_7 (cN := pk) X hW hpk dX3_begin_2 (fun M1 eM1 H locs hW => ?_)
  have h := ob_lt eM1 h
  refine lv_aload_n hx hb dX3_begin_5 rfl (lv_at hl 0 rfl) ?_
  refine lv_iload_n hx hb dX3_begin_6 rfl (lv_at hl 2 rfl) ?_
  refine pf3_13 (cN := pk) X hW hpk dX3_begin_7 (fun M2 eM2 H locs hW => ?_)
  have h := ob_lt eM2 h
  refine lv_aload_n hx hb dX3_begin_10 rfl (lv_at hl 0 rfl) ?_
  refine lv_iload_n hx hb dX3_begin_11 rfl (lv_at hl 3 rfl) ?_
  refine pf3_16 (cN := pk) X hW hpk dX3_begin_12 (fun M3 eM3 H locs hW => ?_)
  have h := ob_lt eM3 h
  refine lv_aload_n hx hb dX3_begin_15 rfl (lv_at hl 0 rfl) ?_
  refine lv_iload hx hb dX3_begin_16 (lv_at hl 4 rfl) ?_
  refine pf3_19 (cN := pk) X hW hpk dX3_begin_18 (fun M4 eM4 H locs hW => ?_)
  have h := ob_lt eM4 h
  refine lv_aload_n hx hb dX3_begin_21 rfl (lv_at hl 0 rfl) ?_
  refine lv_iconst (v := 0) hx hb dX3_begin_22 (by decide) ?_
  refine pf3_22 (cN := pk) X hW hpk dX3_begin_23 (fun M5 eM5 H locs hW => ?_)
  have h := ob_lt eM5 h
  exact rt_v X hW h dX3_begin_26
