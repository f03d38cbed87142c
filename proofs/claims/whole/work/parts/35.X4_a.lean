def rX4_fail (a1 : Int32) (a2 : Int32) (M : Mm) : Option Mm :=
    (if (M.1 5 15) = 0 then (lt_ (st M 5 15 a1) fun M2 => lt_ (st M2 5 16 a2) fun M3 => some M3) else (some M))
set_option maxRecDepth 100000 in
set_option maxHeartbeats 4000000 in
theorem cX4_fail_k {l : Launch} {G : Gg} {a1 : Int32} {a2 : Int32} {M M' : Mm} (h : rX4_fail a1 a2 M = some M') : CTv l yX4_fail cX4_fail 3 0 G [.ref (G.2.2.2 5), .int a1, .int a2] M M' := by
  unfold rX4_fail at h
  refine ct_v (by decide) (Nat.le_of_ble_eq_true rfl) (fun p e s m below meth c ls X hl hW => ?_)
  have hx := X.1.1
  have hb := X.1.2.1
  refine lv_aload_n hx hb dX4_fail_0 rfl (lv_at hl 0 rfl) ?_
  refine gf4_70 (cN := 5) X hW rfl dX4_fail_1 ?_
  refine lv_if_ne (tgt := 17) hx hb dX4_fail_4 (by decide) (fun c1 => ?_) (fun c1 => ?_)
  · have h := ob_neg c1 h
    exact rt_v X hW h dX4_fail_17
  · have h := ob_pos c1 h
    refine lv_aload_n hx hb dX4_fail_7 rfl (lv_at hl 0 rfl) ?_
    refine lv_iload_n hx hb dX4_fail_8 rfl (lv_at hl 1 rfl) ?_
    refine pf4_70 (cN := 5) X hW rfl dX4_fail_9 (fun M2 eM2 H locs hW => ?_)
    have h := ob_lt eM2 h
    refine lv_aload_n hx hb dX4_fail_12 rfl (lv_at hl 0 rfl) ?_
    refine lv_iload_n hx hb dX4_fail_13 rfl (lv_at hl 2 rfl) ?_
    refine pf4_48 (cN := 5) X hW rfl dX4_fail_14 (fun M3 eM3 H locs hW => ?_)
    have h := ob_lt eM3 h
    exact rt_v X hW h dX4_fail_17
def rX4_canPay (a1 : Int32) (a2 : Int32) (a3 : Int32) (M : Mm) : Option (Int32 × Mm) :=
    (if ((M.1 6 1) + a2) ≤ (M.1 5 6) then (if ((M.1 5 12) + a3) ≤ (M.1 5 7) then (if ¬ (1 : Int32) &&& 1 = (1 : Int32) then none else some ((1 : Int32), M)) else (Option.bind (rX4_fail (12 : Int32) a1 M) fun M4 => if ¬ (0 : Int32) &&& 1 = (0 : Int32) then none else some ((0 : Int32), M4))) else (Option.bind (rX4_fail (11 : Int32) a1 M) fun M6 => if ¬ (0 : Int32) &&& 1 = (0 : Int32) then none else some ((0 : Int32), M6)))
set_option maxRecDepth 100000 in
set_option maxHeartbeats 4000000 in
theorem cX4_canPay_k {l : Launch} {G : Gg} {a1 : Int32} {a2 : Int32} {a3 : Int32} {M M' : Mm} {r : Int32} (h : rX4_canPay a1 a2 a3 M = some (r, M')) : CTi l yX4_canPay cX4_canPay 4 (some .boolean) 1 G [.ref (G.2.2.2 5), .int a1, .int a2, .int a3] M r M' := by
  unfold rX4_canPay at h
  refine ct_i (by decide) (Nat.le_of_ble_eq_true rfl) (fun p e s m below meth c ls X hl hW => ?_)
  have hx := X.1.1
  have hb := X.1.2.1
  refine lv_aload_n hx hb dX4_canPay_0 rfl (lv_at hl 0 rfl) ?_
  refine gf4_20 (cN := 5) X hW rfl dX4_canPay_1 ?_
  refine gf4_83 (cN := 6) X hW rfl dX4_canPay_4 ?_
  refine lv_iload_n hx hb dX4_canPay_7 rfl (lv_at hl 2 rfl) ?_
  refine lv_iadd hx hb dX4_canPay_8 ?_
  refine lv_aload_n hx hb dX4_canPay_9 rfl (lv_at hl 0 rfl) ?_
  refine gf4_52 (cN := 5) X hW rfl dX4_canPay_10 ?_
  refine lv_icmp_le (tgt := 25) hx hb dX4_canPay_13 (by decide) (fun c1 => ?_) (fun c1 => ?_)
  · have h := ob_pos c1 h
    refine lv_aload_n hx hb dX4_canPay_25 rfl (lv_at hl 0 rfl) ?_
    refine gf4_61 (cN := 5) X hW rfl dX4_canPay_26 ?_
    refine lv_iload_n hx hb dX4_canPay_29 rfl (lv_at hl 3 rfl) ?_
    refine lv_iadd hx hb dX4_canPay_30 ?_
    refine lv_aload_n hx hb dX4_canPay_31 rfl (lv_at hl 0 rfl) ?_
    refine gf4_55 (cN := 5) X hW rfl dX4_canPay_32 ?_
    refine lv_icmp_le (tgt := 47) hx hb dX4_canPay_35 (by decide) (fun c2 => ?_) (fun c2 => ?_)
    · have h := ob_pos c2 h
      refine lv_iconst (v := 1) hx hb dX4_canPay_47 (by decide) ?_
      exact rt_z X hW h dX4_canPay_48
    · have h := ob_neg c2 h
      refine lv_aload_n hx hb dX4_canPay_38 rfl (lv_at hl 0 rfl) ?_
      refine lv_bipush (v := 12) hx hb dX4_canPay_39 (by decide) ?_
      refine lv_iload_n hx hb dX4_canPay_41 rfl (lv_at hl 1 rfl) ?_
      obtain ⟨M4, e3, h⟩ := ob_bind h
      refine bg_callv X hW (cX4_fail_k e3) rfl rfl kw4_91 kd_X4_fail rfl rfl ⟨Nat.le_of_ble_eq_true rfl, Nat.le_of_ble_eq_true rfl⟩ ⟨Nat.le_refl _, Nat.le_refl _⟩ hl.1 (Nat.le_of_ble_eq_true rfl) dX4_canPay_42 (fun H locs hW => ?_)
      refine lv_iconst (v := 0) hx hb dX4_canPay_45 (by decide) ?_
      exact rt_z X hW h dX4_canPay_46
  · have h := ob_neg c1 h
    refine lv_aload_n hx hb dX4_canPay_16 rfl (lv_at hl 0 rfl) ?_
    refine lv_bipush (v := 11) hx hb dX4_canPay_17 (by decide) ?_
    refine lv_iload_n hx hb dX4_canPay_19 rfl (lv_at hl 1 rfl) ?_
    obtain ⟨M6, e5, h⟩ := ob_bind h
    refine bg_callv X hW (cX4_fail_k e5) rfl rfl kw4_91 kd_X4_fail rfl rfl ⟨Nat.le_of_ble_eq_true rfl, Nat.le_of_ble_eq_true rfl⟩ ⟨Nat.le_refl _, Nat.le_refl _⟩ hl.1 (Nat.le_of_ble_eq_true rfl) dX4_canPay_20 (fun H locs hW => ?_)
    refine lv_iconst (v := 0) hx hb dX4_canPay_23 (by decide) ?_
    exact rt_z X hW h dX4_canPay_24
def rX4_pay (a1 : Int32) (a2 : Int32) (a3 : Int32) (M : Mm) : Option (Int32 × Mm) :=
    (bd2 (rX4_canPay a1 a2 a3 M) fun r3 M2 => if r3 = 0 then (if ¬ (0 : Int32) &&& 1 = (0 : Int32) then none else some ((0 : Int32), M2)) else (lt_ (st M2 5 12 ((M2.1 5 12) + a3)) fun M5 => if ¬ (1 : Int32) &&& 1 = (1 : Int32) then none else some ((1 : Int32), M5)))
set_option maxRecDepth 100000 in
set_option maxHeartbeats 4000000 in
theorem cX4_pay_k {l : Launch} {G : Gg} {a1 : Int32} {a2 : Int32} {a3 : Int32} {M M' : Mm} {r : Int32} (h : rX4_pay a1 a2 a3 M = some (r, M')) : CTi l yX4_pay cX4_pay 4 (some .boolean) 2 G [.ref (G.2.2.2 5), .int a1, .int a2, .int a3] M r M' := by
  unfold rX4_pay at h
  refine ct_i (by decide) (Nat.le_of_ble_eq_true rfl) (fun p e s m below meth c ls X hl hW => ?_)
  have hx := X.1.1
  have hb := X.1.2.1
  refine lv_aload_n hx hb dX4_pay_0 rfl (lv_at hl 0 rfl) ?_
  refine lv_iload_n hx hb dX4_pay_1 rfl (lv_at hl 1 rfl) ?_
  refine lv_iload_n hx hb dX4_pay_2 rfl (lv_at hl 2 rfl) ?_
  refine lv_iload_n hx hb dX4_pay_3 rfl (lv_at hl 3 rfl) ?_
  obtain ⟨r3, M2, e1, h⟩ := ob_bd2 h
  refine bg_calli X hW (cX4_canPay_k e1) rfl rfl kw4_98 kd_X4_canPay rfl rfl ⟨Nat.le_of_ble_eq_true rfl, Nat.le_of_ble_eq_true rfl⟩ ⟨Nat.le_refl _, Nat.le_refl _⟩ hl.1 (Nat.le_of_ble_eq_true rfl) dX4_pay_4 (fun H locs hW => ?_)
  refine lv_if_ne (tgt := 12) hx hb dX4_pay_7 (by decide) (fun c4 => ?_) (fun c4 => ?_)
  · have h := ob_neg c4 h
    refine lv_aload_n hx hb dX4_pay_12 rfl (lv_at hl 0 rfl) ?_
    refine lv_dup hx hb dX4_pay_13 rfl ?_
    refine gf4_61 (cN := 5) X hW rfl dX4_pay_14 ?_
    refine lv_iload_n hx hb dX4_pay_17 rfl (lv_at hl 3 rfl) ?_
    refine lv_iadd hx hb dX4_pay_18 ?_
    refine pf4_61 (cN := 5) X hW rfl dX4_pay_19 (fun M5 eM5 H locs hW => ?_)
    have h := ob_lt eM5 h
    refine lv_iconst (v := 1) hx hb dX4_pay_22 (by decide) ?_
    exact rt_z X hW h dX4_pay_23
  · have h := ob_pos c4 h
    refine lv_iconst (v := 0) hx hb dX4_pay_10 (by decide) ?_
    exact rt_z X hW h dX4_pay_11
def rX4_next (a1 : Int32) (M : Mm) : Option (Int32 × Mm) :=
    (if (M.1 5 9) < a1 then (bd2 (rX0_get 1 1200 1200 (M.1 5 9) M) fun r4 M3 => lt_ (st M3 5 9 ((M3.1 5 9) + (1 : Int32))) fun M5 => some (r4, M5)) else (Option.bind (rX4_fail (3 : Int32) a1 M) fun M7 => some ((-1 : Int32), M7)))
set_option maxRecDepth 100000 in
set_option maxHeartbeats 4000000 in
theorem cX4_next_k {l : Launch} {G : Gg} {a1 : Int32} {M M' : Mm} {r : Int32} (h : rX4_next a1 M = some (r, M')) : CTi l yX4_next cX4_next 3 (some .int) 1 G [.ref (G.2.2.2 5), .int a1] M r M' := by
  unfold rX4_next at h
  refine ct_i (by decide) (Nat.le_of_ble_eq_true rfl) (fun p e s m below meth c ls X hl hW => ?_)
  have hx := X.1.1
  have hb := X.1.2.1
  refine lv_aload_n hx hb dX4_next_0 rfl (lv_at hl 0 rfl) ?_
  refine gf4_88 (cN := 5) X hW rfl dX4_next_1 ?_
  refine lv_iload_n hx hb dX4_next_4 rfl (lv_at hl 1 rfl) ?_
  refine lv_icmp_lt (tgt := 16) hx hb dX4_next_5 (by decide) (fun c1 => ?_) (fun c1 => ?_)
  · have h := ob_pos c1 h
    refine lv_aload_n hx hb dX4_next_16 rfl (lv_at hl 0 rfl) ?_
    refine gf4_9 (cN := 5) X hW rfl dX4_next_17 ?_
    refine lv_aload_n hx hb dX4_next_20 rfl (lv_at hl 0 rfl) ?_
    refine gf4_88 (cN := 5) X hW rfl dX4_next_21 ?_
    obtain ⟨r4, M3, e2, h⟩ := ob_bd2 h
    refine bg_calli X hW (cX0_get_k rfl rfl rfl e2) rfl rfl kw4_94 kd_X0_get rfl rfl ⟨Nat.le_of_ble_eq_true rfl, Nat.le_of_ble_eq_true rfl⟩ ⟨Nat.le_refl _, Nat.le_refl _⟩ hl.1 (Nat.le_of_ble_eq_true rfl) dX4_next_24 (fun H locs hW => ?_)
    refine lv_istore_n (lv' := [(2, .int r4), (0, .ref (G.2.2.2 5)), (1, .int a1)]) hx hb dX4_next_27 rfl hl (by decide) rfl (fun ls hl => ?_)
    refine lv_aload_n hx hb dX4_next_28 rfl (lv_at hl 1 rfl) ?_
    refine lv_dup hx hb dX4_next_29 rfl ?_
    refine gf4_88 (cN := 5) X hW rfl dX4_next_30 ?_
    refine lv_iconst (v := 1) hx hb dX4_next_33 (by decide) ?_
    refine lv_iadd hx hb dX4_next_34 ?_
    refine pf4_88 (cN := 5) X hW rfl dX4_next_35 (fun M5 eM5 H locs hW => ?_)
    have h := ob_lt eM5 h
    refine lv_iload_n hx hb dX4_next_38 rfl (lv_at hl 0 rfl) ?_
    exact rt_i X hW h dX4_next_39
  · have h := ob_neg c1 h
    refine lv_aload_n hx hb dX4_next_8 rfl (lv_at hl 0 rfl) ?_
    refine lv_iconst (v := 3) hx hb dX4_next_9 (by decide) ?_
    refine lv_iload_n hx hb dX4_next_10 rfl (lv_at hl 1 rfl) ?_
    obtain ⟨M7, e6, h⟩ := ob_bind h
    refine bg_callv X hW (cX4_fail_k e6) rfl rfl kw4_91 kd_X4_fail rfl rfl ⟨Nat.le_of_ble_eq_true rfl, Nat.le_of_ble_eq_true rfl⟩ ⟨Nat.le_refl _, Nat.le_refl _⟩ hl.1 (Nat.le_of_ble_eq_true rfl) dX4_next_11 (fun H locs hW => ?_)
    refine lv_iconst (v := (-1)) hx hb dX4_next_14 (by decide) ?_
    exact rt_i X hW h dX4_next_15
def rX4_readMark (a1 : Int32) (a2 : Int32) (M : Mm) : Option Mm :=
    (if (M.1 5 15) = 0 then (bd2 (rX4_next a2 M) fun r4 M3 => if r4 = (-1 : Int32) then (some M3) else (if r4 = a1 then (some M3) else (Option.bind (rX4_fail (1 : Int32) ((M3.1 5 9) - (1 : Int32)) M3) fun M8 => some M8))) else (some M))
set_option maxRecDepth 100000 in
set_option maxHeartbeats 4000000 in
theorem cX4_readMark_k {l : Launch} {G : Gg} {a1 : Int32} {a2 : Int32} {M M' : Mm} (h : rX4_readMark a1 a2 M = some M') : CTv l yX4_readMark cX4_readMark 4 2 G [.ref (G.2.2.2 5), .int a1, .int a2] M M' := by
  unfold rX4_readMark at h
  refine ct_v (by decide) (Nat.le_of_ble_eq_true rfl) (fun p e s m below meth c ls X hl hW => ?_)
  have hx := X.1.1
  have hb := X.1.2.1
  refine lv_aload_n hx hb dX4_readMark_0 rfl (lv_at hl 0 rfl) ?_
  refine gf4_70 (cN := 5) X hW rfl dX4_readMark_1 ?_
  refine lv_if_eq (tgt := 8) hx hb dX4_readMark_4 (by decide) (fun c1 => ?_) (fun c1 => ?_)
  · have h := ob_pos c1 h
    refine lv_aload_n hx hb dX4_readMark_8 rfl (lv_at hl 0 rfl) ?_
    refine lv_iload_n hx hb dX4_readMark_9 rfl (lv_at hl 2 rfl) ?_
    obtain ⟨r4, M3, e2, h⟩ := ob_bd2 h
    refine bg_calli X hW (cX4_next_k e2) rfl rfl kw4_117 kd_X4_next rfl rfl ⟨Nat.le_of_ble_eq_true rfl, Nat.le_of_ble_eq_true rfl⟩ ⟨Nat.le_refl _, Nat.le_refl _⟩ hl.1 (Nat.le_of_ble_eq_true rfl) dX4_readMark_10 (fun H locs hW => ?_)
    refine lv_istore_n (lv' := [(3, .int r4), (0, .ref (G.2.2.2 5)), (1, .int a1), (2, .int a2)]) hx hb dX4_readMark_13 rfl hl (by decide) rfl (fun ls hl => ?_)
    refine lv_iload_n hx hb dX4_readMark_14 rfl (lv_at hl 0 rfl) ?_
    refine lv_iconst (v := (-1)) hx hb dX4_readMark_15 (by decide) ?_
    refine lv_icmp_eq (tgt := 35) hx hb dX4_readMark_16 (by decide) (fun c5 => ?_) (fun c5 => ?_)
    · have h := ob_pos c5 h
      exact rt_v X hW h dX4_readMark_35
    · have h := ob_neg c5 h
      refine lv_iload_n hx hb dX4_readMark_19 rfl (lv_at hl 0 rfl) ?_
      refine lv_iload_n hx hb dX4_readMark_20 rfl (lv_at hl 2 rfl) ?_
      refine lv_icmp_eq (tgt := 35) hx hb dX4_readMark_21 (by decide) (fun c6 => ?_) (fun c6 => ?_)
      · have h := ob_pos c6 h
        exact rt_v X hW h dX4_readMark_35
      · have h := ob_neg c6 h
        refine lv_aload_n hx hb dX4_readMark_24 rfl (lv_at hl 1 rfl) ?_
        refine lv_iconst (v := 1) hx hb dX4_readMark_25 (by decide) ?_
        refine lv_aload_n hx hb dX4_readMark_26 rfl (lv_at hl 1 rfl) ?_
        refine gf4_88 (cN := 5) X hW rfl dX4_readMark_27 ?_
        refine lv_iconst (v := 1) hx hb dX4_readMark_30 (by decide) ?_
        refine lv_isub hx hb dX4_readMark_31 ?_
        obtain ⟨M8, e7, h⟩ := ob_bind h
        refine bg_callv X hW (cX4_fail_k e7) rfl rfl kw4_91 kd_X4_fail rfl rfl ⟨Nat.le_of_ble_eq_true rfl, Nat.le_of_ble_eq_true rfl⟩ ⟨Nat.le_refl _, Nat.le_refl _⟩ hl.1 (Nat.le_of_ble_eq_true rfl) dX4_readMark_32 (fun H locs hW => ?_)
        exact rt_v X hW h dX4_readMark_35
  · have h := ob_neg c1 h
    exact rt_v X hW h dX4_readMark_7
def rX4_readCheck (pk : Nat) (M : Mm) : Option Mm :=
    (lt_ (M.1 5 9) fun y1 => bd2 (rX4_next (M.1 pk 1) M) fun r4 M3 => if r4 = (-1 : Int32) then (some M3) else (bd2 (rX0_checkOf 1 1200 1200 (M3.1 pk 0) y1 M3) fun r8 M7 => if r4 = r8 then (if (M7.1 pk 1) ≤ (M7.1 5 9) then (some M7) else (Option.bind (rX4_fail (10 : Int32) (M7.1 5 9) M7) fun M12 => some M12)) else (Option.bind (rX4_fail (9 : Int32) y1 M7) fun M14 => some M14)))
set_option maxRecDepth 100000 in
set_option maxHeartbeats 4000000 in
theorem cX4_readCheck_k {l : Launch} {G : Gg} {pk : Nat} (hpk : sh[pk]? = some skX3) {M M' : Mm} (h : rX4_readCheck pk M = some M') : CTv l yX4_readCheck cX4_readCheck 4 2 G [.ref (G.2.2.2 5), .ref (G.2.2.2 pk)] M M' := by
  unfold rX4_readCheck at h
  refine ct_v (by decide) (Nat.le_of_ble_eq_true rfl) (fun p e s m below meth c ls X hl hW => ?_)
  have hx := X.1.1
  have hb := X.1.2.1
  refine lv_aload_n hx hb dX4_readCheck_0 rfl (lv_at hl 0 rfl) ?_
  refine gf4_88 (cN := 5) X hW rfl dX4_readCheck_1 ?_
  refine lv_topi (fun y1 ey1 => ?_)
  have h := ob_lt ey1 h
  refine lv_istore_n (lv' := [(2, .int y1), (0, .ref (G.2.2.2 5)), (1, .ref (G.2.2.2 pk))]) hx hb dX4_readCheck_4 rfl hl (by decide) rfl (fun ls hl => ?_)
  refine lv_aload_n hx hb dX4_readCheck_5 rfl (lv_at hl 1 rfl) ?_
  refine lv_aload_n hx hb dX4_readCheck_6 rfl (lv_at hl 2 rfl) ?_
  refine gf4_128 (cN := pk) X hW hpk dX4_readCheck_7 ?_
  obtain ⟨r4, M3, e2, h⟩ := ob_bd2 h
  refine bg_calli X hW (cX4_next_k e2) rfl rfl kw4_117 kd_X4_next rfl rfl ⟨Nat.le_of_ble_eq_true rfl, Nat.le_of_ble_eq_true rfl⟩ ⟨Nat.le_refl _, Nat.le_refl _⟩ hl.1 (Nat.le_of_ble_eq_true rfl) dX4_readCheck_10 (fun H locs hW => ?_)
  refine lv_istore_n (lv' := [(3, .int r4), (2, .int y1), (0, .ref (G.2.2.2 5)), (1, .ref (G.2.2.2 pk))]) hx hb dX4_readCheck_13 rfl hl (by decide) rfl (fun ls hl => ?_)
  refine lv_iload_n hx hb dX4_readCheck_14 rfl (lv_at hl 0 rfl) ?_
  refine lv_iconst (v := (-1)) hx hb dX4_readCheck_15 (by decide) ?_
  refine lv_icmp_ne (tgt := 20) hx hb dX4_readCheck_16 (by decide) (fun c5 => ?_) (fun c5 => ?_)
  · have h := ob_neg c5 h
    refine lv_iload_n hx hb dX4_readCheck_20 rfl (lv_at hl 0 rfl) ?_
    refine lv_aload_n hx hb dX4_readCheck_21 rfl (lv_at hl 2 rfl) ?_
    refine gf4_9 (cN := 5) X hW rfl dX4_readCheck_22 ?_
    refine lv_aload_n hx hb dX4_readCheck_25 rfl (lv_at hl 3 rfl) ?_
    refine gf4_131 (cN := pk) X hW hpk dX4_readCheck_26 ?_
    refine lv_iload_n hx hb dX4_readCheck_29 rfl (lv_at hl 1 rfl) ?_
    obtain ⟨r8, M7, e6, h⟩ := ob_bd2 h
    refine bg_calli X hW (cX0_checkOf_k rfl rfl rfl e6) rfl rfl kw4_134 kd_X0_checkOf rfl rfl ⟨Nat.le_of_ble_eq_true rfl, Nat.le_of_ble_eq_true rfl⟩ ⟨Nat.le_refl _, Nat.le_refl _⟩ hl.1 (Nat.le_of_ble_eq_true rfl) dX4_readCheck_30 (fun H locs hW => ?_)
    refine lv_icmp_eq (tgt := 46) hx hb dX4_readCheck_33 (by decide) (fun c9 => ?_) (fun c9 => ?_)
    · have h := ob_pos c9 h
      refine lv_aload_n hx hb dX4_readCheck_46 rfl (lv_at hl 2 rfl) ?_
      refine gf4_88 (cN := 5) X hW rfl dX4_readCheck_47 ?_
      refine lv_aload_n hx hb dX4_readCheck_50 rfl (lv_at hl 3 rfl) ?_
      refine gf4_128 (cN := pk) X hW hpk dX4_readCheck_51 ?_
      refine lv_icmp_ge (tgt := 67) hx hb dX4_readCheck_54 (by decide) (fun c10 => ?_) (fun c10 => ?_)
      · have h := ob_pos c10 h
        exact rt_v X hW h dX4_readCheck_67
      · have h := ob_neg c10 h
        refine lv_aload_n hx hb dX4_readCheck_57 rfl (lv_at hl 2 rfl) ?_
        refine lv_bipush (v := 10) hx hb dX4_readCheck_58 (by decide) ?_
        refine lv_aload_n hx hb dX4_readCheck_60 rfl (lv_at hl 2 rfl) ?_
        refine gf4_88 (cN := 5) X hW rfl dX4_readCheck_61 ?_
        obtain ⟨M12, e11, h⟩ := ob_bind h
        refine bg_callv X hW (cX4_fail_k e11) rfl rfl kw4_91 kd_X4_fail rfl rfl ⟨Nat.le_of_ble_eq_true rfl, Nat.le_of_ble_eq_true rfl⟩ ⟨Nat.le_refl _, Nat.le_refl _⟩ hl.1 (Nat.le_of_ble_eq_true rfl) dX4_readCheck_64 (fun H locs hW => ?_)
        exact rt_v X hW h dX4_readCheck_67
    · have h := ob_neg c9 h
      refine lv_aload_n hx hb dX4_readCheck_36 rfl (lv_at hl 2 rfl) ?_
      refine lv_bipush (v := 9) hx hb dX4_readCheck_37 (by decide) ?_
      refine lv_iload_n hx hb dX4_readCheck_39 rfl (lv_at hl 1 rfl) ?_
      obtain ⟨M14, e13, h⟩ := ob_bind h
      refine bg_callv X hW (cX4_fail_k e13) rfl rfl kw4_91 kd_X4_fail rfl rfl ⟨Nat.le_of_ble_eq_true rfl, Nat.le_of_ble_eq_true rfl⟩ ⟨Nat.le_refl _, Nat.le_refl _⟩ hl.1 (Nat.le_of_ble_eq_true rfl) dX4_readCheck_40 (fun H locs hW => ?_)
      refine lv_goto (tgt := 67) hx hb dX4_readCheck_43 (by decide) ?_
      exact rt_v X hW h dX4_readCheck_67
  · have h := ob_pos c5 h
    exact rt_v X hW h dX4_readCheck_19
def rX4_hasBytes (a1 : Int32) (a2 : Int32) (M : Mm) : Option (Int32 × Mm) :=
    (if a1 ≤ (a2 - (M.1 5 9)) then (if ¬ (1 : Int32) &&& 1 = (1 : Int32) then none else some ((1 : Int32), M)) else (Option.bind (rX4_fail (3 : Int32) a2 M) fun M3 => if ¬ (0 : Int32) &&& 1 = (0 : Int32) then none else some ((0 : Int32), M3)))
set_option maxRecDepth 100000 in
set_option maxHeartbeats 4000000 in
theorem cX4_hasBytes_k {l : Launch} {G : Gg} {a1 : Int32} {a2 : Int32} {M M' : Mm} {r : Int32} (h : rX4_hasBytes a1 a2 M = some (r, M')) : CTi l yX4_hasBytes cX4_hasBytes 3 (some .boolean) 1 G [.ref (G.2.2.2 5), .int a1, .int a2] M r M' := by
  unfold rX4_hasBytes at h
  refine ct_i (by decide) (Nat.le_of_ble_eq_true rfl) (fun p e s m below meth c ls X hl hW => ?_)
  have hx := X.1.1
  have hb := X.1.2.1
  refine lv_iload_n hx hb dX4_hasBytes_0 rfl (lv_at hl 1 rfl) ?_
  refine lv_iload_n hx hb dX4_hasBytes_1 rfl (lv_at hl 2 rfl) ?_
  refine lv_aload_n hx hb dX4_hasBytes_2 rfl (lv_at hl 0 rfl) ?_
  refine gf4_88 (cN := 5) X hW rfl dX4_hasBytes_3 ?_
  refine lv_isub hx hb dX4_hasBytes_6 ?_
  refine lv_icmp_le (tgt := 18) hx hb dX4_hasBytes_7 (by decide) (fun c1 => ?_) (fun c1 => ?_)
  · have h := ob_pos c1 h
    refine lv_iconst (v := 1) hx hb dX4_hasBytes_18 (by decide) ?_
    exact rt_z X hW h dX4_hasBytes_19
  · have h := ob_neg c1 h
    refine lv_aload_n hx hb dX4_hasBytes_10 rfl (lv_at hl 0 rfl) ?_
    refine lv_iconst (v := 3) hx hb dX4_hasBytes_11 (by decide) ?_
    refine lv_iload_n hx hb dX4_hasBytes_12 rfl (lv_at hl 2 rfl) ?_
    obtain ⟨M3, e2, h⟩ := ob_bind h
    refine bg_callv X hW (cX4_fail_k e2) rfl rfl kw4_91 kd_X4_fail rfl rfl ⟨Nat.le_of_ble_eq_true rfl, Nat.le_of_ble_eq_true rfl⟩ ⟨Nat.le_refl _, Nat.le_refl _⟩ hl.1 (Nat.le_of_ble_eq_true rfl) dX4_hasBytes_13 (fun H locs hW => ?_)
    refine lv_iconst (v := 0) hx hb dX4_hasBytes_16 (by decide) ?_
    exact rt_z X hW h dX4_hasBytes_17
def rX4_readStored_b38_s (q38 : Int32 → Int32 → Mm → Option Mm) (x3 : Int32) (x4 : Int32) (M : Mm) : Option Mm :=
    (if x3 ≤ x4 then (lt_ (st M 5 9 ((M.1 5 9) + x3)) fun M14 => some M14) else (bd2 (rX0_get 1 1200 1200 ((M.1 5 9) + x4) M) fun r17 M16 => Option.bind (rX0_append 6 4000 0 r17 M16) fun M19 => lt_ (x4 + 1) fun y20 => q38 x3 y20 M19))
def rX4_readStored_b38 : Nat → Int32 → Int32 → Mm → Option Mm
  | 0 => fun _ _ _ => none
  | n + 1 => rX4_readStored_b38_s (rX4_readStored_b38 n)
set_option maxRecDepth 100000 in
set_option maxHeartbeats 4000000 in
theorem sX4_readStored_b38 {p : Program} {l : Launch} {e : Env} {s : State} {m : MethodId} {args : Array Value} {below : List Frame} {meth : Method} {c : Code} {G : Gg} {M' : Mm} (X : Cx p m c meth cX4_readStored 5 s args RX4 none G) : ∀ (n : Nat), ∀ (x3 : Int32) (x4 : Int32) (M : Mm) (ls : Array Slot) (H : Heap) (locs : List Loc), lv_has ls 5 [(0, .ref (G.2.2.2 5)), (3, .int x3), (4, .int x4)] → Wo G s M H locs → rX4_readStored_b38 n x3 x4 M = some M' → W p l e (rm 3) s m args below meth c H locs 0 0 (Qv below args s G M') (F0 m 38 ls []) := by
  intro n
  induction n with
  | zero =>
    intro x3 x4 M ls H locs hl hW h
    cases (show (none : Option Mm) = some M' from h)
  | succ n hq380 =>
    have hq38 : ∀ (x3 : Int32) (x4 : Int32) (M : Mm) (ls : Array Slot) (H : Heap) (locs : List Loc), lv_has ls 5 [(0, .ref (G.2.2.2 5)), (3, .int x3), (4, .int x4)] → Wo G s M H locs → (rX4_readStored_b38 n) x3 x4 M = some M' → W p l e (rm 3) s m args below meth c H locs 0 0 (Qv below args s G M') (F0 m 38 ls []) := hq380
    intro x3 x4 M ls H locs hl hW h
    have h : rX4_readStored_b38_s (rX4_readStored_b38 n) x3 x4 M = some M' := h
    unfold rX4_readStored_b38_s at h
    have hx := X.1.1
    have hb := X.1.2.1
    refine lv_iload hx hb dX4_readStored_38 (lv_at hl 2 rfl) ?_
    refine lv_iload_n hx hb dX4_readStored_40 rfl (lv_at hl 1 rfl) ?_
    refine lv_icmp_ge (tgt := 71) hx hb dX4_readStored_41 (by decide) (fun c13 => ?_) (fun c13 => ?_)
    · have h := ob_pos c13 h
      refine lv_aload_n hx hb dX4_readStored_71 rfl (lv_at hl 0 rfl) ?_
      refine lv_dup hx hb dX4_readStored_72 rfl ?_
      refine gf4_88 (cN := 5) X hW rfl dX4_readStored_73 ?_
      refine lv_iload_n hx hb dX4_readStored_76 rfl (lv_at hl 1 rfl) ?_
      refine lv_iadd hx hb dX4_readStored_77 ?_
      refine pf4_88 (cN := 5) X hW rfl dX4_readStored_78 (fun M14 eM14 H locs hW => ?_)
      have h := ob_lt eM14 h
      exact rt_v X hW h dX4_readStored_81
    · have h := ob_neg c13 h
      refine lv_aload_n hx hb dX4_readStored_44 rfl (lv_at hl 0 rfl) ?_
      refine gf4_20 (cN := 5) X hW rfl dX4_readStored_45 ?_
      refine lv_aload_n hx hb dX4_readStored_48 rfl (lv_at hl 0 rfl) ?_
      refine gf4_9 (cN := 5) X hW rfl dX4_readStored_49 ?_
      refine lv_aload_n hx hb dX4_readStored_52 rfl (lv_at hl 0 rfl) ?_
      refine gf4_88 (cN := 5) X hW rfl dX4_readStored_53 ?_
      refine lv_iload hx hb dX4_readStored_56 (lv_at hl 2 rfl) ?_
      refine lv_iadd hx hb dX4_readStored_58 ?_
      obtain ⟨r17, M16, e15, h⟩ := ob_bd2 h
      refine bg_calli X hW (cX0_get_k rfl rfl rfl e15) rfl rfl kw4_94 kd_X0_get rfl rfl ⟨Nat.le_of_ble_eq_true rfl, Nat.le_of_ble_eq_true rfl⟩ ⟨Nat.le_refl _, Nat.le_refl _⟩ hl.1 (Nat.le_of_ble_eq_true rfl) dX4_readStored_59 (fun H locs hW => ?_)
      obtain ⟨M19, e18, h⟩ := ob_bind h
      refine bg_callv X hW (cX0_append_k rfl rfl rfl e18) rfl rfl kw4_176 kd_X0_append rfl rfl ⟨Nat.le_of_ble_eq_true rfl, Nat.le_of_ble_eq_true rfl⟩ ⟨Nat.le_refl _, Nat.le_refl _⟩ hl.1 (Nat.le_of_ble_eq_true rfl) dX4_readStored_62 (fun H locs hW => ?_)
      obtain ⟨y20, ey20⟩ : ∃ y : Int32, y = (x4 + 1) := ⟨_, rfl⟩
      have h := ob_lt ey20 h
      refine lv_iinc (v := y20) (lv' := [(4, .int y20), (0, .ref (G.2.2.2 5)), (3, .int x3)]) hx hb dX4_readStored_65 hl (k := 2) rfl (by rw [ey20]; rfl) (by decide) rfl (fun ls hl => ?_)
      refine lv_goto (tgt := 38) hx hb dX4_readStored_68 (by decide) ?_
      exact hq38 x3 y20 M19 _ _ _ (lv_sub hl [1, 2, 0] rfl) hW h
def rX4_readStored (a1 : Int32) (a2 : Int32) (M : Mm) : Option Mm :=
    (bd2 (rX4_next a2 M) fun r3 M2 => if r3 = (-1 : Int32) then (some M2) else (bd2 (rX4_hasBytes r3 a2 M2) fun r7 M6 => if r7 = 0 then (some M6) else (bd2 (rX4_pay a1 r3 (((2 : Int32) + r3) + r3) M6) fun r11 M10 => if r11 = 0 then (some M10) else (rX4_readStored_b38 FU r3 (0 : Int32) M10))))
set_option maxRecDepth 100000 in
set_option maxHeartbeats 4000000 in
theorem cX4_readStored_k {l : Launch} {G : Gg} {a1 : Int32} {a2 : Int32} {M M' : Mm} (h : rX4_readStored a1 a2 M = some M') : CTv l yX4_readStored cX4_readStored 5 3 G [.ref (G.2.2.2 5), .int a1, .int a2] M M' := by
  unfold rX4_readStored at h
  refine ct_v (by decide) (Nat.le_of_ble_eq_true rfl) (fun p e s m below meth c ls X hl hW => ?_)
  have hx := X.1.1
  have hb := X.1.2.1
  refine lv_aload_n hx hb dX4_readStored_0 rfl (lv_at hl 0 rfl) ?_
  refine lv_iload_n hx hb dX4_readStored_1 rfl (lv_at hl 2 rfl) ?_
  obtain ⟨r3, M2, e1, h⟩ := ob_bd2 h
  refine bg_calli X hW (cX4_next_k e1) rfl rfl kw4_117 kd_X4_next rfl rfl ⟨Nat.le_of_ble_eq_true rfl, Nat.le_of_ble_eq_true rfl⟩ ⟨Nat.le_refl _, Nat.le_refl _⟩ hl.1 (Nat.le_of_ble_eq_true rfl) dX4_readStored_2 (fun H locs hW => ?_)
  refine lv_istore_n (lv' := [(3, .int r3), (0, .ref (G.2.2.2 5)), (1, .int a1), (2, .int a2)]) hx hb dX4_readStored_5 rfl hl (by decide) rfl (fun ls hl => ?_)
  refine lv_iload_n hx hb dX4_readStored_6 rfl (lv_at hl 0 rfl) ?_
  refine lv_iconst (v := (-1)) hx hb dX4_readStored_7 (by decide) ?_
  refine lv_icmp_eq (tgt := 34) hx hb dX4_readStored_8 (by decide) (fun c4 => ?_) (fun c4 => ?_)
  · have h := ob_pos c4 h
    exact rt_v X hW h dX4_readStored_34
  · have h := ob_neg c4 h
    refine lv_aload_n hx hb dX4_readStored_11 rfl (lv_at hl 1 rfl) ?_
    refine lv_iload_n hx hb dX4_readStored_12 rfl (lv_at hl 0 rfl) ?_
    refine lv_iload_n hx hb dX4_readStored_13 rfl (lv_at hl 3 rfl) ?_
    obtain ⟨r7, M6, e5, h⟩ := ob_bd2 h
    refine bg_calli X hW (cX4_hasBytes_k e5) rfl rfl kw4_172 kd_X4_hasBytes rfl rfl ⟨Nat.le_of_ble_eq_true rfl, Nat.le_of_ble_eq_true rfl⟩ ⟨Nat.le_refl _, Nat.le_refl _⟩ hl.1 (Nat.le_of_ble_eq_true rfl) dX4_readStored_14 (fun H locs hW => ?_)
    refine lv_if_eq (tgt := 34) hx hb dX4_readStored_17 (by decide) (fun c8 => ?_) (fun c8 => ?_)
    · have h := ob_pos c8 h
      exact rt_v X hW h dX4_readStored_34
    · have h := ob_neg c8 h
      refine lv_aload_n hx hb dX4_readStored_20 rfl (lv_at hl 1 rfl) ?_
      refine lv_iload_n hx hb dX4_readStored_21 rfl (lv_at hl 2 rfl) ?_
      refine lv_iload_n hx hb dX4_readStored_22 rfl (lv_at hl 0 rfl) ?_
      refine lv_iconst (v := 2) hx hb dX4_readStored_23 (by decide) ?_
      refine lv_iload_n hx hb dX4_readStored_24 rfl (lv_at hl 0 rfl) ?_
      refine lv_iadd hx hb dX4_readStored_25 ?_
      refine lv_iload_n hx hb dX4_readStored_26 rfl (lv_at hl 0 rfl) ?_
      refine lv_iadd hx hb dX4_readStored_27 ?_
      obtain ⟨r11, M10, e9, h⟩ := ob_bd2 h
      refine bg_calli X hW (cX4_pay_k e9) rfl rfl kw4_102 kd_X4_pay rfl rfl ⟨Nat.le_of_ble_eq_true rfl, Nat.le_of_ble_eq_true rfl⟩ ⟨Nat.le_refl _, Nat.le_refl _⟩ hl.1 (Nat.le_of_ble_eq_true rfl) dX4_readStored_28 (fun H locs hW => ?_)
      refine lv_if_ne (tgt := 35) hx hb dX4_readStored_31 (by decide) (fun c12 => ?_) (fun c12 => ?_)
      · have h := ob_neg c12 h
        refine lv_iconst (v := 0) hx hb dX4_readStored_35 (by decide) ?_
        refine lv_istore (lv' := [(4, .int (0 : Int32)), (3, .int r3), (0, .ref (G.2.2.2 5)), (1, .int a1), (2, .int a2)]) hx hb dX4_readStored_36 hl (by decide) rfl (fun ls hl => ?_)
        exact sX4_readStored_b38 X FU r3 (0 : Int32) M10 _ _ _ (lv_sub hl [2, 1, 0] rfl) hW h
      · have h := ob_pos c12 h
        exact rt_v X hW h dX4_readStored_34
def rX4_readRun_b40_s (q40 : Int32 → Int32 → Int32 → Mm → Option Mm) (x3 : Int32) (x4 : Int32) (x5 : Int32) (M : Mm) : Option Mm :=
    (if x3 ≤ x5 then (some M) else (Option.bind (rX0_append 6 4000 0 x4 M) fun M15 => lt_ (x5 + 1) fun y16 => q40 x3 x4 y16 M15))
def rX4_readRun_b40 : Nat → Int32 → Int32 → Int32 → Mm → Option Mm
  | 0 => fun _ _ _ _ => none
  | n + 1 => rX4_readRun_b40_s (rX4_readRun_b40 n)
set_option maxRecDepth 100000 in
set_option maxHeartbeats 4000000 in
theorem sX4_readRun_b40 {p : Program} {l : Launch} {e : Env} {s : State} {m : MethodId} {args : Array Value} {below : List Frame} {meth : Method} {c : Code} {G : Gg} {M' : Mm} (X : Cx p m c meth cX4_readRun 6 s args RX4 none G) : ∀ (n : Nat), ∀ (x3 : Int32) (x4 : Int32) (x5 : Int32) (M : Mm) (ls : Array Slot) (H : Heap) (locs : List Loc), lv_has ls 6 [(0, .ref (G.2.2.2 5)), (3, .int x3), (4, .int x4), (5, .int x5)] → Wo G s M H locs → rX4_readRun_b40 n x3 x4 x5 M = some M' → W p l e (rm 3) s m args below meth c H locs 0 0 (Qv below args s G M') (F0 m 40 ls []) := by
  intro n
  induction n with
  | zero =>
    intro x3 x4 x5 M ls H locs hl hW h
    cases (show (none : Option Mm) = some M' from h)
  | succ n hq400 =>
    have hq40 : ∀ (x3 : Int32) (x4 : Int32) (x5 : Int32) (M : Mm) (ls : Array Slot) (H : Heap) (locs : List Loc), lv_has ls 6 [(0, .ref (G.2.2.2 5)), (3, .int x3), (4, .int x4), (5, .int x5)] → Wo G s M H locs → (rX4_readRun_b40 n) x3 x4 x5 M = some M' → W p l e (rm 3) s m args below meth c H locs 0 0 (Qv below args s G M') (F0 m 40 ls []) := hq400
    intro x3 x4 x5 M ls H locs hl hW h
    have h : rX4_readRun_b40_s (rX4_readRun_b40 n) x3 x4 x5 M = some M' := h
    unfold rX4_readRun_b40_s at h
    have hx := X.1.1
    have hb := X.1.2.1
    refine lv_iload hx hb dX4_readRun_40 (lv_at hl 3 rfl) ?_
    refine lv_iload_n hx hb dX4_readRun_42 rfl (lv_at hl 1 rfl) ?_
    refine lv_icmp_ge (tgt := 61) hx hb dX4_readRun_43 (by decide) (fun c13 => ?_) (fun c13 => ?_)
    · have h := ob_pos c13 h
      exact rt_v X hW h dX4_readRun_61
    · have h := ob_neg c13 h
      refine lv_aload_n hx hb dX4_readRun_46 rfl (lv_at hl 0 rfl) ?_
      refine gf4_20 (cN := 5) X hW rfl dX4_readRun_47 ?_
      refine lv_iload hx hb dX4_readRun_50 (lv_at hl 2 rfl) ?_
      obtain ⟨M15, e14, h⟩ := ob_bind h
      refine bg_callv X hW (cX0_append_k rfl rfl rfl e14) rfl rfl kw4_176 kd_X0_append rfl rfl ⟨Nat.le_of_ble_eq_true rfl, Nat.le_of_ble_eq_true rfl⟩ ⟨Nat.le_refl _, Nat.le_refl _⟩ hl.1 (Nat.le_of_ble_eq_true rfl) dX4_readRun_52 (fun H locs hW => ?_)
      obtain ⟨y16, ey16⟩ : ∃ y : Int32, y = (x5 + 1) := ⟨_, rfl⟩
      have h := ob_lt ey16 h
      refine lv_iinc (v := y16) (lv' := [(5, .int y16), (0, .ref (G.2.2.2 5)), (3, .int x3), (4, .int x4)]) hx hb dX4_readRun_55 hl (k := 3) rfl (by rw [ey16]; rfl) (by decide) rfl (fun ls hl => ?_)
      refine lv_goto (tgt := 40) hx hb dX4_readRun_58 (by decide) ?_
      exact hq40 x3 x4 y16 M15 _ _ _ (lv_sub hl [1, 2, 3, 0] rfl) hW h
def rX4_readRun (a1 : Int32) (a2 : Int32) (M : Mm) : Option Mm :=
    (bd2 (rX4_next a2 M) fun r3 M2 => bd2 (rX4_next a2 M2) fun r6 M5 => if r3 = (-1 : Int32) then (some M5) else (if r6 = (-1 : Int32) then (some M5) else (bd2 (rX4_pay a1 r3 ((3 : Int32) + r3) M5) fun r11 M10 => if r11 = 0 then (some M10) else (rX4_readRun_b40 FU r3 r6 (0 : Int32) M10))))
set_option maxRecDepth 100000 in
set_option maxHeartbeats 4000000 in
theorem cX4_readRun_k {l : Launch} {G : Gg} {a1 : Int32} {a2 : Int32} {M M' : Mm} (h : rX4_readRun a1 a2 M = some M') : CTv l yX4_readRun cX4_readRun 6 3 G [.ref (G.2.2.2 5), .int a1, .int a2] M M' := by
  unfold rX4_readRun at h
  refine ct_v (by decide) (Nat.le_of_ble_eq_true rfl) (fun p e s m below meth c ls X hl hW => ?_)
  have hx := X.1.1
  have hb := X.1.2.1
  refine lv_aload_n hx hb dX4_readRun_0 rfl (lv_at hl 0 rfl) ?_
  refine lv_iload_n hx hb dX4_readRun_1 rfl (lv_at hl 2 rfl) ?_
  obtain ⟨r3, M2, e1, h⟩ := ob_bd2 h
  refine bg_calli X hW (cX4_next_k e1) rfl rfl kw4_117 kd_X4_next rfl rfl ⟨Nat.le_of_ble_eq_true rfl, Nat.le_of_ble_eq_true rfl⟩ ⟨Nat.le_refl _, Nat.le_refl _⟩ hl.1 (Nat.le_of_ble_eq_true rfl) dX4_readRun_2 (fun H locs hW => ?_)
  refine lv_istore_n (lv' := [(3, .int r3), (0, .ref (G.2.2.2 5)), (1, .int a1), (2, .int a2)]) hx hb dX4_readRun_5 rfl hl (by decide) rfl (fun ls hl => ?_)
  refine lv_aload_n hx hb dX4_readRun_6 rfl (lv_at hl 1 rfl) ?_
  refine lv_iload_n hx hb dX4_readRun_7 rfl (lv_at hl 3 rfl) ?_
  obtain ⟨r6, M5, e4, h⟩ := ob_bd2 h
  refine bg_calli X hW (cX4_next_k e4) rfl rfl kw4_117 kd_X4_next rfl rfl ⟨Nat.le_of_ble_eq_true rfl, Nat.le_of_ble_eq_true rfl⟩ ⟨Nat.le_refl _, Nat.le_refl _⟩ hl.1 (Nat.le_of_ble_eq_true rfl) dX4_readRun_8 (fun H locs hW => ?_)
  refine lv_istore (lv' := [(4, .int r6), (3, .int r3), (0, .ref (G.2.2.2 5)), (1, .int a1), (2, .int a2)]) hx hb dX4_readRun_11 hl (by decide) rfl (fun ls hl => ?_)
  refine lv_iload_n hx hb dX4_readRun_13 rfl (lv_at hl 1 rfl) ?_
  refine lv_iconst (v := (-1)) hx hb dX4_readRun_14 (by decide) ?_
  refine lv_icmp_eq (tgt := 36) hx hb dX4_readRun_15 (by decide) (fun c7 => ?_) (fun c7 => ?_)
  · have h := ob_pos c7 h
    exact rt_v X hW h dX4_readRun_36
  · have h := ob_neg c7 h
    refine lv_iload hx hb dX4_readRun_18 (lv_at hl 0 rfl) ?_
    refine lv_iconst (v := (-1)) hx hb dX4_readRun_20 (by decide) ?_
    refine lv_icmp_eq (tgt := 36) hx hb dX4_readRun_21 (by decide) (fun c8 => ?_) (fun c8 => ?_)
    · have h := ob_pos c8 h
      exact rt_v X hW h dX4_readRun_36
    · have h := ob_neg c8 h
      refine lv_aload_n hx hb dX4_readRun_24 rfl (lv_at hl 2 rfl) ?_
      refine lv_iload_n hx hb dX4_readRun_25 rfl (lv_at hl 3 rfl) ?_
      refine lv_iload_n hx hb dX4_readRun_26 rfl (lv_at hl 1 rfl) ?_
      refine lv_iconst (v := 3) hx hb dX4_readRun_27 (by decide) ?_
      refine lv_iload_n hx hb dX4_readRun_28 rfl (lv_at hl 1 rfl) ?_
      refine lv_iadd hx hb dX4_readRun_29 ?_
      obtain ⟨r11, M10, e9, h⟩ := ob_bd2 h
      refine bg_calli X hW (cX4_pay_k e9) rfl rfl kw4_102 kd_X4_pay rfl rfl ⟨Nat.le_of_ble_eq_true rfl, Nat.le_of_ble_eq_true rfl⟩ ⟨Nat.le_refl _, Nat.le_refl _⟩ hl.1 (Nat.le_of_ble_eq_true rfl) dX4_readRun_30 (fun H locs hW => ?_)
      refine lv_if_ne (tgt := 37) hx hb dX4_readRun_33 (by decide) (fun c12 => ?_) (fun c12 => ?_)
      · have h := ob_neg c12 h
        refine lv_iconst (v := 0) hx hb dX4_readRun_37 (by decide) ?_
        refine lv_istore (lv' := [(5, .int (0 : Int32)), (4, .int r6), (3, .int r3), (0, .ref (G.2.2.2 5)), (1, .int a1), (2, .int a2)]) hx hb dX4_readRun_38 hl (by decide) rfl (fun ls hl => ?_)
        exact sX4_readRun_b40 X FU r3 r6 (0 : Int32) M10 _ _ _ (lv_sub hl [3, 2, 1, 0] rfl) hW h
      · have h := ob_pos c12 h
        exact rt_v X hW h dX4_readRun_36
def rX4_readCopy_b35 (pk : Nat) (M : Mm) : Option Mm :=
    (Option.bind (rX4_fail (4 : Int32) ((M.1 5 9) - (1 : Int32)) M) fun M7 => some M7)
set_option maxRecDepth 100000 in
set_option maxHeartbeats 4000000 in
theorem sX4_readCopy_b35 {p : Program} {l : Launch} {e : Env} {s : State} {m : MethodId} {args : Array Value} {below : List Frame} {meth : Method} {c : Code} {G : Gg} {M' : Mm} {pk : Nat} (hpk : sh[pk]? = some skX3) (X : Cx p m c meth cX4_readCopy 6 s args RX4 none G) : ∀ (M : Mm) (ls : Array Slot) (H : Heap) (locs : List Loc), lv_has ls 6 [(0, .ref (G.2.2.2 5))] → Wo G s M H locs → rX4_readCopy_b35 pk  M = some M' → W p l e (rm 3) s m args below meth c H locs 0 0 (Qv below args s G M') (F0 m 35 ls []) := by
    intro M ls H locs hl hW h
    unfold rX4_readCopy_b35 at h
    have hx := X.1.1
    have hb := X.1.2.1
    refine lv_aload_n hx hb dX4_readCopy_35 rfl (lv_at hl 0 rfl) ?_
    refine lv_iconst (v := 4) hx hb dX4_readCopy_36 (by decide) ?_
    refine lv_aload_n hx hb dX4_readCopy_37 rfl (lv_at hl 0 rfl) ?_
    refine gf4_88 (cN := 5) X hW rfl dX4_readCopy_38 ?_
    refine lv_iconst (v := 1) hx hb dX4_readCopy_41 (by decide) ?_
    refine lv_isub hx hb dX4_readCopy_42 ?_
    obtain ⟨M7, e6, h⟩ := ob_bind h
    refine bg_callv X hW (cX4_fail_k e6) rfl rfl kw4_91 kd_X4_fail rfl rfl ⟨Nat.le_of_ble_eq_true rfl, Nat.le_of_ble_eq_true rfl⟩ ⟨Nat.le_refl _, Nat.le_refl _⟩ hl.1 (Nat.le_of_ble_eq_true rfl) dX4_readCopy_43 (fun H locs hW => ?_)
    exact rt_v X hW h dX4_readCopy_46
def rX4_readCopy_b81_s (pk : Nat) (q81 : Int32 → Int32 → Int32 → Mm → Option Mm) (x3 : Int32) (x4 : Int32) (x5 : Int32) (M : Mm) : Option Mm :=
    (if x4 ≤ x5 then (some M) else (bd2 (rX0_get 6 4000 0 ((M.1 6 1) - x3) M) fun r20 M19 => Option.bind (rX0_append 6 4000 0 r20 M19) fun M22 => lt_ (x5 + 1) fun y23 => q81 x3 x4 y23 M22))
def rX4_readCopy_b81 (pk : Nat) : Nat → Int32 → Int32 → Int32 → Mm → Option Mm
  | 0 => fun _ _ _ _ => none
  | n + 1 => rX4_readCopy_b81_s pk (rX4_readCopy_b81 pk n)
set_option maxRecDepth 100000 in
set_option maxHeartbeats 4000000 in
theorem sX4_readCopy_b81 {p : Program} {l : Launch} {e : Env} {s : State} {m : MethodId} {args : Array Value} {below : List Frame} {meth : Method} {c : Code} {G : Gg} {M' : Mm} {pk : Nat} (hpk : sh[pk]? = some skX3) (X : Cx p m c meth cX4_readCopy 6 s args RX4 none G) : ∀ (n : Nat), ∀ (x3 : Int32) (x4 : Int32) (x5 : Int32) (M : Mm) (ls : Array Slot) (H : Heap) (locs : List Loc), lv_has ls 6 [(0, .ref (G.2.2.2 5)), (3, .int x3), (4, .int x4), (5, .int x5)] → Wo G s M H locs → rX4_readCopy_b81 pk n x3 x4 x5 M = some M' → W p l e (rm 3) s m args below meth c H locs 0 0 (Qv below args s G M') (F0 m 81 ls []) := by
  intro n
  induction n with
  | zero =>
    intro x3 x4 x5 M ls H locs hl hW h
    cases (show (none : Option Mm) = some M' from h)
  | succ n hq810 =>
    have hq81 : ∀ (x3 : Int32) (x4 : Int32) (x5 : Int32) (M : Mm) (ls : Array Slot) (H : Heap) (locs : List Loc), lv_has ls 6 [(0, .ref (G.2.2.2 5)), (3, .int x3), (4, .int x4), (5, .int x5)] → Wo G s M H locs → (rX4_readCopy_b81 pk n) x3 x4 x5 M = some M' → W p l e (rm 3) s m args below meth c H locs 0 0 (Qv below args s G M') (F0 m 81 ls []) := hq810
    intro x3 x4 x5 M ls H locs hl hW h
    have h : rX4_readCopy_b81_s pk (rX4_readCopy_b81 pk n) x3 x4 x5 M = some M' := h
    unfold rX4_readCopy_b81_s at h
    have hx := X.1.1
    have hb := X.1.2.1
    refine lv_iload hx hb dX4_readCopy_81 (lv_at hl 3 rfl) ?_
    refine lv_iload hx hb dX4_readCopy_83 (lv_at hl 2 rfl) ?_
    refine lv_icmp_ge (tgt := 117) hx hb dX4_readCopy_85 (by decide) (fun c17 => ?_) (fun c17 => ?_)
    · have h := ob_pos c17 h
      exact rt_v X hW h dX4_readCopy_117
    · have h := ob_neg c17 h
      refine lv_aload_n hx hb dX4_readCopy_88 rfl (lv_at hl 0 rfl) ?_
      refine gf4_20 (cN := 5) X hW rfl dX4_readCopy_89 ?_
      refine lv_aload_n hx hb dX4_readCopy_92 rfl (lv_at hl 0 rfl) ?_
      refine gf4_20 (cN := 5) X hW rfl dX4_readCopy_93 ?_
      refine lv_aload_n hx hb dX4_readCopy_96 rfl (lv_at hl 0 rfl) ?_
      refine gf4_20 (cN := 5) X hW rfl dX4_readCopy_97 ?_
      refine gf4_83 (cN := 6) X hW rfl dX4_readCopy_100 ?_
      refine lv_iload_n hx hb dX4_readCopy_103 rfl (lv_at hl 1 rfl) ?_
      refine lv_isub hx hb dX4_readCopy_104 ?_
      obtain ⟨r20, M19, e18, h⟩ := ob_bd2 h
      refine bg_calli X hW (cX0_get_k rfl rfl rfl e18) rfl rfl kw4_94 kd_X0_get rfl rfl ⟨Nat.le_of_ble_eq_true rfl, Nat.le_of_ble_eq_true rfl⟩ ⟨Nat.le_refl _, Nat.le_refl _⟩ hl.1 (Nat.le_of_ble_eq_true rfl) dX4_readCopy_105 (fun H locs hW => ?_)
      obtain ⟨M22, e21, h⟩ := ob_bind h
      refine bg_callv X hW (cX0_append_k rfl rfl rfl e21) rfl rfl kw4_176 kd_X0_append rfl rfl ⟨Nat.le_of_ble_eq_true rfl, Nat.le_of_ble_eq_true rfl⟩ ⟨Nat.le_refl _, Nat.le_refl _⟩ hl.1 (Nat.le_of_ble_eq_true rfl) dX4_readCopy_108 (fun H locs hW => ?_)
      obtain ⟨y23, ey23⟩ : ∃ y : Int32, y = (x5 + 1) := ⟨_, rfl⟩
      have h := ob_lt ey23 h
      refine lv_iinc (v := y23) (lv' := [(5, .int y23), (0, .ref (G.2.2.2 5)), (3, .int x3), (4, .int x4)]) hx hb dX4_readCopy_111 hl (k := 3) rfl (by rw [ey23]; rfl) (by decide) rfl (fun ls hl => ?_)
      refine lv_goto (tgt := 81) hx hb dX4_readCopy_114 (by decide) ?_
      exact hq81 x3 x4 y23 M22 _ _ _ (lv_sub hl [1, 2, 3, 0] rfl) hW h
def rX4_readCopy (a1 : Int32) (pk : Nat) (M : Mm) : Option Mm :=
    (bd2 (rX4_next (M.1 pk 1) M) fun r3 M2 => if r3 = (-1 : Int32) then (some M2) else (if r3 = 0 then (rX4_readCopy_b35 pk  M2) else (if r3 ≤ ((M2.1 6 1) - (M2.1 pk 2)) then (bd2 (rX4_next (M2.1 pk 1) M2) fun r11 M10 => if r11 = (-1 : Int32) then (some M10) else (bd2 (rX4_pay a1 r11 ((3 : Int32) + r11) M10) fun r15 M14 => if r15 = 0 then (some M14) else (rX4_readCopy_b81 pk FU r3 r11 (0 : Int32) M14))) else (rX4_readCopy_b35 pk  M2))))
set_option maxRecDepth 100000 in
set_option maxHeartbeats 4000000 in
theorem cX4_readCopy_k {l : Launch} {G : Gg} {a1 : Int32} {pk : Nat} (hpk : sh[pk]? = some skX3) {M M' : Mm} (h : rX4_readCopy a1 pk M = some M') : CTv l yX4_readCopy cX4_readCopy 6 3 G [.ref (G.2.2.2 5), .int a1, .ref (G.2.2.2 pk)] M M' := by
  unfold rX4_readCopy at h
  refine ct_v (by decide) (Nat.le_of_ble_eq_true rfl) (fun p e s m below meth c ls X hl hW => ?_)
  have hx := X.1.1
  have hb := X.1.2.1
  refine lv_aload_n hx hb dX4_readCopy_0 rfl (lv_at hl 0 rfl) ?_
  refine lv_aload_n hx hb dX4_readCopy_1 rfl (lv_at hl 2 rfl) ?_
  refine gf4_128 (cN := pk) X hW hpk dX4_readCopy_2 ?_
  obtain ⟨r3, M2, e1, h⟩ := ob_bd2 h
  refine bg_calli X hW (cX4_next_k e1) rfl rfl kw4_117 kd_X4_next rfl rfl ⟨Nat.le_of_ble_eq_true rfl, Nat.le_of_ble_eq_true rfl⟩ ⟨Nat.le_refl _, Nat.le_refl _⟩ hl.1 (Nat.le_of_ble_eq_true rfl) dX4_readCopy_5 (fun H locs hW => ?_)
  refine lv_istore_n (lv' := [(3, .int r3), (0, .ref (G.2.2.2 5)), (1, .int a1), (2, .ref (G.2.2.2 pk))]) hx hb dX4_readCopy_8 rfl hl (by decide) rfl (fun ls hl => ?_)
  refine lv_iload_n hx hb dX4_readCopy_9 rfl (lv_at hl 0 rfl) ?_
  refine lv_iconst (v := (-1)) hx hb dX4_readCopy_10 (by decide) ?_
  refine lv_icmp_ne (tgt := 15) hx hb dX4_readCopy_11 (by decide) (fun c4 => ?_) (fun c4 => ?_)
  · have h := ob_neg c4 h
    refine lv_iload_n hx hb dX4_readCopy_15 rfl (lv_at hl 0 rfl) ?_
    refine lv_if_eq (tgt := 35) hx hb dX4_readCopy_16 (by decide) (fun c5 => ?_) (fun c5 => ?_)
    · have h := ob_pos c5 h
      exact sX4_readCopy_b35 hpk X M2 _ _ _ (lv_sub hl [1] rfl) hW h
    · have h := ob_neg c5 h
      refine lv_iload_n hx hb dX4_readCopy_19 rfl (lv_at hl 0 rfl) ?_
      refine lv_aload_n hx hb dX4_readCopy_20 rfl (lv_at hl 1 rfl) ?_
      refine gf4_20 (cN := 5) X hW rfl dX4_readCopy_21 ?_
      refine gf4_83 (cN := 6) X hW rfl dX4_readCopy_24 ?_
      refine lv_aload_n hx hb dX4_readCopy_27 rfl (lv_at hl 3 rfl) ?_
      refine gf4_178 (cN := pk) X hW hpk dX4_readCopy_28 ?_
      refine lv_isub hx hb dX4_readCopy_31 ?_
      refine lv_icmp_le (tgt := 47) hx hb dX4_readCopy_32 (by decide) (fun c8 => ?_) (fun c8 => ?_)
      · have h := ob_pos c8 h
        refine lv_aload_n hx hb dX4_readCopy_47 rfl (lv_at hl 1 rfl) ?_
        refine lv_aload_n hx hb dX4_readCopy_48 rfl (lv_at hl 3 rfl) ?_
        refine gf4_128 (cN := pk) X hW hpk dX4_readCopy_49 ?_
        obtain ⟨r11, M10, e9, h⟩ := ob_bd2 h
        refine bg_calli X hW (cX4_next_k e9) rfl rfl kw4_117 kd_X4_next rfl rfl ⟨Nat.le_of_ble_eq_true rfl, Nat.le_of_ble_eq_true rfl⟩ ⟨Nat.le_refl _, Nat.le_refl _⟩ hl.1 (Nat.le_of_ble_eq_true rfl) dX4_readCopy_52 (fun H locs hW => ?_)
        refine lv_istore (lv' := [(4, .int r11), (3, .int r3), (0, .ref (G.2.2.2 5)), (1, .int a1), (2, .ref (G.2.2.2 pk))]) hx hb dX4_readCopy_55 hl (by decide) rfl (fun ls hl => ?_)
        refine lv_iload hx hb dX4_readCopy_57 (lv_at hl 0 rfl) ?_
        refine lv_iconst (v := (-1)) hx hb dX4_readCopy_59 (by decide) ?_
        refine lv_icmp_eq (tgt := 77) hx hb dX4_readCopy_60 (by decide) (fun c12 => ?_) (fun c12 => ?_)
        · have h := ob_pos c12 h
          exact rt_v X hW h dX4_readCopy_77
        · have h := ob_neg c12 h
          refine lv_aload_n hx hb dX4_readCopy_63 rfl (lv_at hl 2 rfl) ?_
          refine lv_iload_n hx hb dX4_readCopy_64 rfl (lv_at hl 3 rfl) ?_
          refine lv_iload hx hb dX4_readCopy_65 (lv_at hl 0 rfl) ?_
          refine lv_iconst (v := 3) hx hb dX4_readCopy_67 (by decide) ?_
          refine lv_iload hx hb dX4_readCopy_68 (lv_at hl 0 rfl) ?_
          refine lv_iadd hx hb dX4_readCopy_70 ?_
          obtain ⟨r15, M14, e13, h⟩ := ob_bd2 h
          refine bg_calli X hW (cX4_pay_k e13) rfl rfl kw4_102 kd_X4_pay rfl rfl ⟨Nat.le_of_ble_eq_true rfl, Nat.le_of_ble_eq_true rfl⟩ ⟨Nat.le_refl _, Nat.le_refl _⟩ hl.1 (Nat.le_of_ble_eq_true rfl) dX4_readCopy_71 (fun H locs hW => ?_)
          refine lv_if_ne (tgt := 78) hx hb dX4_readCopy_74 (by decide) (fun c16 => ?_) (fun c16 => ?_)
          · have h := ob_neg c16 h
            refine lv_iconst (v := 0) hx hb dX4_readCopy_78 (by decide) ?_
            refine lv_istore (lv' := [(5, .int (0 : Int32)), (4, .int r11), (3, .int r3), (0, .ref (G.2.2.2 5)), (1, .int a1), (2, .ref (G.2.2.2 pk))]) hx hb dX4_readCopy_79 hl (by decide) rfl (fun ls hl => ?_)
            exact sX4_readCopy_b81 hpk X FU r3 r11 (0 : Int32) M14 _ _ _ (lv_sub hl [3, 2, 1, 0] rfl) hW h
          · have h := ob_pos c16 h
            exact rt_v X hW h dX4_readCopy_77
      · have h := ob_neg c8 h
        exact sX4_readCopy_b35 hpk X M2 _ _ _ (lv_sub hl [1] rfl) hW h
  · have h := ob_pos c4 h
    exact rt_v X hW h dX4_readCopy_14
def rX4_readNest (rp : Int32 → Int32 → Int32 → Int32 → Mm → Option Mm) (a1 : Int32) (pk : Nat) (a3 : Int32) (M : Mm) : Option Mm :=
    (bd2 (rX4_next (M.1 pk 1) M) fun r3 M2 => bd2 (rX4_next (M2.1 pk 1) M2) fun r6 M5 => if r3 = (-1 : Int32) then (some M5) else (if r6 = (-1 : Int32) then (some M5) else (lt_ (((256 : Int32) * r3) + r6) fun y9 => bd2 (rX4_hasBytes y9 (M5.1 pk 1) M5) fun r12 M11 => if r12 = 0 then (some M11) else (bd2 (rX4_canPay a1 (0 : Int32) (3 : Int32) M11) fun r16 M15 => if r16 = 0 then (some M15) else (if (a3 + (1 : Int32)) ≤ (M15.1 5 8) then (lt_ (st M15 5 12 ((M15.1 5 12) + (3 : Int32))) fun M19 => Option.bind (rp (M19.1 5 9) ((M19.1 5 9) + y9) (a3 + (1 : Int32)) ((M19.1 pk 3) + (M19.1 pk 4)) M19) fun M21 => some M21) else (Option.bind (rX4_fail (13 : Int32) a1 M15) fun M23 => some M23))))))
set_option maxRecDepth 100000 in
set_option maxHeartbeats 4000000 in
theorem cX4_readNest_k {l : Launch} {G : Gg} {dd : Nat} {rp : Int32 → Int32 → Int32 → Int32 → Mm → Option Mm} (hrp : ∀ (a1 a2 a3 a4 : Int32) (M M' : Mm), rp a1 a2 a3 a4 M = some M' → CTv l yX4_readPack cX4_readPack 9 dd G [.ref (G.2.2.2 5), .int a1, .int a2, .int a3, .int a4] M M') (hdd : 8 ≤ dd) {a1 : Int32} {pk : Nat} {a3 : Int32} (hpk : sh[pk]? = some skX3) {M M' : Mm} (h : rX4_readNest rp a1 pk a3 M = some M') : CTv l yX4_readNest cX4_readNest 7 (dd + 1) G [.ref (G.2.2.2 5), .int a1, .ref (G.2.2.2 pk), .int a3] M M' := by
  unfold rX4_readNest at h
  refine ct_v (by decide) (Nat.le_of_ble_eq_true rfl) (fun p e s m below meth c ls X hl hW => ?_)
  have hx := X.1.1
  have hb := X.1.2.1
  refine lv_aload_n hx hb dX4_readNest_0 rfl (lv_at hl 0 rfl) ?_
  refine lv_aload_n hx hb dX4_readNest_1 rfl (lv_at hl 2 rfl) ?_
  refine gf4_128 (cN := pk) X hW hpk dX4_readNest_2 ?_
  obtain ⟨r3, M2, e1, h⟩ := ob_bd2 h
  refine bg_calli X hW (cX4_next_k e1) rfl rfl kw4_117 kd_X4_next rfl rfl ⟨by first | (simp only [rm]; omega) | decide, by first | (simp only [rm]; omega) | decide⟩ ⟨Nat.le_refl _, Nat.le_refl _⟩ hl.1 (Nat.le_of_ble_eq_true rfl) dX4_readNest_5 (fun H locs hW => ?_)
  refine lv_istore (lv' := [(4, .int r3), (0, .ref (G.2.2.2 5)), (1, .int a1), (2, .ref (G.2.2.2 pk)), (3, .int a3)]) hx hb dX4_readNest_8 hl (by decide) rfl (fun ls hl => ?_)
  refine lv_aload_n hx hb dX4_readNest_10 rfl (lv_at hl 1 rfl) ?_
  refine lv_aload_n hx hb dX4_readNest_11 rfl (lv_at hl 3 rfl) ?_
  refine gf4_128 (cN := pk) X hW hpk dX4_readNest_12 ?_
  obtain ⟨r6, M5, e4, h⟩ := ob_bd2 h
  refine bg_calli X hW (cX4_next_k e4) rfl rfl kw4_117 kd_X4_next rfl rfl ⟨by first | (simp only [rm]; omega) | decide, by first | (simp only [rm]; omega) | decide⟩ ⟨Nat.le_refl _, Nat.le_refl _⟩ hl.1 (Nat.le_of_ble_eq_true rfl) dX4_readNest_15 (fun H locs hW => ?_)
  refine lv_istore (lv' := [(5, .int r6), (4, .int r3), (0, .ref (G.2.2.2 5)), (1, .int a1), (2, .ref (G.2.2.2 pk)), (3, .int a3)]) hx hb dX4_readNest_18 hl (by decide) rfl (fun ls hl => ?_)
  refine lv_iload hx hb dX4_readNest_20 (lv_at hl 1 rfl) ?_
  refine lv_iconst (v := (-1)) hx hb dX4_readNest_22 (by decide) ?_
  refine lv_icmp_eq (tgt := 32) hx hb dX4_readNest_23 (by decide) (fun c7 => ?_) (fun c7 => ?_)
  · have h := ob_pos c7 h
    exact rt_v X hW h dX4_readNest_32
  · have h := ob_neg c7 h
    refine lv_iload hx hb dX4_readNest_26 (lv_at hl 0 rfl) ?_
    refine lv_iconst (v := (-1)) hx hb dX4_readNest_28 (by decide) ?_
    refine lv_icmp_ne (tgt := 33) hx hb dX4_readNest_29 (by decide) (fun c8 => ?_) (fun c8 => ?_)
    · have h := ob_neg c8 h
      refine lv_sipush (v := 256) hx hb dX4_readNest_33 (by decide) ?_
      refine lv_iload hx hb dX4_readNest_36 (lv_at hl 1 rfl) ?_
      refine lv_imul hx hb dX4_readNest_38 ?_
      refine lv_iload hx hb dX4_readNest_39 (lv_at hl 0 rfl) ?_
      refine lv_iadd hx hb dX4_readNest_41 ?_
      refine lv_topi (fun y9 ey9 => ?_)
      have h := ob_lt ey9 h
      refine lv_istore (lv' := [(6, .int y9), (5, .int r6), (4, .int r3), (0, .ref (G.2.2.2 5)), (1, .int a1), (2, .ref (G.2.2.2 pk)), (3, .int a3)]) hx hb dX4_readNest_42 hl (by decide) rfl (fun ls hl => ?_)
      refine lv_aload_n hx hb dX4_readNest_44 rfl (lv_at hl 3 rfl) ?_
      refine lv_iload hx hb dX4_readNest_45 (lv_at hl 0 rfl) ?_
      refine lv_aload_n hx hb dX4_readNest_47 rfl (lv_at hl 5 rfl) ?_
      refine gf4_128 (cN := pk) X hW hpk dX4_readNest_48 ?_
      obtain ⟨r12, M11, e10, h⟩ := ob_bd2 h
      refine bg_calli X hW (cX4_hasBytes_k e10) rfl rfl kw4_172 kd_X4_hasBytes rfl rfl ⟨by first | (simp only [rm]; omega) | decide, by first | (simp only [rm]; omega) | decide⟩ ⟨Nat.le_refl _, Nat.le_refl _⟩ hl.1 (Nat.le_of_ble_eq_true rfl) dX4_readNest_51 (fun H locs hW => ?_)
      refine lv_if_eq (tgt := 67) hx hb dX4_readNest_54 (by decide) (fun c13 => ?_) (fun c13 => ?_)
      · have h := ob_pos c13 h
        exact rt_v X hW h dX4_readNest_67
      · have h := ob_neg c13 h
        refine lv_aload_n hx hb dX4_readNest_57 rfl (lv_at hl 3 rfl) ?_
        refine lv_iload_n hx hb dX4_readNest_58 rfl (lv_at hl 4 rfl) ?_
        refine lv_iconst (v := 0) hx hb dX4_readNest_59 (by decide) ?_
        refine lv_iconst (v := 3) hx hb dX4_readNest_60 (by decide) ?_
        obtain ⟨r16, M15, e14, h⟩ := ob_bd2 h
        refine bg_calli X hW (cX4_canPay_k e14) rfl rfl kw4_98 kd_X4_canPay rfl rfl ⟨by first | (simp only [rm]; omega) | decide, by first | (simp only [rm]; omega) | decide⟩ ⟨Nat.le_refl _, Nat.le_refl _⟩ hl.1 (Nat.le_of_ble_eq_true rfl) dX4_readNest_61 (fun H locs hW => ?_)
        refine lv_if_ne (tgt := 68) hx hb dX4_readNest_64 (by decide) (fun c17 => ?_) (fun c17 => ?_)
        · have h := ob_neg c17 h
          refine lv_iload_n hx hb dX4_readNest_68 rfl (lv_at hl 6 rfl) ?_
          refine lv_iconst (v := 1) hx hb dX4_readNest_69 (by decide) ?_
          refine lv_iadd hx hb dX4_readNest_70 ?_
          refine lv_aload_n hx hb dX4_readNest_71 rfl (lv_at hl 3 rfl) ?_
          refine gf4_58 (cN := 5) X hW rfl dX4_readNest_72 ?_
          refine lv_icmp_le (tgt := 86) hx hb dX4_readNest_75 (by decide) (fun c18 => ?_) (fun c18 => ?_)
          · have h := ob_pos c18 h
            refine lv_aload_n hx hb dX4_readNest_86 rfl (lv_at hl 3 rfl) ?_
            refine lv_dup hx hb dX4_readNest_87 rfl ?_
            refine gf4_61 (cN := 5) X hW rfl dX4_readNest_88 ?_
            refine lv_iconst (v := 3) hx hb dX4_readNest_91 (by decide) ?_
            refine lv_iadd hx hb dX4_readNest_92 ?_
            refine pf4_61 (cN := 5) X hW rfl dX4_readNest_93 (fun M19 eM19 H locs hW => ?_)
            have h := ob_lt eM19 h
            refine lv_aload_n hx hb dX4_readNest_96 rfl (lv_at hl 3 rfl) ?_
            refine lv_aload_n hx hb dX4_readNest_97 rfl (lv_at hl 3 rfl) ?_
            refine gf4_88 (cN := 5) X hW rfl dX4_readNest_98 ?_
            refine lv_aload_n hx hb dX4_readNest_101 rfl (lv_at hl 3 rfl) ?_
            refine gf4_88 (cN := 5) X hW rfl dX4_readNest_102 ?_
            refine lv_iload hx hb dX4_readNest_105 (lv_at hl 0 rfl) ?_
            refine lv_iadd hx hb dX4_readNest_107 ?_
            refine lv_iload_n hx hb dX4_readNest_108 rfl (lv_at hl 6 rfl) ?_
            refine lv_iconst (v := 1) hx hb dX4_readNest_109 (by decide) ?_
            refine lv_iadd hx hb dX4_readNest_110 ?_
            refine lv_aload_n hx hb dX4_readNest_111 rfl (lv_at hl 5 rfl) ?_
            refine gf4_163 (cN := pk) X hW hpk dX4_readNest_112 ?_
            refine lv_aload_n hx hb dX4_readNest_115 rfl (lv_at hl 5 rfl) ?_
            refine gf4_166 (cN := pk) X hW hpk dX4_readNest_116 ?_
            refine lv_iadd hx hb dX4_readNest_119 ?_
            obtain ⟨M21, e20, h⟩ := ob_bind h
            refine bg_callv X hW (hrp _ _ _ _ _ _ e20) rfl rfl kw4_84 kd_X4_readPack rfl rfl ⟨by first | (simp only [rm]; omega) | decide, by first | (simp only [rm]; omega) | decide⟩ ⟨Nat.le_refl _, Nat.le_refl _⟩ hl.1 (Nat.le_of_ble_eq_true rfl) dX4_readNest_120 (fun H locs hW => ?_)
            exact rt_v X hW h dX4_readNest_123
          · have h := ob_neg c18 h
            refine lv_aload_n hx hb dX4_readNest_78 rfl (lv_at hl 3 rfl) ?_
            refine lv_bipush (v := 13) hx hb dX4_readNest_79 (by decide) ?_
            refine lv_iload_n hx hb dX4_readNest_81 rfl (lv_at hl 4 rfl) ?_
            obtain ⟨M23, e22, h⟩ := ob_bind h
            refine bg_callv X hW (cX4_fail_k e22) rfl rfl kw4_91 kd_X4_fail rfl rfl ⟨by first | (simp only [rm]; omega) | decide, by first | (simp only [rm]; omega) | decide⟩ ⟨Nat.le_refl _, Nat.le_refl _⟩ hl.1 (Nat.le_of_ble_eq_true rfl) dX4_readNest_82 (fun H locs hW => ?_)
            exact rt_v X hW h dX4_readNest_85
        · have h := ob_pos c17 h
          exact rt_v X hW h dX4_readNest_67
    · have h := ob_pos c8 h
      exact rt_v X hW h dX4_readNest_32
def rX4_readNote (a1 : Int32) (a2 : Int32) (M : Mm) : Option Mm :=
    (bd2 (rX4_next a2 M) fun r3 M2 => if r3 = (-1 : Int32) then (some M2) else (bd2 (rX4_hasBytes r3 a2 M2) fun r7 M6 => if r7 = 0 then (some M6) else (bd2 (rX4_pay a1 (0 : Int32) ((2 : Int32) + r3) M6) fun r11 M10 => if r11 = 0 then (some M10) else (lt_ (st M10 5 9 ((M10.1 5 9) + r3)) fun M13 => some M13))))
set_option maxRecDepth 100000 in
set_option maxHeartbeats 4000000 in
theorem cX4_readNote_k {l : Launch} {G : Gg} {a1 : Int32} {a2 : Int32} {M M' : Mm} (h : rX4_readNote a1 a2 M = some M') : CTv l yX4_readNote cX4_readNote 4 3 G [.ref (G.2.2.2 5), .int a1, .int a2] M M' := by
  unfold rX4_readNote at h
  refine ct_v (by decide) (Nat.le_of_ble_eq_true rfl) (fun p e s m below meth c ls X hl hW => ?_)
  have hx := X.1.1
  have hb := X.1.2.1
  refine lv_aload_n hx hb dX4_readNote_0 rfl (lv_at hl 0 rfl) ?_
  refine lv_iload_n hx hb dX4_readNote_1 rfl (lv_at hl 2 rfl) ?_
  obtain ⟨r3, M2, e1, h⟩ := ob_bd2 h
  refine bg_calli X hW (cX4_next_k e1) rfl rfl kw4_117 kd_X4_next rfl rfl ⟨Nat.le_of_ble_eq_true rfl, Nat.le_of_ble_eq_true rfl⟩ ⟨Nat.le_refl _, Nat.le_refl _⟩ hl.1 (Nat.le_of_ble_eq_true rfl) dX4_readNote_2 (fun H locs hW => ?_)
  refine lv_istore_n (lv' := [(3, .int r3), (0, .ref (G.2.2.2 5)), (1, .int a1), (2, .int a2)]) hx hb dX4_readNote_5 rfl hl (by decide) rfl (fun ls hl => ?_)
  refine lv_iload_n hx hb dX4_readNote_6 rfl (lv_at hl 0 rfl) ?_
  refine lv_iconst (v := (-1)) hx hb dX4_readNote_7 (by decide) ?_
  refine lv_icmp_eq (tgt := 42) hx hb dX4_readNote_8 (by decide) (fun c4 => ?_) (fun c4 => ?_)
  · have h := ob_pos c4 h
    exact rt_v X hW h dX4_readNote_42
  · have h := ob_neg c4 h
    refine lv_aload_n hx hb dX4_readNote_11 rfl (lv_at hl 1 rfl) ?_
    refine lv_iload_n hx hb dX4_readNote_12 rfl (lv_at hl 0 rfl) ?_
    refine lv_iload_n hx hb dX4_readNote_13 rfl (lv_at hl 3 rfl) ?_
    obtain ⟨r7, M6, e5, h⟩ := ob_bd2 h
    refine bg_calli X hW (cX4_hasBytes_k e5) rfl rfl kw4_172 kd_X4_hasBytes rfl rfl ⟨Nat.le_of_ble_eq_true rfl, Nat.le_of_ble_eq_true rfl⟩ ⟨Nat.le_refl _, Nat.le_refl _⟩ hl.1 (Nat.le_of_ble_eq_true rfl) dX4_readNote_14 (fun H locs hW => ?_)
    refine lv_if_eq (tgt := 42) hx hb dX4_readNote_17 (by decide) (fun c8 => ?_) (fun c8 => ?_)
    · have h := ob_pos c8 h
      exact rt_v X hW h dX4_readNote_42
    · have h := ob_neg c8 h
      refine lv_aload_n hx hb dX4_readNote_20 rfl (lv_at hl 1 rfl) ?_
      refine lv_iload_n hx hb dX4_readNote_21 rfl (lv_at hl 2 rfl) ?_
      refine lv_iconst (v := 0) hx hb dX4_readNote_22 (by decide) ?_
      refine lv_iconst (v := 2) hx hb dX4_readNote_23 (by decide) ?_
      refine lv_iload_n hx hb dX4_readNote_24 rfl (lv_at hl 0 rfl) ?_
      refine lv_iadd hx hb dX4_readNote_25 ?_
      obtain ⟨r11, M10, e9, h⟩ := ob_bd2 h
      refine bg_calli X hW (cX4_pay_k e9) rfl rfl kw4_102 kd_X4_pay rfl rfl ⟨Nat.le_of_ble_eq_true rfl, Nat.le_of_ble_eq_true rfl⟩ ⟨Nat.le_refl _, Nat.le_refl _⟩ hl.1 (Nat.le_of_ble_eq_true rfl) dX4_readNote_26 (fun H locs hW => ?_)
      refine lv_if_eq (tgt := 42) hx hb dX4_readNote_29 (by decide) (fun c12 => ?_) (fun c12 => ?_)
      · have h := ob_pos c12 h
        exact rt_v X hW h dX4_readNote_42
      · have h := ob_neg c12 h
        refine lv_aload_n hx hb dX4_readNote_32 rfl (lv_at hl 1 rfl) ?_
        refine lv_dup hx hb dX4_readNote_33 rfl ?_
        refine gf4_88 (cN := 5) X hW rfl dX4_readNote_34 ?_
        refine lv_iload_n hx hb dX4_readNote_37 rfl (lv_at hl 0 rfl) ?_
        refine lv_iadd hx hb dX4_readNote_38 ?_
        refine pf4_88 (cN := 5) X hW rfl dX4_readNote_39 (fun M13 eM13 H locs hW => ?_)
        have h := ob_lt eM13 h
        exact rt_v X hW h dX4_readNote_42
def rX4_readAgain_b46 (pk : Nat) (M : Mm) : Option Mm :=
    (Option.bind (rX4_fail (5 : Int32) ((M.1 5 9) - (1 : Int32)) M) fun M8 => some M8)
set_option maxRecDepth 100000 in
set_option maxHeartbeats 4000000 in
theorem sX4_readAgain_b46 {p : Program} {l : Launch} {e : Env} {s : State} {m : MethodId} {args : Array Value} {below : List Frame} {meth : Method} {c : Code} {G : Gg} {M' : Mm} {pk : Nat} (hpk : sh[pk]? = some skX3) (X : Cx p m c meth cX4_readAgain 7 s args RX4 none G) : ∀ (M : Mm) (ls : Array Slot) (H : Heap) (locs : List Loc), lv_has ls 7 [(0, .ref (G.2.2.2 5))] → Wo G s M H locs → rX4_readAgain_b46 pk  M = some M' → W p l e (rm 3) s m args below meth c H locs 0 0 (Qv below args s G M') (F0 m 46 ls []) := by
    intro M ls H locs hl hW h
    unfold rX4_readAgain_b46 at h
    have hx := X.1.1
    have hb := X.1.2.1
    refine lv_aload_n hx hb dX4_readAgain_46 rfl (lv_at hl 0 rfl) ?_
    refine lv_iconst (v := 5) hx hb dX4_readAgain_47 (by decide) ?_
    refine lv_aload_n hx hb dX4_readAgain_48 rfl (lv_at hl 0 rfl) ?_
    refine gf4_88 (cN := 5) X hW rfl dX4_readAgain_49 ?_
    refine lv_iconst (v := 1) hx hb dX4_readAgain_52 (by decide) ?_
    refine lv_isub hx hb dX4_readAgain_53 ?_
    obtain ⟨M8, e7, h⟩ := ob_bind h
    refine bg_callv X hW (cX4_fail_k e7) rfl rfl kw4_91 kd_X4_fail rfl rfl ⟨Nat.le_of_ble_eq_true rfl, Nat.le_of_ble_eq_true rfl⟩ ⟨Nat.le_refl _, Nat.le_refl _⟩ hl.1 (Nat.le_of_ble_eq_true rfl) dX4_readAgain_54 (fun H locs hW => ?_)
    exact rt_v X hW h dX4_readAgain_57
def rX4_readAgain_b90_s (pk : Nat) (q90 : Int32 → Int32 → Mm → Option Mm) (x5 : Int32) (x6 : Int32) (M : Mm) : Option Mm :=
    (if x5 ≤ x6 then (some M) else (bd2 (rX0_get 6 4000 0 ((M.1 pk 2) + x6) M) fun r20 M19 => Option.bind (rX0_append 6 4000 0 r20 M19) fun M22 => lt_ (x6 + 1) fun y23 => q90 x5 y23 M22))
def rX4_readAgain_b90 (pk : Nat) : Nat → Int32 → Int32 → Mm → Option Mm
  | 0 => fun _ _ _ => none
  | n + 1 => rX4_readAgain_b90_s pk (rX4_readAgain_b90 pk n)
set_option maxRecDepth 100000 in
set_option maxHeartbeats 4000000 in
theorem sX4_readAgain_b90 {p : Program} {l : Launch} {e : Env} {s : State} {m : MethodId} {args : Array Value} {below : List Frame} {meth : Method} {c : Code} {G : Gg} {M' : Mm} {pk : Nat} (hpk : sh[pk]? = some skX3) (X : Cx p m c meth cX4_readAgain 7 s args RX4 none G) : ∀ (n : Nat), ∀ (x5 : Int32) (x6 : Int32) (M : Mm) (ls : Array Slot) (H : Heap) (locs : List Loc), lv_has ls 7 [(0, .ref (G.2.2.2 5)), (2, .ref (G.2.2.2 pk)), (5, .int x5), (6, .int x6)] → Wo G s M H locs → rX4_readAgain_b90 pk n x5 x6 M = some M' → W p l e (rm 3) s m args below meth c H locs 0 0 (Qv below args s G M') (F0 m 90 ls []) := by
  intro n
  induction n with
  | zero =>
    intro x5 x6 M ls H locs hl hW h
    cases (show (none : Option Mm) = some M' from h)
  | succ n hq900 =>
    have hq90 : ∀ (x5 : Int32) (x6 : Int32) (M : Mm) (ls : Array Slot) (H : Heap) (locs : List Loc), lv_has ls 7 [(0, .ref (G.2.2.2 5)), (2, .ref (G.2.2.2 pk)), (5, .int x5), (6, .int x6)] → Wo G s M H locs → (rX4_readAgain_b90 pk n) x5 x6 M = some M' → W p l e (rm 3) s m args below meth c H locs 0 0 (Qv below args s G M') (F0 m 90 ls []) := hq900
    intro x5 x6 M ls H locs hl hW h
    have h : rX4_readAgain_b90_s pk (rX4_readAgain_b90 pk n) x5 x6 M = some M' := h
    unfold rX4_readAgain_b90_s at h
    have hx := X.1.1
    have hb := X.1.2.1
    refine lv_iload hx hb dX4_readAgain_90 (lv_at hl 3 rfl) ?_
    refine lv_iload hx hb dX4_readAgain_92 (lv_at hl 2 rfl) ?_
    refine lv_icmp_ge (tgt := 124) hx hb dX4_readAgain_94 (by decide) (fun c17 => ?_) (fun c17 => ?_)
    · have h := ob_pos c17 h
      exact rt_v X hW h dX4_readAgain_124
    · have h := ob_neg c17 h
      refine lv_aload_n hx hb dX4_readAgain_97 rfl (lv_at hl 0 rfl) ?_
      refine gf4_20 (cN := 5) X hW rfl dX4_readAgain_98 ?_
      refine lv_aload_n hx hb dX4_readAgain_101 rfl (lv_at hl 0 rfl) ?_
      refine gf4_20 (cN := 5) X hW rfl dX4_readAgain_102 ?_
      refine lv_aload_n hx hb dX4_readAgain_105 rfl (lv_at hl 1 rfl) ?_
      refine gf4_178 (cN := pk) X hW hpk dX4_readAgain_106 ?_
      refine lv_iload hx hb dX4_readAgain_109 (lv_at hl 3 rfl) ?_
      refine lv_iadd hx hb dX4_readAgain_111 ?_
      obtain ⟨r20, M19, e18, h⟩ := ob_bd2 h
      refine bg_calli X hW (cX0_get_k rfl rfl rfl e18) rfl rfl kw4_94 kd_X0_get rfl rfl ⟨Nat.le_of_ble_eq_true rfl, Nat.le_of_ble_eq_true rfl⟩ ⟨Nat.le_refl _, Nat.le_refl _⟩ hl.1 (Nat.le_of_ble_eq_true rfl) dX4_readAgain_112 (fun H locs hW => ?_)
      obtain ⟨M22, e21, h⟩ := ob_bind h
      refine bg_callv X hW (cX0_append_k rfl rfl rfl e21) rfl rfl kw4_176 kd_X0_append rfl rfl ⟨Nat.le_of_ble_eq_true rfl, Nat.le_of_ble_eq_true rfl⟩ ⟨Nat.le_refl _, Nat.le_refl _⟩ hl.1 (Nat.le_of_ble_eq_true rfl) dX4_readAgain_115 (fun H locs hW => ?_)
      obtain ⟨y23, ey23⟩ : ∃ y : Int32, y = (x6 + 1) := ⟨_, rfl⟩
      have h := ob_lt ey23 h
      refine lv_iinc (v := y23) (lv' := [(6, .int y23), (0, .ref (G.2.2.2 5)), (2, .ref (G.2.2.2 pk)), (5, .int x5)]) hx hb dX4_readAgain_118 hl (k := 3) rfl (by rw [ey23]; rfl) (by decide) rfl (fun ls hl => ?_)
      refine lv_goto (tgt := 90) hx hb dX4_readAgain_121 (by decide) ?_
      exact hq90 x5 y23 M22 _ _ _ (lv_sub hl [1, 2, 3, 0] rfl) hW h
def rX4_readAgain (a1 : Int32) (pk : Nat) (M : Mm) : Option Mm :=
    (bd2 (rX4_next (M.1 pk 1) M) fun r3 M2 => if r3 = (-1 : Int32) then (some M2) else (lt_ ((M2.1 pk 3) + r3) fun y5 => if (M2.1 pk 4) ≤ r3 then (rX4_readAgain_b46 pk  M2) else (if y5 < 0 then (rX4_readAgain_b46 pk  M2) else (if y5 < (nI 600) then (if y5 < 0 ∨ 600 ≤ (y5).toNatClampNeg then none else lt_ ((M2.1 29 (y5).toNatClampNeg) - (M2.1 pk 2)) fun y12 => bd2 (rX4_pay a1 y12 ((2 : Int32) + y12) M2) fun r15 M14 => if r15 = 0 then (some M14) else (rX4_readAgain_b90 pk FU y12 (0 : Int32) M14)) else (rX4_readAgain_b46 pk  M2)))))
set_option maxRecDepth 100000 in
set_option maxHeartbeats 4000000 in
theorem cX4_readAgain_k {l : Launch} {G : Gg} {a1 : Int32} {pk : Nat} (hpk : sh[pk]? = some skX3) {M M' : Mm} (h : rX4_readAgain a1 pk M = some M') : CTv l yX4_readAgain cX4_readAgain 7 3 G [.ref (G.2.2.2 5), .int a1, .ref (G.2.2.2 pk)] M M' := by
  unfold rX4_readAgain at h
  refine ct_v (by decide) (Nat.le_of_ble_eq_true rfl) (fun p e s m below meth c ls X hl hW => ?_)
  have hx := X.1.1
  have hb := X.1.2.1
  refine lv_aload_n hx hb dX4_readAgain_0 rfl (lv_at hl 0 rfl) ?_
  refine lv_aload_n hx hb dX4_readAgain_1 rfl (lv_at hl 2 rfl) ?_
  refine gf4_128 (cN := pk) X hW hpk dX4_readAgain_2 ?_
  obtain ⟨r3, M2, e1, h⟩ := ob_bd2 h
  refine bg_calli X hW (cX4_next_k e1) rfl rfl kw4_117 kd_X4_next rfl rfl ⟨Nat.le_of_ble_eq_true rfl, Nat.le_of_ble_eq_true rfl⟩ ⟨Nat.le_refl _, Nat.le_refl _⟩ hl.1 (Nat.le_of_ble_eq_true rfl) dX4_readAgain_5 (fun H locs hW => ?_)
  refine lv_istore_n (lv' := [(3, .int r3), (0, .ref (G.2.2.2 5)), (1, .int a1), (2, .ref (G.2.2.2 pk))]) hx hb dX4_readAgain_8 rfl hl (by decide) rfl (fun ls hl => ?_)
  refine lv_iload_n hx hb dX4_readAgain_9 rfl (lv_at hl 0 rfl) ?_
  refine lv_iconst (v := (-1)) hx hb dX4_readAgain_10 (by decide) ?_
  refine lv_icmp_ne (tgt := 15) hx hb dX4_readAgain_11 (by decide) (fun c4 => ?_) (fun c4 => ?_)
  · have h := ob_neg c4 h
    refine lv_aload_n hx hb dX4_readAgain_15 rfl (lv_at hl 3 rfl) ?_
    refine gf4_163 (cN := pk) X hW hpk dX4_readAgain_16 ?_
    refine lv_iload_n hx hb dX4_readAgain_19 rfl (lv_at hl 0 rfl) ?_
    refine lv_iadd hx hb dX4_readAgain_20 ?_
    refine lv_topi (fun y5 ey5 => ?_)
    have h := ob_lt ey5 h
    refine lv_istore (lv' := [(4, .int y5), (3, .int r3), (0, .ref (G.2.2.2 5)), (1, .int a1), (2, .ref (G.2.2.2 pk))]) hx hb dX4_readAgain_21 hl (by decide) rfl (fun ls hl => ?_)
    refine lv_iload_n hx hb dX4_readAgain_23 rfl (lv_at hl 1 rfl) ?_
    refine lv_aload_n hx hb dX4_readAgain_24 rfl (lv_at hl 4 rfl) ?_
    refine gf4_166 (cN := pk) X hW hpk dX4_readAgain_25 ?_
    refine lv_icmp_ge (tgt := 46) hx hb dX4_readAgain_28 (by decide) (fun c6 => ?_) (fun c6 => ?_)
    · have h := ob_pos c6 h
      exact sX4_readAgain_b46 hpk X M2 _ _ _ (lv_sub hl [2] rfl) hW h
    · have h := ob_neg c6 h
      refine lv_iload hx hb dX4_readAgain_31 (lv_at hl 0 rfl) ?_
      refine lv_if_lt (tgt := 46) hx hb dX4_readAgain_33 (by decide) (fun c9 => ?_) (fun c9 => ?_)
      · have h := ob_pos c9 h
        exact sX4_readAgain_b46 hpk X M2 _ _ _ (lv_sub hl [2] rfl) hW h
      · have h := ob_neg c9 h
        refine lv_iload hx hb dX4_readAgain_36 (lv_at hl 0 rfl) ?_
        refine lv_aload_n hx hb dX4_readAgain_38 rfl (lv_at hl 2 rfl) ?_
        refine gf4_44 (cN := 5) X hW rfl dX4_readAgain_39 ?_
        refine bg_len (cN := 29) X hW (n := 600) rfl dX4_readAgain_42 ?_
        refine lv_icmp_lt (tgt := 58) hx hb dX4_readAgain_43 (by decide) (fun c10 => ?_) (fun c10 => ?_)
        · have h := ob_pos c10 h
          refine lv_aload_n hx hb dX4_readAgain_58 rfl (lv_at hl 2 rfl) ?_
          refine gf4_44 (cN := 5) X hW rfl dX4_readAgain_59 ?_
          refine lv_iload hx hb dX4_readAgain_62 (lv_at hl 0 rfl) ?_
          obtain ⟨g11, h⟩ := ob_gd h
          refine bg_ald (cN := 29) X hW (n := 600) rfl g11 dX4_readAgain_64 ?_
          refine lv_aload_n hx hb dX4_readAgain_65 rfl (lv_at hl 4 rfl) ?_
          refine gf4_178 (cN := pk) X hW hpk dX4_readAgain_66 ?_
          refine lv_isub hx hb dX4_readAgain_69 ?_
          refine lv_topi (fun y12 ey12 => ?_)
          have h := ob_lt ey12 h
          refine lv_istore (lv' := [(5, .int y12), (4, .int y5), (3, .int r3), (0, .ref (G.2.2.2 5)), (1, .int a1), (2, .ref (G.2.2.2 pk))]) hx hb dX4_readAgain_70 hl (by decide) rfl (fun ls hl => ?_)
          refine lv_aload_n hx hb dX4_readAgain_72 rfl (lv_at hl 3 rfl) ?_
          refine lv_iload_n hx hb dX4_readAgain_73 rfl (lv_at hl 4 rfl) ?_
          refine lv_iload hx hb dX4_readAgain_74 (lv_at hl 0 rfl) ?_
          refine lv_iconst (v := 2) hx hb dX4_readAgain_76 (by decide) ?_
          refine lv_iload hx hb dX4_readAgain_77 (lv_at hl 0 rfl) ?_
          refine lv_iadd hx hb dX4_readAgain_79 ?_
          obtain ⟨r15, M14, e13, h⟩ := ob_bd2 h
          refine bg_calli X hW (cX4_pay_k e13) rfl rfl kw4_102 kd_X4_pay rfl rfl ⟨Nat.le_of_ble_eq_true rfl, Nat.le_of_ble_eq_true rfl⟩ ⟨Nat.le_refl _, Nat.le_refl _⟩ hl.1 (Nat.le_of_ble_eq_true rfl) dX4_readAgain_80 (fun H locs hW => ?_)
          refine lv_if_ne (tgt := 87) hx hb dX4_readAgain_83 (by decide) (fun c16 => ?_) (fun c16 => ?_)
          · have h := ob_neg c16 h
            refine lv_iconst (v := 0) hx hb dX4_readAgain_87 (by decide) ?_
            refine lv_istore (lv' := [(6, .int (0 : Int32)), (5, .int y12), (4, .int y5), (3, .int r3), (0, .ref (G.2.2.2 5)), (1, .int a1), (2, .ref (G.2.2.2 pk))]) hx hb dX4_readAgain_88 hl (by decide) rfl (fun ls hl => ?_)
            exact sX4_readAgain_b90 hpk X FU y12 (0 : Int32) M14 _ _ _ (lv_sub hl [4, 6, 1, 0] rfl) hW h
          · have h := ob_pos c16 h
            exact rt_v X hW h dX4_readAgain_86
        · have h := ob_neg c10 h
          exact sX4_readAgain_b46 hpk X M2 _ _ _ (lv_sub hl [2] rfl) hW h
  · have h := ob_pos c4 h
    exact rt_v X hW h dX4_readAgain_14
def rX4_readTable_b24 (M : Mm) : Option (Int32 × Mm) :=
    (Option.bind (rX4_fail (6 : Int32) ((M.1 5 9) - (1 : Int32)) M) fun M7 => some ((-1 : Int32), M7))
set_option maxRecDepth 100000 in
set_option maxHeartbeats 4000000 in
theorem sX4_readTable_b24 {p : Program} {l : Launch} {e : Env} {s : State} {m : MethodId} {args : Array Value} {below : List Frame} {meth : Method} {c : Code} {G : Gg} {r : Int32} {M' : Mm} (X : Cx p m c meth cX4_readTable 7 s args RX4 (some .int) G) : ∀ (M : Mm) (ls : Array Slot) (H : Heap) (locs : List Loc), lv_has ls 7 [(0, .ref (G.2.2.2 5))] → Wo G s M H locs → rX4_readTable_b24  M = some (r, M') → W p l e (rm 3) s m args below meth c H locs 0 0 (Qi below args s G r M') (F0 m 24 ls []) := by
    intro M ls H locs hl hW h
    unfold rX4_readTable_b24 at h
    have hx := X.1.1
    have hb := X.1.2.1
    refine lv_aload_n hx hb dX4_readTable_24 rfl (lv_at hl 0 rfl) ?_
    refine lv_bipush (v := 6) hx hb dX4_readTable_25 (by decide) ?_
    refine lv_aload_n hx hb dX4_readTable_27 rfl (lv_at hl 0 rfl) ?_
    refine gf4_88 (cN := 5) X hW rfl dX4_readTable_28 ?_
    refine lv_iconst (v := 1) hx hb dX4_readTable_31 (by decide) ?_
    refine lv_isub hx hb dX4_readTable_32 ?_
    obtain ⟨M7, e6, h⟩ := ob_bind h
    refine bg_callv X hW (cX4_fail_k e6) rfl rfl kw4_91 kd_X4_fail rfl rfl ⟨Nat.le_of_ble_eq_true rfl, Nat.le_of_ble_eq_true rfl⟩ ⟨Nat.le_refl _, Nat.le_refl _⟩ hl.1 (Nat.le_of_ble_eq_true rfl) dX4_readTable_33 (fun H locs hW => ?_)
    refine lv_iconst (v := (-1)) hx hb dX4_readTable_36 (by decide) ?_
    exact rt_i X hW h dX4_readTable_37
def rX4_readTable_b165 (x1 : Int32) (x2 : Int32) (x3 : Int32) (M : Mm) : Option (Int32 × Mm) :=
    (if (M.1 5 15) = 0 then (Option.bind (rX5_makeCodes M) fun M17 => bd2 (rX4_next x2 M17) fun r20 M19 => if r20 = (-1 : Int32) then (some ((-1 : Int32), M19)) else (bd2 (rX4_pay x1 r20 (((3 : Int32) + ((2 : Int32) * x3)) + ((2 : Int32) * r20)) M19) fun r24 M23 => if r24 = 0 then (some ((-1 : Int32), M23)) else (some (r20, M23)))) else (some ((-1 : Int32), M)))
set_option maxRecDepth 100000 in
set_option maxHeartbeats 4000000 in
theorem sX4_readTable_b165 {p : Program} {l : Launch} {e : Env} {s : State} {m : MethodId} {args : Array Value} {below : List Frame} {meth : Method} {c : Code} {G : Gg} {r : Int32} {M' : Mm} (X : Cx p m c meth cX4_readTable 7 s args RX4 (some .int) G) : ∀ (x1 : Int32) (x2 : Int32) (x3 : Int32) (M : Mm) (ls : Array Slot) (H : Heap) (locs : List Loc), lv_has ls 7 [(0, .ref (G.2.2.2 5)), (1, .int x1), (2, .int x2), (3, .int x3)] → Wo G s M H locs → rX4_readTable_b165 x1 x2 x3 M = some (r, M') → W p l e (rm 3) s m args below meth c H locs 0 0 (Qi below args s G r M') (F0 m 165 ls []) := by
    intro x1 x2 x3 M ls H locs hl hW h
    unfold rX4_readTable_b165 at h
    have hx := X.1.1
    have hb := X.1.2.1
    refine lv_aload_n hx hb dX4_readTable_165 rfl (lv_at hl 0 rfl) ?_
    refine gf4_70 (cN := 5) X hW rfl dX4_readTable_166 ?_
    refine lv_if_eq (tgt := 174) hx hb dX4_readTable_169 (by decide) (fun c15 => ?_) (fun c15 => ?_)
    · have h := ob_pos c15 h
      refine lv_aload_n hx hb dX4_readTable_174 rfl (lv_at hl 0 rfl) ?_
      refine gf4_33 (cN := 5) X hW rfl dX4_readTable_175 ?_
      obtain ⟨M17, e16, h⟩ := ob_bind h
      refine bg_callv X hW (cX5_makeCodes_k e16) rfl rfl kw4_193 kd_X5_makeCodes rfl rfl ⟨Nat.le_of_ble_eq_true rfl, Nat.le_of_ble_eq_true rfl⟩ ⟨Nat.le_refl _, Nat.le_refl _⟩ hl.1 (Nat.le_of_ble_eq_true rfl) dX4_readTable_178 (fun H locs hW => ?_)
      refine lv_aload_n hx hb dX4_readTable_181 rfl (lv_at hl 0 rfl) ?_
      refine lv_iload_n hx hb dX4_readTable_182 rfl (lv_at hl 2 rfl) ?_
      obtain ⟨r20, M19, e18, h⟩ := ob_bd2 h
      refine bg_calli X hW (cX4_next_k e18) rfl rfl kw4_117 kd_X4_next rfl rfl ⟨Nat.le_of_ble_eq_true rfl, Nat.le_of_ble_eq_true rfl⟩ ⟨Nat.le_refl _, Nat.le_refl _⟩ hl.1 (Nat.le_of_ble_eq_true rfl) dX4_readTable_183 (fun H locs hW => ?_)
      refine lv_istore (lv' := [(5, .int r20), (0, .ref (G.2.2.2 5)), (1, .int x1), (2, .int x2), (3, .int x3)]) hx hb dX4_readTable_186 hl (by decide) rfl (fun ls hl => ?_)
      refine lv_iload hx hb dX4_readTable_188 (lv_at hl 0 rfl) ?_
      refine lv_iconst (v := (-1)) hx hb dX4_readTable_190 (by decide) ?_
      refine lv_icmp_eq (tgt := 219) hx hb dX4_readTable_191 (by decide) (fun c21 => ?_) (fun c21 => ?_)
      · have h := ob_pos c21 h
        refine lv_iconst (v := (-1)) hx hb dX4_readTable_219 (by decide) ?_
        exact rt_i X hW h dX4_readTable_220
      · have h := ob_neg c21 h
        refine lv_aload_n hx hb dX4_readTable_194 rfl (lv_at hl 1 rfl) ?_
        refine lv_iload_n hx hb dX4_readTable_195 rfl (lv_at hl 2 rfl) ?_
        refine lv_iload hx hb dX4_readTable_196 (lv_at hl 0 rfl) ?_
        refine lv_iconst (v := 3) hx hb dX4_readTable_198 (by decide) ?_
        refine lv_iconst (v := 2) hx hb dX4_readTable_199 (by decide) ?_
        refine lv_iload_n hx hb dX4_readTable_200 rfl (lv_at hl 4 rfl) ?_
        refine lv_imul hx hb dX4_readTable_201 ?_
        refine lv_iadd hx hb dX4_readTable_202 ?_
        refine lv_iconst (v := 2) hx hb dX4_readTable_203 (by decide) ?_
        refine lv_iload hx hb dX4_readTable_204 (lv_at hl 0 rfl) ?_
        refine lv_imul hx hb dX4_readTable_206 ?_
        refine lv_iadd hx hb dX4_readTable_207 ?_
        obtain ⟨r24, M23, e22, h⟩ := ob_bd2 h
        refine bg_calli X hW (cX4_pay_k e22) rfl rfl kw4_102 kd_X4_pay rfl rfl ⟨Nat.le_of_ble_eq_true rfl, Nat.le_of_ble_eq_true rfl⟩ ⟨Nat.le_refl _, Nat.le_refl _⟩ hl.1 (Nat.le_of_ble_eq_true rfl) dX4_readTable_208 (fun H locs hW => ?_)
        refine lv_if_eq (tgt := 219) hx hb dX4_readTable_211 (by decide) (fun c25 => ?_) (fun c25 => ?_)
        · have h := ob_pos c25 h
          refine lv_iconst (v := (-1)) hx hb dX4_readTable_219 (by decide) ?_
          exact rt_i X hW h dX4_readTable_220
        · have h := ob_neg c25 h
          refine lv_iload hx hb dX4_readTable_214 (lv_at hl 0 rfl) ?_
          refine lv_goto (tgt := 220) hx hb dX4_readTable_216 (by decide) ?_
          exact rt_i X hW h dX4_readTable_220
    · have h := ob_neg c15 h
      refine lv_iconst (v := (-1)) hx hb dX4_readTable_172 (by decide) ?_
      exact rt_i X hW h dX4_readTable_173
def rX4_readTable_b140 (x1 : Int32) (x2 : Int32) (x3 : Int32) (x4 : Int32) (M : Mm) : Option (Int32 × Mm) :=
    (if (M.1 5 15) = 0 then (bd2 (rX5_isGood M) fun r28 M27 => if r28 = 0 then (Option.bind (rX4_fail (6 : Int32) x4 M27) fun M31 => rX4_readTable_b165 x1 x2 x3 M31) else (rX4_readTable_b165 x1 x2 x3 M27)) else (rX4_readTable_b165 x1 x2 x3 M))
set_option maxRecDepth 100000 in
set_option maxHeartbeats 4000000 in
theorem sX4_readTable_b140 {p : Program} {l : Launch} {e : Env} {s : State} {m : MethodId} {args : Array Value} {below : List Frame} {meth : Method} {c : Code} {G : Gg} {r : Int32} {M' : Mm} (X : Cx p m c meth cX4_readTable 7 s args RX4 (some .int) G) : ∀ (x1 : Int32) (x2 : Int32) (x3 : Int32) (x4 : Int32) (M : Mm) (ls : Array Slot) (H : Heap) (locs : List Loc), lv_has ls 7 [(0, .ref (G.2.2.2 5)), (1, .int x1), (2, .int x2), (3, .int x3), (4, .int x4)] → Wo G s M H locs → rX4_readTable_b140 x1 x2 x3 x4 M = some (r, M') → W p l e (rm 3) s m args below meth c H locs 0 0 (Qi below args s G r M') (F0 m 140 ls []) := by
    intro x1 x2 x3 x4 M ls H locs hl hW h
    unfold rX4_readTable_b140 at h
    have hx := X.1.1
    have hb := X.1.2.1
    refine lv_aload_n hx hb dX4_readTable_140 rfl (lv_at hl 0 rfl) ?_
    refine gf4_70 (cN := 5) X hW rfl dX4_readTable_141 ?_
    refine lv_if_ne (tgt := 165) hx hb dX4_readTable_144 (by decide) (fun c14 => ?_) (fun c14 => ?_)
    · have h := ob_neg c14 h
      exact sX4_readTable_b165 X x1 x2 x3 M _ _ _ (lv_sub hl [0, 1, 2, 3] rfl) hW h
    · have h := ob_pos c14 h
      refine lv_aload_n hx hb dX4_readTable_147 rfl (lv_at hl 0 rfl) ?_
      refine gf4_33 (cN := 5) X hW rfl dX4_readTable_148 ?_
      obtain ⟨r28, M27, e26, h⟩ := ob_bd2 h
      refine bg_calli X hW (cX5_isGood_k e26) rfl rfl kw4_189 kd_X5_isGood rfl rfl ⟨Nat.le_of_ble_eq_true rfl, Nat.le_of_ble_eq_true rfl⟩ ⟨Nat.le_refl _, Nat.le_refl _⟩ hl.1 (Nat.le_of_ble_eq_true rfl) dX4_readTable_151 (fun H locs hW => ?_)
      refine lv_if_ne (tgt := 165) hx hb dX4_readTable_154 (by decide) (fun c29 => ?_) (fun c29 => ?_)
      · have h := ob_neg c29 h
        exact sX4_readTable_b165 X x1 x2 x3 M27 _ _ _ (lv_sub hl [0, 1, 2, 3] rfl) hW h
      · have h := ob_pos c29 h
        refine lv_aload_n hx hb dX4_readTable_157 rfl (lv_at hl 0 rfl) ?_
        refine lv_bipush (v := 6) hx hb dX4_readTable_158 (by decide) ?_
        refine lv_iload hx hb dX4_readTable_160 (lv_at hl 4 rfl) ?_
        obtain ⟨M31, e30, h⟩ := ob_bind h
        refine bg_callv X hW (cX4_fail_k e30) rfl rfl kw4_91 kd_X4_fail rfl rfl ⟨Nat.le_of_ble_eq_true rfl, Nat.le_of_ble_eq_true rfl⟩ ⟨Nat.le_refl _, Nat.le_refl _⟩ hl.1 (Nat.le_of_ble_eq_true rfl) dX4_readTable_162 (fun H locs hW => ?_)
        exact sX4_readTable_b165 X x1 x2 x3 M31 _ _ _ (lv_sub hl [0, 1, 2, 3] rfl) hW h
def rX4_readTable_b123 (q84 : Int32 → Int32 → Int32 → Int32 → Int32 → Mm → Option (Int32 × Mm)) (x1 : Int32) (x2 : Int32) (x3 : Int32) (x4 : Int32) (x5 : Int32) (x6 : Int32) (M : Mm) : Option (Int32 × Mm) :=
    (Option.bind (rX5_putLength x5 x6 M) fun M38 => lt_ (x5 + 1) fun y39 => q84 x1 x2 x3 x4 y39 M38)
set_option maxRecDepth 100000 in
set_option maxHeartbeats 4000000 in
theorem sX4_readTable_b123 {p : Program} {l : Launch} {e : Env} {s : State} {m : MethodId} {args : Array Value} {below : List Frame} {meth : Method} {c : Code} {G : Gg} {r : Int32} {M' : Mm} (X : Cx p m c meth cX4_readTable 7 s args RX4 (some .int) G) {q84 : Int32 → Int32 → Int32 → Int32 → Int32 → Mm → Option (Int32 × Mm)} (hq84 : ∀ (x1 : Int32) (x2 : Int32) (x3 : Int32) (x4 : Int32) (x5 : Int32) (M : Mm) (ls : Array Slot) (H : Heap) (locs : List Loc), lv_has ls 7 [(0, .ref (G.2.2.2 5)), (1, .int x1), (2, .int x2), (3, .int x3), (4, .int x4), (5, .int x5)] → Wo G s M H locs → q84 x1 x2 x3 x4 x5 M = some (r, M') → W p l e (rm 3) s m args below meth c H locs 0 0 (Qi below args s G r M') (F0 m 84 ls [])) : ∀ (x1 : Int32) (x2 : Int32) (x3 : Int32) (x4 : Int32) (x5 : Int32) (x6 : Int32) (M : Mm) (ls : Array Slot) (H : Heap) (locs : List Loc), lv_has ls 7 [(0, .ref (G.2.2.2 5)), (1, .int x1), (2, .int x2), (3, .int x3), (4, .int x4), (5, .int x5), (6, .int x6)] → Wo G s M H locs → rX4_readTable_b123 q84 x1 x2 x3 x4 x5 x6 M = some (r, M') → W p l e (rm 3) s m args below meth c H locs 0 0 (Qi below args s G r M') (F0 m 123 ls []) := by
    intro x1 x2 x3 x4 x5 x6 M ls H locs hl hW h
    unfold rX4_readTable_b123 at h
    have hx := X.1.1
    have hb := X.1.2.1
    refine lv_aload_n hx hb dX4_readTable_123 rfl (lv_at hl 0 rfl) ?_
    refine gf4_33 (cN := 5) X hW rfl dX4_readTable_124 ?_
    refine lv_iload hx hb dX4_readTable_127 (lv_at hl 5 rfl) ?_
    refine lv_iload hx hb dX4_readTable_129 (lv_at hl 6 rfl) ?_
    obtain ⟨M38, e37, h⟩ := ob_bind h
    refine bg_callv X hW (cX5_putLength_k e37) rfl rfl kw4_186 kd_X5_putLength rfl rfl ⟨Nat.le_of_ble_eq_true rfl, Nat.le_of_ble_eq_true rfl⟩ ⟨Nat.le_refl _, Nat.le_refl _⟩ hl.1 (Nat.le_of_ble_eq_true rfl) dX4_readTable_131 (fun H locs hW => ?_)
    obtain ⟨y39, ey39⟩ : ∃ y : Int32, y = (x5 + 1) := ⟨_, rfl⟩
    have h := ob_lt ey39 h
    refine lv_iinc (v := y39) (lv' := [(5, .int y39), (0, .ref (G.2.2.2 5)), (1, .int x1), (2, .int x2), (3, .int x3), (4, .int x4), (6, .int x6)]) hx hb dX4_readTable_134 hl (k := 5) rfl (by rw [ey39]; rfl) (by decide) rfl (fun ls hl => ?_)
    refine lv_goto (tgt := 84) hx hb dX4_readTable_137 (by decide) ?_
    exact hq84 x1 x2 x3 x4 y39 M38 _ _ _ (lv_sub hl [1, 2, 3, 4, 5, 0] rfl) hW h
def rX4_readTable_b84_s (q84 : Int32 → Int32 → Int32 → Int32 → Int32 → Mm → Option (Int32 × Mm)) (x1 : Int32) (x2 : Int32) (x3 : Int32) (x4 : Int32) (x5 : Int32) (M : Mm) : Option (Int32 × Mm) :=
    (if x3 ≤ x5 then (rX4_readTable_b140 x1 x2 x3 x4 M) else (if (M.1 5 15) = 0 then (bd2 (rX4_next x2 M) fun r35 M34 => if r35 ≤ (7 : Int32) then (rX4_readTable_b123 q84 x1 x2 x3 x4 x5 r35 M34) else (Option.bind (rX4_fail (6 : Int32) ((M34.1 5 9) - (1 : Int32)) M34) fun M41 => rX4_readTable_b123 q84 x1 x2 x3 x4 x5 r35 M41)) else (rX4_readTable_b140 x1 x2 x3 x4 M)))
def rX4_readTable_b84 : Nat → Int32 → Int32 → Int32 → Int32 → Int32 → Mm → Option (Int32 × Mm)
  | 0 => fun _ _ _ _ _ _ => none
  | n + 1 => rX4_readTable_b84_s (rX4_readTable_b84 n)
set_option maxRecDepth 100000 in
set_option maxHeartbeats 4000000 in
theorem sX4_readTable_b84 {p : Program} {l : Launch} {e : Env} {s : State} {m : MethodId} {args : Array Value} {below : List Frame} {meth : Method} {c : Code} {G : Gg} {r : Int32} {M' : Mm} (X : Cx p m c meth cX4_readTable 7 s args RX4 (some .int) G) : ∀ (n : Nat), ∀ (x1 : Int32) (x2 : Int32) (x3 : Int32) (x4 : Int32) (x5 : Int32) (M : Mm) (ls : Array Slot) (H : Heap) (locs : List Loc), lv_has ls 7 [(0, .ref (G.2.2.2 5)), (1, .int x1), (2, .int x2), (3, .int x3), (4, .int x4), (5, .int x5)] → Wo G s M H locs → rX4_readTable_b84 n x1 x2 x3 x4 x5 M = some (r, M') → W p l e (rm 3) s m args below meth c H locs 0 0 (Qi below args s G r M') (F0 m 84 ls []) := by
  intro n
  induction n with
  | zero =>
    intro x1 x2 x3 x4 x5 M ls H locs hl hW h
    cases (show (none : Option (Int32 × Mm)) = some (r, M') from h)
  | succ n hq840 =>
    have hq84 : ∀ (x1 : Int32) (x2 : Int32) (x3 : Int32) (x4 : Int32) (x5 : Int32) (M : Mm) (ls : Array Slot) (H : Heap) (locs : List Loc), lv_has ls 7 [(0, .ref (G.2.2.2 5)), (1, .int x1), (2, .int x2), (3, .int x3), (4, .int x4), (5, .int x5)] → Wo G s M H locs → (rX4_readTable_b84 n) x1 x2 x3 x4 x5 M = some (r, M') → W p l e (rm 3) s m args below meth c H locs 0 0 (Qi below args s G r M') (F0 m 84 ls []) := hq840
    intro x1 x2 x3 x4 x5 M ls H locs hl hW h
    have h : rX4_readTable_b84_s (rX4_readTable_b84 n) x1 x2 x3 x4 x5 M = some (r, M') := h
    unfold rX4_readTable_b84_s at h
    have hx := X.1.1
    have hb := X.1.2.1
    refine lv_iload hx hb dX4_readTable_84 (lv_at hl 5 rfl) ?_
    refine lv_iload_n hx hb dX4_readTable_86 rfl (lv_at hl 3 rfl) ?_
    refine lv_icmp_ge (tgt := 140) hx hb dX4_readTable_87 (by decide) (fun c13 => ?_) (fun c13 => ?_)
    · have h := ob_pos c13 h
      exact sX4_readTable_b140 X x1 x2 x3 x4 M _ _ _ (lv_sub hl [0, 1, 2, 3, 4] rfl) hW h
    · have h := ob_neg c13 h
      refine lv_aload_n hx hb dX4_readTable_90 rfl (lv_at hl 0 rfl) ?_
      refine gf4_70 (cN := 5) X hW rfl dX4_readTable_91 ?_
      refine lv_if_ne (tgt := 140) hx hb dX4_readTable_94 (by decide) (fun c32 => ?_) (fun c32 => ?_)
      · have h := ob_neg c32 h
        exact sX4_readTable_b140 X x1 x2 x3 x4 M _ _ _ (lv_sub hl [0, 1, 2, 3, 4] rfl) hW h
      · have h := ob_pos c32 h
        refine lv_aload_n hx hb dX4_readTable_97 rfl (lv_at hl 0 rfl) ?_
        refine lv_iload_n hx hb dX4_readTable_98 rfl (lv_at hl 2 rfl) ?_
        obtain ⟨r35, M34, e33, h⟩ := ob_bd2 h
        refine bg_calli X hW (cX4_next_k e33) rfl rfl kw4_117 kd_X4_next rfl rfl ⟨Nat.le_of_ble_eq_true rfl, Nat.le_of_ble_eq_true rfl⟩ ⟨Nat.le_refl _, Nat.le_refl _⟩ hl.1 (Nat.le_of_ble_eq_true rfl) dX4_readTable_99 (fun H locs hW => ?_)
        refine lv_istore (lv' := [(6, .int r35), (0, .ref (G.2.2.2 5)), (1, .int x1), (2, .int x2), (3, .int x3), (4, .int x4), (5, .int x5)]) hx hb dX4_readTable_102 hl (by decide) rfl (fun ls hl => ?_)
        refine lv_iload hx hb dX4_readTable_104 (lv_at hl 0 rfl) ?_
        refine lv_bipush (v := 7) hx hb dX4_readTable_106 (by decide) ?_
        refine lv_icmp_le (tgt := 123) hx hb dX4_readTable_108 (by decide) (fun c36 => ?_) (fun c36 => ?_)
        · have h := ob_pos c36 h
          exact sX4_readTable_b123 X hq84 x1 x2 x3 x4 x5 r35 M34 _ _ _ (lv_sub hl [1, 2, 3, 4, 5, 6, 0] rfl) hW h
        · have h := ob_neg c36 h
          refine lv_aload_n hx hb dX4_readTable_111 rfl (lv_at hl 1 rfl) ?_
          refine lv_bipush (v := 6) hx hb dX4_readTable_112 (by decide) ?_
          refine lv_aload_n hx hb dX4_readTable_114 rfl (lv_at hl 1 rfl) ?_
          refine gf4_88 (cN := 5) X hW rfl dX4_readTable_115 ?_
          refine lv_iconst (v := 1) hx hb dX4_readTable_118 (by decide) ?_
          refine lv_isub hx hb dX4_readTable_119 ?_
          obtain ⟨M41, e40, h⟩ := ob_bind h
          refine bg_callv X hW (cX4_fail_k e40) rfl rfl kw4_91 kd_X4_fail rfl rfl ⟨Nat.le_of_ble_eq_true rfl, Nat.le_of_ble_eq_true rfl⟩ ⟨Nat.le_refl _, Nat.le_refl _⟩ hl.1 (Nat.le_of_ble_eq_true rfl) dX4_readTable_120 (fun H locs hW => ?_)
          exact sX4_readTable_b123 X hq84 x1 x2 x3 x4 x5 r35 M41 _ _ _ (lv_sub hl [1, 2, 3, 4, 5, 6, 0] rfl) hW h
def rX4_readTable_b49_s (q49 : Int32 → Int32 → Int32 → Int32 → Mm → Option (Int32 × Mm)) (x1 : Int32) (x2 : Int32) (x3 : Int32) (x4 : Int32) (M : Mm) : Option (Int32 × Mm) :=
    (if x3 ≤ x4 then (lt_ (M.1 5 9) fun y12 => rX4_readTable_b84 FU x1 x2 x3 y12 (0 : Int32) M) else (bd2 (rX4_next x2 M) fun r44 M43 => Option.bind (rX5_putSymbol x4 r44 M43) fun M46 => lt_ (x4 + 1) fun y47 => q49 x1 x2 x3 y47 M46))
def rX4_readTable_b49 : Nat → Int32 → Int32 → Int32 → Int32 → Mm → Option (Int32 × Mm)
  | 0 => fun _ _ _ _ _ => none
  | n + 1 => rX4_readTable_b49_s (rX4_readTable_b49 n)
set_option maxRecDepth 100000 in
set_option maxHeartbeats 4000000 in
theorem sX4_readTable_b49 {p : Program} {l : Launch} {e : Env} {s : State} {m : MethodId} {args : Array Value} {below : List Frame} {meth : Method} {c : Code} {G : Gg} {r : Int32} {M' : Mm} (X : Cx p m c meth cX4_readTable 7 s args RX4 (some .int) G) : ∀ (n : Nat), ∀ (x1 : Int32) (x2 : Int32) (x3 : Int32) (x4 : Int32) (M : Mm) (ls : Array Slot) (H : Heap) (locs : List Loc), lv_has ls 7 [(0, .ref (G.2.2.2 5)), (1, .int x1), (2, .int x2), (3, .int x3), (4, .int x4)] → Wo G s M H locs → rX4_readTable_b49 n x1 x2 x3 x4 M = some (r, M') → W p l e (rm 3) s m args below meth c H locs 0 0 (Qi below args s G r M') (F0 m 49 ls []) := by
  intro n
  induction n with
  | zero =>
    intro x1 x2 x3 x4 M ls H locs hl hW h
    cases (show (none : Option (Int32 × Mm)) = some (r, M') from h)
  | succ n hq490 =>
    have hq49 : ∀ (x1 : Int32) (x2 : Int32) (x3 : Int32) (x4 : Int32) (M : Mm) (ls : Array Slot) (H : Heap) (locs : List Loc), lv_has ls 7 [(0, .ref (G.2.2.2 5)), (1, .int x1), (2, .int x2), (3, .int x3), (4, .int x4)] → Wo G s M H locs → (rX4_readTable_b49 n) x1 x2 x3 x4 M = some (r, M') → W p l e (rm 3) s m args below meth c H locs 0 0 (Qi below args s G r M') (F0 m 49 ls []) := hq490
    intro x1 x2 x3 x4 M ls H locs hl hW h
    have h : rX4_readTable_b49_s (rX4_readTable_b49 n) x1 x2 x3 x4 M = some (r, M') := h
    unfold rX4_readTable_b49_s at h
    have hx := X.1.1
    have hb := X.1.2.1
    refine lv_iload hx hb dX4_readTable_49 (lv_at hl 4 rfl) ?_
    refine lv_iload_n hx hb dX4_readTable_51 rfl (lv_at hl 3 rfl) ?_
    refine lv_icmp_ge (tgt := 75) hx hb dX4_readTable_52 (by decide) (fun c11 => ?_) (fun c11 => ?_)
    · have h := ob_pos c11 h
      refine lv_aload_n hx hb dX4_readTable_75 rfl (lv_at hl 0 rfl) ?_
      refine gf4_88 (cN := 5) X hW rfl dX4_readTable_76 ?_
      refine lv_topi (fun y12 ey12 => ?_)
      have h := ob_lt ey12 h
      refine lv_istore (lv' := [(4, .int y12), (0, .ref (G.2.2.2 5)), (1, .int x1), (2, .int x2), (3, .int x3)]) hx hb dX4_readTable_79 hl (by decide) rfl (fun ls hl => ?_)
      refine lv_iconst (v := 0) hx hb dX4_readTable_81 (by decide) ?_
      refine lv_istore (lv' := [(5, .int (0 : Int32)), (4, .int y12), (0, .ref (G.2.2.2 5)), (1, .int x1), (2, .int x2), (3, .int x3)]) hx hb dX4_readTable_82 hl (by decide) rfl (fun ls hl => ?_)
      exact sX4_readTable_b84 X FU x1 x2 x3 y12 (0 : Int32) M _ _ _ (lv_sub hl [2, 3, 4, 5, 1, 0] rfl) hW h
    · have h := ob_neg c11 h
      refine lv_aload_n hx hb dX4_readTable_55 rfl (lv_at hl 0 rfl) ?_
      refine gf4_33 (cN := 5) X hW rfl dX4_readTable_56 ?_
      refine lv_iload hx hb dX4_readTable_59 (lv_at hl 4 rfl) ?_
      refine lv_aload_n hx hb dX4_readTable_61 rfl (lv_at hl 0 rfl) ?_
      refine lv_iload_n hx hb dX4_readTable_62 rfl (lv_at hl 2 rfl) ?_
      obtain ⟨r44, M43, e42, h⟩ := ob_bd2 h
      refine bg_calli X hW (cX4_next_k e42) rfl rfl kw4_117 kd_X4_next rfl rfl ⟨Nat.le_of_ble_eq_true rfl, Nat.le_of_ble_eq_true rfl⟩ ⟨Nat.le_refl _, Nat.le_refl _⟩ hl.1 (Nat.le_of_ble_eq_true rfl) dX4_readTable_63 (fun H locs hW => ?_)
      obtain ⟨M46, e45, h⟩ := ob_bind h
      refine bg_callv X hW (cX5_putSymbol_k e45) rfl rfl kw4_183 kd_X5_putSymbol rfl rfl ⟨Nat.le_of_ble_eq_true rfl, Nat.le_of_ble_eq_true rfl⟩ ⟨Nat.le_refl _, Nat.le_refl _⟩ hl.1 (Nat.le_of_ble_eq_true rfl) dX4_readTable_66 (fun H locs hW => ?_)
      obtain ⟨y47, ey47⟩ : ∃ y : Int32, y = (x4 + 1) := ⟨_, rfl⟩
      have h := ob_lt ey47 h
      refine lv_iinc (v := y47) (lv' := [(4, .int y47), (0, .ref (G.2.2.2 5)), (1, .int x1), (2, .int x2), (3, .int x3)]) hx hb dX4_readTable_69 hl (k := 4) rfl (by rw [ey47]; rfl) (by decide) rfl (fun ls hl => ?_)
      refine lv_goto (tgt := 49) hx hb dX4_readTable_72 (by decide) ?_
      exact hq49 x1 x2 x3 y47 M46 _ _ _ (lv_sub hl [1, 2, 3, 4, 0] rfl) hW h
def rX4_readTable (a1 : Int32) (a2 : Int32) (M : Mm) : Option (Int32 × Mm) :=
    (bd2 (rX4_next a2 M) fun r3 M2 => if r3 = (-1 : Int32) then (some ((-1 : Int32), M2)) else (if r3 < (1 : Int32) then (rX4_readTable_b24  M2) else (if r3 ≤ (8 : Int32) then (Option.bind (rX5_begin r3 M2) fun M10 => rX4_readTable_b49 FU a1 a2 r3 (0 : Int32) M10) else (rX4_readTable_b24  M2))))
set_option maxRecDepth 100000 in
set_option maxHeartbeats 4000000 in
theorem cX4_readTable_k {l : Launch} {G : Gg} {a1 : Int32} {a2 : Int32} {M M' : Mm} {r : Int32} (h : rX4_readTable a1 a2 M = some (r, M')) : CTi l yX4_readTable cX4_readTable 7 (some .int) 3 G [.ref (G.2.2.2 5), .int a1, .int a2] M r M' := by
  unfold rX4_readTable at h
  refine ct_i (by decide) (Nat.le_of_ble_eq_true rfl) (fun p e s m below meth c ls X hl hW => ?_)
  have hx := X.1.1
  have hb := X.1.2.1
  refine lv_aload_n hx hb dX4_readTable_0 rfl (lv_at hl 0 rfl) ?_
  refine lv_iload_n hx hb dX4_readTable_1 rfl (lv_at hl 2 rfl) ?_
  obtain ⟨r3, M2, e1, h⟩ := ob_bd2 h
  refine bg_calli X hW (cX4_next_k e1) rfl rfl kw4_117 kd_X4_next rfl rfl ⟨Nat.le_of_ble_eq_true rfl, Nat.le_of_ble_eq_true rfl⟩ ⟨Nat.le_refl _, Nat.le_refl _⟩ hl.1 (Nat.le_of_ble_eq_true rfl) dX4_readTable_2 (fun H locs hW => ?_)
  refine lv_istore_n (lv' := [(3, .int r3), (0, .ref (G.2.2.2 5)), (1, .int a1), (2, .int a2)]) hx hb dX4_readTable_5 rfl hl (by decide) rfl (fun ls hl => ?_)
  refine lv_iload_n hx hb dX4_readTable_6 rfl (lv_at hl 0 rfl) ?_
  refine lv_iconst (v := (-1)) hx hb dX4_readTable_7 (by decide) ?_
  refine lv_icmp_ne (tgt := 13) hx hb dX4_readTable_8 (by decide) (fun c4 => ?_) (fun c4 => ?_)
  · have h := ob_neg c4 h
    refine lv_iload_n hx hb dX4_readTable_13 rfl (lv_at hl 0 rfl) ?_
    refine lv_iconst (v := 1) hx hb dX4_readTable_14 (by decide) ?_
    refine lv_icmp_lt (tgt := 24) hx hb dX4_readTable_15 (by decide) (fun c5 => ?_) (fun c5 => ?_)
    · have h := ob_pos c5 h
      exact sX4_readTable_b24 X M2 _ _ _ (lv_sub hl [1] rfl) hW h
    · have h := ob_neg c5 h
      refine lv_iload_n hx hb dX4_readTable_18 rfl (lv_at hl 0 rfl) ?_
      refine lv_bipush (v := 8) hx hb dX4_readTable_19 (by decide) ?_
      refine lv_icmp_le (tgt := 38) hx hb dX4_readTable_21 (by decide) (fun c8 => ?_) (fun c8 => ?_)
      · have h := ob_pos c8 h
        refine lv_aload_n hx hb dX4_readTable_38 rfl (lv_at hl 1 rfl) ?_
        refine gf4_33 (cN := 5) X hW rfl dX4_readTable_39 ?_
        refine lv_iload_n hx hb dX4_readTable_42 rfl (lv_at hl 0 rfl) ?_
        obtain ⟨M10, e9, h⟩ := ob_bind h
        refine bg_callv X hW (cX5_begin_k e9) rfl rfl kw4_181 kd_X5_begin rfl rfl ⟨Nat.le_of_ble_eq_true rfl, Nat.le_of_ble_eq_true rfl⟩ ⟨Nat.le_refl _, Nat.le_refl _⟩ hl.1 (Nat.le_of_ble_eq_true rfl) dX4_readTable_43 (fun H locs hW => ?_)
        refine lv_iconst (v := 0) hx hb dX4_readTable_46 (by decide) ?_
        refine lv_istore (lv' := [(4, .int (0 : Int32)), (3, .int r3), (0, .ref (G.2.2.2 5)), (1, .int a1), (2, .int a2)]) hx hb dX4_readTable_47 hl (by decide) rfl (fun ls hl => ?_)
        exact sX4_readTable_b49 X FU a1 a2 r3 (0 : Int32) M10 _ _ _ (lv_sub hl [2, 3, 4, 1, 0] rfl) hW h
      · have h := ob_neg c8 h
        exact sX4_readTable_b24 X M2 _ _ _ (lv_sub hl [1] rfl) hW h
  · have h := ob_pos c4 h
    refine lv_iconst (v := (-1)) hx hb dX4_readTable_11 (by decide) ?_
    exact rt_i X hW h dX4_readTable_12
