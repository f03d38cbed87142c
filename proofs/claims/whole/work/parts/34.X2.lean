def rX2_append (a1 : Int32) (a2 : Int32) (M : Mm) : Option Mm :=
    (Option.bind (rX0_append 1 1200 1200 a1 M) fun M2 => Option.bind (rX0_append 1 1200 1200 a2 M2) fun M4 => some M4)
set_option maxRecDepth 100000 in
set_option maxHeartbeats 4000000 in
theorem cX2_append_k {l : Launch} {G : Gg} {a1 : Int32} {a2 : Int32} {M M' : Mm} (h : rX2_append a1 a2 M = some M') : CTv l yX2_append cX2_append 3 1 G [.ref (G.2.2.2 4), .int a1, .int a2] M M' := by
  unfold rX2_append at h
  refine ct_v (by decide) (Nat.le_of_ble_eq_true rfl) (fun p e s m below meth c ls X hl hW => ?_)
  have hx := X.1.1
  have hb := X.1.2.1
  refine lv_aload_n hx hb dX2_append_0 rfl (lv_at hl 0 rfl) ?_
  refine gf2_9 (cN := 4) X hW rfl dX2_append_1 ?_
  refine lv_iload_n hx hb dX2_append_4 rfl (lv_at hl 1 rfl) ?_
  obtain ⟨M2, e1, h⟩ := ob_bind h
  refine bg_callv X hW (cX0_append_k rfl rfl rfl e1) rfl rfl kw2_59 kd_X0_append rfl rfl ⟨Nat.le_of_ble_eq_true rfl, Nat.le_of_ble_eq_true rfl⟩ ⟨Nat.le_refl _, Nat.le_refl _⟩ hl.1 (Nat.le_of_ble_eq_true rfl) dX2_append_5 (fun H locs hW => ?_)
  refine lv_aload_n hx hb dX2_append_8 rfl (lv_at hl 0 rfl) ?_
  refine gf2_9 (cN := 4) X hW rfl dX2_append_9 ?_
  refine lv_iload_n hx hb dX2_append_12 rfl (lv_at hl 2 rfl) ?_
  obtain ⟨M4, e3, h⟩ := ob_bind h
  refine bg_callv X hW (cX0_append_k rfl rfl rfl e3) rfl rfl kw2_59 kd_X0_append rfl rfl ⟨Nat.le_of_ble_eq_true rfl, Nat.le_of_ble_eq_true rfl⟩ ⟨Nat.le_refl _, Nat.le_refl _⟩ hl.1 (Nat.le_of_ble_eq_true rfl) dX2_append_13 (fun H locs hW => ?_)
  exact rt_v X hW h dX2_append_16
def rX2_next (a1 : Int32) (M : Mm) : Option (Int32 × Mm) :=
    (lt_ (stl M 4 1 (((M.2 4 1) * (6364136223846793005 : Int64)) + (1442695040888963407 : Int64))) fun M1 => if (1 : Int32) ≤ a1 then (if (a1).toInt64 = 0 then none else some ((((((M1.2 4 1)).toUInt64 >>> (((31 : Int32)).toInt64.toUInt64 &&& Int64.toUInt64 63)).toInt64 - (((M1.2 4 1)).toUInt64 >>> (((31 : Int32)).toInt64.toUInt64 &&& Int64.toUInt64 63)).toInt64 / (a1).toInt64 * (a1).toInt64)).toInt32, M1)) else (some ((0 : Int32), M1)))
set_option maxRecDepth 100000 in
set_option maxHeartbeats 4000000 in
theorem cX2_next_k {l : Launch} {G : Gg} {a1 : Int32} {M M' : Mm} {r : Int32} (h : rX2_next a1 M = some (r, M')) : CTi l yX2_next cX2_next 2 (some .int) 0 G [.ref (G.2.2.2 4), .int a1] M r M' := by
  unfold rX2_next at h
  refine ct_i (by decide) (Nat.le_of_ble_eq_true rfl) (fun p e s m below meth c ls X hl hW => ?_)
  have hx := X.1.1
  have hb := X.1.2.1
  refine lv_aload_n hx hb dX2_next_0 rfl (lv_at hl 0 rfl) ?_
  refine lv_aload_n hx hb dX2_next_1 rfl (lv_at hl 0 rfl) ?_
  refine gf2_15 (cN := 4) X hW rfl dX2_next_2 ?_
  refine lv_ldc2 (v := 6364136223846793005) hx hb X.1.2.2.2.1 (X.1.2.2.2.2 _ mw289) dX2_next_5 ?_
  refine lv_lmul hx hb dX2_next_8 ?_
  refine lv_ldc2 (v := 1442695040888963407) hx hb X.1.2.2.2.1 (X.1.2.2.2.2 _ mw290) dX2_next_9 ?_
  refine lv_ladd hx hb dX2_next_12 ?_
  refine pf2_15 (cN := 4) X hW rfl dX2_next_13 (fun M1 eM1 H locs hW => ?_)
  have h := ob_lt eM1 h
  refine lv_iload_n hx hb dX2_next_16 rfl (lv_at hl 1 rfl) ?_
  refine lv_iconst (v := 1) hx hb dX2_next_17 (by decide) ?_
  refine lv_icmp_ge (tgt := 25) hx hb dX2_next_18 (by decide) (fun c2 => ?_) (fun c2 => ?_)
  · have h := ob_pos c2 h
    refine lv_aload_n hx hb dX2_next_25 rfl (lv_at hl 0 rfl) ?_
    refine gf2_15 (cN := 4) X hW rfl dX2_next_26 ?_
    refine lv_bipush (v := 31) hx hb dX2_next_29 (by decide) ?_
    refine lv_lushr hx hb dX2_next_31 rfl ?_
    refine lv_iload_n hx hb dX2_next_32 rfl (lv_at hl 1 rfl) ?_
    refine lv_i2l hx hb dX2_next_33 rfl ?_
    obtain ⟨g3, h⟩ := ob_gd h
    refine lv_lrem hx hb dX2_next_34 g3 ?_
    refine lv_l2i hx hb dX2_next_35 rfl ?_
    exact rt_i X hW h dX2_next_36
  · have h := ob_neg c2 h
    refine lv_iconst (v := 0) hx hb dX2_next_21 (by decide) ?_
    refine lv_goto (tgt := 36) hx hb dX2_next_22 (by decide) ?_
    exact rt_i X hW h dX2_next_36
def rX2_appendDrawn_b2_s (q2 : Int32 → Int32 → Mm → Option Mm) (x1 : Int32) (x2 : Int32) (M : Mm) : Option Mm :=
    (if x1 ≤ x2 then (some M) else (bd2 (rX2_next (256 : Int32) M) fun r4 M3 => Option.bind (rX0_append 1 1200 1200 r4 M3) fun M6 => lt_ (x2 + 1) fun y7 => q2 x1 y7 M6))
def rX2_appendDrawn_b2 : Nat → Int32 → Int32 → Mm → Option Mm
  | 0 => fun _ _ _ => none
  | n + 1 => rX2_appendDrawn_b2_s (rX2_appendDrawn_b2 n)
set_option maxRecDepth 100000 in
set_option maxHeartbeats 4000000 in
theorem sX2_appendDrawn_b2 {p : Program} {l : Launch} {e : Env} {s : State} {m : MethodId} {args : Array Value} {below : List Frame} {meth : Method} {c : Code} {G : Gg} {M' : Mm} (X : Cx p m c meth cX2_appendDrawn 3 s args RX2 none G) : ∀ (n : Nat), ∀ (x1 : Int32) (x2 : Int32) (M : Mm) (ls : Array Slot) (H : Heap) (locs : List Loc), lv_has ls 3 [(0, .ref (G.2.2.2 4)), (1, .int x1), (2, .int x2)] → Wo G s M H locs → rX2_appendDrawn_b2 n x1 x2 M = some M' → W p l e (rm 1) s m args below meth c H locs 0 0 (Qv below args s G M') (F0 m 2 ls []) := by
  intro n
  induction n with
  | zero =>
    intro x1 x2 M ls H locs hl hW h
    cases (show (none : Option Mm) = some M' from h)
  | succ n hq20 =>
    have hq2 : ∀ (x1 : Int32) (x2 : Int32) (M : Mm) (ls : Array Slot) (H : Heap) (locs : List Loc), lv_has ls 3 [(0, .ref (G.2.2.2 4)), (1, .int x1), (2, .int x2)] → Wo G s M H locs → (rX2_appendDrawn_b2 n) x1 x2 M = some M' → W p l e (rm 1) s m args below meth c H locs 0 0 (Qv below args s G M') (F0 m 2 ls []) := hq20
    intro x1 x2 M ls H locs hl hW h
    have h : rX2_appendDrawn_b2_s (rX2_appendDrawn_b2 n) x1 x2 M = some M' := h
    unfold rX2_appendDrawn_b2_s at h
    have hx := X.1.1
    have hb := X.1.2.1
    refine lv_iload_n hx hb dX2_appendDrawn_2 rfl (lv_at hl 2 rfl) ?_
    refine lv_iload_n hx hb dX2_appendDrawn_3 rfl (lv_at hl 1 rfl) ?_
    refine lv_icmp_ge (tgt := 27) hx hb dX2_appendDrawn_4 (by decide) (fun c1 => ?_) (fun c1 => ?_)
    · have h := ob_pos c1 h
      exact rt_v X hW h dX2_appendDrawn_27
    · have h := ob_neg c1 h
      refine lv_aload_n hx hb dX2_appendDrawn_7 rfl (lv_at hl 0 rfl) ?_
      refine gf2_9 (cN := 4) X hW rfl dX2_appendDrawn_8 ?_
      refine lv_aload_n hx hb dX2_appendDrawn_11 rfl (lv_at hl 0 rfl) ?_
      refine lv_sipush (v := 256) hx hb dX2_appendDrawn_12 (by decide) ?_
      obtain ⟨r4, M3, e2, h⟩ := ob_bd2 h
      refine bg_calli X hW (cX2_next_k e2) rfl rfl kw2_62 kd_X2_next rfl rfl ⟨Nat.le_of_ble_eq_true rfl, Nat.le_of_ble_eq_true rfl⟩ ⟨Nat.le_refl _, Nat.le_refl _⟩ hl.1 (Nat.le_of_ble_eq_true rfl) dX2_appendDrawn_15 (fun H locs hW => ?_)
      obtain ⟨M6, e5, h⟩ := ob_bind h
      refine bg_callv X hW (cX0_append_k rfl rfl rfl e5) rfl rfl kw2_59 kd_X0_append rfl rfl ⟨Nat.le_of_ble_eq_true rfl, Nat.le_of_ble_eq_true rfl⟩ ⟨Nat.le_refl _, Nat.le_refl _⟩ hl.1 (Nat.le_of_ble_eq_true rfl) dX2_appendDrawn_18 (fun H locs hW => ?_)
      obtain ⟨y7, ey7⟩ : ∃ y : Int32, y = (x2 + 1) := ⟨_, rfl⟩
      have h := ob_lt ey7 h
      refine lv_iinc (v := y7) (lv' := [(2, .int y7), (0, .ref (G.2.2.2 4)), (1, .int x1)]) hx hb dX2_appendDrawn_21 hl (k := 2) rfl (by rw [ey7]; rfl) (by decide) rfl (fun ls hl => ?_)
      refine lv_goto (tgt := 2) hx hb dX2_appendDrawn_24 (by decide) ?_
      exact hq2 x1 y7 M6 _ _ _ (lv_sub hl [1, 2, 0] rfl) hW h
def rX2_appendDrawn (a1 : Int32) (M : Mm) : Option Mm :=
    (rX2_appendDrawn_b2 FU a1 (0 : Int32) M)
set_option maxRecDepth 100000 in
set_option maxHeartbeats 4000000 in
theorem cX2_appendDrawn_k {l : Launch} {G : Gg} {a1 : Int32} {M M' : Mm} (h : rX2_appendDrawn a1 M = some M') : CTv l yX2_appendDrawn cX2_appendDrawn 3 1 G [.ref (G.2.2.2 4), .int a1] M M' := by
  unfold rX2_appendDrawn at h
  refine ct_v (by decide) (Nat.le_of_ble_eq_true rfl) (fun p e s m below meth c ls X hl hW => ?_)
  have hx := X.1.1
  have hb := X.1.2.1
  refine lv_iconst (v := 0) hx hb dX2_appendDrawn_0 (by decide) ?_
  refine lv_istore_n (lv' := [(2, .int (0 : Int32)), (0, .ref (G.2.2.2 4)), (1, .int a1)]) hx hb dX2_appendDrawn_1 rfl hl (by decide) rfl (fun ls hl => ?_)
  exact sX2_appendDrawn_b2 X FU a1 (0 : Int32) M _ _ _ (lv_sub hl [1, 2, 0] rfl) hW h
def rX2_appendEnd (a1 : Int32) (M : Mm) : Option Mm :=
    (Option.bind (rX0_append 1 1200 1200 (0 : Int32) M) fun M2 => bd2 (rX0_checkOf 1 1200 1200 a1 (M2.1 1 1) M2) fun r5 M4 => Option.bind (rX0_append 1 1200 1200 r5 M4) fun M7 => some M7)
set_option maxRecDepth 100000 in
set_option maxHeartbeats 4000000 in
theorem cX2_appendEnd_k {l : Launch} {G : Gg} {a1 : Int32} {M M' : Mm} (h : rX2_appendEnd a1 M = some M') : CTv l yX2_appendEnd cX2_appendEnd 2 2 G [.ref (G.2.2.2 4), .int a1] M M' := by
  unfold rX2_appendEnd at h
  refine ct_v (by decide) (Nat.le_of_ble_eq_true rfl) (fun p e s m below meth c ls X hl hW => ?_)
  have hx := X.1.1
  have hb := X.1.2.1
  refine lv_aload_n hx hb dX2_appendEnd_0 rfl (lv_at hl 0 rfl) ?_
  refine gf2_9 (cN := 4) X hW rfl dX2_appendEnd_1 ?_
  refine lv_iconst (v := 0) hx hb dX2_appendEnd_4 (by decide) ?_
  obtain ⟨M2, e1, h⟩ := ob_bind h
  refine bg_callv X hW (cX0_append_k rfl rfl rfl e1) rfl rfl kw2_59 kd_X0_append rfl rfl ⟨Nat.le_of_ble_eq_true rfl, Nat.le_of_ble_eq_true rfl⟩ ⟨Nat.le_refl _, Nat.le_refl _⟩ hl.1 (Nat.le_of_ble_eq_true rfl) dX2_appendEnd_5 (fun H locs hW => ?_)
  refine lv_aload_n hx hb dX2_appendEnd_8 rfl (lv_at hl 0 rfl) ?_
  refine gf2_9 (cN := 4) X hW rfl dX2_appendEnd_9 ?_
  refine lv_aload_n hx hb dX2_appendEnd_12 rfl (lv_at hl 0 rfl) ?_
  refine gf2_9 (cN := 4) X hW rfl dX2_appendEnd_13 ?_
  refine lv_iload_n hx hb dX2_appendEnd_16 rfl (lv_at hl 1 rfl) ?_
  refine lv_aload_n hx hb dX2_appendEnd_17 rfl (lv_at hl 0 rfl) ?_
  refine gf2_9 (cN := 4) X hW rfl dX2_appendEnd_18 ?_
  refine gf2_66 (cN := 1) X hW rfl dX2_appendEnd_21 ?_
  obtain ⟨r5, M4, e3, h⟩ := ob_bd2 h
  refine bg_calli X hW (cX0_checkOf_k rfl rfl rfl e3) rfl rfl kw2_70 kd_X0_checkOf rfl rfl ⟨Nat.le_of_ble_eq_true rfl, Nat.le_of_ble_eq_true rfl⟩ ⟨Nat.le_refl _, Nat.le_refl _⟩ hl.1 (Nat.le_of_ble_eq_true rfl) dX2_appendEnd_24 (fun H locs hW => ?_)
  obtain ⟨M7, e6, h⟩ := ob_bind h
  refine bg_callv X hW (cX0_append_k rfl rfl rfl e6) rfl rfl kw2_59 kd_X0_append rfl rfl ⟨Nat.le_of_ble_eq_true rfl, Nat.le_of_ble_eq_true rfl⟩ ⟨Nat.le_refl _, Nat.le_refl _⟩ hl.1 (Nat.le_of_ble_eq_true rfl) dX2_appendEnd_27 (fun H locs hW => ?_)
  exact rt_v X hW h dX2_appendEnd_30
def rX2_makeLies (a1 : Int32) (M : Mm) : Option Mm :=
    (Option.bind (rX2_append (80 : Int32) (75 : Int32) M) fun M2 => Option.bind (rX2_append (1 : Int32) (255 : Int32) M2) fun M4 => Option.bind (rX2_appendDrawn a1 M4) fun M6 => Option.bind (rX2_appendEnd (0 : Int32) M6) fun M8 => some M8)
set_option maxRecDepth 100000 in
set_option maxHeartbeats 4000000 in
theorem cX2_makeLies_k {l : Launch} {G : Gg} {a1 : Int32} {M M' : Mm} (h : rX2_makeLies a1 M = some M') : CTv l yX2_makeLies cX2_makeLies 2 3 G [.ref (G.2.2.2 4), .int a1] M M' := by
  unfold rX2_makeLies at h
  refine ct_v (by decide) (Nat.le_of_ble_eq_true rfl) (fun p e s m below meth c ls X hl hW => ?_)
  have hx := X.1.1
  have hb := X.1.2.1
  refine lv_aload_n hx hb dX2_makeLies_0 rfl (lv_at hl 0 rfl) ?_
  refine lv_bipush (v := 80) hx hb dX2_makeLies_1 (by decide) ?_
  refine lv_bipush (v := 75) hx hb dX2_makeLies_3 (by decide) ?_
  obtain ⟨M2, e1, h⟩ := ob_bind h
  refine bg_callv X hW (cX2_append_k e1) rfl rfl kw2_74 kd_X2_append rfl rfl ⟨Nat.le_of_ble_eq_true rfl, Nat.le_of_ble_eq_true rfl⟩ ⟨Nat.le_refl _, Nat.le_refl _⟩ hl.1 (Nat.le_of_ble_eq_true rfl) dX2_makeLies_5 (fun H locs hW => ?_)
  refine lv_aload_n hx hb dX2_makeLies_8 rfl (lv_at hl 0 rfl) ?_
  refine lv_iconst (v := 1) hx hb dX2_makeLies_9 (by decide) ?_
  refine lv_sipush (v := 255) hx hb dX2_makeLies_10 (by decide) ?_
  obtain ⟨M4, e3, h⟩ := ob_bind h
  refine bg_callv X hW (cX2_append_k e3) rfl rfl kw2_74 kd_X2_append rfl rfl ⟨Nat.le_of_ble_eq_true rfl, Nat.le_of_ble_eq_true rfl⟩ ⟨Nat.le_refl _, Nat.le_refl _⟩ hl.1 (Nat.le_of_ble_eq_true rfl) dX2_makeLies_13 (fun H locs hW => ?_)
  refine lv_aload_n hx hb dX2_makeLies_16 rfl (lv_at hl 0 rfl) ?_
  refine lv_iload_n hx hb dX2_makeLies_17 rfl (lv_at hl 1 rfl) ?_
  obtain ⟨M6, e5, h⟩ := ob_bind h
  refine bg_callv X hW (cX2_appendDrawn_k e5) rfl rfl kw2_77 kd_X2_appendDrawn rfl rfl ⟨Nat.le_of_ble_eq_true rfl, Nat.le_of_ble_eq_true rfl⟩ ⟨Nat.le_refl _, Nat.le_refl _⟩ hl.1 (Nat.le_of_ble_eq_true rfl) dX2_makeLies_18 (fun H locs hW => ?_)
  refine lv_aload_n hx hb dX2_makeLies_21 rfl (lv_at hl 0 rfl) ?_
  refine lv_iconst (v := 0) hx hb dX2_makeLies_22 (by decide) ?_
  obtain ⟨M8, e7, h⟩ := ob_bind h
  refine bg_callv X hW (cX2_appendEnd_k e7) rfl rfl kw2_80 kd_X2_appendEnd rfl rfl ⟨Nat.le_of_ble_eq_true rfl, Nat.le_of_ble_eq_true rfl⟩ ⟨Nat.le_refl _, Nat.le_refl _⟩ hl.1 (Nat.le_of_ble_eq_true rfl) dX2_makeLies_23 (fun H locs hW => ?_)
  exact rt_v X hW h dX2_makeLies_26
def rX2_append_ (a1 : Int32) (a2 : Int32) (a3 : Int32) (M : Mm) : Option Mm :=
    (Option.bind (rX0_append 1 1200 1200 a1 M) fun M2 => Option.bind (rX0_append 1 1200 1200 a2 M2) fun M4 => Option.bind (rX0_append 1 1200 1200 a3 M4) fun M6 => some M6)
set_option maxRecDepth 100000 in
set_option maxHeartbeats 4000000 in
theorem cX2_append__k {l : Launch} {G : Gg} {a1 : Int32} {a2 : Int32} {a3 : Int32} {M M' : Mm} (h : rX2_append_ a1 a2 a3 M = some M') : CTv l yX2_append_ cX2_append_ 4 1 G [.ref (G.2.2.2 4), .int a1, .int a2, .int a3] M M' := by
  unfold rX2_append_ at h
  refine ct_v (by decide) (Nat.le_of_ble_eq_true rfl) (fun p e s m below meth c ls X hl hW => ?_)
  have hx := X.1.1
  have hb := X.1.2.1
  refine lv_aload_n hx hb dX2_append__0 rfl (lv_at hl 0 rfl) ?_
  refine gf2_9 (cN := 4) X hW rfl dX2_append__1 ?_
  refine lv_iload_n hx hb dX2_append__4 rfl (lv_at hl 1 rfl) ?_
  obtain ⟨M2, e1, h⟩ := ob_bind h
  refine bg_callv X hW (cX0_append_k rfl rfl rfl e1) rfl rfl kw2_59 kd_X0_append rfl rfl ⟨Nat.le_of_ble_eq_true rfl, Nat.le_of_ble_eq_true rfl⟩ ⟨Nat.le_refl _, Nat.le_refl _⟩ hl.1 (Nat.le_of_ble_eq_true rfl) dX2_append__5 (fun H locs hW => ?_)
  refine lv_aload_n hx hb dX2_append__8 rfl (lv_at hl 0 rfl) ?_
  refine gf2_9 (cN := 4) X hW rfl dX2_append__9 ?_
  refine lv_iload_n hx hb dX2_append__12 rfl (lv_at hl 2 rfl) ?_
  obtain ⟨M4, e3, h⟩ := ob_bind h
  refine bg_callv X hW (cX0_append_k rfl rfl rfl e3) rfl rfl kw2_59 kd_X0_append rfl rfl ⟨Nat.le_of_ble_eq_true rfl, Nat.le_of_ble_eq_true rfl⟩ ⟨Nat.le_refl _, Nat.le_refl _⟩ hl.1 (Nat.le_of_ble_eq_true rfl) dX2_append__13 (fun H locs hW => ?_)
  refine lv_aload_n hx hb dX2_append__16 rfl (lv_at hl 0 rfl) ?_
  refine gf2_9 (cN := 4) X hW rfl dX2_append__17 ?_
  refine lv_iload_n hx hb dX2_append__20 rfl (lv_at hl 3 rfl) ?_
  obtain ⟨M6, e5, h⟩ := ob_bind h
  refine bg_callv X hW (cX0_append_k rfl rfl rfl e5) rfl rfl kw2_59 kd_X0_append rfl rfl ⟨Nat.le_of_ble_eq_true rfl, Nat.le_of_ble_eq_true rfl⟩ ⟨Nat.le_refl _, Nat.le_refl _⟩ hl.1 (Nat.le_of_ble_eq_true rfl) dX2_append__21 (fun H locs hW => ?_)
  exact rt_v X hW h dX2_append__24
def rX2_makeRuns_b10_s (q10 : Int32 → Int32 → Mm → Option Mm) (x1 : Int32) (x2 : Int32) (M : Mm) : Option Mm :=
    (if x1 ≤ x2 then (Option.bind (rX2_appendEnd (0 : Int32) M) fun M5 => some M5) else (bd2 (rX2_next (256 : Int32) M) fun r8 M7 => Option.bind (rX2_append_ (2 : Int32) (255 : Int32) r8 M7) fun M10 => lt_ (x2 + 1) fun y11 => q10 x1 y11 M10))
def rX2_makeRuns_b10 : Nat → Int32 → Int32 → Mm → Option Mm
  | 0 => fun _ _ _ => none
  | n + 1 => rX2_makeRuns_b10_s (rX2_makeRuns_b10 n)
set_option maxRecDepth 100000 in
set_option maxHeartbeats 4000000 in
theorem sX2_makeRuns_b10 {p : Program} {l : Launch} {e : Env} {s : State} {m : MethodId} {args : Array Value} {below : List Frame} {meth : Method} {c : Code} {G : Gg} {M' : Mm} (X : Cx p m c meth cX2_makeRuns 3 s args RX2 none G) : ∀ (n : Nat), ∀ (x1 : Int32) (x2 : Int32) (M : Mm) (ls : Array Slot) (H : Heap) (locs : List Loc), lv_has ls 3 [(0, .ref (G.2.2.2 4)), (1, .int x1), (2, .int x2)] → Wo G s M H locs → rX2_makeRuns_b10 n x1 x2 M = some M' → W p l e (rm 3) s m args below meth c H locs 0 0 (Qv below args s G M') (F0 m 10 ls []) := by
  intro n
  induction n with
  | zero =>
    intro x1 x2 M ls H locs hl hW h
    cases (show (none : Option Mm) = some M' from h)
  | succ n hq100 =>
    have hq10 : ∀ (x1 : Int32) (x2 : Int32) (M : Mm) (ls : Array Slot) (H : Heap) (locs : List Loc), lv_has ls 3 [(0, .ref (G.2.2.2 4)), (1, .int x1), (2, .int x2)] → Wo G s M H locs → (rX2_makeRuns_b10 n) x1 x2 M = some M' → W p l e (rm 3) s m args below meth c H locs 0 0 (Qv below args s G M') (F0 m 10 ls []) := hq100
    intro x1 x2 M ls H locs hl hW h
    have h : rX2_makeRuns_b10_s (rX2_makeRuns_b10 n) x1 x2 M = some M' := h
    unfold rX2_makeRuns_b10_s at h
    have hx := X.1.1
    have hb := X.1.2.1
    refine lv_iload_n hx hb dX2_makeRuns_10 rfl (lv_at hl 2 rfl) ?_
    refine lv_iload_n hx hb dX2_makeRuns_11 rfl (lv_at hl 1 rfl) ?_
    refine lv_icmp_ge (tgt := 36) hx hb dX2_makeRuns_12 (by decide) (fun c3 => ?_) (fun c3 => ?_)
    · have h := ob_pos c3 h
      refine lv_aload_n hx hb dX2_makeRuns_36 rfl (lv_at hl 0 rfl) ?_
      refine lv_iconst (v := 0) hx hb dX2_makeRuns_37 (by decide) ?_
      obtain ⟨M5, e4, h⟩ := ob_bind h
      refine bg_callv X hW (cX2_appendEnd_k e4) rfl rfl kw2_80 kd_X2_appendEnd rfl rfl ⟨Nat.le_of_ble_eq_true rfl, Nat.le_of_ble_eq_true rfl⟩ ⟨Nat.le_refl _, Nat.le_refl _⟩ hl.1 (Nat.le_of_ble_eq_true rfl) dX2_makeRuns_38 (fun H locs hW => ?_)
      exact rt_v X hW h dX2_makeRuns_41
    · have h := ob_neg c3 h
      refine lv_aload_n hx hb dX2_makeRuns_15 rfl (lv_at hl 0 rfl) ?_
      refine lv_iconst (v := 2) hx hb dX2_makeRuns_16 (by decide) ?_
      refine lv_sipush (v := 255) hx hb dX2_makeRuns_17 (by decide) ?_
      refine lv_aload_n hx hb dX2_makeRuns_20 rfl (lv_at hl 0 rfl) ?_
      refine lv_sipush (v := 256) hx hb dX2_makeRuns_21 (by decide) ?_
      obtain ⟨r8, M7, e6, h⟩ := ob_bd2 h
      refine bg_calli X hW (cX2_next_k e6) rfl rfl kw2_62 kd_X2_next rfl rfl ⟨Nat.le_of_ble_eq_true rfl, Nat.le_of_ble_eq_true rfl⟩ ⟨Nat.le_refl _, Nat.le_refl _⟩ hl.1 (Nat.le_of_ble_eq_true rfl) dX2_makeRuns_24 (fun H locs hW => ?_)
      obtain ⟨M10, e9, h⟩ := ob_bind h
      refine bg_callv X hW (cX2_append__k e9) rfl rfl kw2_83 kd_X2_append_ rfl rfl ⟨Nat.le_of_ble_eq_true rfl, Nat.le_of_ble_eq_true rfl⟩ ⟨Nat.le_refl _, Nat.le_refl _⟩ hl.1 (Nat.le_of_ble_eq_true rfl) dX2_makeRuns_27 (fun H locs hW => ?_)
      obtain ⟨y11, ey11⟩ : ∃ y : Int32, y = (x2 + 1) := ⟨_, rfl⟩
      have h := ob_lt ey11 h
      refine lv_iinc (v := y11) (lv' := [(2, .int y11), (0, .ref (G.2.2.2 4)), (1, .int x1)]) hx hb dX2_makeRuns_30 hl (k := 2) rfl (by rw [ey11]; rfl) (by decide) rfl (fun ls hl => ?_)
      refine lv_goto (tgt := 10) hx hb dX2_makeRuns_33 (by decide) ?_
      exact hq10 x1 y11 M10 _ _ _ (lv_sub hl [1, 2, 0] rfl) hW h
def rX2_makeRuns (a1 : Int32) (M : Mm) : Option Mm :=
    (Option.bind (rX2_append (80 : Int32) (75 : Int32) M) fun M2 => rX2_makeRuns_b10 FU a1 (0 : Int32) M2)
set_option maxRecDepth 100000 in
set_option maxHeartbeats 4000000 in
theorem cX2_makeRuns_k {l : Launch} {G : Gg} {a1 : Int32} {M M' : Mm} (h : rX2_makeRuns a1 M = some M') : CTv l yX2_makeRuns cX2_makeRuns 3 3 G [.ref (G.2.2.2 4), .int a1] M M' := by
  unfold rX2_makeRuns at h
  refine ct_v (by decide) (Nat.le_of_ble_eq_true rfl) (fun p e s m below meth c ls X hl hW => ?_)
  have hx := X.1.1
  have hb := X.1.2.1
  refine lv_aload_n hx hb dX2_makeRuns_0 rfl (lv_at hl 0 rfl) ?_
  refine lv_bipush (v := 80) hx hb dX2_makeRuns_1 (by decide) ?_
  refine lv_bipush (v := 75) hx hb dX2_makeRuns_3 (by decide) ?_
  obtain ⟨M2, e1, h⟩ := ob_bind h
  refine bg_callv X hW (cX2_append_k e1) rfl rfl kw2_74 kd_X2_append rfl rfl ⟨Nat.le_of_ble_eq_true rfl, Nat.le_of_ble_eq_true rfl⟩ ⟨Nat.le_refl _, Nat.le_refl _⟩ hl.1 (Nat.le_of_ble_eq_true rfl) dX2_makeRuns_5 (fun H locs hW => ?_)
  refine lv_iconst (v := 0) hx hb dX2_makeRuns_8 (by decide) ?_
  refine lv_istore_n (lv' := [(2, .int (0 : Int32)), (0, .ref (G.2.2.2 4)), (1, .int a1)]) hx hb dX2_makeRuns_9 rfl hl (by decide) rfl (fun ls hl => ?_)
  exact sX2_makeRuns_b10 X FU a1 (0 : Int32) M2 _ _ _ (lv_sub hl [1, 2, 0] rfl) hW h
def rX2_makeOverlaps_b23_s (q23 : Int32 → Int32 → Mm → Option Mm) (x1 : Int32) (x2 : Int32) (M : Mm) : Option Mm :=
    (if x1 ≤ x2 then (Option.bind (rX2_appendEnd (0 : Int32) M) fun M10 => some M10) else (Option.bind (rX2_append_ (3 : Int32) (1 : Int32) (255 : Int32) M) fun M12 => lt_ (x2 + 1) fun y13 => q23 x1 y13 M12))
def rX2_makeOverlaps_b23 : Nat → Int32 → Int32 → Mm → Option Mm
  | 0 => fun _ _ _ => none
  | n + 1 => rX2_makeOverlaps_b23_s (rX2_makeOverlaps_b23 n)
set_option maxRecDepth 100000 in
set_option maxHeartbeats 4000000 in
theorem sX2_makeOverlaps_b23 {p : Program} {l : Launch} {e : Env} {s : State} {m : MethodId} {args : Array Value} {below : List Frame} {meth : Method} {c : Code} {G : Gg} {M' : Mm} (X : Cx p m c meth cX2_makeOverlaps 3 s args RX2 none G) : ∀ (n : Nat), ∀ (x1 : Int32) (x2 : Int32) (M : Mm) (ls : Array Slot) (H : Heap) (locs : List Loc), lv_has ls 3 [(0, .ref (G.2.2.2 4)), (1, .int x1), (2, .int x2)] → Wo G s M H locs → rX2_makeOverlaps_b23 n x1 x2 M = some M' → W p l e (rm 3) s m args below meth c H locs 0 0 (Qv below args s G M') (F0 m 23 ls []) := by
  intro n
  induction n with
  | zero =>
    intro x1 x2 M ls H locs hl hW h
    cases (show (none : Option Mm) = some M' from h)
  | succ n hq230 =>
    have hq23 : ∀ (x1 : Int32) (x2 : Int32) (M : Mm) (ls : Array Slot) (H : Heap) (locs : List Loc), lv_has ls 3 [(0, .ref (G.2.2.2 4)), (1, .int x1), (2, .int x2)] → Wo G s M H locs → (rX2_makeOverlaps_b23 n) x1 x2 M = some M' → W p l e (rm 3) s m args below meth c H locs 0 0 (Qv below args s G M') (F0 m 23 ls []) := hq230
    intro x1 x2 M ls H locs hl hW h
    have h : rX2_makeOverlaps_b23_s (rX2_makeOverlaps_b23 n) x1 x2 M = some M' := h
    unfold rX2_makeOverlaps_b23_s at h
    have hx := X.1.1
    have hb := X.1.2.1
    refine lv_iload_n hx hb dX2_makeOverlaps_23 rfl (lv_at hl 2 rfl) ?_
    refine lv_iload_n hx hb dX2_makeOverlaps_24 rfl (lv_at hl 1 rfl) ?_
    refine lv_icmp_ge (tgt := 43) hx hb dX2_makeOverlaps_25 (by decide) (fun c8 => ?_) (fun c8 => ?_)
    · have h := ob_pos c8 h
      refine lv_aload_n hx hb dX2_makeOverlaps_43 rfl (lv_at hl 0 rfl) ?_
      refine lv_iconst (v := 0) hx hb dX2_makeOverlaps_44 (by decide) ?_
      obtain ⟨M10, e9, h⟩ := ob_bind h
      refine bg_callv X hW (cX2_appendEnd_k e9) rfl rfl kw2_80 kd_X2_appendEnd rfl rfl ⟨Nat.le_of_ble_eq_true rfl, Nat.le_of_ble_eq_true rfl⟩ ⟨Nat.le_refl _, Nat.le_refl _⟩ hl.1 (Nat.le_of_ble_eq_true rfl) dX2_makeOverlaps_45 (fun H locs hW => ?_)
      exact rt_v X hW h dX2_makeOverlaps_48
    · have h := ob_neg c8 h
      refine lv_aload_n hx hb dX2_makeOverlaps_28 rfl (lv_at hl 0 rfl) ?_
      refine lv_iconst (v := 3) hx hb dX2_makeOverlaps_29 (by decide) ?_
      refine lv_iconst (v := 1) hx hb dX2_makeOverlaps_30 (by decide) ?_
      refine lv_sipush (v := 255) hx hb dX2_makeOverlaps_31 (by decide) ?_
      obtain ⟨M12, e11, h⟩ := ob_bind h
      refine bg_callv X hW (cX2_append__k e11) rfl rfl kw2_83 kd_X2_append_ rfl rfl ⟨Nat.le_of_ble_eq_true rfl, Nat.le_of_ble_eq_true rfl⟩ ⟨Nat.le_refl _, Nat.le_refl _⟩ hl.1 (Nat.le_of_ble_eq_true rfl) dX2_makeOverlaps_34 (fun H locs hW => ?_)
      obtain ⟨y13, ey13⟩ : ∃ y : Int32, y = (x2 + 1) := ⟨_, rfl⟩
      have h := ob_lt ey13 h
      refine lv_iinc (v := y13) (lv' := [(2, .int y13), (0, .ref (G.2.2.2 4)), (1, .int x1)]) hx hb dX2_makeOverlaps_37 hl (k := 2) rfl (by rw [ey13]; rfl) (by decide) rfl (fun ls hl => ?_)
      refine lv_goto (tgt := 23) hx hb dX2_makeOverlaps_40 (by decide) ?_
      exact hq23 x1 y13 M12 _ _ _ (lv_sub hl [1, 2, 0] rfl) hW h
def rX2_makeOverlaps (a1 : Int32) (M : Mm) : Option Mm :=
    (Option.bind (rX2_append (80 : Int32) (75 : Int32) M) fun M2 => bd2 (rX2_next (256 : Int32) M2) fun r5 M4 => Option.bind (rX2_append_ (1 : Int32) (1 : Int32) r5 M4) fun M7 => rX2_makeOverlaps_b23 FU a1 (0 : Int32) M7)
set_option maxRecDepth 100000 in
set_option maxHeartbeats 4000000 in
theorem cX2_makeOverlaps_k {l : Launch} {G : Gg} {a1 : Int32} {M M' : Mm} (h : rX2_makeOverlaps a1 M = some M') : CTv l yX2_makeOverlaps cX2_makeOverlaps 3 3 G [.ref (G.2.2.2 4), .int a1] M M' := by
  unfold rX2_makeOverlaps at h
  refine ct_v (by decide) (Nat.le_of_ble_eq_true rfl) (fun p e s m below meth c ls X hl hW => ?_)
  have hx := X.1.1
  have hb := X.1.2.1
  refine lv_aload_n hx hb dX2_makeOverlaps_0 rfl (lv_at hl 0 rfl) ?_
  refine lv_bipush (v := 80) hx hb dX2_makeOverlaps_1 (by decide) ?_
  refine lv_bipush (v := 75) hx hb dX2_makeOverlaps_3 (by decide) ?_
  obtain ⟨M2, e1, h⟩ := ob_bind h
  refine bg_callv X hW (cX2_append_k e1) rfl rfl kw2_74 kd_X2_append rfl rfl ⟨Nat.le_of_ble_eq_true rfl, Nat.le_of_ble_eq_true rfl⟩ ⟨Nat.le_refl _, Nat.le_refl _⟩ hl.1 (Nat.le_of_ble_eq_true rfl) dX2_makeOverlaps_5 (fun H locs hW => ?_)
  refine lv_aload_n hx hb dX2_makeOverlaps_8 rfl (lv_at hl 0 rfl) ?_
  refine lv_iconst (v := 1) hx hb dX2_makeOverlaps_9 (by decide) ?_
  refine lv_iconst (v := 1) hx hb dX2_makeOverlaps_10 (by decide) ?_
  refine lv_aload_n hx hb dX2_makeOverlaps_11 rfl (lv_at hl 0 rfl) ?_
  refine lv_sipush (v := 256) hx hb dX2_makeOverlaps_12 (by decide) ?_
  obtain ⟨r5, M4, e3, h⟩ := ob_bd2 h
  refine bg_calli X hW (cX2_next_k e3) rfl rfl kw2_62 kd_X2_next rfl rfl ⟨Nat.le_of_ble_eq_true rfl, Nat.le_of_ble_eq_true rfl⟩ ⟨Nat.le_refl _, Nat.le_refl _⟩ hl.1 (Nat.le_of_ble_eq_true rfl) dX2_makeOverlaps_15 (fun H locs hW => ?_)
  obtain ⟨M7, e6, h⟩ := ob_bind h
  refine bg_callv X hW (cX2_append__k e6) rfl rfl kw2_83 kd_X2_append_ rfl rfl ⟨Nat.le_of_ble_eq_true rfl, Nat.le_of_ble_eq_true rfl⟩ ⟨Nat.le_refl _, Nat.le_refl _⟩ hl.1 (Nat.le_of_ble_eq_true rfl) dX2_makeOverlaps_18 (fun H locs hW => ?_)
  refine lv_iconst (v := 0) hx hb dX2_makeOverlaps_21 (by decide) ?_
  refine lv_istore_n (lv' := [(2, .int (0 : Int32)), (0, .ref (G.2.2.2 4)), (1, .int a1)]) hx hb dX2_makeOverlaps_22 rfl hl (by decide) rfl (fun ls hl => ?_)
  exact sX2_makeOverlaps_b23 X FU a1 (0 : Int32) M7 _ _ _ (lv_sub hl [1, 2, 0] rfl) hW h
def rX2_makeDeep_b67_s (q67 : Int32 → Mm → Option Mm) (x2 : Int32) (M : Mm) : Option Mm :=
    (if x2 < 0 then (some M) else (Option.bind (rX2_appendEnd ((5 : Int32) * x2) M) fun M12 => lt_ (x2 + (-1)) fun y13 => q67 y13 M12))
def rX2_makeDeep_b67 : Nat → Int32 → Mm → Option Mm
  | 0 => fun _ _ => none
  | n + 1 => rX2_makeDeep_b67_s (rX2_makeDeep_b67 n)
set_option maxRecDepth 100000 in
set_option maxHeartbeats 4000000 in
theorem sX2_makeDeep_b67 {p : Program} {l : Launch} {e : Env} {s : State} {m : MethodId} {args : Array Value} {below : List Frame} {meth : Method} {c : Code} {G : Gg} {M' : Mm} (X : Cx p m c meth cX2_makeDeep 4 s args RX2 none G) : ∀ (n : Nat), ∀ (x2 : Int32) (M : Mm) (ls : Array Slot) (H : Heap) (locs : List Loc), lv_has ls 4 [(0, .ref (G.2.2.2 4)), (2, .int x2)] → Wo G s M H locs → rX2_makeDeep_b67 n x2 M = some M' → W p l e (rm 3) s m args below meth c H locs 0 0 (Qv below args s G M') (F0 m 67 ls []) := by
  intro n
  induction n with
  | zero =>
    intro x2 M ls H locs hl hW h
    cases (show (none : Option Mm) = some M' from h)
  | succ n hq670 =>
    have hq67 : ∀ (x2 : Int32) (M : Mm) (ls : Array Slot) (H : Heap) (locs : List Loc), lv_has ls 4 [(0, .ref (G.2.2.2 4)), (2, .int x2)] → Wo G s M H locs → (rX2_makeDeep_b67 n) x2 M = some M' → W p l e (rm 3) s m args below meth c H locs 0 0 (Qv below args s G M') (F0 m 67 ls []) := hq670
    intro x2 M ls H locs hl hW h
    have h : rX2_makeDeep_b67_s (rX2_makeDeep_b67 n) x2 M = some M' := h
    unfold rX2_makeDeep_b67_s at h
    have hx := X.1.1
    have hb := X.1.2.1
    refine lv_iload_n hx hb dX2_makeDeep_67 rfl (lv_at hl 1 rfl) ?_
    refine lv_if_lt (tgt := 84) hx hb dX2_makeDeep_68 (by decide) (fun c10 => ?_) (fun c10 => ?_)
    · have h := ob_pos c10 h
      exact rt_v X hW h dX2_makeDeep_84
    · have h := ob_neg c10 h
      refine lv_aload_n hx hb dX2_makeDeep_71 rfl (lv_at hl 0 rfl) ?_
      refine lv_iconst (v := 5) hx hb dX2_makeDeep_72 (by decide) ?_
      refine lv_iload_n hx hb dX2_makeDeep_73 rfl (lv_at hl 1 rfl) ?_
      refine lv_imul hx hb dX2_makeDeep_74 ?_
      obtain ⟨M12, e11, h⟩ := ob_bind h
      refine bg_callv X hW (cX2_appendEnd_k e11) rfl rfl kw2_80 kd_X2_appendEnd rfl rfl ⟨Nat.le_of_ble_eq_true rfl, Nat.le_of_ble_eq_true rfl⟩ ⟨Nat.le_refl _, Nat.le_refl _⟩ hl.1 (Nat.le_of_ble_eq_true rfl) dX2_makeDeep_75 (fun H locs hW => ?_)
      obtain ⟨y13, ey13⟩ : ∃ y : Int32, y = (x2 + (-1)) := ⟨_, rfl⟩
      have h := ob_lt ey13 h
      refine lv_iinc (v := y13) (lv' := [(2, .int y13), (0, .ref (G.2.2.2 4))]) hx hb dX2_makeDeep_78 hl (k := 1) rfl (by rw [ey13]; rfl) (by decide) rfl (fun ls hl => ?_)
      refine lv_goto (tgt := 67) hx hb dX2_makeDeep_81 (by decide) ?_
      exact hq67 y13 M12 _ _ _ (lv_sub hl [1, 0] rfl) hW h
def rX2_makeDeep_b4_s (q4 : Int32 → Int32 → Mm → Option Mm) (x1 : Int32) (x2 : Int32) (M : Mm) : Option Mm :=
    (if x2 < 0 then (Option.bind (rX2_append (80 : Int32) (75 : Int32) M) fun M4 => bd2 (rX2_next (256 : Int32) M4) fun r7 M6 => Option.bind (rX2_append_ (1 : Int32) (1 : Int32) r7 M6) fun M9 => rX2_makeDeep_b67 FU x1 M9) else (lt_ ((7 : Int32) + ((7 : Int32) * x2)) fun y14 => Option.bind (rX2_append (80 : Int32) (75 : Int32) M) fun M16 => Option.bind (rX2_append_ (4 : Int32) (y14 >>> ((8 : Int32) &&& 31)) (y14 &&& (255 : Int32)) M16) fun M18 => lt_ (x2 + (-1)) fun y19 => q4 x1 y19 M18))
def rX2_makeDeep_b4 : Nat → Int32 → Int32 → Mm → Option Mm
  | 0 => fun _ _ _ => none
  | n + 1 => rX2_makeDeep_b4_s (rX2_makeDeep_b4 n)
set_option maxRecDepth 100000 in
set_option maxHeartbeats 4000000 in
theorem sX2_makeDeep_b4 {p : Program} {l : Launch} {e : Env} {s : State} {m : MethodId} {args : Array Value} {below : List Frame} {meth : Method} {c : Code} {G : Gg} {M' : Mm} (X : Cx p m c meth cX2_makeDeep 4 s args RX2 none G) : ∀ (n : Nat), ∀ (x1 : Int32) (x2 : Int32) (M : Mm) (ls : Array Slot) (H : Heap) (locs : List Loc), lv_has ls 4 [(0, .ref (G.2.2.2 4)), (1, .int x1), (2, .int x2)] → Wo G s M H locs → rX2_makeDeep_b4 n x1 x2 M = some M' → W p l e (rm 3) s m args below meth c H locs 0 0 (Qv below args s G M') (F0 m 4 ls []) := by
  intro n
  induction n with
  | zero =>
    intro x1 x2 M ls H locs hl hW h
    cases (show (none : Option Mm) = some M' from h)
  | succ n hq40 =>
    have hq4 : ∀ (x1 : Int32) (x2 : Int32) (M : Mm) (ls : Array Slot) (H : Heap) (locs : List Loc), lv_has ls 4 [(0, .ref (G.2.2.2 4)), (1, .int x1), (2, .int x2)] → Wo G s M H locs → (rX2_makeDeep_b4 n) x1 x2 M = some M' → W p l e (rm 3) s m args below meth c H locs 0 0 (Qv below args s G M') (F0 m 4 ls []) := hq40
    intro x1 x2 M ls H locs hl hW h
    have h : rX2_makeDeep_b4_s (rX2_makeDeep_b4 n) x1 x2 M = some M' := h
    unfold rX2_makeDeep_b4_s at h
    have hx := X.1.1
    have hb := X.1.2.1
    refine lv_iload_n hx hb dX2_makeDeep_4 rfl (lv_at hl 2 rfl) ?_
    refine lv_if_lt (tgt := 44) hx hb dX2_makeDeep_5 (by decide) (fun c2 => ?_) (fun c2 => ?_)
    · have h := ob_pos c2 h
      refine lv_aload_n hx hb dX2_makeDeep_44 rfl (lv_at hl 0 rfl) ?_
      refine lv_bipush (v := 80) hx hb dX2_makeDeep_45 (by decide) ?_
      refine lv_bipush (v := 75) hx hb dX2_makeDeep_47 (by decide) ?_
      obtain ⟨M4, e3, h⟩ := ob_bind h
      refine bg_callv X hW (cX2_append_k e3) rfl rfl kw2_74 kd_X2_append rfl rfl ⟨Nat.le_of_ble_eq_true rfl, Nat.le_of_ble_eq_true rfl⟩ ⟨Nat.le_refl _, Nat.le_refl _⟩ hl.1 (Nat.le_of_ble_eq_true rfl) dX2_makeDeep_49 (fun H locs hW => ?_)
      refine lv_aload_n hx hb dX2_makeDeep_52 rfl (lv_at hl 0 rfl) ?_
      refine lv_iconst (v := 1) hx hb dX2_makeDeep_53 (by decide) ?_
      refine lv_iconst (v := 1) hx hb dX2_makeDeep_54 (by decide) ?_
      refine lv_aload_n hx hb dX2_makeDeep_55 rfl (lv_at hl 0 rfl) ?_
      refine lv_sipush (v := 256) hx hb dX2_makeDeep_56 (by decide) ?_
      obtain ⟨r7, M6, e5, h⟩ := ob_bd2 h
      refine bg_calli X hW (cX2_next_k e5) rfl rfl kw2_62 kd_X2_next rfl rfl ⟨Nat.le_of_ble_eq_true rfl, Nat.le_of_ble_eq_true rfl⟩ ⟨Nat.le_refl _, Nat.le_refl _⟩ hl.1 (Nat.le_of_ble_eq_true rfl) dX2_makeDeep_59 (fun H locs hW => ?_)
      obtain ⟨M9, e8, h⟩ := ob_bind h
      refine bg_callv X hW (cX2_append__k e8) rfl rfl kw2_83 kd_X2_append_ rfl rfl ⟨Nat.le_of_ble_eq_true rfl, Nat.le_of_ble_eq_true rfl⟩ ⟨Nat.le_refl _, Nat.le_refl _⟩ hl.1 (Nat.le_of_ble_eq_true rfl) dX2_makeDeep_62 (fun H locs hW => ?_)
      refine lv_iload_n hx hb dX2_makeDeep_65 rfl (lv_at hl 1 rfl) ?_
      refine lv_istore_n (lv' := [(2, .int x1), (0, .ref (G.2.2.2 4)), (1, .int x1)]) hx hb dX2_makeDeep_66 rfl hl (by decide) rfl (fun ls hl => ?_)
      exact sX2_makeDeep_b67 X FU x1 M9 _ _ _ (lv_sub hl [1, 0] rfl) hW h
    · have h := ob_neg c2 h
      refine lv_bipush (v := 7) hx hb dX2_makeDeep_8 (by decide) ?_
      refine lv_bipush (v := 7) hx hb dX2_makeDeep_10 (by decide) ?_
      refine lv_iload_n hx hb dX2_makeDeep_12 rfl (lv_at hl 2 rfl) ?_
      refine lv_imul hx hb dX2_makeDeep_13 ?_
      refine lv_iadd hx hb dX2_makeDeep_14 ?_
      refine lv_topi (fun y14 ey14 => ?_)
      have h := ob_lt ey14 h
      refine lv_istore_n (lv' := [(3, .int y14), (0, .ref (G.2.2.2 4)), (1, .int x1), (2, .int x2)]) hx hb dX2_makeDeep_15 rfl hl (by decide) rfl (fun ls hl => ?_)
      refine lv_aload_n hx hb dX2_makeDeep_16 rfl (lv_at hl 1 rfl) ?_
      refine lv_bipush (v := 80) hx hb dX2_makeDeep_17 (by decide) ?_
      refine lv_bipush (v := 75) hx hb dX2_makeDeep_19 (by decide) ?_
      obtain ⟨M16, e15, h⟩ := ob_bind h
      refine bg_callv X hW (cX2_append_k e15) rfl rfl kw2_74 kd_X2_append rfl rfl ⟨Nat.le_of_ble_eq_true rfl, Nat.le_of_ble_eq_true rfl⟩ ⟨Nat.le_refl _, Nat.le_refl _⟩ hl.1 (Nat.le_of_ble_eq_true rfl) dX2_makeDeep_21 (fun H locs hW => ?_)
      refine lv_aload_n hx hb dX2_makeDeep_24 rfl (lv_at hl 1 rfl) ?_
      refine lv_iconst (v := 4) hx hb dX2_makeDeep_25 (by decide) ?_
      refine lv_iload_n hx hb dX2_makeDeep_26 rfl (lv_at hl 0 rfl) ?_
      refine lv_bipush (v := 8) hx hb dX2_makeDeep_27 (by decide) ?_
      refine lv_ishr hx hb dX2_makeDeep_29 ?_
      refine lv_iload_n hx hb dX2_makeDeep_30 rfl (lv_at hl 0 rfl) ?_
      refine lv_sipush (v := 255) hx hb dX2_makeDeep_31 (by decide) ?_
      refine lv_iand hx hb dX2_makeDeep_34 ?_
      obtain ⟨M18, e17, h⟩ := ob_bind h
      refine bg_callv X hW (cX2_append__k e17) rfl rfl kw2_83 kd_X2_append_ rfl rfl ⟨Nat.le_of_ble_eq_true rfl, Nat.le_of_ble_eq_true rfl⟩ ⟨Nat.le_refl _, Nat.le_refl _⟩ hl.1 (Nat.le_of_ble_eq_true rfl) dX2_makeDeep_35 (fun H locs hW => ?_)
      obtain ⟨y19, ey19⟩ : ∃ y : Int32, y = (x2 + (-1)) := ⟨_, rfl⟩
      have h := ob_lt ey19 h
      refine lv_iinc (v := y19) (lv' := [(2, .int y19), (3, .int y14), (0, .ref (G.2.2.2 4)), (1, .int x1)]) hx hb dX2_makeDeep_38 hl (k := 3) rfl (by rw [ey19]; rfl) (by decide) rfl (fun ls hl => ?_)
      refine lv_goto (tgt := 4) hx hb dX2_makeDeep_41 (by decide) ?_
      exact hq4 x1 y19 M18 _ _ _ (lv_sub hl [2, 3, 0] rfl) hW h
def rX2_makeDeep (a1 : Int32) (M : Mm) : Option Mm :=
    (lt_ (a1 - (1 : Int32)) fun y1 => rX2_makeDeep_b4 FU a1 y1 M)
set_option maxRecDepth 100000 in
set_option maxHeartbeats 4000000 in
theorem cX2_makeDeep_k {l : Launch} {G : Gg} {a1 : Int32} {M M' : Mm} (h : rX2_makeDeep a1 M = some M') : CTv l yX2_makeDeep cX2_makeDeep 4 3 G [.ref (G.2.2.2 4), .int a1] M M' := by
  unfold rX2_makeDeep at h
  refine ct_v (by decide) (Nat.le_of_ble_eq_true rfl) (fun p e s m below meth c ls X hl hW => ?_)
  have hx := X.1.1
  have hb := X.1.2.1
  refine lv_iload_n hx hb dX2_makeDeep_0 rfl (lv_at hl 1 rfl) ?_
  refine lv_iconst (v := 1) hx hb dX2_makeDeep_1 (by decide) ?_
  refine lv_isub hx hb dX2_makeDeep_2 ?_
  refine lv_topi (fun y1 ey1 => ?_)
  have h := ob_lt ey1 h
  refine lv_istore_n (lv' := [(2, .int y1), (0, .ref (G.2.2.2 4)), (1, .int a1)]) hx hb dX2_makeDeep_3 rfl hl (by decide) rfl (fun ls hl => ?_)
  exact sX2_makeDeep_b4 X FU a1 y1 M _ _ _ (lv_sub hl [1, 2, 0] rfl) hW h
def rX2_appendEmptyNotes_b2_s (q2 : Int32 → Int32 → Mm → Option Mm) (x1 : Int32) (x2 : Int32) (M : Mm) : Option Mm :=
    (if x1 ≤ x2 then (some M) else (Option.bind (rX2_append (5 : Int32) (0 : Int32) M) fun M3 => lt_ (x2 + 1) fun y4 => q2 x1 y4 M3))
def rX2_appendEmptyNotes_b2 : Nat → Int32 → Int32 → Mm → Option Mm
  | 0 => fun _ _ _ => none
  | n + 1 => rX2_appendEmptyNotes_b2_s (rX2_appendEmptyNotes_b2 n)
set_option maxRecDepth 100000 in
set_option maxHeartbeats 4000000 in
theorem sX2_appendEmptyNotes_b2 {p : Program} {l : Launch} {e : Env} {s : State} {m : MethodId} {args : Array Value} {below : List Frame} {meth : Method} {c : Code} {G : Gg} {M' : Mm} (X : Cx p m c meth cX2_appendEmptyNotes 3 s args RX2 none G) : ∀ (n : Nat), ∀ (x1 : Int32) (x2 : Int32) (M : Mm) (ls : Array Slot) (H : Heap) (locs : List Loc), lv_has ls 3 [(0, .ref (G.2.2.2 4)), (1, .int x1), (2, .int x2)] → Wo G s M H locs → rX2_appendEmptyNotes_b2 n x1 x2 M = some M' → W p l e (rm 2) s m args below meth c H locs 0 0 (Qv below args s G M') (F0 m 2 ls []) := by
  intro n
  induction n with
  | zero =>
    intro x1 x2 M ls H locs hl hW h
    cases (show (none : Option Mm) = some M' from h)
  | succ n hq20 =>
    have hq2 : ∀ (x1 : Int32) (x2 : Int32) (M : Mm) (ls : Array Slot) (H : Heap) (locs : List Loc), lv_has ls 3 [(0, .ref (G.2.2.2 4)), (1, .int x1), (2, .int x2)] → Wo G s M H locs → (rX2_appendEmptyNotes_b2 n) x1 x2 M = some M' → W p l e (rm 2) s m args below meth c H locs 0 0 (Qv below args s G M') (F0 m 2 ls []) := hq20
    intro x1 x2 M ls H locs hl hW h
    have h : rX2_appendEmptyNotes_b2_s (rX2_appendEmptyNotes_b2 n) x1 x2 M = some M' := h
    unfold rX2_appendEmptyNotes_b2_s at h
    have hx := X.1.1
    have hb := X.1.2.1
    refine lv_iload_n hx hb dX2_appendEmptyNotes_2 rfl (lv_at hl 2 rfl) ?_
    refine lv_iload_n hx hb dX2_appendEmptyNotes_3 rfl (lv_at hl 1 rfl) ?_
    refine lv_icmp_ge (tgt := 19) hx hb dX2_appendEmptyNotes_4 (by decide) (fun c1 => ?_) (fun c1 => ?_)
    · have h := ob_pos c1 h
      exact rt_v X hW h dX2_appendEmptyNotes_19
    · have h := ob_neg c1 h
      refine lv_aload_n hx hb dX2_appendEmptyNotes_7 rfl (lv_at hl 0 rfl) ?_
      refine lv_iconst (v := 5) hx hb dX2_appendEmptyNotes_8 (by decide) ?_
      refine lv_iconst (v := 0) hx hb dX2_appendEmptyNotes_9 (by decide) ?_
      obtain ⟨M3, e2, h⟩ := ob_bind h
      refine bg_callv X hW (cX2_append_k e2) rfl rfl kw2_74 kd_X2_append rfl rfl ⟨Nat.le_of_ble_eq_true rfl, Nat.le_of_ble_eq_true rfl⟩ ⟨Nat.le_refl _, Nat.le_refl _⟩ hl.1 (Nat.le_of_ble_eq_true rfl) dX2_appendEmptyNotes_10 (fun H locs hW => ?_)
      obtain ⟨y4, ey4⟩ : ∃ y : Int32, y = (x2 + 1) := ⟨_, rfl⟩
      have h := ob_lt ey4 h
      refine lv_iinc (v := y4) (lv' := [(2, .int y4), (0, .ref (G.2.2.2 4)), (1, .int x1)]) hx hb dX2_appendEmptyNotes_13 hl (k := 2) rfl (by rw [ey4]; rfl) (by decide) rfl (fun ls hl => ?_)
      refine lv_goto (tgt := 2) hx hb dX2_appendEmptyNotes_16 (by decide) ?_
      exact hq2 x1 y4 M3 _ _ _ (lv_sub hl [1, 2, 0] rfl) hW h
def rX2_appendEmptyNotes (a1 : Int32) (M : Mm) : Option Mm :=
    (rX2_appendEmptyNotes_b2 FU a1 (0 : Int32) M)
set_option maxRecDepth 100000 in
set_option maxHeartbeats 4000000 in
theorem cX2_appendEmptyNotes_k {l : Launch} {G : Gg} {a1 : Int32} {M M' : Mm} (h : rX2_appendEmptyNotes a1 M = some M') : CTv l yX2_appendEmptyNotes cX2_appendEmptyNotes 3 2 G [.ref (G.2.2.2 4), .int a1] M M' := by
  unfold rX2_appendEmptyNotes at h
  refine ct_v (by decide) (Nat.le_of_ble_eq_true rfl) (fun p e s m below meth c ls X hl hW => ?_)
  have hx := X.1.1
  have hb := X.1.2.1
  refine lv_iconst (v := 0) hx hb dX2_appendEmptyNotes_0 (by decide) ?_
  refine lv_istore_n (lv' := [(2, .int (0 : Int32)), (0, .ref (G.2.2.2 4)), (1, .int a1)]) hx hb dX2_appendEmptyNotes_1 rfl hl (by decide) rfl (fun ls hl => ?_)
  exact sX2_appendEmptyNotes_b2 X FU a1 (0 : Int32) M _ _ _ (lv_sub hl [1, 2, 0] rfl) hW h
def rX2_makeEmpty (a1 : Int32) (M : Mm) : Option Mm :=
    (Option.bind (rX2_append (80 : Int32) (75 : Int32) M) fun M2 => Option.bind (rX2_appendEmptyNotes a1 M2) fun M4 => Option.bind (rX2_appendEnd (0 : Int32) M4) fun M6 => some M6)
set_option maxRecDepth 100000 in
set_option maxHeartbeats 4000000 in
theorem cX2_makeEmpty_k {l : Launch} {G : Gg} {a1 : Int32} {M M' : Mm} (h : rX2_makeEmpty a1 M = some M') : CTv l yX2_makeEmpty cX2_makeEmpty 2 3 G [.ref (G.2.2.2 4), .int a1] M M' := by
  unfold rX2_makeEmpty at h
  refine ct_v (by decide) (Nat.le_of_ble_eq_true rfl) (fun p e s m below meth c ls X hl hW => ?_)
  have hx := X.1.1
  have hb := X.1.2.1
  refine lv_aload_n hx hb dX2_makeEmpty_0 rfl (lv_at hl 0 rfl) ?_
  refine lv_bipush (v := 80) hx hb dX2_makeEmpty_1 (by decide) ?_
  refine lv_bipush (v := 75) hx hb dX2_makeEmpty_3 (by decide) ?_
  obtain ⟨M2, e1, h⟩ := ob_bind h
  refine bg_callv X hW (cX2_append_k e1) rfl rfl kw2_74 kd_X2_append rfl rfl ⟨Nat.le_of_ble_eq_true rfl, Nat.le_of_ble_eq_true rfl⟩ ⟨Nat.le_refl _, Nat.le_refl _⟩ hl.1 (Nat.le_of_ble_eq_true rfl) dX2_makeEmpty_5 (fun H locs hW => ?_)
  refine lv_aload_n hx hb dX2_makeEmpty_8 rfl (lv_at hl 0 rfl) ?_
  refine lv_iload_n hx hb dX2_makeEmpty_9 rfl (lv_at hl 1 rfl) ?_
  obtain ⟨M4, e3, h⟩ := ob_bind h
  refine bg_callv X hW (cX2_appendEmptyNotes_k e3) rfl rfl kw2_86 kd_X2_appendEmptyNotes rfl rfl ⟨Nat.le_of_ble_eq_true rfl, Nat.le_of_ble_eq_true rfl⟩ ⟨Nat.le_refl _, Nat.le_refl _⟩ hl.1 (Nat.le_of_ble_eq_true rfl) dX2_makeEmpty_10 (fun H locs hW => ?_)
  refine lv_aload_n hx hb dX2_makeEmpty_13 rfl (lv_at hl 0 rfl) ?_
  refine lv_iconst (v := 0) hx hb dX2_makeEmpty_14 (by decide) ?_
  obtain ⟨M6, e5, h⟩ := ob_bind h
  refine bg_callv X hW (cX2_appendEnd_k e5) rfl rfl kw2_80 kd_X2_appendEnd rfl rfl ⟨Nat.le_of_ble_eq_true rfl, Nat.le_of_ble_eq_true rfl⟩ ⟨Nat.le_refl _, Nat.le_refl _⟩ hl.1 (Nat.le_of_ble_eq_true rfl) dX2_makeEmpty_15 (fun H locs hW => ?_)
  exact rt_v X hW h dX2_makeEmpty_18
def rX2_makeAgains_b23_s (q23 : Int32 → Int32 → Mm → Option Mm) (x1 : Int32) (x2 : Int32) (M : Mm) : Option Mm :=
    (if x1 ≤ x2 then (Option.bind (rX2_appendEnd (0 : Int32) M) fun M10 => some M10) else (Option.bind (rX2_append (6 : Int32) x2 M) fun M12 => lt_ (x2 + 1) fun y13 => q23 x1 y13 M12))
def rX2_makeAgains_b23 : Nat → Int32 → Int32 → Mm → Option Mm
  | 0 => fun _ _ _ => none
  | n + 1 => rX2_makeAgains_b23_s (rX2_makeAgains_b23 n)
set_option maxRecDepth 100000 in
set_option maxHeartbeats 4000000 in
theorem sX2_makeAgains_b23 {p : Program} {l : Launch} {e : Env} {s : State} {m : MethodId} {args : Array Value} {below : List Frame} {meth : Method} {c : Code} {G : Gg} {M' : Mm} (X : Cx p m c meth cX2_makeAgains 3 s args RX2 none G) : ∀ (n : Nat), ∀ (x1 : Int32) (x2 : Int32) (M : Mm) (ls : Array Slot) (H : Heap) (locs : List Loc), lv_has ls 3 [(0, .ref (G.2.2.2 4)), (1, .int x1), (2, .int x2)] → Wo G s M H locs → rX2_makeAgains_b23 n x1 x2 M = some M' → W p l e (rm 3) s m args below meth c H locs 0 0 (Qv below args s G M') (F0 m 23 ls []) := by
  intro n
  induction n with
  | zero =>
    intro x1 x2 M ls H locs hl hW h
    cases (show (none : Option Mm) = some M' from h)
  | succ n hq230 =>
    have hq23 : ∀ (x1 : Int32) (x2 : Int32) (M : Mm) (ls : Array Slot) (H : Heap) (locs : List Loc), lv_has ls 3 [(0, .ref (G.2.2.2 4)), (1, .int x1), (2, .int x2)] → Wo G s M H locs → (rX2_makeAgains_b23 n) x1 x2 M = some M' → W p l e (rm 3) s m args below meth c H locs 0 0 (Qv below args s G M') (F0 m 23 ls []) := hq230
    intro x1 x2 M ls H locs hl hW h
    have h : rX2_makeAgains_b23_s (rX2_makeAgains_b23 n) x1 x2 M = some M' := h
    unfold rX2_makeAgains_b23_s at h
    have hx := X.1.1
    have hb := X.1.2.1
    refine lv_iload_n hx hb dX2_makeAgains_23 rfl (lv_at hl 2 rfl) ?_
    refine lv_iload_n hx hb dX2_makeAgains_24 rfl (lv_at hl 1 rfl) ?_
    refine lv_icmp_ge (tgt := 41) hx hb dX2_makeAgains_25 (by decide) (fun c8 => ?_) (fun c8 => ?_)
    · have h := ob_pos c8 h
      refine lv_aload_n hx hb dX2_makeAgains_41 rfl (lv_at hl 0 rfl) ?_
      refine lv_iconst (v := 0) hx hb dX2_makeAgains_42 (by decide) ?_
      obtain ⟨M10, e9, h⟩ := ob_bind h
      refine bg_callv X hW (cX2_appendEnd_k e9) rfl rfl kw2_80 kd_X2_appendEnd rfl rfl ⟨Nat.le_of_ble_eq_true rfl, Nat.le_of_ble_eq_true rfl⟩ ⟨Nat.le_refl _, Nat.le_refl _⟩ hl.1 (Nat.le_of_ble_eq_true rfl) dX2_makeAgains_43 (fun H locs hW => ?_)
      exact rt_v X hW h dX2_makeAgains_46
    · have h := ob_neg c8 h
      refine lv_aload_n hx hb dX2_makeAgains_28 rfl (lv_at hl 0 rfl) ?_
      refine lv_bipush (v := 6) hx hb dX2_makeAgains_29 (by decide) ?_
      refine lv_iload_n hx hb dX2_makeAgains_31 rfl (lv_at hl 2 rfl) ?_
      obtain ⟨M12, e11, h⟩ := ob_bind h
      refine bg_callv X hW (cX2_append_k e11) rfl rfl kw2_74 kd_X2_append rfl rfl ⟨Nat.le_of_ble_eq_true rfl, Nat.le_of_ble_eq_true rfl⟩ ⟨Nat.le_refl _, Nat.le_refl _⟩ hl.1 (Nat.le_of_ble_eq_true rfl) dX2_makeAgains_32 (fun H locs hW => ?_)
      obtain ⟨y13, ey13⟩ : ∃ y : Int32, y = (x2 + 1) := ⟨_, rfl⟩
      have h := ob_lt ey13 h
      refine lv_iinc (v := y13) (lv' := [(2, .int y13), (0, .ref (G.2.2.2 4)), (1, .int x1)]) hx hb dX2_makeAgains_35 hl (k := 2) rfl (by rw [ey13]; rfl) (by decide) rfl (fun ls hl => ?_)
      refine lv_goto (tgt := 23) hx hb dX2_makeAgains_38 (by decide) ?_
      exact hq23 x1 y13 M12 _ _ _ (lv_sub hl [1, 2, 0] rfl) hW h
def rX2_makeAgains (a1 : Int32) (M : Mm) : Option Mm :=
    (Option.bind (rX2_append (80 : Int32) (75 : Int32) M) fun M2 => bd2 (rX2_next (256 : Int32) M2) fun r5 M4 => Option.bind (rX2_append_ (2 : Int32) (1 : Int32) r5 M4) fun M7 => rX2_makeAgains_b23 FU a1 (0 : Int32) M7)
set_option maxRecDepth 100000 in
set_option maxHeartbeats 4000000 in
theorem cX2_makeAgains_k {l : Launch} {G : Gg} {a1 : Int32} {M M' : Mm} (h : rX2_makeAgains a1 M = some M') : CTv l yX2_makeAgains cX2_makeAgains 3 3 G [.ref (G.2.2.2 4), .int a1] M M' := by
  unfold rX2_makeAgains at h
  refine ct_v (by decide) (Nat.le_of_ble_eq_true rfl) (fun p e s m below meth c ls X hl hW => ?_)
  have hx := X.1.1
  have hb := X.1.2.1
  refine lv_aload_n hx hb dX2_makeAgains_0 rfl (lv_at hl 0 rfl) ?_
  refine lv_bipush (v := 80) hx hb dX2_makeAgains_1 (by decide) ?_
  refine lv_bipush (v := 75) hx hb dX2_makeAgains_3 (by decide) ?_
  obtain ⟨M2, e1, h⟩ := ob_bind h
  refine bg_callv X hW (cX2_append_k e1) rfl rfl kw2_74 kd_X2_append rfl rfl ⟨Nat.le_of_ble_eq_true rfl, Nat.le_of_ble_eq_true rfl⟩ ⟨Nat.le_refl _, Nat.le_refl _⟩ hl.1 (Nat.le_of_ble_eq_true rfl) dX2_makeAgains_5 (fun H locs hW => ?_)
  refine lv_aload_n hx hb dX2_makeAgains_8 rfl (lv_at hl 0 rfl) ?_
  refine lv_iconst (v := 2) hx hb dX2_makeAgains_9 (by decide) ?_
  refine lv_iconst (v := 1) hx hb dX2_makeAgains_10 (by decide) ?_
  refine lv_aload_n hx hb dX2_makeAgains_11 rfl (lv_at hl 0 rfl) ?_
  refine lv_sipush (v := 256) hx hb dX2_makeAgains_12 (by decide) ?_
  obtain ⟨r5, M4, e3, h⟩ := ob_bd2 h
  refine bg_calli X hW (cX2_next_k e3) rfl rfl kw2_62 kd_X2_next rfl rfl ⟨Nat.le_of_ble_eq_true rfl, Nat.le_of_ble_eq_true rfl⟩ ⟨Nat.le_refl _, Nat.le_refl _⟩ hl.1 (Nat.le_of_ble_eq_true rfl) dX2_makeAgains_15 (fun H locs hW => ?_)
  obtain ⟨M7, e6, h⟩ := ob_bind h
  refine bg_callv X hW (cX2_append__k e6) rfl rfl kw2_83 kd_X2_append_ rfl rfl ⟨Nat.le_of_ble_eq_true rfl, Nat.le_of_ble_eq_true rfl⟩ ⟨Nat.le_refl _, Nat.le_refl _⟩ hl.1 (Nat.le_of_ble_eq_true rfl) dX2_makeAgains_18 (fun H locs hW => ?_)
  refine lv_iconst (v := 0) hx hb dX2_makeAgains_21 (by decide) ?_
  refine lv_istore_n (lv' := [(2, .int (0 : Int32)), (0, .ref (G.2.2.2 4)), (1, .int a1)]) hx hb dX2_makeAgains_22 rfl hl (by decide) rfl (fun ls hl => ?_)
  exact sX2_makeAgains_b23 X FU a1 (0 : Int32) M7 _ _ _ (lv_sub hl [1, 2, 0] rfl) hW h
def rX2_makeTables_b40_s (q40 : Int32 → Int32 → Mm → Option Mm) (x1 : Int32) (x2 : Int32) (M : Mm) : Option Mm :=
    (if (8 : Int32) ≤ x2 then (Option.bind (rX0_append 1 1200 1200 (0 : Int32) M) fun M8 => Option.bind (rX2_appendEmptyNotes x1 M8) fun M10 => Option.bind (rX2_appendEnd (0 : Int32) M10) fun M12 => some M12) else (bd2 (rX2_next (8 : Int32) M) fun r15 M14 => Option.bind (rX0_append 1 1200 1200 r15 M14) fun M17 => lt_ (x2 + 1) fun y18 => q40 x1 y18 M17))
def rX2_makeTables_b40 : Nat → Int32 → Int32 → Mm → Option Mm
  | 0 => fun _ _ _ => none
  | n + 1 => rX2_makeTables_b40_s (rX2_makeTables_b40 n)
set_option maxRecDepth 100000 in
set_option maxHeartbeats 4000000 in
theorem sX2_makeTables_b40 {p : Program} {l : Launch} {e : Env} {s : State} {m : MethodId} {args : Array Value} {below : List Frame} {meth : Method} {c : Code} {G : Gg} {M' : Mm} (X : Cx p m c meth cX2_makeTables 3 s args RX2 none G) : ∀ (n : Nat), ∀ (x1 : Int32) (x2 : Int32) (M : Mm) (ls : Array Slot) (H : Heap) (locs : List Loc), lv_has ls 3 [(0, .ref (G.2.2.2 4)), (1, .int x1), (2, .int x2)] → Wo G s M H locs → rX2_makeTables_b40 n x1 x2 M = some M' → W p l e (rm 3) s m args below meth c H locs 0 0 (Qv below args s G M') (F0 m 40 ls []) := by
  intro n
  induction n with
  | zero =>
    intro x1 x2 M ls H locs hl hW h
    cases (show (none : Option Mm) = some M' from h)
  | succ n hq400 =>
    have hq40 : ∀ (x1 : Int32) (x2 : Int32) (M : Mm) (ls : Array Slot) (H : Heap) (locs : List Loc), lv_has ls 3 [(0, .ref (G.2.2.2 4)), (1, .int x1), (2, .int x2)] → Wo G s M H locs → (rX2_makeTables_b40 n) x1 x2 M = some M' → W p l e (rm 3) s m args below meth c H locs 0 0 (Qv below args s G M') (F0 m 40 ls []) := hq400
    intro x1 x2 M ls H locs hl hW h
    have h : rX2_makeTables_b40_s (rX2_makeTables_b40 n) x1 x2 M = some M' := h
    unfold rX2_makeTables_b40_s at h
    have hx := X.1.1
    have hb := X.1.2.1
    refine lv_iload_n hx hb dX2_makeTables_40 rfl (lv_at hl 2 rfl) ?_
    refine lv_bipush (v := 8) hx hb dX2_makeTables_41 (by decide) ?_
    refine lv_icmp_ge (tgt := 65) hx hb dX2_makeTables_43 (by decide) (fun c6 => ?_) (fun c6 => ?_)
    · have h := ob_pos c6 h
      refine lv_aload_n hx hb dX2_makeTables_65 rfl (lv_at hl 0 rfl) ?_
      refine gf2_9 (cN := 4) X hW rfl dX2_makeTables_66 ?_
      refine lv_iconst (v := 0) hx hb dX2_makeTables_69 (by decide) ?_
      obtain ⟨M8, e7, h⟩ := ob_bind h
      refine bg_callv X hW (cX0_append_k rfl rfl rfl e7) rfl rfl kw2_59 kd_X0_append rfl rfl ⟨Nat.le_of_ble_eq_true rfl, Nat.le_of_ble_eq_true rfl⟩ ⟨Nat.le_refl _, Nat.le_refl _⟩ hl.1 (Nat.le_of_ble_eq_true rfl) dX2_makeTables_70 (fun H locs hW => ?_)
      refine lv_aload_n hx hb dX2_makeTables_73 rfl (lv_at hl 0 rfl) ?_
      refine lv_iload_n hx hb dX2_makeTables_74 rfl (lv_at hl 1 rfl) ?_
      obtain ⟨M10, e9, h⟩ := ob_bind h
      refine bg_callv X hW (cX2_appendEmptyNotes_k e9) rfl rfl kw2_86 kd_X2_appendEmptyNotes rfl rfl ⟨Nat.le_of_ble_eq_true rfl, Nat.le_of_ble_eq_true rfl⟩ ⟨Nat.le_refl _, Nat.le_refl _⟩ hl.1 (Nat.le_of_ble_eq_true rfl) dX2_makeTables_75 (fun H locs hW => ?_)
      refine lv_aload_n hx hb dX2_makeTables_78 rfl (lv_at hl 0 rfl) ?_
      refine lv_iconst (v := 0) hx hb dX2_makeTables_79 (by decide) ?_
      obtain ⟨M12, e11, h⟩ := ob_bind h
      refine bg_callv X hW (cX2_appendEnd_k e11) rfl rfl kw2_80 kd_X2_appendEnd rfl rfl ⟨Nat.le_of_ble_eq_true rfl, Nat.le_of_ble_eq_true rfl⟩ ⟨Nat.le_refl _, Nat.le_refl _⟩ hl.1 (Nat.le_of_ble_eq_true rfl) dX2_makeTables_80 (fun H locs hW => ?_)
      exact rt_v X hW h dX2_makeTables_83
    · have h := ob_neg c6 h
      refine lv_aload_n hx hb dX2_makeTables_46 rfl (lv_at hl 0 rfl) ?_
      refine gf2_9 (cN := 4) X hW rfl dX2_makeTables_47 ?_
      refine lv_aload_n hx hb dX2_makeTables_50 rfl (lv_at hl 0 rfl) ?_
      refine lv_bipush (v := 8) hx hb dX2_makeTables_51 (by decide) ?_
      obtain ⟨r15, M14, e13, h⟩ := ob_bd2 h
      refine bg_calli X hW (cX2_next_k e13) rfl rfl kw2_62 kd_X2_next rfl rfl ⟨Nat.le_of_ble_eq_true rfl, Nat.le_of_ble_eq_true rfl⟩ ⟨Nat.le_refl _, Nat.le_refl _⟩ hl.1 (Nat.le_of_ble_eq_true rfl) dX2_makeTables_53 (fun H locs hW => ?_)
      obtain ⟨M17, e16, h⟩ := ob_bind h
      refine bg_callv X hW (cX0_append_k rfl rfl rfl e16) rfl rfl kw2_59 kd_X0_append rfl rfl ⟨Nat.le_of_ble_eq_true rfl, Nat.le_of_ble_eq_true rfl⟩ ⟨Nat.le_refl _, Nat.le_refl _⟩ hl.1 (Nat.le_of_ble_eq_true rfl) dX2_makeTables_56 (fun H locs hW => ?_)
      obtain ⟨y18, ey18⟩ : ∃ y : Int32, y = (x2 + 1) := ⟨_, rfl⟩
      have h := ob_lt ey18 h
      refine lv_iinc (v := y18) (lv' := [(2, .int y18), (0, .ref (G.2.2.2 4)), (1, .int x1)]) hx hb dX2_makeTables_59 hl (k := 2) rfl (by rw [ey18]; rfl) (by decide) rfl (fun ls hl => ?_)
      refine lv_goto (tgt := 40) hx hb dX2_makeTables_62 (by decide) ?_
      exact hq40 x1 y18 M17 _ _ _ (lv_sub hl [1, 2, 0] rfl) hW h
def rX2_makeTables_b18_s (q18 : Int32 → Int32 → Mm → Option Mm) (x1 : Int32) (x2 : Int32) (M : Mm) : Option Mm :=
    (if (8 : Int32) ≤ x2 then (rX2_makeTables_b40 FU x1 (0 : Int32) M) else (Option.bind (rX0_append 1 1200 1200 x2 M) fun M20 => lt_ (x2 + 1) fun y21 => q18 x1 y21 M20))
def rX2_makeTables_b18 : Nat → Int32 → Int32 → Mm → Option Mm
  | 0 => fun _ _ _ => none
  | n + 1 => rX2_makeTables_b18_s (rX2_makeTables_b18 n)
set_option maxRecDepth 100000 in
set_option maxHeartbeats 4000000 in
theorem sX2_makeTables_b18 {p : Program} {l : Launch} {e : Env} {s : State} {m : MethodId} {args : Array Value} {below : List Frame} {meth : Method} {c : Code} {G : Gg} {M' : Mm} (X : Cx p m c meth cX2_makeTables 3 s args RX2 none G) : ∀ (n : Nat), ∀ (x1 : Int32) (x2 : Int32) (M : Mm) (ls : Array Slot) (H : Heap) (locs : List Loc), lv_has ls 3 [(0, .ref (G.2.2.2 4)), (1, .int x1), (2, .int x2)] → Wo G s M H locs → rX2_makeTables_b18 n x1 x2 M = some M' → W p l e (rm 3) s m args below meth c H locs 0 0 (Qv below args s G M') (F0 m 18 ls []) := by
  intro n
  induction n with
  | zero =>
    intro x1 x2 M ls H locs hl hW h
    cases (show (none : Option Mm) = some M' from h)
  | succ n hq180 =>
    have hq18 : ∀ (x1 : Int32) (x2 : Int32) (M : Mm) (ls : Array Slot) (H : Heap) (locs : List Loc), lv_has ls 3 [(0, .ref (G.2.2.2 4)), (1, .int x1), (2, .int x2)] → Wo G s M H locs → (rX2_makeTables_b18 n) x1 x2 M = some M' → W p l e (rm 3) s m args below meth c H locs 0 0 (Qv below args s G M') (F0 m 18 ls []) := hq180
    intro x1 x2 M ls H locs hl hW h
    have h : rX2_makeTables_b18_s (rX2_makeTables_b18 n) x1 x2 M = some M' := h
    unfold rX2_makeTables_b18_s at h
    have hx := X.1.1
    have hb := X.1.2.1
    refine lv_iload_n hx hb dX2_makeTables_18 rfl (lv_at hl 2 rfl) ?_
    refine lv_bipush (v := 8) hx hb dX2_makeTables_19 (by decide) ?_
    refine lv_icmp_ge (tgt := 38) hx hb dX2_makeTables_21 (by decide) (fun c5 => ?_) (fun c5 => ?_)
    · have h := ob_pos c5 h
      refine lv_iconst (v := 0) hx hb dX2_makeTables_38 (by decide) ?_
      refine lv_istore_n (lv' := [(2, .int (0 : Int32)), (0, .ref (G.2.2.2 4)), (1, .int x1)]) hx hb dX2_makeTables_39 rfl hl (by decide) rfl (fun ls hl => ?_)
      exact sX2_makeTables_b40 X FU x1 (0 : Int32) M _ _ _ (lv_sub hl [1, 2, 0] rfl) hW h
    · have h := ob_neg c5 h
      refine lv_aload_n hx hb dX2_makeTables_24 rfl (lv_at hl 0 rfl) ?_
      refine gf2_9 (cN := 4) X hW rfl dX2_makeTables_25 ?_
      refine lv_iload_n hx hb dX2_makeTables_28 rfl (lv_at hl 2 rfl) ?_
      obtain ⟨M20, e19, h⟩ := ob_bind h
      refine bg_callv X hW (cX0_append_k rfl rfl rfl e19) rfl rfl kw2_59 kd_X0_append rfl rfl ⟨Nat.le_of_ble_eq_true rfl, Nat.le_of_ble_eq_true rfl⟩ ⟨Nat.le_refl _, Nat.le_refl _⟩ hl.1 (Nat.le_of_ble_eq_true rfl) dX2_makeTables_29 (fun H locs hW => ?_)
      obtain ⟨y21, ey21⟩ : ∃ y : Int32, y = (x2 + 1) := ⟨_, rfl⟩
      have h := ob_lt ey21 h
      refine lv_iinc (v := y21) (lv' := [(2, .int y21), (0, .ref (G.2.2.2 4)), (1, .int x1)]) hx hb dX2_makeTables_32 hl (k := 2) rfl (by rw [ey21]; rfl) (by decide) rfl (fun ls hl => ?_)
      refine lv_goto (tgt := 18) hx hb dX2_makeTables_35 (by decide) ?_
      exact hq18 x1 y21 M20 _ _ _ (lv_sub hl [1, 2, 0] rfl) hW h
def rX2_makeTables (a1 : Int32) (M : Mm) : Option Mm :=
    (Option.bind (rX2_append (80 : Int32) (75 : Int32) M) fun M2 => Option.bind (rX2_append (7 : Int32) (8 : Int32) M2) fun M4 => rX2_makeTables_b18 FU a1 (0 : Int32) M4)
set_option maxRecDepth 100000 in
set_option maxHeartbeats 4000000 in
theorem cX2_makeTables_k {l : Launch} {G : Gg} {a1 : Int32} {M M' : Mm} (h : rX2_makeTables a1 M = some M') : CTv l yX2_makeTables cX2_makeTables 3 3 G [.ref (G.2.2.2 4), .int a1] M M' := by
  unfold rX2_makeTables at h
  refine ct_v (by decide) (Nat.le_of_ble_eq_true rfl) (fun p e s m below meth c ls X hl hW => ?_)
  have hx := X.1.1
  have hb := X.1.2.1
  refine lv_aload_n hx hb dX2_makeTables_0 rfl (lv_at hl 0 rfl) ?_
  refine lv_bipush (v := 80) hx hb dX2_makeTables_1 (by decide) ?_
  refine lv_bipush (v := 75) hx hb dX2_makeTables_3 (by decide) ?_
  obtain ⟨M2, e1, h⟩ := ob_bind h
  refine bg_callv X hW (cX2_append_k e1) rfl rfl kw2_74 kd_X2_append rfl rfl ⟨Nat.le_of_ble_eq_true rfl, Nat.le_of_ble_eq_true rfl⟩ ⟨Nat.le_refl _, Nat.le_refl _⟩ hl.1 (Nat.le_of_ble_eq_true rfl) dX2_makeTables_5 (fun H locs hW => ?_)
  refine lv_aload_n hx hb dX2_makeTables_8 rfl (lv_at hl 0 rfl) ?_
  refine lv_bipush (v := 7) hx hb dX2_makeTables_9 (by decide) ?_
  refine lv_bipush (v := 8) hx hb dX2_makeTables_11 (by decide) ?_
  obtain ⟨M4, e3, h⟩ := ob_bind h
  refine bg_callv X hW (cX2_append_k e3) rfl rfl kw2_74 kd_X2_append rfl rfl ⟨Nat.le_of_ble_eq_true rfl, Nat.le_of_ble_eq_true rfl⟩ ⟨Nat.le_refl _, Nat.le_refl _⟩ hl.1 (Nat.le_of_ble_eq_true rfl) dX2_makeTables_13 (fun H locs hW => ?_)
  refine lv_iconst (v := 0) hx hb dX2_makeTables_16 (by decide) ?_
  refine lv_istore_n (lv' := [(2, .int (0 : Int32)), (0, .ref (G.2.2.2 4)), (1, .int a1)]) hx hb dX2_makeTables_17 rfl hl (by decide) rfl (fun ls hl => ?_)
  exact sX2_makeTables_b18 X FU a1 (0 : Int32) M4 _ _ _ (lv_sub hl [1, 2, 0] rfl) hW h
def rX2_appendCounted (a1 : Int32) (a2 : Int32) (M : Mm) : Option Mm :=
    (Option.bind (rX2_append a1 a2 M) fun M2 => Option.bind (rX2_appendDrawn a2 M2) fun M4 => some M4)
set_option maxRecDepth 100000 in
set_option maxHeartbeats 4000000 in
theorem cX2_appendCounted_k {l : Launch} {G : Gg} {a1 : Int32} {a2 : Int32} {M M' : Mm} (h : rX2_appendCounted a1 a2 M = some M') : CTv l yX2_appendCounted cX2_appendCounted 3 2 G [.ref (G.2.2.2 4), .int a1, .int a2] M M' := by
  unfold rX2_appendCounted at h
  refine ct_v (by decide) (Nat.le_of_ble_eq_true rfl) (fun p e s m below meth c ls X hl hW => ?_)
  have hx := X.1.1
  have hb := X.1.2.1
  refine lv_aload_n hx hb dX2_appendCounted_0 rfl (lv_at hl 0 rfl) ?_
  refine lv_iload_n hx hb dX2_appendCounted_1 rfl (lv_at hl 1 rfl) ?_
  refine lv_iload_n hx hb dX2_appendCounted_2 rfl (lv_at hl 2 rfl) ?_
  obtain ⟨M2, e1, h⟩ := ob_bind h
  refine bg_callv X hW (cX2_append_k e1) rfl rfl kw2_74 kd_X2_append rfl rfl ⟨Nat.le_of_ble_eq_true rfl, Nat.le_of_ble_eq_true rfl⟩ ⟨Nat.le_refl _, Nat.le_refl _⟩ hl.1 (Nat.le_of_ble_eq_true rfl) dX2_appendCounted_3 (fun H locs hW => ?_)
  refine lv_aload_n hx hb dX2_appendCounted_6 rfl (lv_at hl 0 rfl) ?_
  refine lv_iload_n hx hb dX2_appendCounted_7 rfl (lv_at hl 2 rfl) ?_
  obtain ⟨M4, e3, h⟩ := ob_bind h
  refine bg_callv X hW (cX2_appendDrawn_k e3) rfl rfl kw2_77 kd_X2_appendDrawn rfl rfl ⟨Nat.le_of_ble_eq_true rfl, Nat.le_of_ble_eq_true rfl⟩ ⟨Nat.le_refl _, Nat.le_refl _⟩ hl.1 (Nat.le_of_ble_eq_true rfl) dX2_appendCounted_8 (fun H locs hW => ?_)
  exact rt_v X hW h dX2_appendCounted_11
def rX2_appendDrawnAgain (a1 : Int32) (M : Mm) : Option Mm :=
    (if a1 ≤ 0 then (bd2 (rX2_next (256 : Int32) M) fun r4 M3 => Option.bind (rX2_append_ (1 : Int32) (1 : Int32) r4 M3) fun M6 => some M6) else (bd2 (rX2_next a1 M) fun r9 M8 => Option.bind (rX2_append (6 : Int32) r9 M8) fun M11 => some M11))
set_option maxRecDepth 100000 in
set_option maxHeartbeats 4000000 in
theorem cX2_appendDrawnAgain_k {l : Launch} {G : Gg} {a1 : Int32} {M M' : Mm} (h : rX2_appendDrawnAgain a1 M = some M') : CTv l yX2_appendDrawnAgain cX2_appendDrawnAgain 2 2 G [.ref (G.2.2.2 4), .int a1] M M' := by
  unfold rX2_appendDrawnAgain at h
  refine ct_v (by decide) (Nat.le_of_ble_eq_true rfl) (fun p e s m below meth c ls X hl hW => ?_)
  have hx := X.1.1
  have hb := X.1.2.1
  refine lv_iload_n hx hb dX2_appendDrawnAgain_0 rfl (lv_at hl 1 rfl) ?_
  refine lv_if_le (tgt := 18) hx hb dX2_appendDrawnAgain_1 (by decide) (fun c1 => ?_) (fun c1 => ?_)
  · have h := ob_pos c1 h
    refine lv_aload_n hx hb dX2_appendDrawnAgain_18 rfl (lv_at hl 0 rfl) ?_
    refine lv_iconst (v := 1) hx hb dX2_appendDrawnAgain_19 (by decide) ?_
    refine lv_iconst (v := 1) hx hb dX2_appendDrawnAgain_20 (by decide) ?_
    refine lv_aload_n hx hb dX2_appendDrawnAgain_21 rfl (lv_at hl 0 rfl) ?_
    refine lv_sipush (v := 256) hx hb dX2_appendDrawnAgain_22 (by decide) ?_
    obtain ⟨r4, M3, e2, h⟩ := ob_bd2 h
    refine bg_calli X hW (cX2_next_k e2) rfl rfl kw2_62 kd_X2_next rfl rfl ⟨Nat.le_of_ble_eq_true rfl, Nat.le_of_ble_eq_true rfl⟩ ⟨Nat.le_refl _, Nat.le_refl _⟩ hl.1 (Nat.le_of_ble_eq_true rfl) dX2_appendDrawnAgain_25 (fun H locs hW => ?_)
    obtain ⟨M6, e5, h⟩ := ob_bind h
    refine bg_callv X hW (cX2_append__k e5) rfl rfl kw2_83 kd_X2_append_ rfl rfl ⟨Nat.le_of_ble_eq_true rfl, Nat.le_of_ble_eq_true rfl⟩ ⟨Nat.le_refl _, Nat.le_refl _⟩ hl.1 (Nat.le_of_ble_eq_true rfl) dX2_appendDrawnAgain_28 (fun H locs hW => ?_)
    exact rt_v X hW h dX2_appendDrawnAgain_31
  · have h := ob_neg c1 h
    refine lv_aload_n hx hb dX2_appendDrawnAgain_4 rfl (lv_at hl 0 rfl) ?_
    refine lv_bipush (v := 6) hx hb dX2_appendDrawnAgain_5 (by decide) ?_
    refine lv_aload_n hx hb dX2_appendDrawnAgain_7 rfl (lv_at hl 0 rfl) ?_
    refine lv_iload_n hx hb dX2_appendDrawnAgain_8 rfl (lv_at hl 1 rfl) ?_
    obtain ⟨r9, M8, e7, h⟩ := ob_bd2 h
    refine bg_calli X hW (cX2_next_k e7) rfl rfl kw2_62 kd_X2_next rfl rfl ⟨Nat.le_of_ble_eq_true rfl, Nat.le_of_ble_eq_true rfl⟩ ⟨Nat.le_refl _, Nat.le_refl _⟩ hl.1 (Nat.le_of_ble_eq_true rfl) dX2_appendDrawnAgain_9 (fun H locs hW => ?_)
    obtain ⟨M11, e10, h⟩ := ob_bind h
    refine bg_callv X hW (cX2_append_k e10) rfl rfl kw2_74 kd_X2_append rfl rfl ⟨Nat.le_of_ble_eq_true rfl, Nat.le_of_ble_eq_true rfl⟩ ⟨Nat.le_refl _, Nat.le_refl _⟩ hl.1 (Nat.le_of_ble_eq_true rfl) dX2_appendDrawnAgain_12 (fun H locs hW => ?_)
    refine lv_goto (tgt := 31) hx hb dX2_appendDrawnAgain_15 (by decide) ?_
    exact rt_v X hW h dX2_appendDrawnAgain_31
def rX2_appendDrawnNest (M : Mm) : Option Mm :=
    (bd2 (rX2_next (5 : Int32) M) fun r3 M2 => Option.bind (rX2_append_ (4 : Int32) (0 : Int32) ((6 : Int32) + r3) M2) fun M5 => lt_ (M5.1 1 1) fun y6 => Option.bind (rX2_append (80 : Int32) (75 : Int32) M5) fun M8 => Option.bind (rX2_appendCounted (1 : Int32) r3 M8) fun M10 => Option.bind (rX2_appendEnd y6 M10) fun M12 => some M12)
set_option maxRecDepth 100000 in
set_option maxHeartbeats 4000000 in
theorem cX2_appendDrawnNest_k {l : Launch} {G : Gg} {M M' : Mm} (h : rX2_appendDrawnNest M = some M') : CTv l yX2_appendDrawnNest cX2_appendDrawnNest 3 3 G [.ref (G.2.2.2 4)] M M' := by
  unfold rX2_appendDrawnNest at h
  refine ct_v (by decide) (Nat.le_of_ble_eq_true rfl) (fun p e s m below meth c ls X hl hW => ?_)
  have hx := X.1.1
  have hb := X.1.2.1
  refine lv_aload_n hx hb dX2_appendDrawnNest_0 rfl (lv_at hl 0 rfl) ?_
  refine lv_iconst (v := 5) hx hb dX2_appendDrawnNest_1 (by decide) ?_
  obtain ⟨r3, M2, e1, h⟩ := ob_bd2 h
  refine bg_calli X hW (cX2_next_k e1) rfl rfl kw2_62 kd_X2_next rfl rfl ⟨Nat.le_of_ble_eq_true rfl, Nat.le_of_ble_eq_true rfl⟩ ⟨Nat.le_refl _, Nat.le_refl _⟩ hl.1 (Nat.le_of_ble_eq_true rfl) dX2_appendDrawnNest_2 (fun H locs hW => ?_)
  refine lv_istore_n (lv' := [(1, .int r3), (0, .ref (G.2.2.2 4))]) hx hb dX2_appendDrawnNest_5 rfl hl (by decide) rfl (fun ls hl => ?_)
  refine lv_aload_n hx hb dX2_appendDrawnNest_6 rfl (lv_at hl 1 rfl) ?_
  refine lv_iconst (v := 4) hx hb dX2_appendDrawnNest_7 (by decide) ?_
  refine lv_iconst (v := 0) hx hb dX2_appendDrawnNest_8 (by decide) ?_
  refine lv_bipush (v := 6) hx hb dX2_appendDrawnNest_9 (by decide) ?_
  refine lv_iload_n hx hb dX2_appendDrawnNest_11 rfl (lv_at hl 0 rfl) ?_
  refine lv_iadd hx hb dX2_appendDrawnNest_12 ?_
  obtain ⟨M5, e4, h⟩ := ob_bind h
  refine bg_callv X hW (cX2_append__k e4) rfl rfl kw2_83 kd_X2_append_ rfl rfl ⟨Nat.le_of_ble_eq_true rfl, Nat.le_of_ble_eq_true rfl⟩ ⟨Nat.le_refl _, Nat.le_refl _⟩ hl.1 (Nat.le_of_ble_eq_true rfl) dX2_appendDrawnNest_13 (fun H locs hW => ?_)
  refine lv_aload_n hx hb dX2_appendDrawnNest_16 rfl (lv_at hl 1 rfl) ?_
  refine gf2_9 (cN := 4) X hW rfl dX2_appendDrawnNest_17 ?_
  refine gf2_66 (cN := 1) X hW rfl dX2_appendDrawnNest_20 ?_
  refine lv_topi (fun y6 ey6 => ?_)
  have h := ob_lt ey6 h
  refine lv_istore_n (lv' := [(2, .int y6), (1, .int r3), (0, .ref (G.2.2.2 4))]) hx hb dX2_appendDrawnNest_23 rfl hl (by decide) rfl (fun ls hl => ?_)
  refine lv_aload_n hx hb dX2_appendDrawnNest_24 rfl (lv_at hl 2 rfl) ?_
  refine lv_bipush (v := 80) hx hb dX2_appendDrawnNest_25 (by decide) ?_
  refine lv_bipush (v := 75) hx hb dX2_appendDrawnNest_27 (by decide) ?_
  obtain ⟨M8, e7, h⟩ := ob_bind h
  refine bg_callv X hW (cX2_append_k e7) rfl rfl kw2_74 kd_X2_append rfl rfl ⟨Nat.le_of_ble_eq_true rfl, Nat.le_of_ble_eq_true rfl⟩ ⟨Nat.le_refl _, Nat.le_refl _⟩ hl.1 (Nat.le_of_ble_eq_true rfl) dX2_appendDrawnNest_29 (fun H locs hW => ?_)
  refine lv_aload_n hx hb dX2_appendDrawnNest_32 rfl (lv_at hl 2 rfl) ?_
  refine lv_iconst (v := 1) hx hb dX2_appendDrawnNest_33 (by decide) ?_
  refine lv_iload_n hx hb dX2_appendDrawnNest_34 rfl (lv_at hl 1 rfl) ?_
  obtain ⟨M10, e9, h⟩ := ob_bind h
  refine bg_callv X hW (cX2_appendCounted_k e9) rfl rfl kw2_98 kd_X2_appendCounted rfl rfl ⟨Nat.le_of_ble_eq_true rfl, Nat.le_of_ble_eq_true rfl⟩ ⟨Nat.le_refl _, Nat.le_refl _⟩ hl.1 (Nat.le_of_ble_eq_true rfl) dX2_appendDrawnNest_35 (fun H locs hW => ?_)
  refine lv_aload_n hx hb dX2_appendDrawnNest_38 rfl (lv_at hl 2 rfl) ?_
  refine lv_iload_n hx hb dX2_appendDrawnNest_39 rfl (lv_at hl 0 rfl) ?_
  obtain ⟨M12, e11, h⟩ := ob_bind h
  refine bg_callv X hW (cX2_appendEnd_k e11) rfl rfl kw2_80 kd_X2_appendEnd rfl rfl ⟨Nat.le_of_ble_eq_true rfl, Nat.le_of_ble_eq_true rfl⟩ ⟨Nat.le_refl _, Nat.le_refl _⟩ hl.1 (Nat.le_of_ble_eq_true rfl) dX2_appendDrawnNest_40 (fun H locs hW => ?_)
  exact rt_v X hW h dX2_appendDrawnNest_43
def rX2_appendDrawnItem (a1 : Int32) (M : Mm) : Option Mm :=
    (bd2 (rX2_next (6 : Int32) M) fun r3 M2 => if r3 = 0 then (bd2 (rX2_next (6 : Int32) M2) fun r7 M6 => Option.bind (rX2_appendCounted (1 : Int32) ((1 : Int32) + r7) M6) fun M9 => some M9) else if r3 = 1 then (bd2 (rX2_next (20 : Int32) M2) fun r13 M12 => bd2 (rX2_next (256 : Int32) M12) fun r16 M15 => Option.bind (rX2_append_ (2 : Int32) r13 r16 M15) fun M18 => some M18) else if r3 = 2 then (bd2 (rX2_next (4 : Int32) M2) fun r22 M21 => bd2 (rX2_next (12 : Int32) M21) fun r25 M24 => Option.bind (rX2_append_ (3 : Int32) ((1 : Int32) + r22) r25 M24) fun M27 => some M27) else if r3 = 3 then (bd2 (rX2_next (4 : Int32) M2) fun r31 M30 => Option.bind (rX2_appendCounted (5 : Int32) r31 M30) fun M33 => some M33) else if r3 = 4 then (Option.bind (rX2_appendDrawnAgain a1 M2) fun M36 => some M36) else (Option.bind (rX2_appendDrawnNest M2) fun M38 => some M38))
set_option maxRecDepth 100000 in
set_option maxHeartbeats 4000000 in
theorem cX2_appendDrawnItem_k {l : Launch} {G : Gg} {a1 : Int32} {M M' : Mm} (h : rX2_appendDrawnItem a1 M = some M') : CTv l yX2_appendDrawnItem cX2_appendDrawnItem 2 4 G [.ref (G.2.2.2 4), .int a1] M M' := by
  unfold rX2_appendDrawnItem at h
  refine ct_v (by decide) (Nat.le_of_ble_eq_true rfl) (fun p e s m below meth c ls X hl hW => ?_)
  have hx := X.1.1
  have hb := X.1.2.1
  refine lv_aload_n hx hb dX2_appendDrawnItem_0 rfl (lv_at hl 0 rfl) ?_
  refine lv_bipush (v := 6) hx hb dX2_appendDrawnItem_1 (by decide) ?_
  obtain ⟨r3, M2, e1, h⟩ := ob_bd2 h
  refine bg_calli X hW (cX2_next_k e1) rfl rfl kw2_62 kd_X2_next rfl rfl ⟨Nat.le_of_ble_eq_true rfl, Nat.le_of_ble_eq_true rfl⟩ ⟨Nat.le_refl _, Nat.le_refl _⟩ hl.1 (Nat.le_of_ble_eq_true rfl) dX2_appendDrawnItem_3 (fun H locs hW => ?_)
  by_cases c4 : r3 = 0
  · have h := ob_pos c4 h
    refine lv_tableIn (off := 34) (tgt := 40) hx hb dX2_appendDrawnItem_6 (by rw [c4]; decide) (by rw [c4]; decide) (by rw [c4]; decide) (by decide) ?_
    refine lv_aload_n hx hb dX2_appendDrawnItem_40 rfl (lv_at hl 0 rfl) ?_
    refine lv_iconst (v := 1) hx hb dX2_appendDrawnItem_41 (by decide) ?_
    refine lv_iconst (v := 1) hx hb dX2_appendDrawnItem_42 (by decide) ?_
    refine lv_aload_n hx hb dX2_appendDrawnItem_43 rfl (lv_at hl 0 rfl) ?_
    refine lv_bipush (v := 6) hx hb dX2_appendDrawnItem_44 (by decide) ?_
    obtain ⟨r7, M6, e5, h⟩ := ob_bd2 h
    refine bg_calli X hW (cX2_next_k e5) rfl rfl kw2_62 kd_X2_next rfl rfl ⟨Nat.le_of_ble_eq_true rfl, Nat.le_of_ble_eq_true rfl⟩ ⟨Nat.le_refl _, Nat.le_refl _⟩ hl.1 (Nat.le_of_ble_eq_true rfl) dX2_appendDrawnItem_46 (fun H locs hW => ?_)
    refine lv_iadd hx hb dX2_appendDrawnItem_49 ?_
    obtain ⟨M9, e8, h⟩ := ob_bind h
    refine bg_callv X hW (cX2_appendCounted_k e8) rfl rfl kw2_98 kd_X2_appendCounted rfl rfl ⟨Nat.le_of_ble_eq_true rfl, Nat.le_of_ble_eq_true rfl⟩ ⟨Nat.le_refl _, Nat.le_refl _⟩ hl.1 (Nat.le_of_ble_eq_true rfl) dX2_appendDrawnItem_50 (fun H locs hW => ?_)
    refine lv_goto (tgt := 123) hx hb dX2_appendDrawnItem_53 (by decide) ?_
    exact rt_v X hW h dX2_appendDrawnItem_123
  · have h := ob_neg c4 h
    by_cases c10 : r3 = 1
    · have h := ob_pos c10 h
      refine lv_tableIn (off := 50) (tgt := 56) hx hb dX2_appendDrawnItem_6 (by rw [c10]; decide) (by rw [c10]; decide) (by rw [c10]; decide) (by decide) ?_
      refine lv_aload_n hx hb dX2_appendDrawnItem_56 rfl (lv_at hl 0 rfl) ?_
      refine lv_iconst (v := 2) hx hb dX2_appendDrawnItem_57 (by decide) ?_
      refine lv_aload_n hx hb dX2_appendDrawnItem_58 rfl (lv_at hl 0 rfl) ?_
      refine lv_bipush (v := 20) hx hb dX2_appendDrawnItem_59 (by decide) ?_
      obtain ⟨r13, M12, e11, h⟩ := ob_bd2 h
      refine bg_calli X hW (cX2_next_k e11) rfl rfl kw2_62 kd_X2_next rfl rfl ⟨Nat.le_of_ble_eq_true rfl, Nat.le_of_ble_eq_true rfl⟩ ⟨Nat.le_refl _, Nat.le_refl _⟩ hl.1 (Nat.le_of_ble_eq_true rfl) dX2_appendDrawnItem_61 (fun H locs hW => ?_)
      refine lv_aload_n hx hb dX2_appendDrawnItem_64 rfl (lv_at hl 0 rfl) ?_
      refine lv_sipush (v := 256) hx hb dX2_appendDrawnItem_65 (by decide) ?_
      obtain ⟨r16, M15, e14, h⟩ := ob_bd2 h
      refine bg_calli X hW (cX2_next_k e14) rfl rfl kw2_62 kd_X2_next rfl rfl ⟨Nat.le_of_ble_eq_true rfl, Nat.le_of_ble_eq_true rfl⟩ ⟨Nat.le_refl _, Nat.le_refl _⟩ hl.1 (Nat.le_of_ble_eq_true rfl) dX2_appendDrawnItem_68 (fun H locs hW => ?_)
      obtain ⟨M18, e17, h⟩ := ob_bind h
      refine bg_callv X hW (cX2_append__k e17) rfl rfl kw2_83 kd_X2_append_ rfl rfl ⟨Nat.le_of_ble_eq_true rfl, Nat.le_of_ble_eq_true rfl⟩ ⟨Nat.le_refl _, Nat.le_refl _⟩ hl.1 (Nat.le_of_ble_eq_true rfl) dX2_appendDrawnItem_71 (fun H locs hW => ?_)
      refine lv_goto (tgt := 123) hx hb dX2_appendDrawnItem_74 (by decide) ?_
      exact rt_v X hW h dX2_appendDrawnItem_123
    · have h := ob_neg c10 h
      by_cases c19 : r3 = 2
      · have h := ob_pos c19 h
        refine lv_tableIn (off := 71) (tgt := 77) hx hb dX2_appendDrawnItem_6 (by rw [c19]; decide) (by rw [c19]; decide) (by rw [c19]; decide) (by decide) ?_
        refine lv_aload_n hx hb dX2_appendDrawnItem_77 rfl (lv_at hl 0 rfl) ?_
        refine lv_iconst (v := 3) hx hb dX2_appendDrawnItem_78 (by decide) ?_
        refine lv_iconst (v := 1) hx hb dX2_appendDrawnItem_79 (by decide) ?_
        refine lv_aload_n hx hb dX2_appendDrawnItem_80 rfl (lv_at hl 0 rfl) ?_
        refine lv_iconst (v := 4) hx hb dX2_appendDrawnItem_81 (by decide) ?_
        obtain ⟨r22, M21, e20, h⟩ := ob_bd2 h
        refine bg_calli X hW (cX2_next_k e20) rfl rfl kw2_62 kd_X2_next rfl rfl ⟨Nat.le_of_ble_eq_true rfl, Nat.le_of_ble_eq_true rfl⟩ ⟨Nat.le_refl _, Nat.le_refl _⟩ hl.1 (Nat.le_of_ble_eq_true rfl) dX2_appendDrawnItem_82 (fun H locs hW => ?_)
        refine lv_iadd hx hb dX2_appendDrawnItem_85 ?_
        refine lv_aload_n hx hb dX2_appendDrawnItem_86 rfl (lv_at hl 0 rfl) ?_
        refine lv_bipush (v := 12) hx hb dX2_appendDrawnItem_87 (by decide) ?_
        obtain ⟨r25, M24, e23, h⟩ := ob_bd2 h
        refine bg_calli X hW (cX2_next_k e23) rfl rfl kw2_62 kd_X2_next rfl rfl ⟨Nat.le_of_ble_eq_true rfl, Nat.le_of_ble_eq_true rfl⟩ ⟨Nat.le_refl _, Nat.le_refl _⟩ hl.1 (Nat.le_of_ble_eq_true rfl) dX2_appendDrawnItem_89 (fun H locs hW => ?_)
        obtain ⟨M27, e26, h⟩ := ob_bind h
        refine bg_callv X hW (cX2_append__k e26) rfl rfl kw2_83 kd_X2_append_ rfl rfl ⟨Nat.le_of_ble_eq_true rfl, Nat.le_of_ble_eq_true rfl⟩ ⟨Nat.le_refl _, Nat.le_refl _⟩ hl.1 (Nat.le_of_ble_eq_true rfl) dX2_appendDrawnItem_92 (fun H locs hW => ?_)
        refine lv_goto (tgt := 123) hx hb dX2_appendDrawnItem_95 (by decide) ?_
        exact rt_v X hW h dX2_appendDrawnItem_123
      · have h := ob_neg c19 h
        by_cases c28 : r3 = 3
        · have h := ob_pos c28 h
          refine lv_tableIn (off := 92) (tgt := 98) hx hb dX2_appendDrawnItem_6 (by rw [c28]; decide) (by rw [c28]; decide) (by rw [c28]; decide) (by decide) ?_
          refine lv_aload_n hx hb dX2_appendDrawnItem_98 rfl (lv_at hl 0 rfl) ?_
          refine lv_iconst (v := 5) hx hb dX2_appendDrawnItem_99 (by decide) ?_
          refine lv_aload_n hx hb dX2_appendDrawnItem_100 rfl (lv_at hl 0 rfl) ?_
          refine lv_iconst (v := 4) hx hb dX2_appendDrawnItem_101 (by decide) ?_
          obtain ⟨r31, M30, e29, h⟩ := ob_bd2 h
          refine bg_calli X hW (cX2_next_k e29) rfl rfl kw2_62 kd_X2_next rfl rfl ⟨Nat.le_of_ble_eq_true rfl, Nat.le_of_ble_eq_true rfl⟩ ⟨Nat.le_refl _, Nat.le_refl _⟩ hl.1 (Nat.le_of_ble_eq_true rfl) dX2_appendDrawnItem_102 (fun H locs hW => ?_)
          obtain ⟨M33, e32, h⟩ := ob_bind h
          refine bg_callv X hW (cX2_appendCounted_k e32) rfl rfl kw2_98 kd_X2_appendCounted rfl rfl ⟨Nat.le_of_ble_eq_true rfl, Nat.le_of_ble_eq_true rfl⟩ ⟨Nat.le_refl _, Nat.le_refl _⟩ hl.1 (Nat.le_of_ble_eq_true rfl) dX2_appendDrawnItem_105 (fun H locs hW => ?_)
          refine lv_goto (tgt := 123) hx hb dX2_appendDrawnItem_108 (by decide) ?_
          exact rt_v X hW h dX2_appendDrawnItem_123
        · have h := ob_neg c28 h
          by_cases c34 : r3 = 4
          · have h := ob_pos c34 h
            refine lv_tableIn (off := 105) (tgt := 111) hx hb dX2_appendDrawnItem_6 (by rw [c34]; decide) (by rw [c34]; decide) (by rw [c34]; decide) (by decide) ?_
            refine lv_aload_n hx hb dX2_appendDrawnItem_111 rfl (lv_at hl 0 rfl) ?_
            refine lv_iload_n hx hb dX2_appendDrawnItem_112 rfl (lv_at hl 1 rfl) ?_
            obtain ⟨M36, e35, h⟩ := ob_bind h
            refine bg_callv X hW (cX2_appendDrawnAgain_k e35) rfl rfl kw2_101 kd_X2_appendDrawnAgain rfl rfl ⟨Nat.le_of_ble_eq_true rfl, Nat.le_of_ble_eq_true rfl⟩ ⟨Nat.le_refl _, Nat.le_refl _⟩ hl.1 (Nat.le_of_ble_eq_true rfl) dX2_appendDrawnItem_113 (fun H locs hW => ?_)
            refine lv_goto (tgt := 123) hx hb dX2_appendDrawnItem_116 (by decide) ?_
            exact rt_v X hW h dX2_appendDrawnItem_123
          · have h := ob_neg c34 h
            refine lv_tableOut (tgt := 119) hx hb dX2_appendDrawnItem_6 (by have nc4 := lv_neT (a := 0) c4 rfl; have nc10 := lv_neT (a := 1) c10 rfl; have nc19 := lv_neT (a := 2) c19 rfl; have nc28 := lv_neT (a := 3) c28 rfl; have nc34 := lv_neT (a := 4) c34 rfl; omega) (by decide) ?_
            refine lv_aload_n hx hb dX2_appendDrawnItem_119 rfl (lv_at hl 0 rfl) ?_
            obtain ⟨M38, e37, h⟩ := ob_bind h
            refine bg_callv X hW (cX2_appendDrawnNest_k e37) rfl rfl kw2_104 kd_X2_appendDrawnNest rfl rfl ⟨Nat.le_of_ble_eq_true rfl, Nat.le_of_ble_eq_true rfl⟩ ⟨Nat.le_refl _, Nat.le_refl _⟩ hl.1 (Nat.le_of_ble_eq_true rfl) dX2_appendDrawnItem_120 (fun H locs hW => ?_)
            exact rt_v X hW h dX2_appendDrawnItem_123
def rX2_makeDrawn_b10_s (q10 : Int32 → Int32 → Mm → Option Mm) (x1 : Int32) (x2 : Int32) (M : Mm) : Option Mm :=
    (if x1 ≤ x2 then (Option.bind (rX2_appendEnd (0 : Int32) M) fun M5 => some M5) else (Option.bind (rX2_appendDrawnItem x2 M) fun M7 => lt_ (x2 + 1) fun y8 => q10 x1 y8 M7))
def rX2_makeDrawn_b10 : Nat → Int32 → Int32 → Mm → Option Mm
  | 0 => fun _ _ _ => none
  | n + 1 => rX2_makeDrawn_b10_s (rX2_makeDrawn_b10 n)
set_option maxRecDepth 100000 in
set_option maxHeartbeats 4000000 in
theorem sX2_makeDrawn_b10 {p : Program} {l : Launch} {e : Env} {s : State} {m : MethodId} {args : Array Value} {below : List Frame} {meth : Method} {c : Code} {G : Gg} {M' : Mm} (X : Cx p m c meth cX2_makeDrawn 3 s args RX2 none G) : ∀ (n : Nat), ∀ (x1 : Int32) (x2 : Int32) (M : Mm) (ls : Array Slot) (H : Heap) (locs : List Loc), lv_has ls 3 [(0, .ref (G.2.2.2 4)), (1, .int x1), (2, .int x2)] → Wo G s M H locs → rX2_makeDrawn_b10 n x1 x2 M = some M' → W p l e (rm 5) s m args below meth c H locs 0 0 (Qv below args s G M') (F0 m 10 ls []) := by
  intro n
  induction n with
  | zero =>
    intro x1 x2 M ls H locs hl hW h
    cases (show (none : Option Mm) = some M' from h)
  | succ n hq100 =>
    have hq10 : ∀ (x1 : Int32) (x2 : Int32) (M : Mm) (ls : Array Slot) (H : Heap) (locs : List Loc), lv_has ls 3 [(0, .ref (G.2.2.2 4)), (1, .int x1), (2, .int x2)] → Wo G s M H locs → (rX2_makeDrawn_b10 n) x1 x2 M = some M' → W p l e (rm 5) s m args below meth c H locs 0 0 (Qv below args s G M') (F0 m 10 ls []) := hq100
    intro x1 x2 M ls H locs hl hW h
    have h : rX2_makeDrawn_b10_s (rX2_makeDrawn_b10 n) x1 x2 M = some M' := h
    unfold rX2_makeDrawn_b10_s at h
    have hx := X.1.1
    have hb := X.1.2.1
    refine lv_iload_n hx hb dX2_makeDrawn_10 rfl (lv_at hl 2 rfl) ?_
    refine lv_iload_n hx hb dX2_makeDrawn_11 rfl (lv_at hl 1 rfl) ?_
    refine lv_icmp_ge (tgt := 26) hx hb dX2_makeDrawn_12 (by decide) (fun c3 => ?_) (fun c3 => ?_)
    · have h := ob_pos c3 h
      refine lv_aload_n hx hb dX2_makeDrawn_26 rfl (lv_at hl 0 rfl) ?_
      refine lv_iconst (v := 0) hx hb dX2_makeDrawn_27 (by decide) ?_
      obtain ⟨M5, e4, h⟩ := ob_bind h
      refine bg_callv X hW (cX2_appendEnd_k e4) rfl rfl kw2_80 kd_X2_appendEnd rfl rfl ⟨Nat.le_of_ble_eq_true rfl, Nat.le_of_ble_eq_true rfl⟩ ⟨Nat.le_refl _, Nat.le_refl _⟩ hl.1 (Nat.le_of_ble_eq_true rfl) dX2_makeDrawn_28 (fun H locs hW => ?_)
      exact rt_v X hW h dX2_makeDrawn_31
    · have h := ob_neg c3 h
      refine lv_aload_n hx hb dX2_makeDrawn_15 rfl (lv_at hl 0 rfl) ?_
      refine lv_iload_n hx hb dX2_makeDrawn_16 rfl (lv_at hl 2 rfl) ?_
      obtain ⟨M7, e6, h⟩ := ob_bind h
      refine bg_callv X hW (cX2_appendDrawnItem_k e6) rfl rfl kw2_95 kd_X2_appendDrawnItem rfl rfl ⟨Nat.le_of_ble_eq_true rfl, Nat.le_of_ble_eq_true rfl⟩ ⟨Nat.le_refl _, Nat.le_refl _⟩ hl.1 (Nat.le_of_ble_eq_true rfl) dX2_makeDrawn_17 (fun H locs hW => ?_)
      obtain ⟨y8, ey8⟩ : ∃ y : Int32, y = (x2 + 1) := ⟨_, rfl⟩
      have h := ob_lt ey8 h
      refine lv_iinc (v := y8) (lv' := [(2, .int y8), (0, .ref (G.2.2.2 4)), (1, .int x1)]) hx hb dX2_makeDrawn_20 hl (k := 2) rfl (by rw [ey8]; rfl) (by decide) rfl (fun ls hl => ?_)
      refine lv_goto (tgt := 10) hx hb dX2_makeDrawn_23 (by decide) ?_
      exact hq10 x1 y8 M7 _ _ _ (lv_sub hl [1, 2, 0] rfl) hW h
def rX2_makeDrawn (a1 : Int32) (M : Mm) : Option Mm :=
    (Option.bind (rX2_append (80 : Int32) (75 : Int32) M) fun M2 => rX2_makeDrawn_b10 FU a1 (0 : Int32) M2)
set_option maxRecDepth 100000 in
set_option maxHeartbeats 4000000 in
theorem cX2_makeDrawn_k {l : Launch} {G : Gg} {a1 : Int32} {M M' : Mm} (h : rX2_makeDrawn a1 M = some M') : CTv l yX2_makeDrawn cX2_makeDrawn 3 5 G [.ref (G.2.2.2 4), .int a1] M M' := by
  unfold rX2_makeDrawn at h
  refine ct_v (by decide) (Nat.le_of_ble_eq_true rfl) (fun p e s m below meth c ls X hl hW => ?_)
  have hx := X.1.1
  have hb := X.1.2.1
  refine lv_aload_n hx hb dX2_makeDrawn_0 rfl (lv_at hl 0 rfl) ?_
  refine lv_bipush (v := 80) hx hb dX2_makeDrawn_1 (by decide) ?_
  refine lv_bipush (v := 75) hx hb dX2_makeDrawn_3 (by decide) ?_
  obtain ⟨M2, e1, h⟩ := ob_bind h
  refine bg_callv X hW (cX2_append_k e1) rfl rfl kw2_74 kd_X2_append rfl rfl ⟨Nat.le_of_ble_eq_true rfl, Nat.le_of_ble_eq_true rfl⟩ ⟨Nat.le_refl _, Nat.le_refl _⟩ hl.1 (Nat.le_of_ble_eq_true rfl) dX2_makeDrawn_5 (fun H locs hW => ?_)
  refine lv_iconst (v := 0) hx hb dX2_makeDrawn_8 (by decide) ?_
  refine lv_istore_n (lv' := [(2, .int (0 : Int32)), (0, .ref (G.2.2.2 4)), (1, .int a1)]) hx hb dX2_makeDrawn_9 rfl hl (by decide) rfl (fun ls hl => ?_)
  exact sX2_makeDrawn_b10 X FU a1 (0 : Int32) M2 _ _ _ (lv_sub hl [1, 2, 0] rfl) hW h
def rX2_cutEnd (M : Mm) : Option Mm :=
    (bd2 (rX2_next (4 : Int32) M) fun r3 M2 => lt_ ((1 : Int32) + r3) fun y4 => Option.bind (rX0_keepFirst 1 1200 1200 ((M2.1 1 1) - y4) M2) fun M6 => some M6)
set_option maxRecDepth 100000 in
set_option maxHeartbeats 4000000 in
theorem cX2_cutEnd_k {l : Launch} {G : Gg} {M M' : Mm} (h : rX2_cutEnd M = some M') : CTv l yX2_cutEnd cX2_cutEnd 2 2 G [.ref (G.2.2.2 4)] M M' := by
  unfold rX2_cutEnd at h
  refine ct_v (by decide) (Nat.le_of_ble_eq_true rfl) (fun p e s m below meth c ls X hl hW => ?_)
  have hx := X.1.1
  have hb := X.1.2.1
  refine lv_iconst (v := 1) hx hb dX2_cutEnd_0 (by decide) ?_
  refine lv_aload_n hx hb dX2_cutEnd_1 rfl (lv_at hl 0 rfl) ?_
  refine lv_iconst (v := 4) hx hb dX2_cutEnd_2 (by decide) ?_
  obtain ⟨r3, M2, e1, h⟩ := ob_bd2 h
  refine bg_calli X hW (cX2_next_k e1) rfl rfl kw2_62 kd_X2_next rfl rfl ⟨Nat.le_of_ble_eq_true rfl, Nat.le_of_ble_eq_true rfl⟩ ⟨Nat.le_refl _, Nat.le_refl _⟩ hl.1 (Nat.le_of_ble_eq_true rfl) dX2_cutEnd_3 (fun H locs hW => ?_)
  refine lv_iadd hx hb dX2_cutEnd_6 ?_
  refine lv_topi (fun y4 ey4 => ?_)
  have h := ob_lt ey4 h
  refine lv_istore_n (lv' := [(1, .int y4), (0, .ref (G.2.2.2 4))]) hx hb dX2_cutEnd_7 rfl hl (by decide) rfl (fun ls hl => ?_)
  refine lv_aload_n hx hb dX2_cutEnd_8 rfl (lv_at hl 1 rfl) ?_
  refine gf2_9 (cN := 4) X hW rfl dX2_cutEnd_9 ?_
  refine lv_aload_n hx hb dX2_cutEnd_12 rfl (lv_at hl 1 rfl) ?_
  refine gf2_9 (cN := 4) X hW rfl dX2_cutEnd_13 ?_
  refine gf2_66 (cN := 1) X hW rfl dX2_cutEnd_16 ?_
  refine lv_iload_n hx hb dX2_cutEnd_19 rfl (lv_at hl 0 rfl) ?_
  refine lv_isub hx hb dX2_cutEnd_20 ?_
  obtain ⟨M6, e5, h⟩ := ob_bind h
  refine bg_callv X hW (cX0_keepFirst_k rfl rfl rfl e5) rfl rfl kw2_19 kd_X0_keepFirst rfl rfl ⟨Nat.le_of_ble_eq_true rfl, Nat.le_of_ble_eq_true rfl⟩ ⟨Nat.le_refl _, Nat.le_refl _⟩ hl.1 (Nat.le_of_ble_eq_true rfl) dX2_cutEnd_21 (fun H locs hW => ?_)
  exact rt_v X hW h dX2_cutEnd_24
def rX2_spoilCheck (M : Mm) : Option Mm :=
    (lt_ ((M.1 1 1) - (1 : Int32)) fun y1 => bd2 (rX0_get 1 1200 1200 y1 M) fun r4 M3 => Option.bind (rX0_put 1 1200 1200 y1 ((r4 + (1 : Int32)) &&& (255 : Int32)) M3) fun M6 => some M6)
set_option maxRecDepth 100000 in
set_option maxHeartbeats 4000000 in
theorem cX2_spoilCheck_k {l : Launch} {G : Gg} {M M' : Mm} (h : rX2_spoilCheck M = some M') : CTv l yX2_spoilCheck cX2_spoilCheck 2 1 G [.ref (G.2.2.2 4)] M M' := by
  unfold rX2_spoilCheck at h
  refine ct_v (by decide) (Nat.le_of_ble_eq_true rfl) (fun p e s m below meth c ls X hl hW => ?_)
  have hx := X.1.1
  have hb := X.1.2.1
  refine lv_aload_n hx hb dX2_spoilCheck_0 rfl (lv_at hl 0 rfl) ?_
  refine gf2_9 (cN := 4) X hW rfl dX2_spoilCheck_1 ?_
  refine gf2_66 (cN := 1) X hW rfl dX2_spoilCheck_4 ?_
  refine lv_iconst (v := 1) hx hb dX2_spoilCheck_7 (by decide) ?_
  refine lv_isub hx hb dX2_spoilCheck_8 ?_
  refine lv_topi (fun y1 ey1 => ?_)
  have h := ob_lt ey1 h
  refine lv_istore_n (lv' := [(1, .int y1), (0, .ref (G.2.2.2 4))]) hx hb dX2_spoilCheck_9 rfl hl (by decide) rfl (fun ls hl => ?_)
  refine lv_aload_n hx hb dX2_spoilCheck_10 rfl (lv_at hl 1 rfl) ?_
  refine gf2_9 (cN := 4) X hW rfl dX2_spoilCheck_11 ?_
  refine lv_iload_n hx hb dX2_spoilCheck_14 rfl (lv_at hl 0 rfl) ?_
  refine lv_aload_n hx hb dX2_spoilCheck_15 rfl (lv_at hl 1 rfl) ?_
  refine gf2_9 (cN := 4) X hW rfl dX2_spoilCheck_16 ?_
  refine lv_iload_n hx hb dX2_spoilCheck_19 rfl (lv_at hl 0 rfl) ?_
  obtain ⟨r4, M3, e2, h⟩ := ob_bd2 h
  refine bg_calli X hW (cX0_get_k rfl rfl rfl e2) rfl rfl kw2_89 kd_X0_get rfl rfl ⟨Nat.le_of_ble_eq_true rfl, Nat.le_of_ble_eq_true rfl⟩ ⟨Nat.le_refl _, Nat.le_refl _⟩ hl.1 (Nat.le_of_ble_eq_true rfl) dX2_spoilCheck_20 (fun H locs hW => ?_)
  refine lv_iconst (v := 1) hx hb dX2_spoilCheck_23 (by decide) ?_
  refine lv_iadd hx hb dX2_spoilCheck_24 ?_
  refine lv_sipush (v := 255) hx hb dX2_spoilCheck_25 (by decide) ?_
  refine lv_iand hx hb dX2_spoilCheck_28 ?_
  obtain ⟨M6, e5, h⟩ := ob_bind h
  refine bg_callv X hW (cX0_put_k rfl rfl rfl e5) rfl rfl kw2_92 kd_X0_put rfl rfl ⟨Nat.le_of_ble_eq_true rfl, Nat.le_of_ble_eq_true rfl⟩ ⟨Nat.le_refl _, Nat.le_refl _⟩ hl.1 (Nat.le_of_ble_eq_true rfl) dX2_spoilCheck_29 (fun H locs hW => ?_)
  exact rt_v X hW h dX2_spoilCheck_32
def rX2_make (a1 : Int32) (a2 : Int32) (M : Mm) : Option Mm :=
    (Option.bind (rX0_keepFirst 1 1200 1200 (0 : Int32) M) fun M2 => if a1 = 0 then (Option.bind (rX2_makeLies a2 M2) fun M5 => some M5) else if a1 = 1 then (Option.bind (rX2_makeRuns a2 M2) fun M8 => some M8) else if a1 = 2 then (Option.bind (rX2_makeOverlaps a2 M2) fun M11 => some M11) else if a1 = 3 then (Option.bind (rX2_makeDeep a2 M2) fun M14 => some M14) else if a1 = 4 then (Option.bind (rX2_makeEmpty a2 M2) fun M17 => some M17) else if a1 = 5 then (Option.bind (rX2_makeAgains a2 M2) fun M20 => some M20) else if a1 = 6 then (Option.bind (rX2_makeTables a2 M2) fun M23 => some M23) else if a1 = 7 then (Option.bind (rX2_makeDrawn a2 M2) fun M26 => Option.bind (rX2_cutEnd M26) fun M28 => some M28) else if a1 = 8 then (Option.bind (rX2_makeDrawn a2 M2) fun M31 => Option.bind (rX2_spoilCheck M31) fun M33 => some M33) else (Option.bind (rX2_makeDrawn a2 M2) fun M35 => some M35))
set_option maxRecDepth 100000 in
set_option maxHeartbeats 4000000 in
theorem cX2_make_k {l : Launch} {G : Gg} {a1 : Int32} {a2 : Int32} {M M' : Mm} (h : rX2_make a1 a2 M = some M') : CTv l yX2_make cX2_make 3 6 G [.ref (G.2.2.2 4), .int a1, .int a2] M M' := by
  unfold rX2_make at h
  refine ct_v (by decide) (Nat.le_of_ble_eq_true rfl) (fun p e s m below meth c ls X hl hW => ?_)
  have hx := X.1.1
  have hb := X.1.2.1
  refine lv_aload_n hx hb dX2_make_0 rfl (lv_at hl 0 rfl) ?_
  refine gf2_9 (cN := 4) X hW rfl dX2_make_1 ?_
  refine lv_iconst (v := 0) hx hb dX2_make_4 (by decide) ?_
  obtain ⟨M2, e1, h⟩ := ob_bind h
  refine bg_callv X hW (cX0_keepFirst_k rfl rfl rfl e1) rfl rfl kw2_19 kd_X0_keepFirst rfl rfl ⟨Nat.le_of_ble_eq_true rfl, Nat.le_of_ble_eq_true rfl⟩ ⟨Nat.le_refl _, Nat.le_refl _⟩ hl.1 (Nat.le_of_ble_eq_true rfl) dX2_make_5 (fun H locs hW => ?_)
  refine lv_iload_n hx hb dX2_make_8 rfl (lv_at hl 1 rfl) ?_
  by_cases c3 : a1 = 0
  · have h := ob_pos c3 h
    refine lv_tableIn (off := 51) (tgt := 60) hx hb dX2_make_9 (by rw [c3]; decide) (by rw [c3]; decide) (by rw [c3]; decide) (by decide) ?_
    refine lv_aload_n hx hb dX2_make_60 rfl (lv_at hl 0 rfl) ?_
    refine lv_iload_n hx hb dX2_make_61 rfl (lv_at hl 2 rfl) ?_
    obtain ⟨M5, e4, h⟩ := ob_bind h
    refine bg_callv X hW (cX2_makeLies_k e4) rfl rfl kw2_25 kd_X2_makeLies rfl rfl ⟨Nat.le_of_ble_eq_true rfl, Nat.le_of_ble_eq_true rfl⟩ ⟨Nat.le_refl _, Nat.le_refl _⟩ hl.1 (Nat.le_of_ble_eq_true rfl) dX2_make_62 (fun H locs hW => ?_)
    refine lv_goto (tgt := 145) hx hb dX2_make_65 (by decide) ?_
    exact rt_v X hW h dX2_make_145
  · have h := ob_neg c3 h
    by_cases c6 : a1 = 1
    · have h := ob_pos c6 h
      refine lv_tableIn (off := 59) (tgt := 68) hx hb dX2_make_9 (by rw [c6]; decide) (by rw [c6]; decide) (by rw [c6]; decide) (by decide) ?_
      refine lv_aload_n hx hb dX2_make_68 rfl (lv_at hl 0 rfl) ?_
      refine lv_iload_n hx hb dX2_make_69 rfl (lv_at hl 2 rfl) ?_
      obtain ⟨M8, e7, h⟩ := ob_bind h
      refine bg_callv X hW (cX2_makeRuns_k e7) rfl rfl kw2_28 kd_X2_makeRuns rfl rfl ⟨Nat.le_of_ble_eq_true rfl, Nat.le_of_ble_eq_true rfl⟩ ⟨Nat.le_refl _, Nat.le_refl _⟩ hl.1 (Nat.le_of_ble_eq_true rfl) dX2_make_70 (fun H locs hW => ?_)
      refine lv_goto (tgt := 145) hx hb dX2_make_73 (by decide) ?_
      exact rt_v X hW h dX2_make_145
    · have h := ob_neg c6 h
      by_cases c9 : a1 = 2
      · have h := ob_pos c9 h
        refine lv_tableIn (off := 67) (tgt := 76) hx hb dX2_make_9 (by rw [c9]; decide) (by rw [c9]; decide) (by rw [c9]; decide) (by decide) ?_
        refine lv_aload_n hx hb dX2_make_76 rfl (lv_at hl 0 rfl) ?_
        refine lv_iload_n hx hb dX2_make_77 rfl (lv_at hl 2 rfl) ?_
        obtain ⟨M11, e10, h⟩ := ob_bind h
        refine bg_callv X hW (cX2_makeOverlaps_k e10) rfl rfl kw2_31 kd_X2_makeOverlaps rfl rfl ⟨Nat.le_of_ble_eq_true rfl, Nat.le_of_ble_eq_true rfl⟩ ⟨Nat.le_refl _, Nat.le_refl _⟩ hl.1 (Nat.le_of_ble_eq_true rfl) dX2_make_78 (fun H locs hW => ?_)
        refine lv_goto (tgt := 145) hx hb dX2_make_81 (by decide) ?_
        exact rt_v X hW h dX2_make_145
      · have h := ob_neg c9 h
        by_cases c12 : a1 = 3
        · have h := ob_pos c12 h
          refine lv_tableIn (off := 75) (tgt := 84) hx hb dX2_make_9 (by rw [c12]; decide) (by rw [c12]; decide) (by rw [c12]; decide) (by decide) ?_
          refine lv_aload_n hx hb dX2_make_84 rfl (lv_at hl 0 rfl) ?_
          refine lv_iload_n hx hb dX2_make_85 rfl (lv_at hl 2 rfl) ?_
          obtain ⟨M14, e13, h⟩ := ob_bind h
          refine bg_callv X hW (cX2_makeDeep_k e13) rfl rfl kw2_34 kd_X2_makeDeep rfl rfl ⟨Nat.le_of_ble_eq_true rfl, Nat.le_of_ble_eq_true rfl⟩ ⟨Nat.le_refl _, Nat.le_refl _⟩ hl.1 (Nat.le_of_ble_eq_true rfl) dX2_make_86 (fun H locs hW => ?_)
          refine lv_goto (tgt := 145) hx hb dX2_make_89 (by decide) ?_
          exact rt_v X hW h dX2_make_145
        · have h := ob_neg c12 h
          by_cases c15 : a1 = 4
          · have h := ob_pos c15 h
            refine lv_tableIn (off := 83) (tgt := 92) hx hb dX2_make_9 (by rw [c15]; decide) (by rw [c15]; decide) (by rw [c15]; decide) (by decide) ?_
            refine lv_aload_n hx hb dX2_make_92 rfl (lv_at hl 0 rfl) ?_
            refine lv_iload_n hx hb dX2_make_93 rfl (lv_at hl 2 rfl) ?_
            obtain ⟨M17, e16, h⟩ := ob_bind h
            refine bg_callv X hW (cX2_makeEmpty_k e16) rfl rfl kw2_37 kd_X2_makeEmpty rfl rfl ⟨Nat.le_of_ble_eq_true rfl, Nat.le_of_ble_eq_true rfl⟩ ⟨Nat.le_refl _, Nat.le_refl _⟩ hl.1 (Nat.le_of_ble_eq_true rfl) dX2_make_94 (fun H locs hW => ?_)
            refine lv_goto (tgt := 145) hx hb dX2_make_97 (by decide) ?_
            exact rt_v X hW h dX2_make_145
          · have h := ob_neg c15 h
            by_cases c18 : a1 = 5
            · have h := ob_pos c18 h
              refine lv_tableIn (off := 91) (tgt := 100) hx hb dX2_make_9 (by rw [c18]; decide) (by rw [c18]; decide) (by rw [c18]; decide) (by decide) ?_
              refine lv_aload_n hx hb dX2_make_100 rfl (lv_at hl 0 rfl) ?_
              refine lv_iload_n hx hb dX2_make_101 rfl (lv_at hl 2 rfl) ?_
              obtain ⟨M20, e19, h⟩ := ob_bind h
              refine bg_callv X hW (cX2_makeAgains_k e19) rfl rfl kw2_40 kd_X2_makeAgains rfl rfl ⟨Nat.le_of_ble_eq_true rfl, Nat.le_of_ble_eq_true rfl⟩ ⟨Nat.le_refl _, Nat.le_refl _⟩ hl.1 (Nat.le_of_ble_eq_true rfl) dX2_make_102 (fun H locs hW => ?_)
              refine lv_goto (tgt := 145) hx hb dX2_make_105 (by decide) ?_
              exact rt_v X hW h dX2_make_145
            · have h := ob_neg c18 h
              by_cases c21 : a1 = 6
              · have h := ob_pos c21 h
                refine lv_tableIn (off := 99) (tgt := 108) hx hb dX2_make_9 (by rw [c21]; decide) (by rw [c21]; decide) (by rw [c21]; decide) (by decide) ?_
                refine lv_aload_n hx hb dX2_make_108 rfl (lv_at hl 0 rfl) ?_
                refine lv_iload_n hx hb dX2_make_109 rfl (lv_at hl 2 rfl) ?_
                obtain ⟨M23, e22, h⟩ := ob_bind h
                refine bg_callv X hW (cX2_makeTables_k e22) rfl rfl kw2_43 kd_X2_makeTables rfl rfl ⟨Nat.le_of_ble_eq_true rfl, Nat.le_of_ble_eq_true rfl⟩ ⟨Nat.le_refl _, Nat.le_refl _⟩ hl.1 (Nat.le_of_ble_eq_true rfl) dX2_make_110 (fun H locs hW => ?_)
                refine lv_goto (tgt := 145) hx hb dX2_make_113 (by decide) ?_
                exact rt_v X hW h dX2_make_145
              · have h := ob_neg c21 h
                by_cases c24 : a1 = 7
                · have h := ob_pos c24 h
                  refine lv_tableIn (off := 107) (tgt := 116) hx hb dX2_make_9 (by rw [c24]; decide) (by rw [c24]; decide) (by rw [c24]; decide) (by decide) ?_
                  refine lv_aload_n hx hb dX2_make_116 rfl (lv_at hl 0 rfl) ?_
                  refine lv_iload_n hx hb dX2_make_117 rfl (lv_at hl 2 rfl) ?_
                  obtain ⟨M26, e25, h⟩ := ob_bind h
                  refine bg_callv X hW (cX2_makeDrawn_k e25) rfl rfl kw2_46 kd_X2_makeDrawn rfl rfl ⟨Nat.le_of_ble_eq_true rfl, Nat.le_of_ble_eq_true rfl⟩ ⟨Nat.le_refl _, Nat.le_refl _⟩ hl.1 (Nat.le_of_ble_eq_true rfl) dX2_make_118 (fun H locs hW => ?_)
                  refine lv_aload_n hx hb dX2_make_121 rfl (lv_at hl 0 rfl) ?_
                  obtain ⟨M28, e27, h⟩ := ob_bind h
                  refine bg_callv X hW (cX2_cutEnd_k e27) rfl rfl kw2_49 kd_X2_cutEnd rfl rfl ⟨Nat.le_of_ble_eq_true rfl, Nat.le_of_ble_eq_true rfl⟩ ⟨Nat.le_refl _, Nat.le_refl _⟩ hl.1 (Nat.le_of_ble_eq_true rfl) dX2_make_122 (fun H locs hW => ?_)
                  refine lv_goto (tgt := 145) hx hb dX2_make_125 (by decide) ?_
                  exact rt_v X hW h dX2_make_145
                · have h := ob_neg c24 h
                  by_cases c29 : a1 = 8
                  · have h := ob_pos c29 h
                    refine lv_tableIn (off := 119) (tgt := 128) hx hb dX2_make_9 (by rw [c29]; decide) (by rw [c29]; decide) (by rw [c29]; decide) (by decide) ?_
                    refine lv_aload_n hx hb dX2_make_128 rfl (lv_at hl 0 rfl) ?_
                    refine lv_iload_n hx hb dX2_make_129 rfl (lv_at hl 2 rfl) ?_
                    obtain ⟨M31, e30, h⟩ := ob_bind h
                    refine bg_callv X hW (cX2_makeDrawn_k e30) rfl rfl kw2_46 kd_X2_makeDrawn rfl rfl ⟨Nat.le_of_ble_eq_true rfl, Nat.le_of_ble_eq_true rfl⟩ ⟨Nat.le_refl _, Nat.le_refl _⟩ hl.1 (Nat.le_of_ble_eq_true rfl) dX2_make_130 (fun H locs hW => ?_)
                    refine lv_aload_n hx hb dX2_make_133 rfl (lv_at hl 0 rfl) ?_
                    obtain ⟨M33, e32, h⟩ := ob_bind h
                    refine bg_callv X hW (cX2_spoilCheck_k e32) rfl rfl kw2_52 kd_X2_spoilCheck rfl rfl ⟨Nat.le_of_ble_eq_true rfl, Nat.le_of_ble_eq_true rfl⟩ ⟨Nat.le_refl _, Nat.le_refl _⟩ hl.1 (Nat.le_of_ble_eq_true rfl) dX2_make_134 (fun H locs hW => ?_)
                    refine lv_goto (tgt := 145) hx hb dX2_make_137 (by decide) ?_
                    exact rt_v X hW h dX2_make_145
                  · have h := ob_neg c29 h
                    refine lv_tableOut (tgt := 140) hx hb dX2_make_9 (by have nc3 := lv_neT (a := 0) c3 rfl; have nc6 := lv_neT (a := 1) c6 rfl; have nc9 := lv_neT (a := 2) c9 rfl; have nc12 := lv_neT (a := 3) c12 rfl; have nc15 := lv_neT (a := 4) c15 rfl; have nc18 := lv_neT (a := 5) c18 rfl; have nc21 := lv_neT (a := 6) c21 rfl; have nc24 := lv_neT (a := 7) c24 rfl; have nc29 := lv_neT (a := 8) c29 rfl; omega) (by decide) ?_
                    refine lv_aload_n hx hb dX2_make_140 rfl (lv_at hl 0 rfl) ?_
                    refine lv_iload_n hx hb dX2_make_141 rfl (lv_at hl 2 rfl) ?_
                    obtain ⟨M35, e34, h⟩ := ob_bind h
                    refine bg_callv X hW (cX2_makeDrawn_k e34) rfl rfl kw2_46 kd_X2_makeDrawn rfl rfl ⟨Nat.le_of_ble_eq_true rfl, Nat.le_of_ble_eq_true rfl⟩ ⟨Nat.le_refl _, Nat.le_refl _⟩ hl.1 (Nat.le_of_ble_eq_true rfl) dX2_make_142 (fun H locs hW => ?_)
                    exact rt_v X hW h dX2_make_145
