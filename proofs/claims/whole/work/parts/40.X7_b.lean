def rX7_draw_b127 (x1 : Int32) (M : Mm) : Option (Int32 × Mm) :=
    (if x1 = (8 : Int32) then (if ((M.1 31 2) - (1 : Int32)) < 0 ∨ 1200 ≤ (((M.1 31 2) - (1 : Int32))).toNatClampNeg then none else if ((M.1 31 2) - (1 : Int32)) < 0 ∨ 1200 ≤ (((M.1 31 2) - (1 : Int32))).toNatClampNeg then none else lt_ (st M 32 (((M.1 31 2) - (1 : Int32))).toNatClampNeg (((M.1 32 (((M.1 31 2) - (1 : Int32))).toNatClampNeg) + (1 : Int32)) &&& (255 : Int32))) fun M22 => some ((M22.1 31 2), M22)) else (some ((M.1 31 2), M)))
set_option maxRecDepth 100000 in
set_option maxHeartbeats 4000000 in
theorem sX7_draw_b127 {p : Program} {l : Launch} {e : Env} {s : State} {m : MethodId} {args : Array Value} {below : List Frame} {meth : Method} {c : Code} {G : Gg} {r : Int32} {M' : Mm} (X : Cx p m c meth cX7_draw 4 s args RX7 (some .int) G) : ∀ (x1 : Int32) (M : Mm) (ls : Array Slot) (H : Heap) (locs : List Loc), lv_has ls 4 [(0, .ref (G.2.2.2 31)), (1, .int x1)] → Wo G s M H locs → rX7_draw_b127 x1 M = some (r, M') → W p l e (rm 5) s m args below meth c H locs 0 0 (Qi below args s G r M') (F0 m 127 ls []) := by
    intro x1 M ls H locs hl hW h
    unfold rX7_draw_b127 at h
    have hx := X.1.1
    have hb := X.1.2.1
    refine lv_iload_n hx hb dX7_draw_127 rfl (lv_at hl 1 rfl) ?_
    refine lv_bipush (v := 8) hx hb dX7_draw_128 (by decide) ?_
    refine lv_icmp_ne (tgt := 161) hx hb dX7_draw_130 (by decide) (fun c19 => ?_) (fun c19 => ?_)
    · have h := ob_neg c19 h
      refine lv_aload_n hx hb dX7_draw_161 rfl (lv_at hl 0 rfl) ?_
      refine gf7_78 (cN := 31) X hW rfl dX7_draw_162 ?_
      exact rt_i X hW h dX7_draw_165
    · have h := ob_pos c19 h
      refine lv_aload_n hx hb dX7_draw_133 rfl (lv_at hl 0 rfl) ?_
      refine gf7_7 (cN := 31) X hW rfl dX7_draw_134 ?_
      refine lv_aload_n hx hb dX7_draw_137 rfl (lv_at hl 0 rfl) ?_
      refine gf7_78 (cN := 31) X hW rfl dX7_draw_138 ?_
      refine lv_iconst (v := 1) hx hb dX7_draw_141 (by decide) ?_
      refine lv_isub hx hb dX7_draw_142 ?_
      refine lv_aload_n hx hb dX7_draw_143 rfl (lv_at hl 0 rfl) ?_
      refine gf7_7 (cN := 31) X hW rfl dX7_draw_144 ?_
      refine lv_aload_n hx hb dX7_draw_147 rfl (lv_at hl 0 rfl) ?_
      refine gf7_78 (cN := 31) X hW rfl dX7_draw_148 ?_
      refine lv_iconst (v := 1) hx hb dX7_draw_151 (by decide) ?_
      refine lv_isub hx hb dX7_draw_152 ?_
      obtain ⟨g20, h⟩ := ob_gd h
      refine bg_ald (cN := 32) X hW (n := 1200) rfl g20 dX7_draw_153 ?_
      refine lv_iconst (v := 1) hx hb dX7_draw_154 (by decide) ?_
      refine lv_iadd hx hb dX7_draw_155 ?_
      refine lv_sipush (v := 255) hx hb dX7_draw_156 (by decide) ?_
      refine lv_iand hx hb dX7_draw_159 ?_
      obtain ⟨g21, h⟩ := ob_gd h
      refine bg_ast (cN := 32) X hW (n := 1200) rfl g21 dX7_draw_160 (fun M22 eM22 H locs hW => ?_)
      have h := ob_lt eM22 h
      refine lv_aload_n hx hb dX7_draw_161 rfl (lv_at hl 0 rfl) ?_
      refine gf7_78 (cN := 31) X hW rfl dX7_draw_162 ?_
      exact rt_i X hW h dX7_draw_165
def rX7_draw_b100 (x1 : Int32) (M : Mm) : Option (Int32 × Mm) :=
    (Option.bind (rX7_close (0 : Int32) M) fun M17 => if x1 = (7 : Int32) then (bd2 (rX7_draws (4 : Int32) M17) fun r25 M24 => lt_ (st M24 31 2 ((M17.1 31 2) - ((1 : Int32) + r25))) fun M26 => rX7_draw_b127 x1 M26) else (rX7_draw_b127 x1 M17))
set_option maxRecDepth 100000 in
set_option maxHeartbeats 4000000 in
theorem sX7_draw_b100 {p : Program} {l : Launch} {e : Env} {s : State} {m : MethodId} {args : Array Value} {below : List Frame} {meth : Method} {c : Code} {G : Gg} {r : Int32} {M' : Mm} (X : Cx p m c meth cX7_draw 4 s args RX7 (some .int) G) : ∀ (x1 : Int32) (M : Mm) (ls : Array Slot) (H : Heap) (locs : List Loc), lv_has ls 4 [(0, .ref (G.2.2.2 31)), (1, .int x1)] → Wo G s M H locs → rX7_draw_b100 x1 M = some (r, M') → W p l e (rm 5) s m args below meth c H locs 0 0 (Qi below args s G r M') (F0 m 100 ls []) := by
    intro x1 M ls H locs hl hW h
    unfold rX7_draw_b100 at h
    have hx := X.1.1
    have hb := X.1.2.1
    refine lv_aload_n hx hb dX7_draw_100 rfl (lv_at hl 0 rfl) ?_
    refine lv_iconst (v := 0) hx hb dX7_draw_101 (by decide) ?_
    obtain ⟨M17, e16, h⟩ := ob_bind h
    refine bg_callv X hW (cX7_close_k e16) rfl rfl kw7_106 kd_X7_close rfl rfl ⟨Nat.le_of_ble_eq_true rfl, Nat.le_of_ble_eq_true rfl⟩ ⟨Nat.le_refl _, Nat.le_refl _⟩ hl.1 (Nat.le_of_ble_eq_true rfl) dX7_draw_102 (fun H locs hW => ?_)
    refine lv_iload_n hx hb dX7_draw_105 rfl (lv_at hl 1 rfl) ?_
    refine lv_bipush (v := 7) hx hb dX7_draw_106 (by decide) ?_
    refine lv_icmp_ne (tgt := 127) hx hb dX7_draw_108 (by decide) (fun c18 => ?_) (fun c18 => ?_)
    · have h := ob_neg c18 h
      exact sX7_draw_b127 X x1 M17 _ _ _ (lv_sub hl [0, 1] rfl) hW h
    · have h := ob_pos c18 h
      refine lv_aload_n hx hb dX7_draw_111 rfl (lv_at hl 0 rfl) ?_
      refine lv_dup hx hb dX7_draw_112 rfl ?_
      refine gf7_78 (cN := 31) X hW rfl dX7_draw_113 ?_
      refine lv_iconst (v := 1) hx hb dX7_draw_116 (by decide) ?_
      refine lv_aload_n hx hb dX7_draw_117 rfl (lv_at hl 0 rfl) ?_
      refine lv_iconst (v := 4) hx hb dX7_draw_118 (by decide) ?_
      obtain ⟨r25, M24, e23, h⟩ := ob_bd2 h
      refine bg_calli X hW (cX7_draws_k e23) rfl rfl kw7_99 kd_X7_draws rfl rfl ⟨Nat.le_of_ble_eq_true rfl, Nat.le_of_ble_eq_true rfl⟩ ⟨Nat.le_refl _, Nat.le_refl _⟩ hl.1 (Nat.le_of_ble_eq_true rfl) dX7_draw_119 (fun H locs hW => ?_)
      refine lv_iadd hx hb dX7_draw_122 ?_
      refine lv_isub hx hb dX7_draw_123 ?_
      refine pf7_78 (cN := 31) X hW rfl dX7_draw_124 (fun M26 eM26 H locs hW => ?_)
      have h := ob_lt eM26 h
      exact sX7_draw_b127 X x1 M26 _ _ _ (lv_sub hl [0, 1] rfl) hW h
def rX7_draw_b69_s (q69 : Int32 → Int32 → Int32 → Mm → Option (Int32 × Mm)) (x1 : Int32) (x2 : Int32) (x3 : Int32) (M : Mm) : Option (Int32 × Mm) :=
    (if x2 ≤ x3 then (rX7_draw_b100 x1 M) else (bd2 (rX7_draws (256 : Int32) M) fun r32 M31 => Option.bind (rX7_lay r32 M31) fun M34 => lt_ (x3 + 1) fun y35 => q69 x1 x2 y35 M34))
def rX7_draw_b69 : Nat → Int32 → Int32 → Int32 → Mm → Option (Int32 × Mm)
  | 0 => fun _ _ _ _ => none
  | n + 1 => rX7_draw_b69_s (rX7_draw_b69 n)
set_option maxRecDepth 100000 in
set_option maxHeartbeats 4000000 in
theorem sX7_draw_b69 {p : Program} {l : Launch} {e : Env} {s : State} {m : MethodId} {args : Array Value} {below : List Frame} {meth : Method} {c : Code} {G : Gg} {r : Int32} {M' : Mm} (X : Cx p m c meth cX7_draw 4 s args RX7 (some .int) G) : ∀ (n : Nat), ∀ (x1 : Int32) (x2 : Int32) (x3 : Int32) (M : Mm) (ls : Array Slot) (H : Heap) (locs : List Loc), lv_has ls 4 [(0, .ref (G.2.2.2 31)), (1, .int x1), (2, .int x2), (3, .int x3)] → Wo G s M H locs → rX7_draw_b69 n x1 x2 x3 M = some (r, M') → W p l e (rm 5) s m args below meth c H locs 0 0 (Qi below args s G r M') (F0 m 69 ls []) := by
  intro n
  induction n with
  | zero =>
    intro x1 x2 x3 M ls H locs hl hW h
    cases (show (none : Option (Int32 × Mm)) = some (r, M') from h)
  | succ n hq690 =>
    have hq69 : ∀ (x1 : Int32) (x2 : Int32) (x3 : Int32) (M : Mm) (ls : Array Slot) (H : Heap) (locs : List Loc), lv_has ls 4 [(0, .ref (G.2.2.2 31)), (1, .int x1), (2, .int x2), (3, .int x3)] → Wo G s M H locs → (rX7_draw_b69 n) x1 x2 x3 M = some (r, M') → W p l e (rm 5) s m args below meth c H locs 0 0 (Qi below args s G r M') (F0 m 69 ls []) := hq690
    intro x1 x2 x3 M ls H locs hl hW h
    have h : rX7_draw_b69_s (rX7_draw_b69 n) x1 x2 x3 M = some (r, M') := h
    unfold rX7_draw_b69_s at h
    have hx := X.1.1
    have hb := X.1.2.1
    refine lv_iload_n hx hb dX7_draw_69 rfl (lv_at hl 3 rfl) ?_
    refine lv_iload_n hx hb dX7_draw_70 rfl (lv_at hl 2 rfl) ?_
    refine lv_icmp_ge (tgt := 91) hx hb dX7_draw_71 (by decide) (fun c29 => ?_) (fun c29 => ?_)
    · have h := ob_pos c29 h
      refine lv_goto (tgt := 100) hx hb dX7_draw_91 (by decide) ?_
      exact sX7_draw_b100 X x1 M _ _ _ (lv_sub hl [0, 1] rfl) hW h
    · have h := ob_neg c29 h
      refine lv_aload_n hx hb dX7_draw_74 rfl (lv_at hl 0 rfl) ?_
      refine lv_aload_n hx hb dX7_draw_75 rfl (lv_at hl 0 rfl) ?_
      refine lv_sipush (v := 256) hx hb dX7_draw_76 (by decide) ?_
      obtain ⟨r32, M31, e30, h⟩ := ob_bd2 h
      refine bg_calli X hW (cX7_draws_k e30) rfl rfl kw7_99 kd_X7_draws rfl rfl ⟨Nat.le_of_ble_eq_true rfl, Nat.le_of_ble_eq_true rfl⟩ ⟨Nat.le_refl _, Nat.le_refl _⟩ hl.1 (Nat.le_of_ble_eq_true rfl) dX7_draw_79 (fun H locs hW => ?_)
      obtain ⟨M34, e33, h⟩ := ob_bind h
      refine bg_callv X hW (cX7_lay_k e33) rfl rfl kw7_83 kd_X7_lay rfl rfl ⟨Nat.le_of_ble_eq_true rfl, Nat.le_of_ble_eq_true rfl⟩ ⟨Nat.le_refl _, Nat.le_refl _⟩ hl.1 (Nat.le_of_ble_eq_true rfl) dX7_draw_82 (fun H locs hW => ?_)
      obtain ⟨y35, ey35⟩ : ∃ y : Int32, y = (x3 + 1) := ⟨_, rfl⟩
      have h := ob_lt ey35 h
      refine lv_iinc (v := y35) (lv' := [(3, .int y35), (0, .ref (G.2.2.2 31)), (1, .int x1), (2, .int x2)]) hx hb dX7_draw_85 hl (k := 3) rfl (by rw [ey35]; rfl) (by decide) rfl (fun ls hl => ?_)
      refine lv_goto (tgt := 69) hx hb dX7_draw_88 (by decide) ?_
      exact hq69 x1 x2 y35 M34 _ _ _ (lv_sub hl [1, 2, 3, 0] rfl) hW h
def rX7_draw (a1 : Int32) (a2 : Int32) (M : Mm) : Option (Int32 × Mm) :=
    (bd2 (rX7_in (a1).toInt64 (0 : Int64) (9 : Int64) M) fun r3 M2 => if r3 = 0 then (some ((-2 : Int32), M2)) else (bd2 (rX7_in (a2).toInt64 (0 : Int64) (60 : Int64) M2) fun r7 M6 => if r7 = 0 then (some ((-2 : Int32), M6)) else (lt_ (st M6 31 2 (0 : Int32)) fun M9 => if a1 = (3 : Int32) then (Option.bind (rX7_deep a2 M9) fun M37 => some ((M37.1 31 2), M37)) else (Option.bind (rX7_lays (80 : Int32) (75 : Int32) M9) fun M12 => if a1 = 0 then (Option.bind (rX7_lays (1 : Int32) (255 : Int32) M12) fun M28 => rX7_draw_b69 FU a1 a2 (0 : Int32) M28) else (Option.bind (rX7_family a1 a2 M12) fun M15 => rX7_draw_b100 a1 M15)))))
set_option maxRecDepth 100000 in
set_option maxHeartbeats 4000000 in
theorem cX7_draw_k {l : Launch} {G : Gg} {a1 : Int32} {a2 : Int32} {M M' : Mm} {r : Int32} (h : rX7_draw a1 a2 M = some (r, M')) : CTi l yX7_draw cX7_draw 4 (some .int) 5 G [.ref (G.2.2.2 31), .int a1, .int a2] M r M' := by
  unfold rX7_draw at h
  refine ct_i (by decide) (Nat.le_of_ble_eq_true rfl) (fun p e s m below meth c ls X hl hW => ?_)
  have hx := X.1.1
  have hb := X.1.2.1
  refine lv_iload_n hx hb dX7_draw_0 rfl (lv_at hl 1 rfl) ?_
  refine lv_i2l hx hb dX7_draw_1 rfl ?_
  refine lv_lconst (v := 0) hx hb dX7_draw_2 (by decide) ?_
  refine lv_ldc2 (v := 9) hx hb X.1.2.2.2.1 (X.1.2.2.2.2 _ mw661) dX7_draw_3 ?_
  obtain ⟨r3, M2, e1, h⟩ := ob_bd2 h
  refine bg_calls X hW (cX7_in_k e1) kw7_74 kd_X7_in rfl rfl ⟨Nat.le_of_ble_eq_true rfl, Nat.le_of_ble_eq_true rfl⟩ ⟨Nat.le_refl _, Nat.le_refl _⟩ hl.1 (Nat.le_of_ble_eq_true rfl) dX7_draw_6 (fun H locs hW => ?_)
  refine lv_if_eq (tgt := 24) hx hb dX7_draw_9 (by decide) (fun c4 => ?_) (fun c4 => ?_)
  · have h := ob_pos c4 h
    refine lv_bipush (v := (-2)) hx hb dX7_draw_24 (by decide) ?_
    exact rt_i X hW h dX7_draw_26
  · have h := ob_neg c4 h
    refine lv_iload_n hx hb dX7_draw_12 rfl (lv_at hl 2 rfl) ?_
    refine lv_i2l hx hb dX7_draw_13 rfl ?_
    refine lv_lconst (v := 0) hx hb dX7_draw_14 (by decide) ?_
    refine lv_ldc2 (v := 60) hx hb X.1.2.2.2.1 (X.1.2.2.2.2 _ mw662) dX7_draw_15 ?_
    obtain ⟨r7, M6, e5, h⟩ := ob_bd2 h
    refine bg_calls X hW (cX7_in_k e5) kw7_74 kd_X7_in rfl rfl ⟨Nat.le_of_ble_eq_true rfl, Nat.le_of_ble_eq_true rfl⟩ ⟨Nat.le_refl _, Nat.le_refl _⟩ hl.1 (Nat.le_of_ble_eq_true rfl) dX7_draw_18 (fun H locs hW => ?_)
    refine lv_if_ne (tgt := 27) hx hb dX7_draw_21 (by decide) (fun c8 => ?_) (fun c8 => ?_)
    · have h := ob_neg c8 h
      refine lv_aload_n hx hb dX7_draw_27 rfl (lv_at hl 0 rfl) ?_
      refine lv_iconst (v := 0) hx hb dX7_draw_28 (by decide) ?_
      refine pf7_78 (cN := 31) X hW rfl dX7_draw_29 (fun M9 eM9 H locs hW => ?_)
      have h := ob_lt eM9 h
      refine lv_iload_n hx hb dX7_draw_32 rfl (lv_at hl 1 rfl) ?_
      refine lv_iconst (v := 3) hx hb dX7_draw_33 (by decide) ?_
      refine lv_icmp_ne (tgt := 47) hx hb dX7_draw_34 (by decide) (fun c10 => ?_) (fun c10 => ?_)
      · have h := ob_neg c10 h
        refine lv_aload_n hx hb dX7_draw_47 rfl (lv_at hl 0 rfl) ?_
        refine lv_bipush (v := 80) hx hb dX7_draw_48 (by decide) ?_
        refine lv_bipush (v := 75) hx hb dX7_draw_50 (by decide) ?_
        obtain ⟨M12, e11, h⟩ := ob_bind h
        refine bg_callv X hW (cX7_lays_k e11) rfl rfl kw7_95 kd_X7_lays rfl rfl ⟨Nat.le_of_ble_eq_true rfl, Nat.le_of_ble_eq_true rfl⟩ ⟨Nat.le_refl _, Nat.le_refl _⟩ hl.1 (Nat.le_of_ble_eq_true rfl) dX7_draw_52 (fun H locs hW => ?_)
        refine lv_iload_n hx hb dX7_draw_55 rfl (lv_at hl 1 rfl) ?_
        refine lv_if_ne (tgt := 94) hx hb dX7_draw_56 (by decide) (fun c13 => ?_) (fun c13 => ?_)
        · have h := ob_neg c13 h
          refine lv_aload_n hx hb dX7_draw_94 rfl (lv_at hl 0 rfl) ?_
          refine lv_iload_n hx hb dX7_draw_95 rfl (lv_at hl 1 rfl) ?_
          refine lv_iload_n hx hb dX7_draw_96 rfl (lv_at hl 2 rfl) ?_
          obtain ⟨M15, e14, h⟩ := ob_bind h
          refine bg_callv X hW (cX7_family_k e14) rfl rfl kw7_119 kd_X7_family rfl rfl ⟨Nat.le_of_ble_eq_true rfl, Nat.le_of_ble_eq_true rfl⟩ ⟨Nat.le_refl _, Nat.le_refl _⟩ hl.1 (Nat.le_of_ble_eq_true rfl) dX7_draw_97 (fun H locs hW => ?_)
          exact sX7_draw_b100 X a1 M15 _ _ _ (lv_sub hl [0, 1] rfl) hW h
        · have h := ob_pos c13 h
          refine lv_aload_n hx hb dX7_draw_59 rfl (lv_at hl 0 rfl) ?_
          refine lv_iconst (v := 1) hx hb dX7_draw_60 (by decide) ?_
          refine lv_sipush (v := 255) hx hb dX7_draw_61 (by decide) ?_
          obtain ⟨M28, e27, h⟩ := ob_bind h
          refine bg_callv X hW (cX7_lays_k e27) rfl rfl kw7_95 kd_X7_lays rfl rfl ⟨Nat.le_of_ble_eq_true rfl, Nat.le_of_ble_eq_true rfl⟩ ⟨Nat.le_refl _, Nat.le_refl _⟩ hl.1 (Nat.le_of_ble_eq_true rfl) dX7_draw_64 (fun H locs hW => ?_)
          refine lv_iconst (v := 0) hx hb dX7_draw_67 (by decide) ?_
          refine lv_istore_n (lv' := [(3, .int (0 : Int32)), (0, .ref (G.2.2.2 31)), (1, .int a1), (2, .int a2)]) hx hb dX7_draw_68 rfl hl (by decide) rfl (fun ls hl => ?_)
          exact sX7_draw_b69 X FU a1 a2 (0 : Int32) M28 _ _ _ (lv_sub hl [1, 2, 3, 0] rfl) hW h
      · have h := ob_pos c10 h
        refine lv_aload_n hx hb dX7_draw_37 rfl (lv_at hl 0 rfl) ?_
        refine lv_iload_n hx hb dX7_draw_38 rfl (lv_at hl 2 rfl) ?_
        obtain ⟨M37, e36, h⟩ := ob_bind h
        refine bg_callv X hW (cX7_deep_k e36) rfl rfl kw7_116 kd_X7_deep rfl rfl ⟨Nat.le_of_ble_eq_true rfl, Nat.le_of_ble_eq_true rfl⟩ ⟨Nat.le_refl _, Nat.le_refl _⟩ hl.1 (Nat.le_of_ble_eq_true rfl) dX7_draw_39 (fun H locs hW => ?_)
        refine lv_aload_n hx hb dX7_draw_42 rfl (lv_at hl 0 rfl) ?_
        refine gf7_78 (cN := 31) X hW rfl dX7_draw_43 ?_
        exact rt_i X hW h dX7_draw_46
    · have h := ob_pos c8 h
      refine lv_bipush (v := (-2)) hx hb dX7_draw_24 (by decide) ?_
      exact rt_i X hW h dX7_draw_26
def rX7_fails (a1 : Int32) (a2 : Int32) (M : Mm) : Option Mm :=
    (lt_ (st M 31 8 a1) fun M1 => lt_ (st M1 31 9 a2) fun M2 => some M2)
set_option maxRecDepth 100000 in
set_option maxHeartbeats 4000000 in
theorem cX7_fails_k {l : Launch} {G : Gg} {a1 : Int32} {a2 : Int32} {M M' : Mm} (h : rX7_fails a1 a2 M = some M') : CTv l yX7_fails cX7_fails 3 0 G [.ref (G.2.2.2 31), .int a1, .int a2] M M' := by
  unfold rX7_fails at h
  refine ct_v (by decide) (Nat.le_of_ble_eq_true rfl) (fun p e s m below meth c ls X hl hW => ?_)
  have hx := X.1.1
  have hb := X.1.2.1
  refine lv_aload_n hx hb dX7_fails_0 rfl (lv_at hl 0 rfl) ?_
  refine lv_iload_n hx hb dX7_fails_1 rfl (lv_at hl 1 rfl) ?_
  refine pf7_122 (cN := 31) X hW rfl dX7_fails_2 (fun M1 eM1 H locs hW => ?_)
  have h := ob_lt eM1 h
  refine lv_aload_n hx hb dX7_fails_5 rfl (lv_at hl 0 rfl) ?_
  refine lv_iload_n hx hb dX7_fails_6 rfl (lv_at hl 2 rfl) ?_
  refine pf7_16 (cN := 31) X hW rfl dX7_fails_7 (fun M2 eM2 H locs hW => ?_)
  have h := ob_lt eM2 h
  exact rt_v X hW h dX7_fails_10
def rX7_begins_b192 (q134 : Int32 → Int32 → Int32 → Mm → Option Mm) (x1 : Int32) (x2 : Int32) (x3 : Int32) (M : Mm) : Option Mm :=
    (lt_ (x3 + 1) fun y23 => q134 x1 x2 y23 M)
set_option maxRecDepth 100000 in
set_option maxHeartbeats 4000000 in
theorem sX7_begins_b192 {p : Program} {l : Launch} {e : Env} {s : State} {m : MethodId} {args : Array Value} {below : List Frame} {meth : Method} {c : Code} {G : Gg} {M' : Mm} (X : Cx p m c meth cX7_begins 4 s args RX7 none G) {q134 : Int32 → Int32 → Int32 → Mm → Option Mm} (hq134 : ∀ (x1 : Int32) (x2 : Int32) (x3 : Int32) (M : Mm) (ls : Array Slot) (H : Heap) (locs : List Loc), lv_has ls 4 [(0, .ref (G.2.2.2 31)), (1, .int x1), (2, .int x2), (3, .int x3)] → Wo G s M H locs → q134 x1 x2 x3 M = some M' → W p l e (rm 1) s m args below meth c H locs 0 0 (Qv below args s G M') (F0 m 134 ls [])) : ∀ (x1 : Int32) (x2 : Int32) (x3 : Int32) (M : Mm) (ls : Array Slot) (H : Heap) (locs : List Loc), lv_has ls 4 [(0, .ref (G.2.2.2 31)), (1, .int x1), (2, .int x2), (3, .int x3)] → Wo G s M H locs → rX7_begins_b192 q134 x1 x2 x3 M = some M' → W p l e (rm 1) s m args below meth c H locs 0 0 (Qv below args s G M') (F0 m 192 ls []) := by
    intro x1 x2 x3 M ls H locs hl hW h
    unfold rX7_begins_b192 at h
    have hx := X.1.1
    have hb := X.1.2.1
    obtain ⟨y23, ey23⟩ : ∃ y : Int32, y = (x3 + 1) := ⟨_, rfl⟩
    have h := ob_lt ey23 h
    refine lv_iinc (v := y23) (lv' := [(3, .int y23), (0, .ref (G.2.2.2 31)), (1, .int x1), (2, .int x2)]) hx hb dX7_begins_192 hl (k := 3) rfl (by rw [ey23]; rfl) (by decide) rfl (fun ls hl => ?_)
    refine lv_goto (tgt := 134) hx hb dX7_begins_195 (by decide) ?_
    exact hq134 x1 x2 y23 M _ _ _ (lv_sub hl [1, 2, 3, 0] rfl) hW h
def rX7_begins_b181 (q134 : Int32 → Int32 → Int32 → Mm → Option Mm) (x1 : Int32) (x2 : Int32) (x3 : Int32) (s0 : Int32) (s1 : Int32) (M : Mm) : Option Mm :=
    (if s1 = s0 then (rX7_begins_b192 q134 x1 x2 x3 M) else (Option.bind (rX7_fails (1 : Int32) (x1 + x3) M) fun M25 => rX7_begins_b192 q134 x1 x2 x3 M25))
set_option maxRecDepth 100000 in
set_option maxHeartbeats 4000000 in
theorem sX7_begins_b181 {p : Program} {l : Launch} {e : Env} {s : State} {m : MethodId} {args : Array Value} {below : List Frame} {meth : Method} {c : Code} {G : Gg} {M' : Mm} (X : Cx p m c meth cX7_begins 4 s args RX7 none G) {q134 : Int32 → Int32 → Int32 → Mm → Option Mm} (hq134 : ∀ (x1 : Int32) (x2 : Int32) (x3 : Int32) (M : Mm) (ls : Array Slot) (H : Heap) (locs : List Loc), lv_has ls 4 [(0, .ref (G.2.2.2 31)), (1, .int x1), (2, .int x2), (3, .int x3)] → Wo G s M H locs → q134 x1 x2 x3 M = some M' → W p l e (rm 1) s m args below meth c H locs 0 0 (Qv below args s G M') (F0 m 134 ls [])) : ∀ (x1 : Int32) (x2 : Int32) (x3 : Int32) (s0 : Int32) (s1 : Int32) (M : Mm) (ls : Array Slot) (H : Heap) (locs : List Loc), lv_has ls 4 [(0, .ref (G.2.2.2 31)), (1, .int x1), (2, .int x2), (3, .int x3)] → Wo G s M H locs → rX7_begins_b181 q134 x1 x2 x3 s0 s1 M = some M' → W p l e (rm 1) s m args below meth c H locs 0 0 (Qv below args s G M') (F0 m 181 ls [.int s0, .int s1]) := by
    intro x1 x2 x3 s0 s1 M ls H locs hl hW h
    unfold rX7_begins_b181 at h
    have hx := X.1.1
    have hb := X.1.2.1
    refine lv_icmp_eq (tgt := 192) hx hb dX7_begins_181 (by decide) (fun c22 => ?_) (fun c22 => ?_)
    · have h := ob_pos c22 h
      exact sX7_begins_b192 X hq134 x1 x2 x3 M _ _ _ (lv_sub hl [0, 1, 2, 3] rfl) hW h
    · have h := ob_neg c22 h
      refine lv_aload_n hx hb dX7_begins_184 rfl (lv_at hl 0 rfl) ?_
      refine lv_iconst (v := 1) hx hb dX7_begins_185 (by decide) ?_
      refine lv_iload_n hx hb dX7_begins_186 rfl (lv_at hl 1 rfl) ?_
      refine lv_iload_n hx hb dX7_begins_187 rfl (lv_at hl 3 rfl) ?_
      refine lv_iadd hx hb dX7_begins_188 ?_
      obtain ⟨M25, e24, h⟩ := ob_bind h
      refine bg_callv X hW (cX7_fails_k e24) rfl rfl kw7_131 kd_X7_fails rfl rfl ⟨Nat.le_of_ble_eq_true rfl, Nat.le_of_ble_eq_true rfl⟩ ⟨Nat.le_refl _, Nat.le_refl _⟩ hl.1 (Nat.le_of_ble_eq_true rfl) dX7_begins_189 (fun H locs hW => ?_)
      exact sX7_begins_b192 X hq134 x1 x2 x3 M25 _ _ _ (lv_sub hl [0, 1, 2, 3] rfl) hW h
def rX7_begins_b134_s (q134 : Int32 → Int32 → Int32 → Mm → Option Mm) (x1 : Int32) (x2 : Int32) (x3 : Int32) (M : Mm) : Option Mm :=
    (if (2 : Int32) ≤ x3 then (some M) else (if (M.1 31 8) = 0 then (if (x1 + x3) < x2 then (if (x1 + x3) < 0 ∨ 1200 ≤ ((x1 + x3)).toNatClampNeg then none else if x3 = 0 then (rX7_begins_b181 q134 x1 x2 x3 (80 : Int32) (M.1 32 ((x1 + x3)).toNatClampNeg) M) else (rX7_begins_b181 q134 x1 x2 x3 (75 : Int32) (M.1 32 ((x1 + x3)).toNatClampNeg) M)) else (Option.bind (rX7_fails (3 : Int32) x2 M) fun M27 => rX7_begins_b192 q134 x1 x2 x3 M27)) else (some M)))
def rX7_begins_b134 : Nat → Int32 → Int32 → Int32 → Mm → Option Mm
  | 0 => fun _ _ _ _ => none
  | n + 1 => rX7_begins_b134_s (rX7_begins_b134 n)
set_option maxRecDepth 100000 in
set_option maxHeartbeats 4000000 in
theorem sX7_begins_b134 {p : Program} {l : Launch} {e : Env} {s : State} {m : MethodId} {args : Array Value} {below : List Frame} {meth : Method} {c : Code} {G : Gg} {M' : Mm} (X : Cx p m c meth cX7_begins 4 s args RX7 none G) : ∀ (n : Nat), ∀ (x1 : Int32) (x2 : Int32) (x3 : Int32) (M : Mm) (ls : Array Slot) (H : Heap) (locs : List Loc), lv_has ls 4 [(0, .ref (G.2.2.2 31)), (1, .int x1), (2, .int x2), (3, .int x3)] → Wo G s M H locs → rX7_begins_b134 n x1 x2 x3 M = some M' → W p l e (rm 1) s m args below meth c H locs 0 0 (Qv below args s G M') (F0 m 134 ls []) := by
  intro n
  induction n with
  | zero =>
    intro x1 x2 x3 M ls H locs hl hW h
    cases (show (none : Option Mm) = some M' from h)
  | succ n hq1340 =>
    have hq134 : ∀ (x1 : Int32) (x2 : Int32) (x3 : Int32) (M : Mm) (ls : Array Slot) (H : Heap) (locs : List Loc), lv_has ls 4 [(0, .ref (G.2.2.2 31)), (1, .int x1), (2, .int x2), (3, .int x3)] → Wo G s M H locs → (rX7_begins_b134 n) x1 x2 x3 M = some M' → W p l e (rm 1) s m args below meth c H locs 0 0 (Qv below args s G M') (F0 m 134 ls []) := hq1340
    intro x1 x2 x3 M ls H locs hl hW h
    have h : rX7_begins_b134_s (rX7_begins_b134 n) x1 x2 x3 M = some M' := h
    unfold rX7_begins_b134_s at h
    have hx := X.1.1
    have hb := X.1.2.1
    refine lv_iload_n hx hb dX7_begins_134 rfl (lv_at hl 3 rfl) ?_
    refine lv_iconst (v := 2) hx hb dX7_begins_135 (by decide) ?_
    refine lv_icmp_ge (tgt := 198) hx hb dX7_begins_136 (by decide) (fun c17 => ?_) (fun c17 => ?_)
    · have h := ob_pos c17 h
      exact rt_v X hW h dX7_begins_198
    · have h := ob_neg c17 h
      refine lv_aload_n hx hb dX7_begins_139 rfl (lv_at hl 0 rfl) ?_
      refine gf7_122 (cN := 31) X hW rfl dX7_begins_140 ?_
      refine lv_if_ne (tgt := 198) hx hb dX7_begins_143 (by decide) (fun c18 => ?_) (fun c18 => ?_)
      · have h := ob_neg c18 h
        exact rt_v X hW h dX7_begins_198
      · have h := ob_pos c18 h
        refine lv_iload_n hx hb dX7_begins_146 rfl (lv_at hl 1 rfl) ?_
        refine lv_iload_n hx hb dX7_begins_147 rfl (lv_at hl 3 rfl) ?_
        refine lv_iadd hx hb dX7_begins_148 ?_
        refine lv_iload_n hx hb dX7_begins_149 rfl (lv_at hl 2 rfl) ?_
        refine lv_icmp_lt (tgt := 162) hx hb dX7_begins_150 (by decide) (fun c19 => ?_) (fun c19 => ?_)
        · have h := ob_pos c19 h
          refine lv_aload_n hx hb dX7_begins_162 rfl (lv_at hl 0 rfl) ?_
          refine gf7_7 (cN := 31) X hW rfl dX7_begins_163 ?_
          refine lv_iload_n hx hb dX7_begins_166 rfl (lv_at hl 1 rfl) ?_
          refine lv_iload_n hx hb dX7_begins_167 rfl (lv_at hl 3 rfl) ?_
          refine lv_iadd hx hb dX7_begins_168 ?_
          obtain ⟨g20, h⟩ := ob_gd h
          refine bg_ald (cN := 32) X hW (n := 1200) rfl g20 dX7_begins_169 ?_
          refine lv_iload_n hx hb dX7_begins_170 rfl (lv_at hl 3 rfl) ?_
          refine lv_if_ne (tgt := 179) hx hb dX7_begins_171 (by decide) (fun c21 => ?_) (fun c21 => ?_)
          · have h := ob_neg c21 h
            refine lv_bipush (v := 75) hx hb dX7_begins_179 (by decide) ?_
            exact sX7_begins_b181 X hq134 x1 x2 x3 (75 : Int32) (M.1 32 ((x1 + x3)).toNatClampNeg) M _ _ _ (lv_sub hl [0, 1, 2, 3] rfl) hW h
          · have h := ob_pos c21 h
            refine lv_bipush (v := 80) hx hb dX7_begins_174 (by decide) ?_
            refine lv_goto (tgt := 181) hx hb dX7_begins_176 (by decide) ?_
            exact sX7_begins_b181 X hq134 x1 x2 x3 (80 : Int32) (M.1 32 ((x1 + x3)).toNatClampNeg) M _ _ _ (lv_sub hl [0, 1, 2, 3] rfl) hW h
        · have h := ob_neg c19 h
          refine lv_aload_n hx hb dX7_begins_153 rfl (lv_at hl 0 rfl) ?_
          refine lv_iconst (v := 3) hx hb dX7_begins_154 (by decide) ?_
          refine lv_iload_n hx hb dX7_begins_155 rfl (lv_at hl 2 rfl) ?_
          obtain ⟨M27, e26, h⟩ := ob_bind h
          refine bg_callv X hW (cX7_fails_k e26) rfl rfl kw7_131 kd_X7_fails rfl rfl ⟨Nat.le_of_ble_eq_true rfl, Nat.le_of_ble_eq_true rfl⟩ ⟨Nat.le_refl _, Nat.le_refl _⟩ hl.1 (Nat.le_of_ble_eq_true rfl) dX7_begins_156 (fun H locs hW => ?_)
          refine lv_goto (tgt := 192) hx hb dX7_begins_159 (by decide) ?_
          exact sX7_begins_b192 X hq134 x1 x2 x3 M27 _ _ _ (lv_sub hl [0, 1, 2, 3] rfl) hW h
def rX7_begins_b119 (x1 : Int32) (x2 : Int32) (s0 : Int32) (M : Mm) : Option Mm :=
    (lt_ (st M 31 11 s0) fun M15 => lt_ (st M15 31 14 ((M15.1 31 14) + (1 : Int32))) fun M16 => rX7_begins_b134 FU x1 x2 (0 : Int32) M16)
set_option maxRecDepth 100000 in
set_option maxHeartbeats 4000000 in
theorem sX7_begins_b119 {p : Program} {l : Launch} {e : Env} {s : State} {m : MethodId} {args : Array Value} {below : List Frame} {meth : Method} {c : Code} {G : Gg} {M' : Mm} (X : Cx p m c meth cX7_begins 4 s args RX7 none G) : ∀ (x1 : Int32) (x2 : Int32) (s0 : Int32) (M : Mm) (ls : Array Slot) (H : Heap) (locs : List Loc), lv_has ls 4 [(0, .ref (G.2.2.2 31)), (1, .int x1), (2, .int x2)] → Wo G s M H locs → rX7_begins_b119 x1 x2 s0 M = some M' → W p l e (rm 1) s m args below meth c H locs 0 0 (Qv below args s G M') (F0 m 119 ls [.int s0, .ref (G.2.2.2 31)]) := by
    intro x1 x2 s0 M ls H locs hl hW h
    unfold rX7_begins_b119 at h
    have hx := X.1.1
    have hb := X.1.2.1
    refine pf7_143 (cN := 31) X hW rfl dX7_begins_119 (fun M15 eM15 H locs hW => ?_)
    have h := ob_lt eM15 h
    refine lv_aload_n hx hb dX7_begins_122 rfl (lv_at hl 0 rfl) ?_
    refine lv_dup hx hb dX7_begins_123 rfl ?_
    refine gf7_137 (cN := 31) X hW rfl dX7_begins_124 ?_
    refine lv_iconst (v := 1) hx hb dX7_begins_127 (by decide) ?_
    refine lv_iadd hx hb dX7_begins_128 ?_
    refine pf7_137 (cN := 31) X hW rfl dX7_begins_129 (fun M16 eM16 H locs hW => ?_)
    have h := ob_lt eM16 h
    refine lv_iconst (v := 0) hx hb dX7_begins_132 (by decide) ?_
    refine lv_istore_n (lv' := [(3, .int (0 : Int32)), (0, .ref (G.2.2.2 31)), (1, .int x1), (2, .int x2)]) hx hb dX7_begins_133 rfl hl (by decide) rfl (fun ls hl => ?_)
    exact sX7_begins_b134 X FU x1 x2 (0 : Int32) M16 _ _ _ (lv_sub hl [1, 2, 3, 0] rfl) hW h
def rX7_begins (a1 : Int32) (a2 : Int32) (M : Mm) : Option Mm :=
    (if ((M.1 31 10) + (4 : Int32)) ≤ (M.1 31 6) then (lt_ (st M 31 10 ((M.1 31 10) + (4 : Int32))) fun M2 => lt_ (st M2 31 12 ((M2.1 31 12) + (1 : Int32))) fun M3 => if (M3.1 31 14) < 0 ∨ 10 ≤ ((M3.1 31 14)).toNatClampNeg then none else lt_ (st M3 34 ((M3.1 31 14)).toNatClampNeg a1) fun M5 => if (M5.1 31 14) < 0 ∨ 10 ≤ ((M5.1 31 14)).toNatClampNeg then none else lt_ (st M5 35 ((M5.1 31 14)).toNatClampNeg a2) fun M7 => if (M7.1 31 14) < 0 ∨ 10 ≤ ((M7.1 31 14)).toNatClampNeg then none else lt_ (st M7 37 ((M7.1 31 14)).toNatClampNeg (M7.1 31 4)) fun M9 => if (M9.1 31 14) < 0 ∨ 10 ≤ ((M9.1 31 14)).toNatClampNeg then none else lt_ (st M9 38 ((M9.1 31 14)).toNatClampNeg (0 : Int32)) fun M11 => if (M11.1 31 14) < 0 ∨ 10 ≤ ((M11.1 31 14)).toNatClampNeg then none else lt_ (st M11 36 ((M11.1 31 14)).toNatClampNeg (a1 + (2 : Int32))) fun M13 => if (M13.1 31 14) ≤ (M13.1 31 11) then (rX7_begins_b119 a1 a2 (M13.1 31 11) M13) else (rX7_begins_b119 a1 a2 (M13.1 31 14) M13)) else (Option.bind (rX7_fails (12 : Int32) a1 M) fun M29 => some M29))
set_option maxRecDepth 100000 in
set_option maxHeartbeats 4000000 in
theorem cX7_begins_k {l : Launch} {G : Gg} {a1 : Int32} {a2 : Int32} {M M' : Mm} (h : rX7_begins a1 a2 M = some M') : CTv l yX7_begins cX7_begins 4 1 G [.ref (G.2.2.2 31), .int a1, .int a2] M M' := by
  unfold rX7_begins at h
  refine ct_v (by decide) (Nat.le_of_ble_eq_true rfl) (fun p e s m below meth c ls X hl hW => ?_)
  have hx := X.1.1
  have hb := X.1.2.1
  refine lv_aload_n hx hb dX7_begins_0 rfl (lv_at hl 0 rfl) ?_
  refine gf7_125 (cN := 31) X hW rfl dX7_begins_1 ?_
  refine lv_iconst (v := 4) hx hb dX7_begins_4 (by decide) ?_
  refine lv_iadd hx hb dX7_begins_5 ?_
  refine lv_aload_n hx hb dX7_begins_6 rfl (lv_at hl 0 rfl) ?_
  refine gf7_128 (cN := 31) X hW rfl dX7_begins_7 ?_
  refine lv_icmp_le (tgt := 21) hx hb dX7_begins_10 (by decide) (fun c1 => ?_) (fun c1 => ?_)
  · have h := ob_pos c1 h
    refine lv_aload_n hx hb dX7_begins_21 rfl (lv_at hl 0 rfl) ?_
    refine lv_dup hx hb dX7_begins_22 rfl ?_
    refine gf7_125 (cN := 31) X hW rfl dX7_begins_23 ?_
    refine lv_iconst (v := 4) hx hb dX7_begins_26 (by decide) ?_
    refine lv_iadd hx hb dX7_begins_27 ?_
    refine pf7_125 (cN := 31) X hW rfl dX7_begins_28 (fun M2 eM2 H locs hW => ?_)
    have h := ob_lt eM2 h
    refine lv_aload_n hx hb dX7_begins_31 rfl (lv_at hl 0 rfl) ?_
    refine lv_dup hx hb dX7_begins_32 rfl ?_
    refine gf7_134 (cN := 31) X hW rfl dX7_begins_33 ?_
    refine lv_iconst (v := 1) hx hb dX7_begins_36 (by decide) ?_
    refine lv_iadd hx hb dX7_begins_37 ?_
    refine pf7_134 (cN := 31) X hW rfl dX7_begins_38 (fun M3 eM3 H locs hW => ?_)
    have h := ob_lt eM3 h
    refine lv_aload_n hx hb dX7_begins_41 rfl (lv_at hl 0 rfl) ?_
    refine gf7_20 (cN := 31) X hW rfl dX7_begins_42 ?_
    refine lv_aload_n hx hb dX7_begins_45 rfl (lv_at hl 0 rfl) ?_
    refine gf7_137 (cN := 31) X hW rfl dX7_begins_46 ?_
    refine lv_iload_n hx hb dX7_begins_49 rfl (lv_at hl 1 rfl) ?_
    obtain ⟨g4, h⟩ := ob_gd h
    refine bg_ast (cN := 34) X hW (n := 10) rfl g4 dX7_begins_50 (fun M5 eM5 H locs hW => ?_)
    have h := ob_lt eM5 h
    refine lv_aload_n hx hb dX7_begins_51 rfl (lv_at hl 0 rfl) ?_
    refine gf7_23 (cN := 31) X hW rfl dX7_begins_52 ?_
    refine lv_aload_n hx hb dX7_begins_55 rfl (lv_at hl 0 rfl) ?_
    refine gf7_137 (cN := 31) X hW rfl dX7_begins_56 ?_
    refine lv_iload_n hx hb dX7_begins_59 rfl (lv_at hl 2 rfl) ?_
    obtain ⟨g6, h⟩ := ob_gd h
    refine bg_ast (cN := 35) X hW (n := 10) rfl g6 dX7_begins_60 (fun M7 eM7 H locs hW => ?_)
    have h := ob_lt eM7 h
    refine lv_aload_n hx hb dX7_begins_61 rfl (lv_at hl 0 rfl) ?_
    refine gf7_29 (cN := 31) X hW rfl dX7_begins_62 ?_
    refine lv_aload_n hx hb dX7_begins_65 rfl (lv_at hl 0 rfl) ?_
    refine gf7_137 (cN := 31) X hW rfl dX7_begins_66 ?_
    refine lv_aload_n hx hb dX7_begins_69 rfl (lv_at hl 0 rfl) ?_
    refine gf7_140 (cN := 31) X hW rfl dX7_begins_70 ?_
    obtain ⟨g8, h⟩ := ob_gd h
    refine bg_ast (cN := 37) X hW (n := 10) rfl g8 dX7_begins_73 (fun M9 eM9 H locs hW => ?_)
    have h := ob_lt eM9 h
    refine lv_aload_n hx hb dX7_begins_74 rfl (lv_at hl 0 rfl) ?_
    refine gf7_32 (cN := 31) X hW rfl dX7_begins_75 ?_
    refine lv_aload_n hx hb dX7_begins_78 rfl (lv_at hl 0 rfl) ?_
    refine gf7_137 (cN := 31) X hW rfl dX7_begins_79 ?_
    refine lv_iconst (v := 0) hx hb dX7_begins_82 (by decide) ?_
    obtain ⟨g10, h⟩ := ob_gd h
    refine bg_ast (cN := 38) X hW (n := 10) rfl g10 dX7_begins_83 (fun M11 eM11 H locs hW => ?_)
    have h := ob_lt eM11 h
    refine lv_aload_n hx hb dX7_begins_84 rfl (lv_at hl 0 rfl) ?_
    refine gf7_26 (cN := 31) X hW rfl dX7_begins_85 ?_
    refine lv_aload_n hx hb dX7_begins_88 rfl (lv_at hl 0 rfl) ?_
    refine gf7_137 (cN := 31) X hW rfl dX7_begins_89 ?_
    refine lv_iload_n hx hb dX7_begins_92 rfl (lv_at hl 1 rfl) ?_
    refine lv_iconst (v := 2) hx hb dX7_begins_93 (by decide) ?_
    refine lv_iadd hx hb dX7_begins_94 ?_
    obtain ⟨g12, h⟩ := ob_gd h
    refine bg_ast (cN := 36) X hW (n := 10) rfl g12 dX7_begins_95 (fun M13 eM13 H locs hW => ?_)
    have h := ob_lt eM13 h
    refine lv_aload_n hx hb dX7_begins_96 rfl (lv_at hl 0 rfl) ?_
    refine lv_aload_n hx hb dX7_begins_97 rfl (lv_at hl 0 rfl) ?_
    refine gf7_137 (cN := 31) X hW rfl dX7_begins_98 ?_
    refine lv_aload_n hx hb dX7_begins_101 rfl (lv_at hl 0 rfl) ?_
    refine gf7_143 (cN := 31) X hW rfl dX7_begins_102 ?_
    refine lv_icmp_le (tgt := 115) hx hb dX7_begins_105 (by decide) (fun c14 => ?_) (fun c14 => ?_)
    · have h := ob_pos c14 h
      refine lv_aload_n hx hb dX7_begins_115 rfl (lv_at hl 0 rfl) ?_
      refine gf7_143 (cN := 31) X hW rfl dX7_begins_116 ?_
      exact sX7_begins_b119 X a1 a2 (M13.1 31 11) M13 _ _ _ (lv_sub hl [0, 1, 2] rfl) hW h
    · have h := ob_neg c14 h
      refine lv_aload_n hx hb dX7_begins_108 rfl (lv_at hl 0 rfl) ?_
      refine gf7_137 (cN := 31) X hW rfl dX7_begins_109 ?_
      refine lv_goto (tgt := 119) hx hb dX7_begins_112 (by decide) ?_
      exact sX7_begins_b119 X a1 a2 (M13.1 31 14) M13 _ _ _ (lv_sub hl [0, 1, 2] rfl) hW h
  · have h := ob_neg c1 h
    refine lv_aload_n hx hb dX7_begins_13 rfl (lv_at hl 0 rfl) ?_
    refine lv_bipush (v := 12) hx hb dX7_begins_14 (by decide) ?_
    refine lv_iload_n hx hb dX7_begins_16 rfl (lv_at hl 1 rfl) ?_
    obtain ⟨M29, e28, h⟩ := ob_bind h
    refine bg_callv X hW (cX7_fails_k e28) rfl rfl kw7_131 kd_X7_fails rfl rfl ⟨Nat.le_of_ble_eq_true rfl, Nat.le_of_ble_eq_true rfl⟩ ⟨Nat.le_refl _, Nat.le_refl _⟩ hl.1 (Nat.le_of_ble_eq_true rfl) dX7_begins_17 (fun H locs hW => ?_)
    exact rt_v X hW h dX7_begins_20
def rX7_ends_b97 (x1 : Int32) (x2 : Int32) (M : Mm) : Option Mm :=
    (if x1 < 0 ∨ 10 ≤ (x1).toNatClampNeg then none else if x1 < 0 ∨ 10 ≤ (x1).toNatClampNeg then none else lt_ (st M 38 (x1).toNatClampNeg ((M.1 38 (x1).toNatClampNeg) + (1 : Int32))) fun M9 => if x1 < 0 ∨ 10 ≤ (x1).toNatClampNeg then none else lt_ (st M9 36 (x1).toNatClampNeg x2) fun M11 => some M11)
set_option maxRecDepth 100000 in
set_option maxHeartbeats 4000000 in
theorem sX7_ends_b97 {p : Program} {l : Launch} {e : Env} {s : State} {m : MethodId} {args : Array Value} {below : List Frame} {meth : Method} {c : Code} {G : Gg} {M' : Mm} (X : Cx p m c meth cX7_ends 4 s args RX7 none G) : ∀ (x1 : Int32) (x2 : Int32) (M : Mm) (ls : Array Slot) (H : Heap) (locs : List Loc), lv_has ls 4 [(0, .ref (G.2.2.2 31)), (1, .int x1), (2, .int x2)] → Wo G s M H locs → rX7_ends_b97 x1 x2 M = some M' → W p l e (rm 0) s m args below meth c H locs 0 0 (Qv below args s G M') (F0 m 97 ls []) := by
    intro x1 x2 M ls H locs hl hW h
    unfold rX7_ends_b97 at h
    have hx := X.1.1
    have hb := X.1.2.1
    refine lv_aload_n hx hb dX7_ends_97 rfl (lv_at hl 0 rfl) ?_
    refine gf7_32 (cN := 31) X hW rfl dX7_ends_98 ?_
    refine lv_iload_n hx hb dX7_ends_101 rfl (lv_at hl 1 rfl) ?_
    refine lv_dup2_11 hx hb dX7_ends_102 rfl rfl ?_
    obtain ⟨g7, h⟩ := ob_gd h
    refine bg_ald (cN := 38) X hW (n := 10) rfl g7 dX7_ends_103 ?_
    refine lv_iconst (v := 1) hx hb dX7_ends_104 (by decide) ?_
    refine lv_iadd hx hb dX7_ends_105 ?_
    obtain ⟨g8, h⟩ := ob_gd h
    refine bg_ast (cN := 38) X hW (n := 10) rfl g8 dX7_ends_106 (fun M9 eM9 H locs hW => ?_)
    have h := ob_lt eM9 h
    refine lv_aload_n hx hb dX7_ends_107 rfl (lv_at hl 0 rfl) ?_
    refine gf7_26 (cN := 31) X hW rfl dX7_ends_108 ?_
    refine lv_iload_n hx hb dX7_ends_111 rfl (lv_at hl 1 rfl) ?_
    refine lv_iload_n hx hb dX7_ends_112 rfl (lv_at hl 2 rfl) ?_
    obtain ⟨g10, h⟩ := ob_gd h
    refine bg_ast (cN := 36) X hW (n := 10) rfl g10 dX7_ends_113 (fun M11 eM11 H locs hW => ?_)
    have h := ob_lt eM11 h
    exact rt_v X hW h dX7_ends_114
def rX7_ends (a1 : Int32) (a2 : Int32) (M : Mm) : Option Mm :=
    (if a1 < 0 ∨ 10 ≤ (a1).toNatClampNeg then none else lt_ (M.1 38 (a1).toNatClampNeg) fun y2 => if a1 < 0 ∨ 10 ≤ (a1).toNatClampNeg then none else if (((600 : Int32) * a1) + y2) < 0 ∨ 6000 ≤ ((((600 : Int32) * a1) + y2)).toNatClampNeg then none else lt_ (st M 39 ((((600 : Int32) * a1) + y2)).toNatClampNeg ((M.1 31 4) - (M.1 37 (a1).toNatClampNeg))) fun M5 => if a1 = 0 then (if (0 : Int32) < 0 ∨ 10 ≤ ((0 : Int32)).toNatClampNeg then none else if (M5.1 40 ((0 : Int32)).toNatClampNeg) < 0 ∨ 1200 ≤ ((M5.1 40 ((0 : Int32)).toNatClampNeg)).toNatClampNeg then none else if y2 < 0 ∨ 600 ≤ (y2).toNatClampNeg then none else lt_ (st M5 43 (y2).toNatClampNeg (M5.1 32 ((M5.1 40 ((0 : Int32)).toNatClampNeg)).toNatClampNeg)) fun M15 => if (0 : Int32) < 0 ∨ 10 ≤ ((0 : Int32)).toNatClampNeg then none else if y2 < 0 ∨ 600 ≤ (y2).toNatClampNeg then none else lt_ (st M15 44 (y2).toNatClampNeg (M15.1 40 ((0 : Int32)).toNatClampNeg)) fun M18 => if (0 : Int32) < 0 ∨ 10 ≤ ((0 : Int32)).toNatClampNeg then none else if y2 < 0 ∨ 600 ≤ (y2).toNatClampNeg then none else lt_ (st M18 45 (y2).toNatClampNeg ((M18.1 31 4) - (M18.1 41 ((0 : Int32)).toNatClampNeg))) fun M21 => if (0 : Int32) < 0 ∨ 10 ≤ ((0 : Int32)).toNatClampNeg then none else if y2 < 0 ∨ 600 ≤ (y2).toNatClampNeg then none else lt_ (st M21 46 (y2).toNatClampNeg ((M21.1 31 10) - (M21.1 42 ((0 : Int32)).toNatClampNeg))) fun M24 => rX7_ends_b97 a1 a2 M24) else (rX7_ends_b97 a1 a2 M5))
set_option maxRecDepth 100000 in
set_option maxHeartbeats 4000000 in
theorem cX7_ends_k {l : Launch} {G : Gg} {a1 : Int32} {a2 : Int32} {M M' : Mm} (h : rX7_ends a1 a2 M = some M') : CTv l yX7_ends cX7_ends 4 0 G [.ref (G.2.2.2 31), .int a1, .int a2] M M' := by
  unfold rX7_ends at h
  refine ct_v (by decide) (Nat.le_of_ble_eq_true rfl) (fun p e s m below meth c ls X hl hW => ?_)
  have hx := X.1.1
  have hb := X.1.2.1
  refine lv_aload_n hx hb dX7_ends_0 rfl (lv_at hl 0 rfl) ?_
  refine gf7_32 (cN := 31) X hW rfl dX7_ends_1 ?_
  refine lv_iload_n hx hb dX7_ends_4 rfl (lv_at hl 1 rfl) ?_
  obtain ⟨g1, h⟩ := ob_gd h
  refine bg_ald (cN := 38) X hW (n := 10) rfl g1 dX7_ends_5 ?_
  refine lv_topi (fun y2 ey2 => ?_)
  have h := ob_lt ey2 h
  refine lv_istore_n (lv' := [(3, .int y2), (0, .ref (G.2.2.2 31)), (1, .int a1), (2, .int a2)]) hx hb dX7_ends_6 rfl hl (by decide) rfl (fun ls hl => ?_)
  refine lv_aload_n hx hb dX7_ends_7 rfl (lv_at hl 1 rfl) ?_
  refine gf7_35 (cN := 31) X hW rfl dX7_ends_8 ?_
  refine lv_sipush (v := 600) hx hb dX7_ends_11 (by decide) ?_
  refine lv_iload_n hx hb dX7_ends_14 rfl (lv_at hl 2 rfl) ?_
  refine lv_imul hx hb dX7_ends_15 ?_
  refine lv_iload_n hx hb dX7_ends_16 rfl (lv_at hl 0 rfl) ?_
  refine lv_iadd hx hb dX7_ends_17 ?_
  refine lv_aload_n hx hb dX7_ends_18 rfl (lv_at hl 1 rfl) ?_
  refine gf7_140 (cN := 31) X hW rfl dX7_ends_19 ?_
  refine lv_aload_n hx hb dX7_ends_22 rfl (lv_at hl 1 rfl) ?_
  refine gf7_29 (cN := 31) X hW rfl dX7_ends_23 ?_
  refine lv_iload_n hx hb dX7_ends_26 rfl (lv_at hl 2 rfl) ?_
  obtain ⟨g3, h⟩ := ob_gd h
  refine bg_ald (cN := 37) X hW (n := 10) rfl g3 dX7_ends_27 ?_
  refine lv_isub hx hb dX7_ends_28 ?_
  obtain ⟨g4, h⟩ := ob_gd h
  refine bg_ast (cN := 39) X hW (n := 6000) rfl g4 dX7_ends_29 (fun M5 eM5 H locs hW => ?_)
  have h := ob_lt eM5 h
  refine lv_iload_n hx hb dX7_ends_30 rfl (lv_at hl 2 rfl) ?_
  refine lv_if_ne (tgt := 97) hx hb dX7_ends_31 (by decide) (fun c6 => ?_) (fun c6 => ?_)
  · have h := ob_neg c6 h
    exact sX7_ends_b97 X a1 a2 M5 _ _ _ (lv_sub hl [1, 2, 3] rfl) hW h
  · have h := ob_pos c6 h
    refine lv_aload_n hx hb dX7_ends_34 rfl (lv_at hl 1 rfl) ?_
    refine gf7_47 (cN := 31) X hW rfl dX7_ends_35 ?_
    refine lv_iload_n hx hb dX7_ends_38 rfl (lv_at hl 0 rfl) ?_
    refine lv_aload_n hx hb dX7_ends_39 rfl (lv_at hl 1 rfl) ?_
    refine gf7_7 (cN := 31) X hW rfl dX7_ends_40 ?_
    refine lv_aload_n hx hb dX7_ends_43 rfl (lv_at hl 1 rfl) ?_
    refine gf7_38 (cN := 31) X hW rfl dX7_ends_44 ?_
    refine lv_iconst (v := 0) hx hb dX7_ends_47 (by decide) ?_
    obtain ⟨g12, h⟩ := ob_gd h
    refine bg_ald (cN := 40) X hW (n := 10) rfl g12 dX7_ends_48 ?_
    obtain ⟨g13, h⟩ := ob_gd h
    refine bg_ald (cN := 32) X hW (n := 1200) rfl g13 dX7_ends_49 ?_
    obtain ⟨g14, h⟩ := ob_gd h
    refine bg_ast (cN := 43) X hW (n := 600) rfl g14 dX7_ends_50 (fun M15 eM15 H locs hW => ?_)
    have h := ob_lt eM15 h
    refine lv_aload_n hx hb dX7_ends_51 rfl (lv_at hl 1 rfl) ?_
    refine gf7_50 (cN := 31) X hW rfl dX7_ends_52 ?_
    refine lv_iload_n hx hb dX7_ends_55 rfl (lv_at hl 0 rfl) ?_
    refine lv_aload_n hx hb dX7_ends_56 rfl (lv_at hl 1 rfl) ?_
    refine gf7_38 (cN := 31) X hW rfl dX7_ends_57 ?_
    refine lv_iconst (v := 0) hx hb dX7_ends_60 (by decide) ?_
    obtain ⟨g16, h⟩ := ob_gd h
    refine bg_ald (cN := 40) X hW (n := 10) rfl g16 dX7_ends_61 ?_
    obtain ⟨g17, h⟩ := ob_gd h
    refine bg_ast (cN := 44) X hW (n := 600) rfl g17 dX7_ends_62 (fun M18 eM18 H locs hW => ?_)
    have h := ob_lt eM18 h
    refine lv_aload_n hx hb dX7_ends_63 rfl (lv_at hl 1 rfl) ?_
    refine gf7_53 (cN := 31) X hW rfl dX7_ends_64 ?_
    refine lv_iload_n hx hb dX7_ends_67 rfl (lv_at hl 0 rfl) ?_
    refine lv_aload_n hx hb dX7_ends_68 rfl (lv_at hl 1 rfl) ?_
    refine gf7_140 (cN := 31) X hW rfl dX7_ends_69 ?_
    refine lv_aload_n hx hb dX7_ends_72 rfl (lv_at hl 1 rfl) ?_
    refine gf7_41 (cN := 31) X hW rfl dX7_ends_73 ?_
    refine lv_iconst (v := 0) hx hb dX7_ends_76 (by decide) ?_
    obtain ⟨g19, h⟩ := ob_gd h
    refine bg_ald (cN := 41) X hW (n := 10) rfl g19 dX7_ends_77 ?_
    refine lv_isub hx hb dX7_ends_78 ?_
    obtain ⟨g20, h⟩ := ob_gd h
    refine bg_ast (cN := 45) X hW (n := 600) rfl g20 dX7_ends_79 (fun M21 eM21 H locs hW => ?_)
    have h := ob_lt eM21 h
    refine lv_aload_n hx hb dX7_ends_80 rfl (lv_at hl 1 rfl) ?_
    refine gf7_56 (cN := 31) X hW rfl dX7_ends_81 ?_
    refine lv_iload_n hx hb dX7_ends_84 rfl (lv_at hl 0 rfl) ?_
    refine lv_aload_n hx hb dX7_ends_85 rfl (lv_at hl 1 rfl) ?_
    refine gf7_125 (cN := 31) X hW rfl dX7_ends_86 ?_
    refine lv_aload_n hx hb dX7_ends_89 rfl (lv_at hl 1 rfl) ?_
    refine gf7_44 (cN := 31) X hW rfl dX7_ends_90 ?_
    refine lv_iconst (v := 0) hx hb dX7_ends_93 (by decide) ?_
    obtain ⟨g22, h⟩ := ob_gd h
    refine bg_ald (cN := 42) X hW (n := 10) rfl g22 dX7_ends_94 ?_
    refine lv_isub hx hb dX7_ends_95 ?_
    obtain ⟨g23, h⟩ := ob_gd h
    refine bg_ast (cN := 46) X hW (n := 600) rfl g23 dX7_ends_96 (fun M24 eM24 H locs hW => ?_)
    have h := ob_lt eM24 h
    exact sX7_ends_b97 X a1 a2 M24 _ _ _ (lv_sub hl [1, 2, 3] rfl) hW h
def rX7_has_b33 (M : Mm) : Option (Int32 × Mm) :=
    (if (M.1 31 8) = 0 then (if ¬ (1 : Int32) &&& 1 = (1 : Int32) then none else some ((1 : Int32), M)) else (if ¬ (0 : Int32) &&& 1 = (0 : Int32) then none else some ((0 : Int32), M)))
set_option maxRecDepth 100000 in
set_option maxHeartbeats 4000000 in
theorem sX7_has_b33 {p : Program} {l : Launch} {e : Env} {s : State} {m : MethodId} {args : Array Value} {below : List Frame} {meth : Method} {c : Code} {G : Gg} {r : Int32} {M' : Mm} (X : Cx p m c meth cX7_has 3 s args RX7 (some .boolean) G) : ∀ (M : Mm) (ls : Array Slot) (H : Heap) (locs : List Loc), lv_has ls 3 [(0, .ref (G.2.2.2 31))] → Wo G s M H locs → rX7_has_b33  M = some (r, M') → W p l e (rm 1) s m args below meth c H locs 0 0 (Qi below args s G r M') (F0 m 33 ls []) := by
    intro M ls H locs hl hW h
    unfold rX7_has_b33 at h
    have hx := X.1.1
    have hb := X.1.2.1
    refine lv_aload_n hx hb dX7_has_33 rfl (lv_at hl 0 rfl) ?_
    refine gf7_122 (cN := 31) X hW rfl dX7_has_34 ?_
    refine lv_if_ne (tgt := 44) hx hb dX7_has_37 (by decide) (fun c3 => ?_) (fun c3 => ?_)
    · have h := ob_neg c3 h
      refine lv_iconst (v := 0) hx hb dX7_has_44 (by decide) ?_
      exact rt_z X hW h dX7_has_45
    · have h := ob_pos c3 h
      refine lv_iconst (v := 1) hx hb dX7_has_40 (by decide) ?_
      refine lv_goto (tgt := 45) hx hb dX7_has_41 (by decide) ?_
      exact rt_z X hW h dX7_has_45
def rX7_has (a1 : Int32) (a2 : Int32) (M : Mm) : Option (Int32 × Mm) :=
    (if ((M.1 31 14) - (1 : Int32)) < 0 ∨ 10 ≤ (((M.1 31 14) - (1 : Int32))).toNatClampNeg then none else if (a1 + a2) ≤ (M.1 35 (((M.1 31 14) - (1 : Int32))).toNatClampNeg) then (rX7_has_b33  M) else (if ((M.1 31 14) - (1 : Int32)) < 0 ∨ 10 ≤ (((M.1 31 14) - (1 : Int32))).toNatClampNeg then none else Option.bind (rX7_fails (3 : Int32) (M.1 35 (((M.1 31 14) - (1 : Int32))).toNatClampNeg) M) fun M6 => rX7_has_b33  M6))
set_option maxRecDepth 100000 in
set_option maxHeartbeats 4000000 in
theorem cX7_has_k {l : Launch} {G : Gg} {a1 : Int32} {a2 : Int32} {M M' : Mm} {r : Int32} (h : rX7_has a1 a2 M = some (r, M')) : CTi l yX7_has cX7_has 3 (some .boolean) 1 G [.ref (G.2.2.2 31), .int a1, .int a2] M r M' := by
  unfold rX7_has at h
  refine ct_i (by decide) (Nat.le_of_ble_eq_true rfl) (fun p e s m below meth c ls X hl hW => ?_)
  have hx := X.1.1
  have hb := X.1.2.1
  refine lv_iload_n hx hb dX7_has_0 rfl (lv_at hl 1 rfl) ?_
  refine lv_iload_n hx hb dX7_has_1 rfl (lv_at hl 2 rfl) ?_
  refine lv_iadd hx hb dX7_has_2 ?_
  refine lv_aload_n hx hb dX7_has_3 rfl (lv_at hl 0 rfl) ?_
  refine gf7_23 (cN := 31) X hW rfl dX7_has_4 ?_
  refine lv_aload_n hx hb dX7_has_7 rfl (lv_at hl 0 rfl) ?_
  refine gf7_137 (cN := 31) X hW rfl dX7_has_8 ?_
  refine lv_iconst (v := 1) hx hb dX7_has_11 (by decide) ?_
  refine lv_isub hx hb dX7_has_12 ?_
  obtain ⟨g1, h⟩ := ob_gd h
  refine bg_ald (cN := 35) X hW (n := 10) rfl g1 dX7_has_13 ?_
  refine lv_icmp_le (tgt := 33) hx hb dX7_has_14 (by decide) (fun c2 => ?_) (fun c2 => ?_)
  · have h := ob_pos c2 h
    exact sX7_has_b33 X M _ _ _ (lv_sub hl [0] rfl) hW h
  · have h := ob_neg c2 h
    refine lv_aload_n hx hb dX7_has_17 rfl (lv_at hl 0 rfl) ?_
    refine lv_iconst (v := 3) hx hb dX7_has_18 (by decide) ?_
    refine lv_aload_n hx hb dX7_has_19 rfl (lv_at hl 0 rfl) ?_
    refine gf7_23 (cN := 31) X hW rfl dX7_has_20 ?_
    refine lv_aload_n hx hb dX7_has_23 rfl (lv_at hl 0 rfl) ?_
    refine gf7_137 (cN := 31) X hW rfl dX7_has_24 ?_
    refine lv_iconst (v := 1) hx hb dX7_has_27 (by decide) ?_
    refine lv_isub hx hb dX7_has_28 ?_
    obtain ⟨g4, h⟩ := ob_gd h
    refine bg_ald (cN := 35) X hW (n := 10) rfl g4 dX7_has_29 ?_
    obtain ⟨M6, e5, h⟩ := ob_bind h
    refine bg_callv X hW (cX7_fails_k e5) rfl rfl kw7_131 kd_X7_fails rfl rfl ⟨Nat.le_of_ble_eq_true rfl, Nat.le_of_ble_eq_true rfl⟩ ⟨Nat.le_refl _, Nat.le_refl _⟩ hl.1 (Nat.le_of_ble_eq_true rfl) dX7_has_30 (fun H locs hW => ?_)
    exact sX7_has_b33 X M6 _ _ _ (lv_sub hl [0] rfl) hW h
def rX7_pays_b56 (M : Mm) : Option (Int32 × Mm) :=
    (if (M.1 31 8) = 0 then (if ¬ (1 : Int32) &&& 1 = (1 : Int32) then none else some ((1 : Int32), M)) else (if ¬ (0 : Int32) &&& 1 = (0 : Int32) then none else some ((0 : Int32), M)))
set_option maxRecDepth 100000 in
set_option maxHeartbeats 4000000 in
theorem sX7_pays_b56 {p : Program} {l : Launch} {e : Env} {s : State} {m : MethodId} {args : Array Value} {below : List Frame} {meth : Method} {c : Code} {G : Gg} {r : Int32} {M' : Mm} (X : Cx p m c meth cX7_pays 4 s args RX7 (some .boolean) G) : ∀ (M : Mm) (ls : Array Slot) (H : Heap) (locs : List Loc), lv_has ls 4 [(0, .ref (G.2.2.2 31))] → Wo G s M H locs → rX7_pays_b56  M = some (r, M') → W p l e (rm 1) s m args below meth c H locs 0 0 (Qi below args s G r M') (F0 m 56 ls []) := by
    intro M ls H locs hl hW h
    unfold rX7_pays_b56 at h
    have hx := X.1.1
    have hb := X.1.2.1
    refine lv_aload_n hx hb dX7_pays_56 rfl (lv_at hl 0 rfl) ?_
    refine gf7_122 (cN := 31) X hW rfl dX7_pays_57 ?_
    refine lv_if_ne (tgt := 67) hx hb dX7_pays_60 (by decide) (fun c4 => ?_) (fun c4 => ?_)
    · have h := ob_neg c4 h
      refine lv_iconst (v := 0) hx hb dX7_pays_67 (by decide) ?_
      exact rt_z X hW h dX7_pays_68
    · have h := ob_pos c4 h
      refine lv_iconst (v := 1) hx hb dX7_pays_63 (by decide) ?_
      refine lv_goto (tgt := 68) hx hb dX7_pays_64 (by decide) ?_
      exact rt_z X hW h dX7_pays_68
def rX7_pays (a1 : Int32) (a2 : Int32) (a3 : Int32) (M : Mm) : Option (Int32 × Mm) :=
    (if ((M.1 31 4) + a3) ≤ (M.1 31 5) then (if ((M.1 31 10) + a2) ≤ (M.1 31 6) then (lt_ (st M 31 10 ((M.1 31 10) + a2)) fun M3 => rX7_pays_b56  M3) else (Option.bind (rX7_fails (12 : Int32) a1 M) fun M6 => rX7_pays_b56  M6)) else (Option.bind (rX7_fails (11 : Int32) a1 M) fun M8 => rX7_pays_b56  M8))
set_option maxRecDepth 100000 in
set_option maxHeartbeats 4000000 in
theorem cX7_pays_k {l : Launch} {G : Gg} {a1 : Int32} {a2 : Int32} {a3 : Int32} {M M' : Mm} {r : Int32} (h : rX7_pays a1 a2 a3 M = some (r, M')) : CTi l yX7_pays cX7_pays 4 (some .boolean) 1 G [.ref (G.2.2.2 31), .int a1, .int a2, .int a3] M r M' := by
  unfold rX7_pays at h
  refine ct_i (by decide) (Nat.le_of_ble_eq_true rfl) (fun p e s m below meth c ls X hl hW => ?_)
  have hx := X.1.1
  have hb := X.1.2.1
  refine lv_aload_n hx hb dX7_pays_0 rfl (lv_at hl 0 rfl) ?_
  refine gf7_140 (cN := 31) X hW rfl dX7_pays_1 ?_
  refine lv_iload_n hx hb dX7_pays_4 rfl (lv_at hl 3 rfl) ?_
  refine lv_iadd hx hb dX7_pays_5 ?_
  refine lv_aload_n hx hb dX7_pays_6 rfl (lv_at hl 0 rfl) ?_
  refine gf7_146 (cN := 31) X hW rfl dX7_pays_7 ?_
  refine lv_icmp_le (tgt := 23) hx hb dX7_pays_10 (by decide) (fun c1 => ?_) (fun c1 => ?_)
  · have h := ob_pos c1 h
    refine lv_aload_n hx hb dX7_pays_23 rfl (lv_at hl 0 rfl) ?_
    refine gf7_125 (cN := 31) X hW rfl dX7_pays_24 ?_
    refine lv_iload_n hx hb dX7_pays_27 rfl (lv_at hl 2 rfl) ?_
    refine lv_iadd hx hb dX7_pays_28 ?_
    refine lv_aload_n hx hb dX7_pays_29 rfl (lv_at hl 0 rfl) ?_
    refine gf7_128 (cN := 31) X hW rfl dX7_pays_30 ?_
    refine lv_icmp_le (tgt := 46) hx hb dX7_pays_33 (by decide) (fun c2 => ?_) (fun c2 => ?_)
    · have h := ob_pos c2 h
      refine lv_aload_n hx hb dX7_pays_46 rfl (lv_at hl 0 rfl) ?_
      refine lv_dup hx hb dX7_pays_47 rfl ?_
      refine gf7_125 (cN := 31) X hW rfl dX7_pays_48 ?_
      refine lv_iload_n hx hb dX7_pays_51 rfl (lv_at hl 2 rfl) ?_
      refine lv_iadd hx hb dX7_pays_52 ?_
      refine pf7_125 (cN := 31) X hW rfl dX7_pays_53 (fun M3 eM3 H locs hW => ?_)
      have h := ob_lt eM3 h
      exact sX7_pays_b56 X M3 _ _ _ (lv_sub hl [0] rfl) hW h
    · have h := ob_neg c2 h
      refine lv_aload_n hx hb dX7_pays_36 rfl (lv_at hl 0 rfl) ?_
      refine lv_bipush (v := 12) hx hb dX7_pays_37 (by decide) ?_
      refine lv_iload_n hx hb dX7_pays_39 rfl (lv_at hl 1 rfl) ?_
      obtain ⟨M6, e5, h⟩ := ob_bind h
      refine bg_callv X hW (cX7_fails_k e5) rfl rfl kw7_131 kd_X7_fails rfl rfl ⟨Nat.le_of_ble_eq_true rfl, Nat.le_of_ble_eq_true rfl⟩ ⟨Nat.le_refl _, Nat.le_refl _⟩ hl.1 (Nat.le_of_ble_eq_true rfl) dX7_pays_40 (fun H locs hW => ?_)
      refine lv_goto (tgt := 56) hx hb dX7_pays_43 (by decide) ?_
      exact sX7_pays_b56 X M6 _ _ _ (lv_sub hl [0] rfl) hW h
  · have h := ob_neg c1 h
    refine lv_aload_n hx hb dX7_pays_13 rfl (lv_at hl 0 rfl) ?_
    refine lv_bipush (v := 11) hx hb dX7_pays_14 (by decide) ?_
    refine lv_iload_n hx hb dX7_pays_16 rfl (lv_at hl 1 rfl) ?_
    obtain ⟨M8, e7, h⟩ := ob_bind h
    refine bg_callv X hW (cX7_fails_k e7) rfl rfl kw7_131 kd_X7_fails rfl rfl ⟨Nat.le_of_ble_eq_true rfl, Nat.le_of_ble_eq_true rfl⟩ ⟨Nat.le_refl _, Nat.le_refl _⟩ hl.1 (Nat.le_of_ble_eq_true rfl) dX7_pays_17 (fun H locs hW => ?_)
    refine lv_goto (tgt := 56) hx hb dX7_pays_20 (by decide) ?_
    exact sX7_pays_b56 X M8 _ _ _ (lv_sub hl [0] rfl) hW h
def rX7_comes (a1 : Int32) (M : Mm) : Option Mm :=
    (if (M.1 31 4) < 0 ∨ 4000 ≤ ((M.1 31 4)).toNatClampNeg then none else lt_ (st M 33 ((M.1 31 4)).toNatClampNeg a1) fun M2 => lt_ (st M2 31 4 ((M2.1 31 4) + (1 : Int32))) fun M3 => some M3)
set_option maxRecDepth 100000 in
set_option maxHeartbeats 4000000 in
theorem cX7_comes_k {l : Launch} {G : Gg} {a1 : Int32} {M M' : Mm} (h : rX7_comes a1 M = some M') : CTv l yX7_comes cX7_comes 2 0 G [.ref (G.2.2.2 31), .int a1] M M' := by
  unfold rX7_comes at h
  refine ct_v (by decide) (Nat.le_of_ble_eq_true rfl) (fun p e s m below meth c ls X hl hW => ?_)
  have hx := X.1.1
  have hb := X.1.2.1
  refine lv_aload_n hx hb dX7_comes_0 rfl (lv_at hl 0 rfl) ?_
  refine gf7_13 (cN := 31) X hW rfl dX7_comes_1 ?_
  refine lv_aload_n hx hb dX7_comes_4 rfl (lv_at hl 0 rfl) ?_
  refine gf7_140 (cN := 31) X hW rfl dX7_comes_5 ?_
  refine lv_iload_n hx hb dX7_comes_8 rfl (lv_at hl 1 rfl) ?_
  obtain ⟨g1, h⟩ := ob_gd h
  refine bg_ast (cN := 33) X hW (n := 4000) rfl g1 dX7_comes_9 (fun M2 eM2 H locs hW => ?_)
  have h := ob_lt eM2 h
  refine lv_aload_n hx hb dX7_comes_10 rfl (lv_at hl 0 rfl) ?_
  refine lv_dup hx hb dX7_comes_11 rfl ?_
  refine gf7_140 (cN := 31) X hW rfl dX7_comes_12 ?_
  refine lv_iconst (v := 1) hx hb dX7_comes_15 (by decide) ?_
  refine lv_iadd hx hb dX7_comes_16 ?_
  refine pf7_140 (cN := 31) X hW rfl dX7_comes_17 (fun M3 eM3 H locs hW => ?_)
  have h := ob_lt eM3 h
  exact rt_v X hW h dX7_comes_20
def rX7_closes (a1 : Int32) (a2 : Int32) (M : Mm) : Option Mm :=
    (bd2 (rX7_has a2 (2 : Int32) M) fun r3 M2 => if r3 = 0 then (some M2) else (if (a2 + (1 : Int32)) < 0 ∨ 1200 ≤ ((a2 + (1 : Int32))).toNatClampNeg then none else if a1 < 0 ∨ 10 ≤ (a1).toNatClampNeg then none else bd2 (rX7_sumOf (M2.1 34 (a1).toNatClampNeg) (a2 + (1 : Int32)) M2) fun r9 M8 => if (M2.1 32 ((a2 + (1 : Int32))).toNatClampNeg) = r9 then (if a1 < 0 ∨ 10 ≤ (a1).toNatClampNeg then none else if (M8.1 35 (a1).toNatClampNeg) ≤ (a2 + (2 : Int32)) then (lt_ (st M8 31 14 ((M8.1 31 14) - (1 : Int32))) fun M13 => if (M13.1 31 14) ≤ 0 then (some M13) else (Option.bind (rX7_ends ((M13.1 31 14) - (1 : Int32)) (a2 + (2 : Int32)) M13) fun M16 => some M16)) else (Option.bind (rX7_fails (10 : Int32) (a2 + (2 : Int32)) M8) fun M18 => some M18)) else (Option.bind (rX7_fails (9 : Int32) (a2 + (1 : Int32)) M8) fun M20 => some M20)))
set_option maxRecDepth 100000 in
set_option maxHeartbeats 4000000 in
theorem cX7_closes_k {l : Launch} {G : Gg} {a1 : Int32} {a2 : Int32} {M M' : Mm} (h : rX7_closes a1 a2 M = some M') : CTv l yX7_closes cX7_closes 3 2 G [.ref (G.2.2.2 31), .int a1, .int a2] M M' := by
  unfold rX7_closes at h
  refine ct_v (by decide) (Nat.le_of_ble_eq_true rfl) (fun p e s m below meth c ls X hl hW => ?_)
  have hx := X.1.1
  have hb := X.1.2.1
  refine lv_aload_n hx hb dX7_closes_0 rfl (lv_at hl 0 rfl) ?_
  refine lv_iload_n hx hb dX7_closes_1 rfl (lv_at hl 2 rfl) ?_
  refine lv_iconst (v := 2) hx hb dX7_closes_2 (by decide) ?_
  obtain ⟨r3, M2, e1, h⟩ := ob_bd2 h
  refine bg_calli X hW (cX7_has_k e1) rfl rfl kw7_149 kd_X7_has rfl rfl ⟨Nat.le_of_ble_eq_true rfl, Nat.le_of_ble_eq_true rfl⟩ ⟨Nat.le_refl _, Nat.le_refl _⟩ hl.1 (Nat.le_of_ble_eq_true rfl) dX7_closes_3 (fun H locs hW => ?_)
  refine lv_if_ne (tgt := 10) hx hb dX7_closes_6 (by decide) (fun c4 => ?_) (fun c4 => ?_)
  · have h := ob_neg c4 h
    refine lv_aload_n hx hb dX7_closes_10 rfl (lv_at hl 0 rfl) ?_
    refine gf7_7 (cN := 31) X hW rfl dX7_closes_11 ?_
    refine lv_iload_n hx hb dX7_closes_14 rfl (lv_at hl 2 rfl) ?_
    refine lv_iconst (v := 1) hx hb dX7_closes_15 (by decide) ?_
    refine lv_iadd hx hb dX7_closes_16 ?_
    obtain ⟨g5, h⟩ := ob_gd h
    refine bg_ald (cN := 32) X hW (n := 1200) rfl g5 dX7_closes_17 ?_
    refine lv_aload_n hx hb dX7_closes_18 rfl (lv_at hl 0 rfl) ?_
    refine lv_aload_n hx hb dX7_closes_19 rfl (lv_at hl 0 rfl) ?_
    refine gf7_20 (cN := 31) X hW rfl dX7_closes_20 ?_
    refine lv_iload_n hx hb dX7_closes_23 rfl (lv_at hl 1 rfl) ?_
    obtain ⟨g6, h⟩ := ob_gd h
    refine bg_ald (cN := 34) X hW (n := 10) rfl g6 dX7_closes_24 ?_
    refine lv_iload_n hx hb dX7_closes_25 rfl (lv_at hl 2 rfl) ?_
    refine lv_iconst (v := 1) hx hb dX7_closes_26 (by decide) ?_
    refine lv_iadd hx hb dX7_closes_27 ?_
    obtain ⟨r9, M8, e7, h⟩ := ob_bd2 h
    refine bg_calli X hW (cX7_sumOf_k e7) rfl rfl kw7_87 kd_X7_sumOf rfl rfl ⟨Nat.le_of_ble_eq_true rfl, Nat.le_of_ble_eq_true rfl⟩ ⟨Nat.le_refl _, Nat.le_refl _⟩ hl.1 (Nat.le_of_ble_eq_true rfl) dX7_closes_28 (fun H locs hW => ?_)
    refine lv_icmp_eq (tgt := 46) hx hb dX7_closes_31 (by decide) (fun c10 => ?_) (fun c10 => ?_)
    · have h := ob_pos c10 h
      refine lv_iload_n hx hb dX7_closes_46 rfl (lv_at hl 2 rfl) ?_
      refine lv_iconst (v := 2) hx hb dX7_closes_47 (by decide) ?_
      refine lv_iadd hx hb dX7_closes_48 ?_
      refine lv_aload_n hx hb dX7_closes_49 rfl (lv_at hl 0 rfl) ?_
      refine gf7_23 (cN := 31) X hW rfl dX7_closes_50 ?_
      refine lv_iload_n hx hb dX7_closes_53 rfl (lv_at hl 1 rfl) ?_
      obtain ⟨g11, h⟩ := ob_gd h
      refine bg_ald (cN := 35) X hW (n := 10) rfl g11 dX7_closes_54 ?_
      refine lv_icmp_ge (tgt := 70) hx hb dX7_closes_55 (by decide) (fun c12 => ?_) (fun c12 => ?_)
      · have h := ob_pos c12 h
        refine lv_aload_n hx hb dX7_closes_70 rfl (lv_at hl 0 rfl) ?_
        refine lv_dup hx hb dX7_closes_71 rfl ?_
        refine gf7_137 (cN := 31) X hW rfl dX7_closes_72 ?_
        refine lv_iconst (v := 1) hx hb dX7_closes_75 (by decide) ?_
        refine lv_isub hx hb dX7_closes_76 ?_
        refine pf7_137 (cN := 31) X hW rfl dX7_closes_77 (fun M13 eM13 H locs hW => ?_)
        have h := ob_lt eM13 h
        refine lv_aload_n hx hb dX7_closes_80 rfl (lv_at hl 0 rfl) ?_
        refine gf7_137 (cN := 31) X hW rfl dX7_closes_81 ?_
        refine lv_if_le (tgt := 100) hx hb dX7_closes_84 (by decide) (fun c14 => ?_) (fun c14 => ?_)
        · have h := ob_pos c14 h
          exact rt_v X hW h dX7_closes_100
        · have h := ob_neg c14 h
          refine lv_aload_n hx hb dX7_closes_87 rfl (lv_at hl 0 rfl) ?_
          refine lv_aload_n hx hb dX7_closes_88 rfl (lv_at hl 0 rfl) ?_
          refine gf7_137 (cN := 31) X hW rfl dX7_closes_89 ?_
          refine lv_iconst (v := 1) hx hb dX7_closes_92 (by decide) ?_
          refine lv_isub hx hb dX7_closes_93 ?_
          refine lv_iload_n hx hb dX7_closes_94 rfl (lv_at hl 2 rfl) ?_
          refine lv_iconst (v := 2) hx hb dX7_closes_95 (by decide) ?_
          refine lv_iadd hx hb dX7_closes_96 ?_
          obtain ⟨M16, e15, h⟩ := ob_bind h
          refine bg_callv X hW (cX7_ends_k e15) rfl rfl kw7_163 kd_X7_ends rfl rfl ⟨Nat.le_of_ble_eq_true rfl, Nat.le_of_ble_eq_true rfl⟩ ⟨Nat.le_refl _, Nat.le_refl _⟩ hl.1 (Nat.le_of_ble_eq_true rfl) dX7_closes_97 (fun H locs hW => ?_)
          exact rt_v X hW h dX7_closes_100
      · have h := ob_neg c12 h
        refine lv_aload_n hx hb dX7_closes_58 rfl (lv_at hl 0 rfl) ?_
        refine lv_bipush (v := 10) hx hb dX7_closes_59 (by decide) ?_
        refine lv_iload_n hx hb dX7_closes_61 rfl (lv_at hl 2 rfl) ?_
        refine lv_iconst (v := 2) hx hb dX7_closes_62 (by decide) ?_
        refine lv_iadd hx hb dX7_closes_63 ?_
        obtain ⟨M18, e17, h⟩ := ob_bind h
        refine bg_callv X hW (cX7_fails_k e17) rfl rfl kw7_131 kd_X7_fails rfl rfl ⟨Nat.le_of_ble_eq_true rfl, Nat.le_of_ble_eq_true rfl⟩ ⟨Nat.le_refl _, Nat.le_refl _⟩ hl.1 (Nat.le_of_ble_eq_true rfl) dX7_closes_64 (fun H locs hW => ?_)
        refine lv_goto (tgt := 100) hx hb dX7_closes_67 (by decide) ?_
        exact rt_v X hW h dX7_closes_100
    · have h := ob_neg c10 h
      refine lv_aload_n hx hb dX7_closes_34 rfl (lv_at hl 0 rfl) ?_
      refine lv_bipush (v := 9) hx hb dX7_closes_35 (by decide) ?_
      refine lv_iload_n hx hb dX7_closes_37 rfl (lv_at hl 2 rfl) ?_
      refine lv_iconst (v := 1) hx hb dX7_closes_38 (by decide) ?_
      refine lv_iadd hx hb dX7_closes_39 ?_
      obtain ⟨M20, e19, h⟩ := ob_bind h
      refine bg_callv X hW (cX7_fails_k e19) rfl rfl kw7_131 kd_X7_fails rfl rfl ⟨Nat.le_of_ble_eq_true rfl, Nat.le_of_ble_eq_true rfl⟩ ⟨Nat.le_refl _, Nat.le_refl _⟩ hl.1 (Nat.le_of_ble_eq_true rfl) dX7_closes_40 (fun H locs hW => ?_)
      refine lv_goto (tgt := 100) hx hb dX7_closes_43 (by decide) ?_
      exact rt_v X hW h dX7_closes_100
  · have h := ob_pos c4 h
    exact rt_v X hW h dX7_closes_9
def rX7_copy_b38 (x2 : Int32) (M : Mm) : Option Mm :=
    (Option.bind (rX7_fails (4 : Int32) (x2 + (1 : Int32)) M) fun M9 => some M9)
set_option maxRecDepth 100000 in
set_option maxHeartbeats 4000000 in
theorem sX7_copy_b38 {p : Program} {l : Launch} {e : Env} {s : State} {m : MethodId} {args : Array Value} {below : List Frame} {meth : Method} {c : Code} {G : Gg} {M' : Mm} (X : Cx p m c meth cX7_copy 5 s args RX7 none G) : ∀ (x2 : Int32) (M : Mm) (ls : Array Slot) (H : Heap) (locs : List Loc), lv_has ls 5 [(0, .ref (G.2.2.2 31)), (2, .int x2)] → Wo G s M H locs → rX7_copy_b38 x2 M = some M' → W p l e (rm 2) s m args below meth c H locs 0 0 (Qv below args s G M') (F0 m 38 ls []) := by
    intro x2 M ls H locs hl hW h
    unfold rX7_copy_b38 at h
    have hx := X.1.1
    have hb := X.1.2.1
    refine lv_aload_n hx hb dX7_copy_38 rfl (lv_at hl 0 rfl) ?_
    refine lv_iconst (v := 4) hx hb dX7_copy_39 (by decide) ?_
    refine lv_iload_n hx hb dX7_copy_40 rfl (lv_at hl 1 rfl) ?_
    refine lv_iconst (v := 1) hx hb dX7_copy_41 (by decide) ?_
    refine lv_iadd hx hb dX7_copy_42 ?_
    obtain ⟨M9, e8, h⟩ := ob_bind h
    refine bg_callv X hW (cX7_fails_k e8) rfl rfl kw7_131 kd_X7_fails rfl rfl ⟨Nat.le_of_ble_eq_true rfl, Nat.le_of_ble_eq_true rfl⟩ ⟨Nat.le_refl _, Nat.le_refl _⟩ hl.1 (Nat.le_of_ble_eq_true rfl) dX7_copy_43 (fun H locs hW => ?_)
    refine lv_goto (tgt := 129) hx hb dX7_copy_46 (by decide) ?_
    exact rt_v X hW h dX7_copy_129
def rX7_copy_b87_s (q87 : Int32 → Int32 → Int32 → Int32 → Mm → Option Mm) (x1 : Int32) (x2 : Int32) (x3 : Int32) (x4 : Int32) (M : Mm) : Option Mm :=
    (if (x2 + (2 : Int32)) < 0 ∨ 1200 ≤ ((x2 + (2 : Int32))).toNatClampNeg then none else if (M.1 32 ((x2 + (2 : Int32))).toNatClampNeg) ≤ x4 then (Option.bind (rX7_ends x1 (x2 + (3 : Int32)) M) fun M25 => some M25) else (if ((M.1 31 4) - x3) < 0 ∨ 4000 ≤ (((M.1 31 4) - x3)).toNatClampNeg then none else Option.bind (rX7_comes (M.1 33 (((M.1 31 4) - x3)).toNatClampNeg) M) fun M28 => lt_ (x4 + 1) fun y29 => q87 x1 x2 x3 y29 M28))
def rX7_copy_b87 : Nat → Int32 → Int32 → Int32 → Int32 → Mm → Option Mm
  | 0 => fun _ _ _ _ _ => none
  | n + 1 => rX7_copy_b87_s (rX7_copy_b87 n)
set_option maxRecDepth 100000 in
set_option maxHeartbeats 4000000 in
theorem sX7_copy_b87 {p : Program} {l : Launch} {e : Env} {s : State} {m : MethodId} {args : Array Value} {below : List Frame} {meth : Method} {c : Code} {G : Gg} {M' : Mm} (X : Cx p m c meth cX7_copy 5 s args RX7 none G) : ∀ (n : Nat), ∀ (x1 : Int32) (x2 : Int32) (x3 : Int32) (x4 : Int32) (M : Mm) (ls : Array Slot) (H : Heap) (locs : List Loc), lv_has ls 5 [(0, .ref (G.2.2.2 31)), (1, .int x1), (2, .int x2), (3, .int x3), (4, .int x4)] → Wo G s M H locs → rX7_copy_b87 n x1 x2 x3 x4 M = some M' → W p l e (rm 2) s m args below meth c H locs 0 0 (Qv below args s G M') (F0 m 87 ls []) := by
  intro n
  induction n with
  | zero =>
    intro x1 x2 x3 x4 M ls H locs hl hW h
    cases (show (none : Option Mm) = some M' from h)
  | succ n hq870 =>
    have hq87 : ∀ (x1 : Int32) (x2 : Int32) (x3 : Int32) (x4 : Int32) (M : Mm) (ls : Array Slot) (H : Heap) (locs : List Loc), lv_has ls 5 [(0, .ref (G.2.2.2 31)), (1, .int x1), (2, .int x2), (3, .int x3), (4, .int x4)] → Wo G s M H locs → (rX7_copy_b87 n) x1 x2 x3 x4 M = some M' → W p l e (rm 2) s m args below meth c H locs 0 0 (Qv below args s G M') (F0 m 87 ls []) := hq870
    intro x1 x2 x3 x4 M ls H locs hl hW h
    have h : rX7_copy_b87_s (rX7_copy_b87 n) x1 x2 x3 x4 M = some M' := h
    unfold rX7_copy_b87_s at h
    have hx := X.1.1
    have hb := X.1.2.1
    refine lv_iload hx hb dX7_copy_87 (lv_at hl 4 rfl) ?_
    refine lv_aload_n hx hb dX7_copy_89 rfl (lv_at hl 0 rfl) ?_
    refine gf7_7 (cN := 31) X hW rfl dX7_copy_90 ?_
    refine lv_iload_n hx hb dX7_copy_93 rfl (lv_at hl 2 rfl) ?_
    refine lv_iconst (v := 2) hx hb dX7_copy_94 (by decide) ?_
    refine lv_iadd hx hb dX7_copy_95 ?_
    obtain ⟨g22, h⟩ := ob_gd h
    refine bg_ald (cN := 32) X hW (n := 1200) rfl g22 dX7_copy_96 ?_
    refine lv_icmp_ge (tgt := 121) hx hb dX7_copy_97 (by decide) (fun c23 => ?_) (fun c23 => ?_)
    · have h := ob_pos c23 h
      refine lv_aload_n hx hb dX7_copy_121 rfl (lv_at hl 0 rfl) ?_
      refine lv_iload_n hx hb dX7_copy_122 rfl (lv_at hl 1 rfl) ?_
      refine lv_iload_n hx hb dX7_copy_123 rfl (lv_at hl 2 rfl) ?_
      refine lv_iconst (v := 3) hx hb dX7_copy_124 (by decide) ?_
      refine lv_iadd hx hb dX7_copy_125 ?_
      obtain ⟨M25, e24, h⟩ := ob_bind h
      refine bg_callv X hW (cX7_ends_k e24) rfl rfl kw7_163 kd_X7_ends rfl rfl ⟨Nat.le_of_ble_eq_true rfl, Nat.le_of_ble_eq_true rfl⟩ ⟨Nat.le_refl _, Nat.le_refl _⟩ hl.1 (Nat.le_of_ble_eq_true rfl) dX7_copy_126 (fun H locs hW => ?_)
      exact rt_v X hW h dX7_copy_129
    · have h := ob_neg c23 h
      refine lv_aload_n hx hb dX7_copy_100 rfl (lv_at hl 0 rfl) ?_
      refine lv_aload_n hx hb dX7_copy_101 rfl (lv_at hl 0 rfl) ?_
      refine gf7_13 (cN := 31) X hW rfl dX7_copy_102 ?_
      refine lv_aload_n hx hb dX7_copy_105 rfl (lv_at hl 0 rfl) ?_
      refine gf7_140 (cN := 31) X hW rfl dX7_copy_106 ?_
      refine lv_iload_n hx hb dX7_copy_109 rfl (lv_at hl 3 rfl) ?_
      refine lv_isub hx hb dX7_copy_110 ?_
      obtain ⟨g26, h⟩ := ob_gd h
      refine bg_ald (cN := 33) X hW (n := 4000) rfl g26 dX7_copy_111 ?_
      obtain ⟨M28, e27, h⟩ := ob_bind h
      refine bg_callv X hW (cX7_comes_k e27) rfl rfl kw7_160 kd_X7_comes rfl rfl ⟨Nat.le_of_ble_eq_true rfl, Nat.le_of_ble_eq_true rfl⟩ ⟨Nat.le_refl _, Nat.le_refl _⟩ hl.1 (Nat.le_of_ble_eq_true rfl) dX7_copy_112 (fun H locs hW => ?_)
      obtain ⟨y29, ey29⟩ : ∃ y : Int32, y = (x4 + 1) := ⟨_, rfl⟩
      have h := ob_lt ey29 h
      refine lv_iinc (v := y29) (lv' := [(4, .int y29), (0, .ref (G.2.2.2 31)), (1, .int x1), (2, .int x2), (3, .int x3)]) hx hb dX7_copy_115 hl (k := 4) rfl (by rw [ey29]; rfl) (by decide) rfl (fun ls hl => ?_)
      refine lv_goto (tgt := 87) hx hb dX7_copy_118 (by decide) ?_
      exact hq87 x1 x2 x3 y29 M28 _ _ _ (lv_sub hl [1, 2, 3, 4, 0] rfl) hW h
def rX7_copy (a1 : Int32) (a2 : Int32) (M : Mm) : Option Mm :=
    (bd2 (rX7_has a2 (2 : Int32) M) fun r3 M2 => if r3 = 0 then (some M2) else (if (a2 + (1 : Int32)) < 0 ∨ 1200 ≤ ((a2 + (1 : Int32))).toNatClampNeg then none else lt_ (M2.1 32 ((a2 + (1 : Int32))).toNatClampNeg) fun y6 => if y6 = 0 then (rX7_copy_b38 a2 M2) else (if a1 < 0 ∨ 10 ≤ (a1).toNatClampNeg then none else if y6 ≤ ((M2.1 31 4) - (M2.1 37 (a1).toNatClampNeg)) then (bd2 (rX7_has a2 (3 : Int32) M2) fun r14 M13 => if r14 = 0 then (some M13) else (if (a2 + (2 : Int32)) < 0 ∨ 1200 ≤ ((a2 + (2 : Int32))).toNatClampNeg then none else if (a2 + (2 : Int32)) < 0 ∨ 1200 ≤ ((a2 + (2 : Int32))).toNatClampNeg then none else bd2 (rX7_pays a2 ((3 : Int32) + (M13.1 32 ((a2 + (2 : Int32))).toNatClampNeg)) (M13.1 32 ((a2 + (2 : Int32))).toNatClampNeg) M13) fun r20 M19 => if r20 = 0 then (some M19) else (rX7_copy_b87 FU a1 a2 y6 (0 : Int32) M19))) else (rX7_copy_b38 a2 M2))))
set_option maxRecDepth 100000 in
set_option maxHeartbeats 4000000 in
theorem cX7_copy_k {l : Launch} {G : Gg} {a1 : Int32} {a2 : Int32} {M M' : Mm} (h : rX7_copy a1 a2 M = some M') : CTv l yX7_copy cX7_copy 5 2 G [.ref (G.2.2.2 31), .int a1, .int a2] M M' := by
  unfold rX7_copy at h
  refine ct_v (by decide) (Nat.le_of_ble_eq_true rfl) (fun p e s m below meth c ls X hl hW => ?_)
  have hx := X.1.1
  have hb := X.1.2.1
  refine lv_aload_n hx hb dX7_copy_0 rfl (lv_at hl 0 rfl) ?_
  refine lv_iload_n hx hb dX7_copy_1 rfl (lv_at hl 2 rfl) ?_
  refine lv_iconst (v := 2) hx hb dX7_copy_2 (by decide) ?_
  obtain ⟨r3, M2, e1, h⟩ := ob_bd2 h
  refine bg_calli X hW (cX7_has_k e1) rfl rfl kw7_149 kd_X7_has rfl rfl ⟨Nat.le_of_ble_eq_true rfl, Nat.le_of_ble_eq_true rfl⟩ ⟨Nat.le_refl _, Nat.le_refl _⟩ hl.1 (Nat.le_of_ble_eq_true rfl) dX7_copy_3 (fun H locs hW => ?_)
  refine lv_if_ne (tgt := 10) hx hb dX7_copy_6 (by decide) (fun c4 => ?_) (fun c4 => ?_)
  · have h := ob_neg c4 h
    refine lv_aload_n hx hb dX7_copy_10 rfl (lv_at hl 0 rfl) ?_
    refine gf7_7 (cN := 31) X hW rfl dX7_copy_11 ?_
    refine lv_iload_n hx hb dX7_copy_14 rfl (lv_at hl 2 rfl) ?_
    refine lv_iconst (v := 1) hx hb dX7_copy_15 (by decide) ?_
    refine lv_iadd hx hb dX7_copy_16 ?_
    obtain ⟨g5, h⟩ := ob_gd h
    refine bg_ald (cN := 32) X hW (n := 1200) rfl g5 dX7_copy_17 ?_
    refine lv_topi (fun y6 ey6 => ?_)
    have h := ob_lt ey6 h
    refine lv_istore_n (lv' := [(3, .int y6), (0, .ref (G.2.2.2 31)), (1, .int a1), (2, .int a2)]) hx hb dX7_copy_18 rfl hl (by decide) rfl (fun ls hl => ?_)
    refine lv_iload_n hx hb dX7_copy_19 rfl (lv_at hl 0 rfl) ?_
    refine lv_if_eq (tgt := 38) hx hb dX7_copy_20 (by decide) (fun c7 => ?_) (fun c7 => ?_)
    · have h := ob_pos c7 h
      exact sX7_copy_b38 X a2 M2 _ _ _ (lv_sub hl [1, 3] rfl) hW h
    · have h := ob_neg c7 h
      refine lv_iload_n hx hb dX7_copy_23 rfl (lv_at hl 0 rfl) ?_
      refine lv_aload_n hx hb dX7_copy_24 rfl (lv_at hl 1 rfl) ?_
      refine gf7_140 (cN := 31) X hW rfl dX7_copy_25 ?_
      refine lv_aload_n hx hb dX7_copy_28 rfl (lv_at hl 1 rfl) ?_
      refine gf7_29 (cN := 31) X hW rfl dX7_copy_29 ?_
      refine lv_iload_n hx hb dX7_copy_32 rfl (lv_at hl 2 rfl) ?_
      obtain ⟨g10, h⟩ := ob_gd h
      refine bg_ald (cN := 37) X hW (n := 10) rfl g10 dX7_copy_33 ?_
      refine lv_isub hx hb dX7_copy_34 ?_
      refine lv_icmp_le (tgt := 49) hx hb dX7_copy_35 (by decide) (fun c11 => ?_) (fun c11 => ?_)
      · have h := ob_pos c11 h
        refine lv_aload_n hx hb dX7_copy_49 rfl (lv_at hl 1 rfl) ?_
        refine lv_iload_n hx hb dX7_copy_50 rfl (lv_at hl 3 rfl) ?_
        refine lv_iconst (v := 3) hx hb dX7_copy_51 (by decide) ?_
        obtain ⟨r14, M13, e12, h⟩ := ob_bd2 h
        refine bg_calli X hW (cX7_has_k e12) rfl rfl kw7_149 kd_X7_has rfl rfl ⟨Nat.le_of_ble_eq_true rfl, Nat.le_of_ble_eq_true rfl⟩ ⟨Nat.le_refl _, Nat.le_refl _⟩ hl.1 (Nat.le_of_ble_eq_true rfl) dX7_copy_52 (fun H locs hW => ?_)
        refine lv_if_eq (tgt := 129) hx hb dX7_copy_55 (by decide) (fun c15 => ?_) (fun c15 => ?_)
        · have h := ob_pos c15 h
          exact rt_v X hW h dX7_copy_129
        · have h := ob_neg c15 h
          refine lv_aload_n hx hb dX7_copy_58 rfl (lv_at hl 1 rfl) ?_
          refine lv_iload_n hx hb dX7_copy_59 rfl (lv_at hl 3 rfl) ?_
          refine lv_iconst (v := 3) hx hb dX7_copy_60 (by decide) ?_
          refine lv_aload_n hx hb dX7_copy_61 rfl (lv_at hl 1 rfl) ?_
          refine gf7_7 (cN := 31) X hW rfl dX7_copy_62 ?_
          refine lv_iload_n hx hb dX7_copy_65 rfl (lv_at hl 3 rfl) ?_
          refine lv_iconst (v := 2) hx hb dX7_copy_66 (by decide) ?_
          refine lv_iadd hx hb dX7_copy_67 ?_
          obtain ⟨g16, h⟩ := ob_gd h
          refine bg_ald (cN := 32) X hW (n := 1200) rfl g16 dX7_copy_68 ?_
          refine lv_iadd hx hb dX7_copy_69 ?_
          refine lv_aload_n hx hb dX7_copy_70 rfl (lv_at hl 1 rfl) ?_
          refine gf7_7 (cN := 31) X hW rfl dX7_copy_71 ?_
          refine lv_iload_n hx hb dX7_copy_74 rfl (lv_at hl 3 rfl) ?_
          refine lv_iconst (v := 2) hx hb dX7_copy_75 (by decide) ?_
          refine lv_iadd hx hb dX7_copy_76 ?_
          obtain ⟨g17, h⟩ := ob_gd h
          refine bg_ald (cN := 32) X hW (n := 1200) rfl g17 dX7_copy_77 ?_
          obtain ⟨r20, M19, e18, h⟩ := ob_bd2 h
          refine bg_calli X hW (cX7_pays_k e18) rfl rfl kw7_156 kd_X7_pays rfl rfl ⟨Nat.le_of_ble_eq_true rfl, Nat.le_of_ble_eq_true rfl⟩ ⟨Nat.le_refl _, Nat.le_refl _⟩ hl.1 (Nat.le_of_ble_eq_true rfl) dX7_copy_78 (fun H locs hW => ?_)
          refine lv_if_eq (tgt := 129) hx hb dX7_copy_81 (by decide) (fun c21 => ?_) (fun c21 => ?_)
          · have h := ob_pos c21 h
            exact rt_v X hW h dX7_copy_129
          · have h := ob_neg c21 h
            refine lv_iconst (v := 0) hx hb dX7_copy_84 (by decide) ?_
            refine lv_istore (lv' := [(4, .int (0 : Int32)), (3, .int y6), (0, .ref (G.2.2.2 31)), (1, .int a1), (2, .int a2)]) hx hb dX7_copy_85 hl (by decide) rfl (fun ls hl => ?_)
            exact sX7_copy_b87 X FU a1 a2 y6 (0 : Int32) M19 _ _ _ (lv_sub hl [2, 3, 4, 1, 0] rfl) hW h
      · have h := ob_neg c11 h
        exact sX7_copy_b38 X a2 M2 _ _ _ (lv_sub hl [1, 3] rfl) hW h
  · have h := ob_pos c4 h
    exact rt_v X hW h dX7_copy_9
def rX7_nest (a1 : Int32) (M : Mm) : Option Mm :=
    (bd2 (rX7_has a1 (3 : Int32) M) fun r3 M2 => if r3 = 0 then (some M2) else (if (a1 + (1 : Int32)) < 0 ∨ 1200 ≤ ((a1 + (1 : Int32))).toNatClampNeg then none else if (a1 + (2 : Int32)) < 0 ∨ 1200 ≤ ((a1 + (2 : Int32))).toNatClampNeg then none else lt_ (((256 : Int32) * (M2.1 32 ((a1 + (1 : Int32))).toNatClampNeg)) + (M2.1 32 ((a1 + (2 : Int32))).toNatClampNeg)) fun y7 => bd2 (rX7_has a1 ((3 : Int32) + y7) M2) fun r10 M9 => if r10 = 0 then (some M9) else (if ((M9.1 31 10) + (3 : Int32)) ≤ (M9.1 31 6) then (if (M9.1 31 14) ≤ (M9.1 31 7) then (lt_ (st M9 31 10 ((M9.1 31 10) + (3 : Int32))) fun M14 => Option.bind (rX7_begins (a1 + (3 : Int32)) ((a1 + (3 : Int32)) + y7) M14) fun M16 => some M16) else (Option.bind (rX7_fails (13 : Int32) a1 M9) fun M18 => some M18)) else (Option.bind (rX7_fails (12 : Int32) a1 M9) fun M20 => some M20))))
set_option maxRecDepth 100000 in
set_option maxHeartbeats 4000000 in
theorem cX7_nest_k {l : Launch} {G : Gg} {a1 : Int32} {M M' : Mm} (h : rX7_nest a1 M = some M') : CTv l yX7_nest cX7_nest 3 2 G [.ref (G.2.2.2 31), .int a1] M M' := by
  unfold rX7_nest at h
  refine ct_v (by decide) (Nat.le_of_ble_eq_true rfl) (fun p e s m below meth c ls X hl hW => ?_)
  have hx := X.1.1
  have hb := X.1.2.1
  refine lv_aload_n hx hb dX7_nest_0 rfl (lv_at hl 0 rfl) ?_
  refine lv_iload_n hx hb dX7_nest_1 rfl (lv_at hl 1 rfl) ?_
  refine lv_iconst (v := 3) hx hb dX7_nest_2 (by decide) ?_
  obtain ⟨r3, M2, e1, h⟩ := ob_bd2 h
  refine bg_calli X hW (cX7_has_k e1) rfl rfl kw7_149 kd_X7_has rfl rfl ⟨Nat.le_of_ble_eq_true rfl, Nat.le_of_ble_eq_true rfl⟩ ⟨Nat.le_refl _, Nat.le_refl _⟩ hl.1 (Nat.le_of_ble_eq_true rfl) dX7_nest_3 (fun H locs hW => ?_)
  refine lv_if_ne (tgt := 10) hx hb dX7_nest_6 (by decide) (fun c4 => ?_) (fun c4 => ?_)
  · have h := ob_neg c4 h
    refine lv_sipush (v := 256) hx hb dX7_nest_10 (by decide) ?_
    refine lv_aload_n hx hb dX7_nest_13 rfl (lv_at hl 0 rfl) ?_
    refine gf7_7 (cN := 31) X hW rfl dX7_nest_14 ?_
    refine lv_iload_n hx hb dX7_nest_17 rfl (lv_at hl 1 rfl) ?_
    refine lv_iconst (v := 1) hx hb dX7_nest_18 (by decide) ?_
    refine lv_iadd hx hb dX7_nest_19 ?_
    obtain ⟨g5, h⟩ := ob_gd h
    refine bg_ald (cN := 32) X hW (n := 1200) rfl g5 dX7_nest_20 ?_
    refine lv_imul hx hb dX7_nest_21 ?_
    refine lv_aload_n hx hb dX7_nest_22 rfl (lv_at hl 0 rfl) ?_
    refine gf7_7 (cN := 31) X hW rfl dX7_nest_23 ?_
    refine lv_iload_n hx hb dX7_nest_26 rfl (lv_at hl 1 rfl) ?_
    refine lv_iconst (v := 2) hx hb dX7_nest_27 (by decide) ?_
    refine lv_iadd hx hb dX7_nest_28 ?_
    obtain ⟨g6, h⟩ := ob_gd h
    refine bg_ald (cN := 32) X hW (n := 1200) rfl g6 dX7_nest_29 ?_
    refine lv_iadd hx hb dX7_nest_30 ?_
    refine lv_topi (fun y7 ey7 => ?_)
    have h := ob_lt ey7 h
    refine lv_istore_n (lv' := [(2, .int y7), (0, .ref (G.2.2.2 31)), (1, .int a1)]) hx hb dX7_nest_31 rfl hl (by decide) rfl (fun ls hl => ?_)
    refine lv_aload_n hx hb dX7_nest_32 rfl (lv_at hl 1 rfl) ?_
    refine lv_iload_n hx hb dX7_nest_33 rfl (lv_at hl 2 rfl) ?_
    refine lv_iconst (v := 3) hx hb dX7_nest_34 (by decide) ?_
    refine lv_iload_n hx hb dX7_nest_35 rfl (lv_at hl 0 rfl) ?_
    refine lv_iadd hx hb dX7_nest_36 ?_
    obtain ⟨r10, M9, e8, h⟩ := ob_bd2 h
    refine bg_calli X hW (cX7_has_k e8) rfl rfl kw7_149 kd_X7_has rfl rfl ⟨Nat.le_of_ble_eq_true rfl, Nat.le_of_ble_eq_true rfl⟩ ⟨Nat.le_refl _, Nat.le_refl _⟩ hl.1 (Nat.le_of_ble_eq_true rfl) dX7_nest_37 (fun H locs hW => ?_)
    refine lv_if_ne (tgt := 44) hx hb dX7_nest_40 (by decide) (fun c11 => ?_) (fun c11 => ?_)
    · have h := ob_neg c11 h
      refine lv_aload_n hx hb dX7_nest_44 rfl (lv_at hl 1 rfl) ?_
      refine gf7_125 (cN := 31) X hW rfl dX7_nest_45 ?_
      refine lv_iconst (v := 3) hx hb dX7_nest_48 (by decide) ?_
      refine lv_iadd hx hb dX7_nest_49 ?_
      refine lv_aload_n hx hb dX7_nest_50 rfl (lv_at hl 1 rfl) ?_
      refine gf7_128 (cN := 31) X hW rfl dX7_nest_51 ?_
      refine lv_icmp_le (tgt := 67) hx hb dX7_nest_54 (by decide) (fun c12 => ?_) (fun c12 => ?_)
      · have h := ob_pos c12 h
        refine lv_aload_n hx hb dX7_nest_67 rfl (lv_at hl 1 rfl) ?_
        refine gf7_137 (cN := 31) X hW rfl dX7_nest_68 ?_
        refine lv_aload_n hx hb dX7_nest_71 rfl (lv_at hl 1 rfl) ?_
        refine gf7_178 (cN := 31) X hW rfl dX7_nest_72 ?_
        refine lv_icmp_le (tgt := 88) hx hb dX7_nest_75 (by decide) (fun c13 => ?_) (fun c13 => ?_)
        · have h := ob_pos c13 h
          refine lv_aload_n hx hb dX7_nest_88 rfl (lv_at hl 1 rfl) ?_
          refine lv_dup hx hb dX7_nest_89 rfl ?_
          refine gf7_125 (cN := 31) X hW rfl dX7_nest_90 ?_
          refine lv_iconst (v := 3) hx hb dX7_nest_93 (by decide) ?_
          refine lv_iadd hx hb dX7_nest_94 ?_
          refine pf7_125 (cN := 31) X hW rfl dX7_nest_95 (fun M14 eM14 H locs hW => ?_)
          have h := ob_lt eM14 h
          refine lv_aload_n hx hb dX7_nest_98 rfl (lv_at hl 1 rfl) ?_
          refine lv_iload_n hx hb dX7_nest_99 rfl (lv_at hl 2 rfl) ?_
          refine lv_iconst (v := 3) hx hb dX7_nest_100 (by decide) ?_
          refine lv_iadd hx hb dX7_nest_101 ?_
          refine lv_iload_n hx hb dX7_nest_102 rfl (lv_at hl 2 rfl) ?_
          refine lv_iconst (v := 3) hx hb dX7_nest_103 (by decide) ?_
          refine lv_iadd hx hb dX7_nest_104 ?_
          refine lv_iload_n hx hb dX7_nest_105 rfl (lv_at hl 0 rfl) ?_
          refine lv_iadd hx hb dX7_nest_106 ?_
          obtain ⟨M16, e15, h⟩ := ob_bind h
          refine bg_callv X hW (cX7_begins_k e15) rfl rfl kw7_181 kd_X7_begins rfl rfl ⟨Nat.le_of_ble_eq_true rfl, Nat.le_of_ble_eq_true rfl⟩ ⟨Nat.le_refl _, Nat.le_refl _⟩ hl.1 (Nat.le_of_ble_eq_true rfl) dX7_nest_107 (fun H locs hW => ?_)
          exact rt_v X hW h dX7_nest_110
        · have h := ob_neg c13 h
          refine lv_aload_n hx hb dX7_nest_78 rfl (lv_at hl 1 rfl) ?_
          refine lv_bipush (v := 13) hx hb dX7_nest_79 (by decide) ?_
          refine lv_iload_n hx hb dX7_nest_81 rfl (lv_at hl 2 rfl) ?_
          obtain ⟨M18, e17, h⟩ := ob_bind h
          refine bg_callv X hW (cX7_fails_k e17) rfl rfl kw7_131 kd_X7_fails rfl rfl ⟨Nat.le_of_ble_eq_true rfl, Nat.le_of_ble_eq_true rfl⟩ ⟨Nat.le_refl _, Nat.le_refl _⟩ hl.1 (Nat.le_of_ble_eq_true rfl) dX7_nest_82 (fun H locs hW => ?_)
          refine lv_goto (tgt := 110) hx hb dX7_nest_85 (by decide) ?_
          exact rt_v X hW h dX7_nest_110
      · have h := ob_neg c12 h
        refine lv_aload_n hx hb dX7_nest_57 rfl (lv_at hl 1 rfl) ?_
        refine lv_bipush (v := 12) hx hb dX7_nest_58 (by decide) ?_
        refine lv_iload_n hx hb dX7_nest_60 rfl (lv_at hl 2 rfl) ?_
        obtain ⟨M20, e19, h⟩ := ob_bind h
        refine bg_callv X hW (cX7_fails_k e19) rfl rfl kw7_131 kd_X7_fails rfl rfl ⟨Nat.le_of_ble_eq_true rfl, Nat.le_of_ble_eq_true rfl⟩ ⟨Nat.le_refl _, Nat.le_refl _⟩ hl.1 (Nat.le_of_ble_eq_true rfl) dX7_nest_61 (fun H locs hW => ?_)
        refine lv_goto (tgt := 110) hx hb dX7_nest_64 (by decide) ?_
        exact rt_v X hW h dX7_nest_110
    · have h := ob_pos c11 h
      exact rt_v X hW h dX7_nest_43
  · have h := ob_pos c4 h
    exact rt_v X hW h dX7_nest_9
def rX7_again_b69_s (q69 : Int32 → Int32 → Int32 → Int32 → Mm → Option Mm) (x1 : Int32) (x2 : Int32) (x4 : Int32) (x5 : Int32) (M : Mm) : Option Mm :=
    (if x4 ≤ x5 then (Option.bind (rX7_ends x1 (x2 + (2 : Int32)) M) fun M17 => some M17) else (if x1 < 0 ∨ 10 ≤ (x1).toNatClampNeg then none else if ((M.1 37 (x1).toNatClampNeg) + x5) < 0 ∨ 4000 ≤ (((M.1 37 (x1).toNatClampNeg) + x5)).toNatClampNeg then none else Option.bind (rX7_comes (M.1 33 (((M.1 37 (x1).toNatClampNeg) + x5)).toNatClampNeg) M) fun M21 => lt_ (x5 + 1) fun y22 => q69 x1 x2 x4 y22 M21))
def rX7_again_b69 : Nat → Int32 → Int32 → Int32 → Int32 → Mm → Option Mm
  | 0 => fun _ _ _ _ _ => none
  | n + 1 => rX7_again_b69_s (rX7_again_b69 n)
set_option maxRecDepth 100000 in
set_option maxHeartbeats 4000000 in
theorem sX7_again_b69 {p : Program} {l : Launch} {e : Env} {s : State} {m : MethodId} {args : Array Value} {below : List Frame} {meth : Method} {c : Code} {G : Gg} {M' : Mm} (X : Cx p m c meth cX7_again 6 s args RX7 none G) : ∀ (n : Nat), ∀ (x1 : Int32) (x2 : Int32) (x4 : Int32) (x5 : Int32) (M : Mm) (ls : Array Slot) (H : Heap) (locs : List Loc), lv_has ls 6 [(0, .ref (G.2.2.2 31)), (1, .int x1), (2, .int x2), (4, .int x4), (5, .int x5)] → Wo G s M H locs → rX7_again_b69 n x1 x2 x4 x5 M = some M' → W p l e (rm 2) s m args below meth c H locs 0 0 (Qv below args s G M') (F0 m 69 ls []) := by
  intro n
  induction n with
  | zero =>
    intro x1 x2 x4 x5 M ls H locs hl hW h
    cases (show (none : Option Mm) = some M' from h)
  | succ n hq690 =>
    have hq69 : ∀ (x1 : Int32) (x2 : Int32) (x4 : Int32) (x5 : Int32) (M : Mm) (ls : Array Slot) (H : Heap) (locs : List Loc), lv_has ls 6 [(0, .ref (G.2.2.2 31)), (1, .int x1), (2, .int x2), (4, .int x4), (5, .int x5)] → Wo G s M H locs → (rX7_again_b69 n) x1 x2 x4 x5 M = some M' → W p l e (rm 2) s m args below meth c H locs 0 0 (Qv below args s G M') (F0 m 69 ls []) := hq690
    intro x1 x2 x4 x5 M ls H locs hl hW h
    have h : rX7_again_b69_s (rX7_again_b69 n) x1 x2 x4 x5 M = some M' := h
    unfold rX7_again_b69_s at h
    have hx := X.1.1
    have hb := X.1.2.1
    refine lv_iload hx hb dX7_again_69 (lv_at hl 4 rfl) ?_
    refine lv_iload hx hb dX7_again_71 (lv_at hl 3 rfl) ?_
    refine lv_icmp_ge (tgt := 100) hx hb dX7_again_73 (by decide) (fun c15 => ?_) (fun c15 => ?_)
    · have h := ob_pos c15 h
      refine lv_aload_n hx hb dX7_again_100 rfl (lv_at hl 0 rfl) ?_
      refine lv_iload_n hx hb dX7_again_101 rfl (lv_at hl 1 rfl) ?_
      refine lv_iload_n hx hb dX7_again_102 rfl (lv_at hl 2 rfl) ?_
      refine lv_iconst (v := 2) hx hb dX7_again_103 (by decide) ?_
      refine lv_iadd hx hb dX7_again_104 ?_
      obtain ⟨M17, e16, h⟩ := ob_bind h
      refine bg_callv X hW (cX7_ends_k e16) rfl rfl kw7_163 kd_X7_ends rfl rfl ⟨Nat.le_of_ble_eq_true rfl, Nat.le_of_ble_eq_true rfl⟩ ⟨Nat.le_refl _, Nat.le_refl _⟩ hl.1 (Nat.le_of_ble_eq_true rfl) dX7_again_105 (fun H locs hW => ?_)
      exact rt_v X hW h dX7_again_108
    · have h := ob_neg c15 h
      refine lv_aload_n hx hb dX7_again_76 rfl (lv_at hl 0 rfl) ?_
      refine lv_aload_n hx hb dX7_again_77 rfl (lv_at hl 0 rfl) ?_
      refine gf7_13 (cN := 31) X hW rfl dX7_again_78 ?_
      refine lv_aload_n hx hb dX7_again_81 rfl (lv_at hl 0 rfl) ?_
      refine gf7_29 (cN := 31) X hW rfl dX7_again_82 ?_
      refine lv_iload_n hx hb dX7_again_85 rfl (lv_at hl 1 rfl) ?_
      obtain ⟨g18, h⟩ := ob_gd h
      refine bg_ald (cN := 37) X hW (n := 10) rfl g18 dX7_again_86 ?_
      refine lv_iload hx hb dX7_again_87 (lv_at hl 4 rfl) ?_
      refine lv_iadd hx hb dX7_again_89 ?_
      obtain ⟨g19, h⟩ := ob_gd h
      refine bg_ald (cN := 33) X hW (n := 4000) rfl g19 dX7_again_90 ?_
      obtain ⟨M21, e20, h⟩ := ob_bind h
      refine bg_callv X hW (cX7_comes_k e20) rfl rfl kw7_160 kd_X7_comes rfl rfl ⟨Nat.le_of_ble_eq_true rfl, Nat.le_of_ble_eq_true rfl⟩ ⟨Nat.le_refl _, Nat.le_refl _⟩ hl.1 (Nat.le_of_ble_eq_true rfl) dX7_again_91 (fun H locs hW => ?_)
      obtain ⟨y22, ey22⟩ : ∃ y : Int32, y = (x5 + 1) := ⟨_, rfl⟩
      have h := ob_lt ey22 h
      refine lv_iinc (v := y22) (lv' := [(5, .int y22), (0, .ref (G.2.2.2 31)), (1, .int x1), (2, .int x2), (4, .int x4)]) hx hb dX7_again_94 hl (k := 4) rfl (by rw [ey22]; rfl) (by decide) rfl (fun ls hl => ?_)
      refine lv_goto (tgt := 69) hx hb dX7_again_97 (by decide) ?_
      exact hq69 x1 x2 x4 y22 M21 _ _ _ (lv_sub hl [1, 2, 3, 4, 0] rfl) hW h
def rX7_again (a1 : Int32) (a2 : Int32) (M : Mm) : Option Mm :=
    (bd2 (rX7_has a2 (2 : Int32) M) fun r3 M2 => if r3 = 0 then (some M2) else (if (a2 + (1 : Int32)) < 0 ∨ 1200 ≤ ((a2 + (1 : Int32))).toNatClampNeg then none else lt_ (M2.1 32 ((a2 + (1 : Int32))).toNatClampNeg) fun y6 => if a1 < 0 ∨ 10 ≤ (a1).toNatClampNeg then none else if y6 < (M2.1 38 (a1).toNatClampNeg) then (if (((600 : Int32) * a1) + y6) < 0 ∨ 6000 ≤ ((((600 : Int32) * a1) + y6)).toNatClampNeg then none else lt_ (M2.1 39 ((((600 : Int32) * a1) + y6)).toNatClampNeg) fun y10 => bd2 (rX7_pays a2 ((2 : Int32) + y10) y10 M2) fun r13 M12 => if r13 = 0 then (some M12) else (rX7_again_b69 FU a1 a2 y10 (0 : Int32) M12)) else (Option.bind (rX7_fails (5 : Int32) (a2 + (1 : Int32)) M2) fun M24 => some M24)))
set_option maxRecDepth 100000 in
set_option maxHeartbeats 4000000 in
theorem cX7_again_k {l : Launch} {G : Gg} {a1 : Int32} {a2 : Int32} {M M' : Mm} (h : rX7_again a1 a2 M = some M') : CTv l yX7_again cX7_again 6 2 G [.ref (G.2.2.2 31), .int a1, .int a2] M M' := by
  unfold rX7_again at h
  refine ct_v (by decide) (Nat.le_of_ble_eq_true rfl) (fun p e s m below meth c ls X hl hW => ?_)
  have hx := X.1.1
  have hb := X.1.2.1
  refine lv_aload_n hx hb dX7_again_0 rfl (lv_at hl 0 rfl) ?_
  refine lv_iload_n hx hb dX7_again_1 rfl (lv_at hl 2 rfl) ?_
  refine lv_iconst (v := 2) hx hb dX7_again_2 (by decide) ?_
  obtain ⟨r3, M2, e1, h⟩ := ob_bd2 h
  refine bg_calli X hW (cX7_has_k e1) rfl rfl kw7_149 kd_X7_has rfl rfl ⟨Nat.le_of_ble_eq_true rfl, Nat.le_of_ble_eq_true rfl⟩ ⟨Nat.le_refl _, Nat.le_refl _⟩ hl.1 (Nat.le_of_ble_eq_true rfl) dX7_again_3 (fun H locs hW => ?_)
  refine lv_if_ne (tgt := 10) hx hb dX7_again_6 (by decide) (fun c4 => ?_) (fun c4 => ?_)
  · have h := ob_neg c4 h
    refine lv_aload_n hx hb dX7_again_10 rfl (lv_at hl 0 rfl) ?_
    refine gf7_7 (cN := 31) X hW rfl dX7_again_11 ?_
    refine lv_iload_n hx hb dX7_again_14 rfl (lv_at hl 2 rfl) ?_
    refine lv_iconst (v := 1) hx hb dX7_again_15 (by decide) ?_
    refine lv_iadd hx hb dX7_again_16 ?_
    obtain ⟨g5, h⟩ := ob_gd h
    refine bg_ald (cN := 32) X hW (n := 1200) rfl g5 dX7_again_17 ?_
    refine lv_topi (fun y6 ey6 => ?_)
    have h := ob_lt ey6 h
    refine lv_istore_n (lv' := [(3, .int y6), (0, .ref (G.2.2.2 31)), (1, .int a1), (2, .int a2)]) hx hb dX7_again_18 rfl hl (by decide) rfl (fun ls hl => ?_)
    refine lv_iload_n hx hb dX7_again_19 rfl (lv_at hl 0 rfl) ?_
    refine lv_aload_n hx hb dX7_again_20 rfl (lv_at hl 1 rfl) ?_
    refine gf7_32 (cN := 31) X hW rfl dX7_again_21 ?_
    refine lv_iload_n hx hb dX7_again_24 rfl (lv_at hl 2 rfl) ?_
    obtain ⟨g7, h⟩ := ob_gd h
    refine bg_ald (cN := 38) X hW (n := 10) rfl g7 dX7_again_25 ?_
    refine lv_icmp_lt (tgt := 38) hx hb dX7_again_26 (by decide) (fun c8 => ?_) (fun c8 => ?_)
    · have h := ob_pos c8 h
      refine lv_aload_n hx hb dX7_again_38 rfl (lv_at hl 1 rfl) ?_
      refine gf7_35 (cN := 31) X hW rfl dX7_again_39 ?_
      refine lv_sipush (v := 600) hx hb dX7_again_42 (by decide) ?_
      refine lv_iload_n hx hb dX7_again_45 rfl (lv_at hl 2 rfl) ?_
      refine lv_imul hx hb dX7_again_46 ?_
      refine lv_iload_n hx hb dX7_again_47 rfl (lv_at hl 0 rfl) ?_
      refine lv_iadd hx hb dX7_again_48 ?_
      obtain ⟨g9, h⟩ := ob_gd h
      refine bg_ald (cN := 39) X hW (n := 6000) rfl g9 dX7_again_49 ?_
      refine lv_topi (fun y10 ey10 => ?_)
      have h := ob_lt ey10 h
      refine lv_istore (lv' := [(4, .int y10), (3, .int y6), (0, .ref (G.2.2.2 31)), (1, .int a1), (2, .int a2)]) hx hb dX7_again_50 hl (by decide) rfl (fun ls hl => ?_)
      refine lv_aload_n hx hb dX7_again_52 rfl (lv_at hl 2 rfl) ?_
      refine lv_iload_n hx hb dX7_again_53 rfl (lv_at hl 4 rfl) ?_
      refine lv_iconst (v := 2) hx hb dX7_again_54 (by decide) ?_
      refine lv_iload hx hb dX7_again_55 (lv_at hl 0 rfl) ?_
      refine lv_iadd hx hb dX7_again_57 ?_
      refine lv_iload hx hb dX7_again_58 (lv_at hl 0 rfl) ?_
      obtain ⟨r13, M12, e11, h⟩ := ob_bd2 h
      refine bg_calli X hW (cX7_pays_k e11) rfl rfl kw7_156 kd_X7_pays rfl rfl ⟨Nat.le_of_ble_eq_true rfl, Nat.le_of_ble_eq_true rfl⟩ ⟨Nat.le_refl _, Nat.le_refl _⟩ hl.1 (Nat.le_of_ble_eq_true rfl) dX7_again_60 (fun H locs hW => ?_)
      refine lv_if_eq (tgt := 108) hx hb dX7_again_63 (by decide) (fun c14 => ?_) (fun c14 => ?_)
      · have h := ob_pos c14 h
        exact rt_v X hW h dX7_again_108
      · have h := ob_neg c14 h
        refine lv_iconst (v := 0) hx hb dX7_again_66 (by decide) ?_
        refine lv_istore (lv' := [(5, .int (0 : Int32)), (4, .int y10), (3, .int y6), (0, .ref (G.2.2.2 31)), (1, .int a1), (2, .int a2)]) hx hb dX7_again_67 hl (by decide) rfl (fun ls hl => ?_)
        exact sX7_again_b69 X FU a1 a2 y10 (0 : Int32) M12 _ _ _ (lv_sub hl [3, 4, 5, 1, 0] rfl) hW h
    · have h := ob_neg c8 h
      refine lv_aload_n hx hb dX7_again_29 rfl (lv_at hl 1 rfl) ?_
      refine lv_iconst (v := 5) hx hb dX7_again_30 (by decide) ?_
      refine lv_iload_n hx hb dX7_again_31 rfl (lv_at hl 3 rfl) ?_
      refine lv_iconst (v := 1) hx hb dX7_again_32 (by decide) ?_
      refine lv_iadd hx hb dX7_again_33 ?_
      obtain ⟨M24, e23, h⟩ := ob_bind h
      refine bg_callv X hW (cX7_fails_k e23) rfl rfl kw7_131 kd_X7_fails rfl rfl ⟨Nat.le_of_ble_eq_true rfl, Nat.le_of_ble_eq_true rfl⟩ ⟨Nat.le_refl _, Nat.le_refl _⟩ hl.1 (Nat.le_of_ble_eq_true rfl) dX7_again_34 (fun H locs hW => ?_)
      exact rt_v X hW h dX7_again_37
  · have h := ob_pos c4 h
    exact rt_v X hW h dX7_again_9
def rX7_codesOf_b166 (M : Mm) : Option (Int32 × Mm) :=
    (if ¬ (1 : Int32) &&& 1 = (1 : Int32) then none else some ((1 : Int32), M))
set_option maxRecDepth 100000 in
set_option maxHeartbeats 4000000 in
theorem sX7_codesOf_b166 {p : Program} {l : Launch} {e : Env} {s : State} {m : MethodId} {args : Array Value} {below : List Frame} {meth : Method} {c : Code} {G : Gg} {r : Int32} {M' : Mm} (X : Cx p m c meth cX7_codesOf 9 s args RX7 (some .boolean) G) : ∀ (M : Mm) (ls : Array Slot) (H : Heap) (locs : List Loc), lv_has ls 9 [(0, .ref (G.2.2.2 31))] → Wo G s M H locs → rX7_codesOf_b166  M = some (r, M') → W p l e (rm 0) s m args below meth c H locs 0 0 (Qi below args s G r M') (F0 m 166 ls []) := by
    intro M ls H locs hl hW h
    unfold rX7_codesOf_b166 at h
    have hx := X.1.1
    have hb := X.1.2.1
    refine lv_iconst (v := 1) hx hb dX7_codesOf_166 (by decide) ?_
    refine lv_goto (tgt := 171) hx hb dX7_codesOf_167 (by decide) ?_
    exact rt_z X hW h dX7_codesOf_171
def rX7_codesOf_b135 (q103 : Int32 → Int32 → Int32 → Int32 → Int32 → Int32 → Int32 → Int32 → Mm → Option (Int32 × Mm)) (x1 : Int32) (x2 : Int32) (x3 : Int32) (x4 : Int32) (x5 : Int32) (x6 : Int32) (x7 : Int32) (x8 : Int32) (M : Mm) : Option (Int32 × Mm) :=
    (lt_ (x8 + 1) fun y11 => q103 x1 x2 x3 x4 x5 x6 x7 y11 M)
set_option maxRecDepth 100000 in
set_option maxHeartbeats 4000000 in
theorem sX7_codesOf_b135 {p : Program} {l : Launch} {e : Env} {s : State} {m : MethodId} {args : Array Value} {below : List Frame} {meth : Method} {c : Code} {G : Gg} {r : Int32} {M' : Mm} (X : Cx p m c meth cX7_codesOf 9 s args RX7 (some .boolean) G) {q103 : Int32 → Int32 → Int32 → Int32 → Int32 → Int32 → Int32 → Int32 → Mm → Option (Int32 × Mm)} (hq103 : ∀ (x1 : Int32) (x2 : Int32) (x3 : Int32) (x4 : Int32) (x5 : Int32) (x6 : Int32) (x7 : Int32) (x8 : Int32) (M : Mm) (ls : Array Slot) (H : Heap) (locs : List Loc), lv_has ls 9 [(0, .ref (G.2.2.2 31)), (1, .int x1), (2, .int x2), (3, .int x3), (4, .int x4), (5, .int x5), (6, .int x6), (7, .int x7), (8, .int x8)] → Wo G s M H locs → q103 x1 x2 x3 x4 x5 x6 x7 x8 M = some (r, M') → W p l e (rm 0) s m args below meth c H locs 0 0 (Qi below args s G r M') (F0 m 103 ls [])) : ∀ (x1 : Int32) (x2 : Int32) (x3 : Int32) (x4 : Int32) (x5 : Int32) (x6 : Int32) (x7 : Int32) (x8 : Int32) (M : Mm) (ls : Array Slot) (H : Heap) (locs : List Loc), lv_has ls 9 [(0, .ref (G.2.2.2 31)), (1, .int x1), (2, .int x2), (3, .int x3), (4, .int x4), (5, .int x5), (6, .int x6), (7, .int x7), (8, .int x8)] → Wo G s M H locs → rX7_codesOf_b135 q103 x1 x2 x3 x4 x5 x6 x7 x8 M = some (r, M') → W p l e (rm 0) s m args below meth c H locs 0 0 (Qi below args s G r M') (F0 m 135 ls []) := by
    intro x1 x2 x3 x4 x5 x6 x7 x8 M ls H locs hl hW h
    unfold rX7_codesOf_b135 at h
    have hx := X.1.1
    have hb := X.1.2.1
    obtain ⟨y11, ey11⟩ : ∃ y : Int32, y = (x8 + 1) := ⟨_, rfl⟩
    have h := ob_lt ey11 h
    refine lv_iinc (v := y11) (lv' := [(8, .int y11), (0, .ref (G.2.2.2 31)), (1, .int x1), (2, .int x2), (3, .int x3), (4, .int x4), (5, .int x5), (6, .int x6), (7, .int x7)]) hx hb dX7_codesOf_135 hl (k := 8) rfl (by rw [ey11]; rfl) (by decide) rfl (fun ls hl => ?_)
    refine lv_goto (tgt := 103) hx hb dX7_codesOf_138 (by decide) ?_
    exact hq103 x1 x2 x3 x4 x5 x6 x7 y11 M _ _ _ (lv_sub hl [1, 2, 3, 4, 5, 6, 7, 8, 0] rfl) hW h
def rX7_codesOf_b103_s (q87 : Int32 → Int32 → Int32 → Int32 → Int32 → Int32 → Int32 → Mm → Option (Int32 × Mm)) (q103 : Int32 → Int32 → Int32 → Int32 → Int32 → Int32 → Int32 → Int32 → Mm → Option (Int32 × Mm)) (x1 : Int32) (x2 : Int32) (x3 : Int32) (x4 : Int32) (x5 : Int32) (x6 : Int32) (x7 : Int32) (x8 : Int32) (M : Mm) : Option (Int32 × Mm) :=
    (if x2 ≤ x8 then (lt_ (x7 + 1) fun y8 => q87 x1 x2 x3 x4 x5 x6 y8 M) else (if (x1 + x8) < 0 ∨ 1200 ≤ ((x1 + x8)).toNatClampNeg then none else if (M.1 32 ((x1 + x8)).toNatClampNeg) = x7 then (if x8 < 0 ∨ 8 ≤ (x8).toNatClampNeg then none else lt_ (st M 47 (x8).toNatClampNeg x6) fun M13 => lt_ (x6 + 1) fun y14 => rX7_codesOf_b135 q103 x1 x2 x3 x4 x5 y14 x7 x8 M13) else (rX7_codesOf_b135 q103 x1 x2 x3 x4 x5 x6 x7 x8 M)))
def rX7_codesOf_b103 (q87 : Int32 → Int32 → Int32 → Int32 → Int32 → Int32 → Int32 → Mm → Option (Int32 × Mm)) : Nat → Int32 → Int32 → Int32 → Int32 → Int32 → Int32 → Int32 → Int32 → Mm → Option (Int32 × Mm)
  | 0 => fun _ _ _ _ _ _ _ _ _ => none
  | n + 1 => rX7_codesOf_b103_s q87 (rX7_codesOf_b103 q87 n)
set_option maxRecDepth 100000 in
set_option maxHeartbeats 4000000 in
theorem sX7_codesOf_b103 {p : Program} {l : Launch} {e : Env} {s : State} {m : MethodId} {args : Array Value} {below : List Frame} {meth : Method} {c : Code} {G : Gg} {r : Int32} {M' : Mm} (X : Cx p m c meth cX7_codesOf 9 s args RX7 (some .boolean) G) {q87 : Int32 → Int32 → Int32 → Int32 → Int32 → Int32 → Int32 → Mm → Option (Int32 × Mm)} (hq87 : ∀ (x1 : Int32) (x2 : Int32) (x3 : Int32) (x4 : Int32) (x5 : Int32) (x6 : Int32) (x7 : Int32) (M : Mm) (ls : Array Slot) (H : Heap) (locs : List Loc), lv_has ls 9 [(0, .ref (G.2.2.2 31)), (1, .int x1), (2, .int x2), (3, .int x3), (4, .int x4), (5, .int x5), (6, .int x6), (7, .int x7)] → Wo G s M H locs → q87 x1 x2 x3 x4 x5 x6 x7 M = some (r, M') → W p l e (rm 0) s m args below meth c H locs 0 0 (Qi below args s G r M') (F0 m 87 ls [])) : ∀ (n : Nat), ∀ (x1 : Int32) (x2 : Int32) (x3 : Int32) (x4 : Int32) (x5 : Int32) (x6 : Int32) (x7 : Int32) (x8 : Int32) (M : Mm) (ls : Array Slot) (H : Heap) (locs : List Loc), lv_has ls 9 [(0, .ref (G.2.2.2 31)), (1, .int x1), (2, .int x2), (3, .int x3), (4, .int x4), (5, .int x5), (6, .int x6), (7, .int x7), (8, .int x8)] → Wo G s M H locs → rX7_codesOf_b103 q87 n x1 x2 x3 x4 x5 x6 x7 x8 M = some (r, M') → W p l e (rm 0) s m args below meth c H locs 0 0 (Qi below args s G r M') (F0 m 103 ls []) := by
  intro n
  induction n with
  | zero =>
    intro x1 x2 x3 x4 x5 x6 x7 x8 M ls H locs hl hW h
    cases (show (none : Option (Int32 × Mm)) = some (r, M') from h)
  | succ n hq1030 =>
    have hq103 : ∀ (x1 : Int32) (x2 : Int32) (x3 : Int32) (x4 : Int32) (x5 : Int32) (x6 : Int32) (x7 : Int32) (x8 : Int32) (M : Mm) (ls : Array Slot) (H : Heap) (locs : List Loc), lv_has ls 9 [(0, .ref (G.2.2.2 31)), (1, .int x1), (2, .int x2), (3, .int x3), (4, .int x4), (5, .int x5), (6, .int x6), (7, .int x7), (8, .int x8)] → Wo G s M H locs → (rX7_codesOf_b103 q87 n) x1 x2 x3 x4 x5 x6 x7 x8 M = some (r, M') → W p l e (rm 0) s m args below meth c H locs 0 0 (Qi below args s G r M') (F0 m 103 ls []) := hq1030
    intro x1 x2 x3 x4 x5 x6 x7 x8 M ls H locs hl hW h
    have h : rX7_codesOf_b103_s q87 (rX7_codesOf_b103 q87 n) x1 x2 x3 x4 x5 x6 x7 x8 M = some (r, M') := h
    unfold rX7_codesOf_b103_s at h
    have hx := X.1.1
    have hb := X.1.2.1
    refine lv_iload hx hb dX7_codesOf_103 (lv_at hl 8 rfl) ?_
    refine lv_iload_n hx hb dX7_codesOf_105 rfl (lv_at hl 2 rfl) ?_
    refine lv_icmp_ge (tgt := 141) hx hb dX7_codesOf_106 (by decide) (fun c7 => ?_) (fun c7 => ?_)
    · have h := ob_pos c7 h
      obtain ⟨y8, ey8⟩ : ∃ y : Int32, y = (x7 + 1) := ⟨_, rfl⟩
      have h := ob_lt ey8 h
      refine lv_iinc (v := y8) (lv' := [(7, .int y8), (0, .ref (G.2.2.2 31)), (1, .int x1), (2, .int x2), (3, .int x3), (4, .int x4), (5, .int x5), (6, .int x6), (8, .int x8)]) hx hb dX7_codesOf_141 hl (k := 7) rfl (by rw [ey8]; rfl) (by decide) rfl (fun ls hl => ?_)
      refine lv_goto (tgt := 87) hx hb dX7_codesOf_144 (by decide) ?_
      exact hq87 x1 x2 x3 x4 x5 x6 y8 M _ _ _ (lv_sub hl [1, 2, 3, 4, 5, 6, 7, 0] rfl) hW h
    · have h := ob_neg c7 h
      refine lv_aload_n hx hb dX7_codesOf_109 rfl (lv_at hl 0 rfl) ?_
      refine gf7_7 (cN := 31) X hW rfl dX7_codesOf_110 ?_
      refine lv_iload_n hx hb dX7_codesOf_113 rfl (lv_at hl 1 rfl) ?_
      refine lv_iload hx hb dX7_codesOf_114 (lv_at hl 8 rfl) ?_
      refine lv_iadd hx hb dX7_codesOf_116 ?_
      obtain ⟨g9, h⟩ := ob_gd h
      refine bg_ald (cN := 32) X hW (n := 1200) rfl g9 dX7_codesOf_117 ?_
      refine lv_iload hx hb dX7_codesOf_118 (lv_at hl 7 rfl) ?_
      refine lv_icmp_ne (tgt := 135) hx hb dX7_codesOf_120 (by decide) (fun c10 => ?_) (fun c10 => ?_)
      · have h := ob_neg c10 h
        exact sX7_codesOf_b135 X hq103 x1 x2 x3 x4 x5 x6 x7 x8 M _ _ _ (lv_sub hl [0, 1, 2, 3, 4, 5, 6, 7, 8] rfl) hW h
      · have h := ob_pos c10 h
        refine lv_aload_n hx hb dX7_codesOf_123 rfl (lv_at hl 0 rfl) ?_
        refine gf7_59 (cN := 31) X hW rfl dX7_codesOf_124 ?_
        refine lv_iload hx hb dX7_codesOf_127 (lv_at hl 8 rfl) ?_
        refine lv_iload hx hb dX7_codesOf_129 (lv_at hl 6 rfl) ?_
        obtain ⟨g12, h⟩ := ob_gd h
        refine bg_ast (cN := 47) X hW (n := 8) rfl g12 dX7_codesOf_131 (fun M13 eM13 H locs hW => ?_)
        have h := ob_lt eM13 h
        obtain ⟨y14, ey14⟩ : ∃ y : Int32, y = (x6 + 1) := ⟨_, rfl⟩
        have h := ob_lt ey14 h
        refine lv_iinc (v := y14) (lv' := [(6, .int y14), (0, .ref (G.2.2.2 31)), (1, .int x1), (2, .int x2), (3, .int x3), (4, .int x4), (5, .int x5), (7, .int x7), (8, .int x8)]) hx hb dX7_codesOf_132 hl (k := 6) rfl (by rw [ey14]; rfl) (by decide) rfl (fun ls hl => ?_)
        exact sX7_codesOf_b135 X hq103 x1 x2 x3 x4 x5 y14 x7 x8 M13 _ _ _ (lv_sub hl [1, 2, 3, 4, 5, 6, 0, 7, 8] rfl) hW h
def rX7_codesOf_b87_s (q87 : Int32 → Int32 → Int32 → Int32 → Int32 → Int32 → Int32 → Mm → Option (Int32 × Mm)) (x1 : Int32) (x2 : Int32) (x3 : Int32) (x4 : Int32) (x5 : Int32) (x6 : Int32) (x7 : Int32) (M : Mm) : Option (Int32 × Mm) :=
    (if (7 : Int32) < x7 then (if x3 = (128 : Int32) then (rX7_codesOf_b166  M) else (if x4 = (1 : Int32) then (if x5 = (1 : Int32) then (rX7_codesOf_b166  M) else (if ¬ (0 : Int32) &&& 1 = (0 : Int32) then none else some ((0 : Int32), M))) else (if ¬ (0 : Int32) &&& 1 = (0 : Int32) then none else some ((0 : Int32), M)))) else (lt_ (x6 * (2 : Int32)) fun y6 => rX7_codesOf_b103 q87 FU x1 x2 x3 x4 x5 y6 x7 (0 : Int32) M))
def rX7_codesOf_b87 : Nat → Int32 → Int32 → Int32 → Int32 → Int32 → Int32 → Int32 → Mm → Option (Int32 × Mm)
  | 0 => fun _ _ _ _ _ _ _ _ => none
  | n + 1 => rX7_codesOf_b87_s (rX7_codesOf_b87 n)
set_option maxRecDepth 100000 in
set_option maxHeartbeats 4000000 in
theorem sX7_codesOf_b87 {p : Program} {l : Launch} {e : Env} {s : State} {m : MethodId} {args : Array Value} {below : List Frame} {meth : Method} {c : Code} {G : Gg} {r : Int32} {M' : Mm} (X : Cx p m c meth cX7_codesOf 9 s args RX7 (some .boolean) G) : ∀ (n : Nat), ∀ (x1 : Int32) (x2 : Int32) (x3 : Int32) (x4 : Int32) (x5 : Int32) (x6 : Int32) (x7 : Int32) (M : Mm) (ls : Array Slot) (H : Heap) (locs : List Loc), lv_has ls 9 [(0, .ref (G.2.2.2 31)), (1, .int x1), (2, .int x2), (3, .int x3), (4, .int x4), (5, .int x5), (6, .int x6), (7, .int x7)] → Wo G s M H locs → rX7_codesOf_b87 n x1 x2 x3 x4 x5 x6 x7 M = some (r, M') → W p l e (rm 0) s m args below meth c H locs 0 0 (Qi below args s G r M') (F0 m 87 ls []) := by
  intro n
  induction n with
  | zero =>
    intro x1 x2 x3 x4 x5 x6 x7 M ls H locs hl hW h
    cases (show (none : Option (Int32 × Mm)) = some (r, M') from h)
  | succ n hq870 =>
    have hq87 : ∀ (x1 : Int32) (x2 : Int32) (x3 : Int32) (x4 : Int32) (x5 : Int32) (x6 : Int32) (x7 : Int32) (M : Mm) (ls : Array Slot) (H : Heap) (locs : List Loc), lv_has ls 9 [(0, .ref (G.2.2.2 31)), (1, .int x1), (2, .int x2), (3, .int x3), (4, .int x4), (5, .int x5), (6, .int x6), (7, .int x7)] → Wo G s M H locs → (rX7_codesOf_b87 n) x1 x2 x3 x4 x5 x6 x7 M = some (r, M') → W p l e (rm 0) s m args below meth c H locs 0 0 (Qi below args s G r M') (F0 m 87 ls []) := hq870
    intro x1 x2 x3 x4 x5 x6 x7 M ls H locs hl hW h
    have h : rX7_codesOf_b87_s (rX7_codesOf_b87 n) x1 x2 x3 x4 x5 x6 x7 M = some (r, M') := h
    unfold rX7_codesOf_b87_s at h
    have hx := X.1.1
    have hb := X.1.2.1
    refine lv_iload hx hb dX7_codesOf_87 (lv_at hl 7 rfl) ?_
    refine lv_bipush (v := 7) hx hb dX7_codesOf_89 (by decide) ?_
    refine lv_icmp_gt (tgt := 147) hx hb dX7_codesOf_91 (by decide) (fun c2 => ?_) (fun c2 => ?_)
    · have h := ob_pos c2 h
      refine lv_iload_n hx hb dX7_codesOf_147 rfl (lv_at hl 3 rfl) ?_
      refine lv_sipush (v := 128) hx hb dX7_codesOf_148 (by decide) ?_
      refine lv_icmp_eq (tgt := 166) hx hb dX7_codesOf_151 (by decide) (fun c3 => ?_) (fun c3 => ?_)
      · have h := ob_pos c3 h
        exact sX7_codesOf_b166 X M _ _ _ (lv_sub hl [0] rfl) hW h
      · have h := ob_neg c3 h
        refine lv_iload hx hb dX7_codesOf_154 (lv_at hl 4 rfl) ?_
        refine lv_iconst (v := 1) hx hb dX7_codesOf_156 (by decide) ?_
        refine lv_icmp_ne (tgt := 170) hx hb dX7_codesOf_157 (by decide) (fun c4 => ?_) (fun c4 => ?_)
        · have h := ob_neg c4 h
          refine lv_iconst (v := 0) hx hb dX7_codesOf_170 (by decide) ?_
          exact rt_z X hW h dX7_codesOf_171
        · have h := ob_pos c4 h
          refine lv_iload hx hb dX7_codesOf_160 (lv_at hl 5 rfl) ?_
          refine lv_iconst (v := 1) hx hb dX7_codesOf_162 (by decide) ?_
          refine lv_icmp_ne (tgt := 170) hx hb dX7_codesOf_163 (by decide) (fun c5 => ?_) (fun c5 => ?_)
          · have h := ob_neg c5 h
            refine lv_iconst (v := 0) hx hb dX7_codesOf_170 (by decide) ?_
            exact rt_z X hW h dX7_codesOf_171
          · have h := ob_pos c5 h
            exact sX7_codesOf_b166 X M _ _ _ (lv_sub hl [0] rfl) hW h
    · have h := ob_neg c2 h
      refine lv_iload hx hb dX7_codesOf_94 (lv_at hl 6 rfl) ?_
      refine lv_iconst (v := 2) hx hb dX7_codesOf_96 (by decide) ?_
      refine lv_imul hx hb dX7_codesOf_97 ?_
      refine lv_topi (fun y6 ey6 => ?_)
      have h := ob_lt ey6 h
      refine lv_istore (lv' := [(6, .int y6), (0, .ref (G.2.2.2 31)), (1, .int x1), (2, .int x2), (3, .int x3), (4, .int x4), (5, .int x5), (7, .int x7)]) hx hb dX7_codesOf_98 hl (by decide) rfl (fun ls hl => ?_)
      refine lv_iconst (v := 0) hx hb dX7_codesOf_100 (by decide) ?_
      refine lv_istore (lv' := [(8, .int (0 : Int32)), (6, .int y6), (0, .ref (G.2.2.2 31)), (1, .int x1), (2, .int x2), (3, .int x3), (4, .int x4), (5, .int x5), (7, .int x7)]) hx hb dX7_codesOf_101 hl (by decide) rfl (fun ls hl => ?_)
      exact sX7_codesOf_b103 X hq87 FU x1 x2 x3 x4 x5 y6 x7 (0 : Int32) M _ _ _ (lv_sub hl [2, 3, 4, 5, 6, 7, 1, 8, 0] rfl) hW h
def rX7_codesOf_b73 (q11 : Int32 → Int32 → Int32 → Int32 → Int32 → Int32 → Mm → Option (Int32 × Mm)) (x1 : Int32) (x2 : Int32) (x3 : Int32) (x4 : Int32) (x6 : Int32) (s0 : Int32) (M : Mm) : Option (Int32 × Mm) :=
    (lt_ (x6 + 1) fun y22 => q11 x1 x2 x3 x4 s0 y22 M)
set_option maxRecDepth 100000 in
set_option maxHeartbeats 4000000 in
theorem sX7_codesOf_b73 {p : Program} {l : Launch} {e : Env} {s : State} {m : MethodId} {args : Array Value} {below : List Frame} {meth : Method} {c : Code} {G : Gg} {r : Int32} {M' : Mm} (X : Cx p m c meth cX7_codesOf 9 s args RX7 (some .boolean) G) {q11 : Int32 → Int32 → Int32 → Int32 → Int32 → Int32 → Mm → Option (Int32 × Mm)} (hq11 : ∀ (x1 : Int32) (x2 : Int32) (x3 : Int32) (x4 : Int32) (x5 : Int32) (x6 : Int32) (M : Mm) (ls : Array Slot) (H : Heap) (locs : List Loc), lv_has ls 9 [(0, .ref (G.2.2.2 31)), (1, .int x1), (2, .int x2), (3, .int x3), (4, .int x4), (5, .int x5), (6, .int x6)] → Wo G s M H locs → q11 x1 x2 x3 x4 x5 x6 M = some (r, M') → W p l e (rm 0) s m args below meth c H locs 0 0 (Qi below args s G r M') (F0 m 11 ls [])) : ∀ (x1 : Int32) (x2 : Int32) (x3 : Int32) (x4 : Int32) (x6 : Int32) (s0 : Int32) (M : Mm) (ls : Array Slot) (H : Heap) (locs : List Loc), lv_has ls 9 [(0, .ref (G.2.2.2 31)), (1, .int x1), (2, .int x2), (3, .int x3), (4, .int x4), (6, .int x6)] → Wo G s M H locs → rX7_codesOf_b73 q11 x1 x2 x3 x4 x6 s0 M = some (r, M') → W p l e (rm 0) s m args below meth c H locs 0 0 (Qi below args s G r M') (F0 m 73 ls [.int s0]) := by
    intro x1 x2 x3 x4 x6 s0 M ls H locs hl hW h
    unfold rX7_codesOf_b73 at h
    have hx := X.1.1
    have hb := X.1.2.1
    refine lv_istore (lv' := [(5, .int s0), (0, .ref (G.2.2.2 31)), (1, .int x1), (2, .int x2), (3, .int x3), (4, .int x4), (6, .int x6)]) hx hb dX7_codesOf_73 hl (by decide) rfl (fun ls hl => ?_)
    obtain ⟨y22, ey22⟩ : ∃ y : Int32, y = (x6 + 1) := ⟨_, rfl⟩
    have h := ob_lt ey22 h
    refine lv_iinc (v := y22) (lv' := [(6, .int y22), (5, .int s0), (0, .ref (G.2.2.2 31)), (1, .int x1), (2, .int x2), (3, .int x3), (4, .int x4)]) hx hb dX7_codesOf_75 hl (k := 6) rfl (by rw [ey22]; rfl) (by decide) rfl (fun ls hl => ?_)
    refine lv_goto (tgt := 11) hx hb dX7_codesOf_78 (by decide) ?_
    exact hq11 x1 x2 x3 x4 s0 y22 M _ _ _ (lv_sub hl [2, 3, 4, 5, 6, 1, 0] rfl) hW h
def rX7_codesOf_b58 (q11 : Int32 → Int32 → Int32 → Int32 → Int32 → Int32 → Mm → Option (Int32 × Mm)) (x1 : Int32) (x2 : Int32) (x3 : Int32) (x5 : Int32) (x6 : Int32) (x7 : Int32) (s0 : Int32) (s1 : Int32) (M : Mm) : Option (Int32 × Mm) :=
    (lt_ (s1 + s0) fun y20 => if x7 ≤ 0 then (rX7_codesOf_b73 q11 x1 x2 x3 y20 x6 x5 M) else (rX7_codesOf_b73 q11 x1 x2 x3 y20 x6 x7 M))
set_option maxRecDepth 100000 in
set_option maxHeartbeats 4000000 in
theorem sX7_codesOf_b58 {p : Program} {l : Launch} {e : Env} {s : State} {m : MethodId} {args : Array Value} {below : List Frame} {meth : Method} {c : Code} {G : Gg} {r : Int32} {M' : Mm} (X : Cx p m c meth cX7_codesOf 9 s args RX7 (some .boolean) G) {q11 : Int32 → Int32 → Int32 → Int32 → Int32 → Int32 → Mm → Option (Int32 × Mm)} (hq11 : ∀ (x1 : Int32) (x2 : Int32) (x3 : Int32) (x4 : Int32) (x5 : Int32) (x6 : Int32) (M : Mm) (ls : Array Slot) (H : Heap) (locs : List Loc), lv_has ls 9 [(0, .ref (G.2.2.2 31)), (1, .int x1), (2, .int x2), (3, .int x3), (4, .int x4), (5, .int x5), (6, .int x6)] → Wo G s M H locs → q11 x1 x2 x3 x4 x5 x6 M = some (r, M') → W p l e (rm 0) s m args below meth c H locs 0 0 (Qi below args s G r M') (F0 m 11 ls [])) : ∀ (x1 : Int32) (x2 : Int32) (x3 : Int32) (x5 : Int32) (x6 : Int32) (x7 : Int32) (s0 : Int32) (s1 : Int32) (M : Mm) (ls : Array Slot) (H : Heap) (locs : List Loc), lv_has ls 9 [(0, .ref (G.2.2.2 31)), (1, .int x1), (2, .int x2), (3, .int x3), (5, .int x5), (6, .int x6), (7, .int x7)] → Wo G s M H locs → rX7_codesOf_b58 q11 x1 x2 x3 x5 x6 x7 s0 s1 M = some (r, M') → W p l e (rm 0) s m args below meth c H locs 0 0 (Qi below args s G r M') (F0 m 58 ls [.int s0, .int s1]) := by
    intro x1 x2 x3 x5 x6 x7 s0 s1 M ls H locs hl hW h
    unfold rX7_codesOf_b58 at h
    have hx := X.1.1
    have hb := X.1.2.1
    refine lv_iadd hx hb dX7_codesOf_58 ?_
    refine lv_topi (fun y20 ey20 => ?_)
    have h := ob_lt ey20 h
    refine lv_istore (lv' := [(4, .int y20), (0, .ref (G.2.2.2 31)), (1, .int x1), (2, .int x2), (3, .int x3), (5, .int x5), (6, .int x6), (7, .int x7)]) hx hb dX7_codesOf_59 hl (by decide) rfl (fun ls hl => ?_)
    refine lv_iload hx hb dX7_codesOf_61 (lv_at hl 7 rfl) ?_
    refine lv_if_le (tgt := 71) hx hb dX7_codesOf_63 (by decide) (fun c21 => ?_) (fun c21 => ?_)
    · have h := ob_pos c21 h
      refine lv_iload hx hb dX7_codesOf_71 (lv_at hl 5 rfl) ?_
      exact sX7_codesOf_b73 X hq11 x1 x2 x3 y20 x6 x5 M _ _ _ (lv_sub hl [1, 2, 3, 4, 0, 6] rfl) hW h
    · have h := ob_neg c21 h
      refine lv_iload hx hb dX7_codesOf_66 (lv_at hl 7 rfl) ?_
      refine lv_goto (tgt := 73) hx hb dX7_codesOf_68 (by decide) ?_
      exact sX7_codesOf_b73 X hq11 x1 x2 x3 y20 x6 x7 M _ _ _ (lv_sub hl [1, 2, 3, 4, 0, 6] rfl) hW h
def rX7_codesOf_b44 (q11 : Int32 → Int32 → Int32 → Int32 → Int32 → Int32 → Mm → Option (Int32 × Mm)) (x1 : Int32) (x2 : Int32) (x4 : Int32) (x5 : Int32) (x6 : Int32) (x7 : Int32) (s0 : Int32) (s1 : Int32) (M : Mm) : Option (Int32 × Mm) :=
    (lt_ (s1 + s0) fun y18 => if x7 ≤ 0 then (rX7_codesOf_b58 q11 x1 x2 y18 x5 x6 x7 (0 : Int32) x4 M) else (rX7_codesOf_b58 q11 x1 x2 y18 x5 x6 x7 (1 : Int32) x4 M))
set_option maxRecDepth 100000 in
set_option maxHeartbeats 4000000 in
theorem sX7_codesOf_b44 {p : Program} {l : Launch} {e : Env} {s : State} {m : MethodId} {args : Array Value} {below : List Frame} {meth : Method} {c : Code} {G : Gg} {r : Int32} {M' : Mm} (X : Cx p m c meth cX7_codesOf 9 s args RX7 (some .boolean) G) {q11 : Int32 → Int32 → Int32 → Int32 → Int32 → Int32 → Mm → Option (Int32 × Mm)} (hq11 : ∀ (x1 : Int32) (x2 : Int32) (x3 : Int32) (x4 : Int32) (x5 : Int32) (x6 : Int32) (M : Mm) (ls : Array Slot) (H : Heap) (locs : List Loc), lv_has ls 9 [(0, .ref (G.2.2.2 31)), (1, .int x1), (2, .int x2), (3, .int x3), (4, .int x4), (5, .int x5), (6, .int x6)] → Wo G s M H locs → q11 x1 x2 x3 x4 x5 x6 M = some (r, M') → W p l e (rm 0) s m args below meth c H locs 0 0 (Qi below args s G r M') (F0 m 11 ls [])) : ∀ (x1 : Int32) (x2 : Int32) (x4 : Int32) (x5 : Int32) (x6 : Int32) (x7 : Int32) (s0 : Int32) (s1 : Int32) (M : Mm) (ls : Array Slot) (H : Heap) (locs : List Loc), lv_has ls 9 [(0, .ref (G.2.2.2 31)), (1, .int x1), (2, .int x2), (4, .int x4), (5, .int x5), (6, .int x6), (7, .int x7)] → Wo G s M H locs → rX7_codesOf_b44 q11 x1 x2 x4 x5 x6 x7 s0 s1 M = some (r, M') → W p l e (rm 0) s m args below meth c H locs 0 0 (Qi below args s G r M') (F0 m 44 ls [.int s0, .int s1]) := by
    intro x1 x2 x4 x5 x6 x7 s0 s1 M ls H locs hl hW h
    unfold rX7_codesOf_b44 at h
    have hx := X.1.1
    have hb := X.1.2.1
    refine lv_iadd hx hb dX7_codesOf_44 ?_
    refine lv_topi (fun y18 ey18 => ?_)
    have h := ob_lt ey18 h
    refine lv_istore_n (lv' := [(3, .int y18), (0, .ref (G.2.2.2 31)), (1, .int x1), (2, .int x2), (4, .int x4), (5, .int x5), (6, .int x6), (7, .int x7)]) hx hb dX7_codesOf_45 rfl hl (by decide) rfl (fun ls hl => ?_)
    refine lv_iload hx hb dX7_codesOf_46 (lv_at hl 4 rfl) ?_
    refine lv_iload hx hb dX7_codesOf_48 (lv_at hl 7 rfl) ?_
    refine lv_if_le (tgt := 57) hx hb dX7_codesOf_50 (by decide) (fun c19 => ?_) (fun c19 => ?_)
    · have h := ob_pos c19 h
      refine lv_iconst (v := 0) hx hb dX7_codesOf_57 (by decide) ?_
      exact sX7_codesOf_b58 X hq11 x1 x2 y18 x5 x6 x7 (0 : Int32) x4 M _ _ _ (lv_sub hl [1, 2, 3, 0, 5, 6, 7] rfl) hW h
    · have h := ob_neg c19 h
      refine lv_iconst (v := 1) hx hb dX7_codesOf_53 (by decide) ?_
      refine lv_goto (tgt := 58) hx hb dX7_codesOf_54 (by decide) ?_
      exact sX7_codesOf_b58 X hq11 x1 x2 y18 x5 x6 x7 (1 : Int32) x4 M _ _ _ (lv_sub hl [1, 2, 3, 0, 5, 6, 7] rfl) hW h
def rX7_codesOf_b11_s (q11 : Int32 → Int32 → Int32 → Int32 → Int32 → Int32 → Mm → Option (Int32 × Mm)) (x1 : Int32) (x2 : Int32) (x3 : Int32) (x4 : Int32) (x5 : Int32) (x6 : Int32) (M : Mm) : Option (Int32 × Mm) :=
    (if x2 ≤ x6 then (rX7_codesOf_b87 FU x1 x2 x3 x4 x5 (0 : Int32) (1 : Int32) M) else (if (x1 + x6) < 0 ∨ 1200 ≤ ((x1 + x6)).toNatClampNeg then none else lt_ (M.1 32 ((x1 + x6)).toNatClampNeg) fun y16 => if y16 ≤ 0 then (rX7_codesOf_b44 q11 x1 x2 x4 x5 x6 y16 (0 : Int32) x3 M) else (rX7_codesOf_b44 q11 x1 x2 x4 x5 x6 y16 ((128 : Int32) >>> (y16 &&& 31)) x3 M)))
def rX7_codesOf_b11 : Nat → Int32 → Int32 → Int32 → Int32 → Int32 → Int32 → Mm → Option (Int32 × Mm)
  | 0 => fun _ _ _ _ _ _ _ => none
  | n + 1 => rX7_codesOf_b11_s (rX7_codesOf_b11 n)
set_option maxRecDepth 100000 in
set_option maxHeartbeats 4000000 in
theorem sX7_codesOf_b11 {p : Program} {l : Launch} {e : Env} {s : State} {m : MethodId} {args : Array Value} {below : List Frame} {meth : Method} {c : Code} {G : Gg} {r : Int32} {M' : Mm} (X : Cx p m c meth cX7_codesOf 9 s args RX7 (some .boolean) G) : ∀ (n : Nat), ∀ (x1 : Int32) (x2 : Int32) (x3 : Int32) (x4 : Int32) (x5 : Int32) (x6 : Int32) (M : Mm) (ls : Array Slot) (H : Heap) (locs : List Loc), lv_has ls 9 [(0, .ref (G.2.2.2 31)), (1, .int x1), (2, .int x2), (3, .int x3), (4, .int x4), (5, .int x5), (6, .int x6)] → Wo G s M H locs → rX7_codesOf_b11 n x1 x2 x3 x4 x5 x6 M = some (r, M') → W p l e (rm 0) s m args below meth c H locs 0 0 (Qi below args s G r M') (F0 m 11 ls []) := by
  intro n
  induction n with
  | zero =>
    intro x1 x2 x3 x4 x5 x6 M ls H locs hl hW h
    cases (show (none : Option (Int32 × Mm)) = some (r, M') from h)
  | succ n hq110 =>
    have hq11 : ∀ (x1 : Int32) (x2 : Int32) (x3 : Int32) (x4 : Int32) (x5 : Int32) (x6 : Int32) (M : Mm) (ls : Array Slot) (H : Heap) (locs : List Loc), lv_has ls 9 [(0, .ref (G.2.2.2 31)), (1, .int x1), (2, .int x2), (3, .int x3), (4, .int x4), (5, .int x5), (6, .int x6)] → Wo G s M H locs → (rX7_codesOf_b11 n) x1 x2 x3 x4 x5 x6 M = some (r, M') → W p l e (rm 0) s m args below meth c H locs 0 0 (Qi below args s G r M') (F0 m 11 ls []) := hq110
    intro x1 x2 x3 x4 x5 x6 M ls H locs hl hW h
    have h : rX7_codesOf_b11_s (rX7_codesOf_b11 n) x1 x2 x3 x4 x5 x6 M = some (r, M') := h
    unfold rX7_codesOf_b11_s at h
    have hx := X.1.1
    have hb := X.1.2.1
    refine lv_iload hx hb dX7_codesOf_11 (lv_at hl 6 rfl) ?_
    refine lv_iload_n hx hb dX7_codesOf_13 rfl (lv_at hl 2 rfl) ?_
    refine lv_icmp_ge (tgt := 81) hx hb dX7_codesOf_14 (by decide) (fun c1 => ?_) (fun c1 => ?_)
    · have h := ob_pos c1 h
      refine lv_iconst (v := 0) hx hb dX7_codesOf_81 (by decide) ?_
      refine lv_istore (lv' := [(6, .int (0 : Int32)), (0, .ref (G.2.2.2 31)), (1, .int x1), (2, .int x2), (3, .int x3), (4, .int x4), (5, .int x5)]) hx hb dX7_codesOf_82 hl (by decide) rfl (fun ls hl => ?_)
      refine lv_iconst (v := 1) hx hb dX7_codesOf_84 (by decide) ?_
      refine lv_istore (lv' := [(7, .int (1 : Int32)), (6, .int (0 : Int32)), (0, .ref (G.2.2.2 31)), (1, .int x1), (2, .int x2), (3, .int x3), (4, .int x4), (5, .int x5)]) hx hb dX7_codesOf_85 hl (by decide) rfl (fun ls hl => ?_)
      exact sX7_codesOf_b87 X FU x1 x2 x3 x4 x5 (0 : Int32) (1 : Int32) M _ _ _ (lv_sub hl [2, 3, 4, 5, 6, 7, 1, 0] rfl) hW h
    · have h := ob_neg c1 h
      refine lv_aload_n hx hb dX7_codesOf_17 rfl (lv_at hl 0 rfl) ?_
      refine gf7_7 (cN := 31) X hW rfl dX7_codesOf_18 ?_
      refine lv_iload_n hx hb dX7_codesOf_21 rfl (lv_at hl 1 rfl) ?_
      refine lv_iload hx hb dX7_codesOf_22 (lv_at hl 6 rfl) ?_
      refine lv_iadd hx hb dX7_codesOf_24 ?_
      obtain ⟨g15, h⟩ := ob_gd h
      refine bg_ald (cN := 32) X hW (n := 1200) rfl g15 dX7_codesOf_25 ?_
      refine lv_topi (fun y16 ey16 => ?_)
      have h := ob_lt ey16 h
      refine lv_istore (lv' := [(7, .int y16), (0, .ref (G.2.2.2 31)), (1, .int x1), (2, .int x2), (3, .int x3), (4, .int x4), (5, .int x5), (6, .int x6)]) hx hb dX7_codesOf_26 hl (by decide) rfl (fun ls hl => ?_)
      refine lv_iload_n hx hb dX7_codesOf_28 rfl (lv_at hl 4 rfl) ?_
      refine lv_iload hx hb dX7_codesOf_29 (lv_at hl 0 rfl) ?_
      refine lv_if_le (tgt := 43) hx hb dX7_codesOf_31 (by decide) (fun c17 => ?_) (fun c17 => ?_)
      · have h := ob_pos c17 h
        refine lv_iconst (v := 0) hx hb dX7_codesOf_43 (by decide) ?_
        exact sX7_codesOf_b44 X hq11 x1 x2 x4 x5 x6 y16 (0 : Int32) x3 M _ _ _ (lv_sub hl [1, 2, 3, 5, 6, 7, 0] rfl) hW h
      · have h := ob_neg c17 h
        refine lv_sipush (v := 128) hx hb dX7_codesOf_34 (by decide) ?_
        refine lv_iload hx hb dX7_codesOf_37 (lv_at hl 0 rfl) ?_
        refine lv_ishr hx hb dX7_codesOf_39 ?_
        refine lv_goto (tgt := 44) hx hb dX7_codesOf_40 (by decide) ?_
        exact sX7_codesOf_b44 X hq11 x1 x2 x4 x5 x6 y16 ((128 : Int32) >>> (y16 &&& 31)) x3 M _ _ _ (lv_sub hl [1, 2, 3, 5, 6, 7, 0] rfl) hW h
def rX7_codesOf (a1 : Int32) (a2 : Int32) (M : Mm) : Option (Int32 × Mm) :=
    (rX7_codesOf_b11 FU a1 a2 (0 : Int32) (0 : Int32) (0 : Int32) (0 : Int32) M)
set_option maxRecDepth 100000 in
set_option maxHeartbeats 4000000 in
theorem cX7_codesOf_k {l : Launch} {G : Gg} {a1 : Int32} {a2 : Int32} {M M' : Mm} {r : Int32} (h : rX7_codesOf a1 a2 M = some (r, M')) : CTi l yX7_codesOf cX7_codesOf 9 (some .boolean) 0 G [.ref (G.2.2.2 31), .int a1, .int a2] M r M' := by
  unfold rX7_codesOf at h
  refine ct_i (by decide) (Nat.le_of_ble_eq_true rfl) (fun p e s m below meth c ls X hl hW => ?_)
  have hx := X.1.1
  have hb := X.1.2.1
  refine lv_iconst (v := 0) hx hb dX7_codesOf_0 (by decide) ?_
  refine lv_istore_n (lv' := [(3, .int (0 : Int32)), (0, .ref (G.2.2.2 31)), (1, .int a1), (2, .int a2)]) hx hb dX7_codesOf_1 rfl hl (by decide) rfl (fun ls hl => ?_)
  refine lv_iconst (v := 0) hx hb dX7_codesOf_2 (by decide) ?_
  refine lv_istore (lv' := [(4, .int (0 : Int32)), (3, .int (0 : Int32)), (0, .ref (G.2.2.2 31)), (1, .int a1), (2, .int a2)]) hx hb dX7_codesOf_3 hl (by decide) rfl (fun ls hl => ?_)
  refine lv_iconst (v := 0) hx hb dX7_codesOf_5 (by decide) ?_
  refine lv_istore (lv' := [(5, .int (0 : Int32)), (4, .int (0 : Int32)), (3, .int (0 : Int32)), (0, .ref (G.2.2.2 31)), (1, .int a1), (2, .int a2)]) hx hb dX7_codesOf_6 hl (by decide) rfl (fun ls hl => ?_)
  refine lv_iconst (v := 0) hx hb dX7_codesOf_8 (by decide) ?_
  refine lv_istore (lv' := [(6, .int (0 : Int32)), (5, .int (0 : Int32)), (4, .int (0 : Int32)), (3, .int (0 : Int32)), (0, .ref (G.2.2.2 31)), (1, .int a1), (2, .int a2)]) hx hb dX7_codesOf_9 hl (by decide) rfl (fun ls hl => ?_)
  exact sX7_codesOf_b11 X FU a1 a2 (0 : Int32) (0 : Int32) (0 : Int32) (0 : Int32) M _ _ _ (lv_sub hl [4, 5, 6, 3, 2, 1, 0] rfl) hW h
