def rX5_begin (a1 : Int32) (M : Mm) : Option Mm :=
    (lt_ (st M 15 3 (if (0 : Int32) < (if (8 : Int32) < a1 then (8 : Int32) else a1) then (if (8 : Int32) < a1 then (8 : Int32) else a1) else (0 : Int32))) fun M1 => lt_ (st M1 15 4 (0 : Int32)) fun M2 => some M2)
set_option maxRecDepth 100000 in
set_option maxHeartbeats 4000000 in
theorem cX5_begin_k {l : Launch} {G : Gg} {a1 : Int32} {M M' : Mm} (h : rX5_begin a1 M = some M') : CTv l yX5_begin cX5_begin 2 1 G [.ref (G.2.2.2 15), .int a1] M M' := by
  unfold rX5_begin at h
  refine ct_v (by decide) (Nat.le_of_ble_eq_true rfl) (fun p e s m below meth c ls X hl hW => ?_)
  have hx := X.1.1
  have hb := X.1.2.1
  refine lv_aload_n hx hb dX5_begin_0 rfl (lv_at hl 0 rfl) ?_
  refine lv_iconst (v := 0) hx hb dX5_begin_1 (by decide) ?_
  refine lv_iload_n hx hb dX5_begin_2 rfl (lv_at hl 1 rfl) ?_
  refine lv_bipush (v := 8) hx hb dX5_begin_3 (by decide) ?_
  refine bg_min X mw446 mw237 mw3 mw238 hl.1 (Nat.le_of_ble_eq_true rfl) (Nat.le_of_ble_eq_true rfl) ⟨Nat.le_refl _, Nat.le_refl _⟩ dX5_begin_5 ?_
  refine bg_max X mw447 mw26 mw3 mw27 hl.1 (Nat.le_of_ble_eq_true rfl) (Nat.le_of_ble_eq_true rfl) ⟨Nat.le_refl _, Nat.le_refl _⟩ dX5_begin_8 ?_
  refine pf5_30 (cN := 15) X hW rfl dX5_begin_11 (fun M1 eM1 H locs hW => ?_)
  have h := ob_lt eM1 h
  refine lv_aload_n hx hb dX5_begin_14 rfl (lv_at hl 0 rfl) ?_
  refine lv_iconst (v := 0) hx hb dX5_begin_15 (by decide) ?_
  refine pf5_34 (cN := 15) X hW rfl dX5_begin_16 (fun M2 eM2 H locs hW => ?_)
  have h := ob_lt eM2 h
  exact rt_v X hW h dX5_begin_19
def rX5_putSymbol (a1 : Int32) (a2 : Int32) (M : Mm) : Option Mm :=
    (if a1 < 0 then (some M) else (if (M.1 15 3) ≤ a1 then (some M) else (if a1 < 0 ∨ 8 ≤ (a1).toNatClampNeg then none else lt_ (st M 16 (a1).toNatClampNeg a2) fun M4 => some M4)))
set_option maxRecDepth 100000 in
set_option maxHeartbeats 4000000 in
theorem cX5_putSymbol_k {l : Launch} {G : Gg} {a1 : Int32} {a2 : Int32} {M M' : Mm} (h : rX5_putSymbol a1 a2 M = some M') : CTv l yX5_putSymbol cX5_putSymbol 3 0 G [.ref (G.2.2.2 15), .int a1, .int a2] M M' := by
  unfold rX5_putSymbol at h
  refine ct_v (by decide) (Nat.le_of_ble_eq_true rfl) (fun p e s m below meth c ls X hl hW => ?_)
  have hx := X.1.1
  have hb := X.1.2.1
  refine lv_iload_n hx hb dX5_putSymbol_0 rfl (lv_at hl 1 rfl) ?_
  refine lv_if_lt (tgt := 19) hx hb dX5_putSymbol_1 (by decide) (fun c1 => ?_) (fun c1 => ?_)
  · have h := ob_pos c1 h
    exact rt_v X hW h dX5_putSymbol_19
  · have h := ob_neg c1 h
    refine lv_iload_n hx hb dX5_putSymbol_4 rfl (lv_at hl 1 rfl) ?_
    refine lv_aload_n hx hb dX5_putSymbol_5 rfl (lv_at hl 0 rfl) ?_
    refine gf5_30 (cN := 15) X hW rfl dX5_putSymbol_6 ?_
    refine lv_icmp_ge (tgt := 19) hx hb dX5_putSymbol_9 (by decide) (fun c2 => ?_) (fun c2 => ?_)
    · have h := ob_pos c2 h
      exact rt_v X hW h dX5_putSymbol_19
    · have h := ob_neg c2 h
      refine lv_aload_n hx hb dX5_putSymbol_12 rfl (lv_at hl 0 rfl) ?_
      refine gf5_11 (cN := 15) X hW rfl dX5_putSymbol_13 ?_
      refine lv_iload_n hx hb dX5_putSymbol_16 rfl (lv_at hl 1 rfl) ?_
      refine lv_iload_n hx hb dX5_putSymbol_17 rfl (lv_at hl 2 rfl) ?_
      obtain ⟨g3, h⟩ := ob_gd h
      refine bg_ast (cN := 16) X hW (n := 8) rfl g3 dX5_putSymbol_18 (fun M4 eM4 H locs hW => ?_)
      have h := ob_lt eM4 h
      exact rt_v X hW h dX5_putSymbol_19
def rX5_putLength (a1 : Int32) (a2 : Int32) (M : Mm) : Option Mm :=
    (if a1 < 0 then (some M) else (if (M.1 15 3) ≤ a1 then (some M) else (if a1 < 0 ∨ 8 ≤ (a1).toNatClampNeg then none else lt_ (st M 17 (a1).toNatClampNeg a2) fun M4 => lt_ (st M4 15 4 (if (M4.1 15 4) < a2 then a2 else (M4.1 15 4))) fun M5 => some M5)))
set_option maxRecDepth 100000 in
set_option maxHeartbeats 4000000 in
theorem cX5_putLength_k {l : Launch} {G : Gg} {a1 : Int32} {a2 : Int32} {M M' : Mm} (h : rX5_putLength a1 a2 M = some M') : CTv l yX5_putLength cX5_putLength 3 1 G [.ref (G.2.2.2 15), .int a1, .int a2] M M' := by
  unfold rX5_putLength at h
  refine ct_v (by decide) (Nat.le_of_ble_eq_true rfl) (fun p e s m below meth c ls X hl hW => ?_)
  have hx := X.1.1
  have hb := X.1.2.1
  refine lv_iload_n hx hb dX5_putLength_0 rfl (lv_at hl 1 rfl) ?_
  refine lv_if_lt (tgt := 31) hx hb dX5_putLength_1 (by decide) (fun c1 => ?_) (fun c1 => ?_)
  · have h := ob_pos c1 h
    exact rt_v X hW h dX5_putLength_31
  · have h := ob_neg c1 h
    refine lv_iload_n hx hb dX5_putLength_4 rfl (lv_at hl 1 rfl) ?_
    refine lv_aload_n hx hb dX5_putLength_5 rfl (lv_at hl 0 rfl) ?_
    refine gf5_30 (cN := 15) X hW rfl dX5_putLength_6 ?_
    refine lv_icmp_ge (tgt := 31) hx hb dX5_putLength_9 (by decide) (fun c2 => ?_) (fun c2 => ?_)
    · have h := ob_pos c2 h
      exact rt_v X hW h dX5_putLength_31
    · have h := ob_neg c2 h
      refine lv_aload_n hx hb dX5_putLength_12 rfl (lv_at hl 0 rfl) ?_
      refine gf5_15 (cN := 15) X hW rfl dX5_putLength_13 ?_
      refine lv_iload_n hx hb dX5_putLength_16 rfl (lv_at hl 1 rfl) ?_
      refine lv_iload_n hx hb dX5_putLength_17 rfl (lv_at hl 2 rfl) ?_
      obtain ⟨g3, h⟩ := ob_gd h
      refine bg_ast (cN := 17) X hW (n := 8) rfl g3 dX5_putLength_18 (fun M4 eM4 H locs hW => ?_)
      have h := ob_lt eM4 h
      refine lv_aload_n hx hb dX5_putLength_19 rfl (lv_at hl 0 rfl) ?_
      refine lv_aload_n hx hb dX5_putLength_20 rfl (lv_at hl 0 rfl) ?_
      refine gf5_34 (cN := 15) X hW rfl dX5_putLength_21 ?_
      refine lv_iload_n hx hb dX5_putLength_24 rfl (lv_at hl 2 rfl) ?_
      refine bg_max X mw447 mw26 mw3 mw27 hl.1 (Nat.le_of_ble_eq_true rfl) (Nat.le_of_ble_eq_true rfl) ⟨Nat.le_refl _, Nat.le_refl _⟩ dX5_putLength_25 ?_
      refine pf5_34 (cN := 15) X hW rfl dX5_putLength_28 (fun M5 eM5 H locs hW => ?_)
      have h := ob_lt eM5 h
      exact rt_v X hW h dX5_putLength_31
def rX5_isGood_b65 (M : Mm) : Option (Int32 × Mm) :=
    (if ¬ (1 : Int32) &&& 1 = (1 : Int32) then none else some ((1 : Int32), M))
set_option maxRecDepth 100000 in
set_option maxHeartbeats 4000000 in
theorem sX5_isGood_b65 {p : Program} {l : Launch} {e : Env} {s : State} {m : MethodId} {args : Array Value} {below : List Frame} {meth : Method} {c : Code} {G : Gg} {r : Int32} {M' : Mm} (X : Cx p m c meth cX5_isGood 4 s args RX5 (some .boolean) G) : ∀ (M : Mm) (ls : Array Slot) (H : Heap) (locs : List Loc), lv_has ls 4 [(0, .ref (G.2.2.2 15))] → Wo G s M H locs → rX5_isGood_b65  M = some (r, M') → W p l e (rm 0) s m args below meth c H locs 0 0 (Qi below args s G r M') (F0 m 65 ls []) := by
    intro M ls H locs hl hW h
    unfold rX5_isGood_b65 at h
    have hx := X.1.1
    have hb := X.1.2.1
    refine lv_iconst (v := 1) hx hb dX5_isGood_65 (by decide) ?_
    refine lv_goto (tgt := 70) hx hb dX5_isGood_66 (by decide) ?_
    exact rt_z X hW h dX5_isGood_70
def rX5_isGood_b39 (q6 : Int32 → Int32 → Int32 → Mm → Option (Int32 × Mm)) (x1 : Int32) (x2 : Int32) (x3 : Int32) (M : Mm) : Option (Int32 × Mm) :=
    (lt_ (x3 + 1) fun y7 => q6 x1 x2 y7 M)
set_option maxRecDepth 100000 in
set_option maxHeartbeats 4000000 in
theorem sX5_isGood_b39 {p : Program} {l : Launch} {e : Env} {s : State} {m : MethodId} {args : Array Value} {below : List Frame} {meth : Method} {c : Code} {G : Gg} {r : Int32} {M' : Mm} (X : Cx p m c meth cX5_isGood 4 s args RX5 (some .boolean) G) {q6 : Int32 → Int32 → Int32 → Mm → Option (Int32 × Mm)} (hq6 : ∀ (x1 : Int32) (x2 : Int32) (x3 : Int32) (M : Mm) (ls : Array Slot) (H : Heap) (locs : List Loc), lv_has ls 4 [(0, .ref (G.2.2.2 15)), (1, .int x1), (2, .int x2), (3, .int x3)] → Wo G s M H locs → q6 x1 x2 x3 M = some (r, M') → W p l e (rm 0) s m args below meth c H locs 0 0 (Qi below args s G r M') (F0 m 6 ls [])) : ∀ (x1 : Int32) (x2 : Int32) (x3 : Int32) (M : Mm) (ls : Array Slot) (H : Heap) (locs : List Loc), lv_has ls 4 [(0, .ref (G.2.2.2 15)), (1, .int x1), (2, .int x2), (3, .int x3)] → Wo G s M H locs → rX5_isGood_b39 q6 x1 x2 x3 M = some (r, M') → W p l e (rm 0) s m args below meth c H locs 0 0 (Qi below args s G r M') (F0 m 39 ls []) := by
    intro x1 x2 x3 M ls H locs hl hW h
    unfold rX5_isGood_b39 at h
    have hx := X.1.1
    have hb := X.1.2.1
    obtain ⟨y7, ey7⟩ : ∃ y : Int32, y = (x3 + 1) := ⟨_, rfl⟩
    have h := ob_lt ey7 h
    refine lv_iinc (v := y7) (lv' := [(3, .int y7), (0, .ref (G.2.2.2 15)), (1, .int x1), (2, .int x2)]) hx hb dX5_isGood_39 hl (k := 3) rfl (by rw [ey7]; rfl) (by decide) rfl (fun ls hl => ?_)
    refine lv_goto (tgt := 6) hx hb dX5_isGood_42 (by decide) ?_
    exact hq6 x1 x2 y7 M _ _ _ (lv_sub hl [1, 2, 3, 0] rfl) hW h
def rX5_isGood_b6_s (q6 : Int32 → Int32 → Int32 → Mm → Option (Int32 × Mm)) (x1 : Int32) (x2 : Int32) (x3 : Int32) (M : Mm) : Option (Int32 × Mm) :=
    (if (M.1 15 3) ≤ x3 then (if x1 = (128 : Int32) then (rX5_isGood_b65  M) else (if x2 = (1 : Int32) then (if (M.1 15 4) = (1 : Int32) then (rX5_isGood_b65  M) else (if ¬ (0 : Int32) &&& 1 = (0 : Int32) then none else some ((0 : Int32), M))) else (if ¬ (0 : Int32) &&& 1 = (0 : Int32) then none else some ((0 : Int32), M)))) else (if x3 < 0 ∨ 8 ≤ (x3).toNatClampNeg then none else if (M.1 17 (x3).toNatClampNeg) ≤ 0 then (rX5_isGood_b39 q6 x1 x2 x3 M) else (if x3 < 0 ∨ 8 ≤ (x3).toNatClampNeg then none else lt_ (x1 + ((128 : Int32) >>> ((M.1 17 (x3).toNatClampNeg) &&& 31))) fun y9 => lt_ (x2 + 1) fun y10 => rX5_isGood_b39 q6 y9 y10 x3 M)))
def rX5_isGood_b6 : Nat → Int32 → Int32 → Int32 → Mm → Option (Int32 × Mm)
  | 0 => fun _ _ _ _ => none
  | n + 1 => rX5_isGood_b6_s (rX5_isGood_b6 n)
set_option maxRecDepth 100000 in
set_option maxHeartbeats 4000000 in
theorem sX5_isGood_b6 {p : Program} {l : Launch} {e : Env} {s : State} {m : MethodId} {args : Array Value} {below : List Frame} {meth : Method} {c : Code} {G : Gg} {r : Int32} {M' : Mm} (X : Cx p m c meth cX5_isGood 4 s args RX5 (some .boolean) G) : ∀ (n : Nat), ∀ (x1 : Int32) (x2 : Int32) (x3 : Int32) (M : Mm) (ls : Array Slot) (H : Heap) (locs : List Loc), lv_has ls 4 [(0, .ref (G.2.2.2 15)), (1, .int x1), (2, .int x2), (3, .int x3)] → Wo G s M H locs → rX5_isGood_b6 n x1 x2 x3 M = some (r, M') → W p l e (rm 0) s m args below meth c H locs 0 0 (Qi below args s G r M') (F0 m 6 ls []) := by
  intro n
  induction n with
  | zero =>
    intro x1 x2 x3 M ls H locs hl hW h
    cases (show (none : Option (Int32 × Mm)) = some (r, M') from h)
  | succ n hq60 =>
    have hq6 : ∀ (x1 : Int32) (x2 : Int32) (x3 : Int32) (M : Mm) (ls : Array Slot) (H : Heap) (locs : List Loc), lv_has ls 4 [(0, .ref (G.2.2.2 15)), (1, .int x1), (2, .int x2), (3, .int x3)] → Wo G s M H locs → (rX5_isGood_b6 n) x1 x2 x3 M = some (r, M') → W p l e (rm 0) s m args below meth c H locs 0 0 (Qi below args s G r M') (F0 m 6 ls []) := hq60
    intro x1 x2 x3 M ls H locs hl hW h
    have h : rX5_isGood_b6_s (rX5_isGood_b6 n) x1 x2 x3 M = some (r, M') := h
    unfold rX5_isGood_b6_s at h
    have hx := X.1.1
    have hb := X.1.2.1
    refine lv_iload_n hx hb dX5_isGood_6 rfl (lv_at hl 3 rfl) ?_
    refine lv_aload_n hx hb dX5_isGood_7 rfl (lv_at hl 0 rfl) ?_
    refine gf5_30 (cN := 15) X hW rfl dX5_isGood_8 ?_
    refine lv_icmp_ge (tgt := 45) hx hb dX5_isGood_11 (by decide) (fun c1 => ?_) (fun c1 => ?_)
    · have h := ob_pos c1 h
      refine lv_iload_n hx hb dX5_isGood_45 rfl (lv_at hl 1 rfl) ?_
      refine lv_sipush (v := 128) hx hb dX5_isGood_46 (by decide) ?_
      refine lv_icmp_eq (tgt := 65) hx hb dX5_isGood_49 (by decide) (fun c2 => ?_) (fun c2 => ?_)
      · have h := ob_pos c2 h
        exact sX5_isGood_b65 X M _ _ _ (lv_sub hl [0] rfl) hW h
      · have h := ob_neg c2 h
        refine lv_iload_n hx hb dX5_isGood_52 rfl (lv_at hl 2 rfl) ?_
        refine lv_iconst (v := 1) hx hb dX5_isGood_53 (by decide) ?_
        refine lv_icmp_ne (tgt := 69) hx hb dX5_isGood_54 (by decide) (fun c3 => ?_) (fun c3 => ?_)
        · have h := ob_neg c3 h
          refine lv_iconst (v := 0) hx hb dX5_isGood_69 (by decide) ?_
          exact rt_z X hW h dX5_isGood_70
        · have h := ob_pos c3 h
          refine lv_aload_n hx hb dX5_isGood_57 rfl (lv_at hl 0 rfl) ?_
          refine gf5_34 (cN := 15) X hW rfl dX5_isGood_58 ?_
          refine lv_iconst (v := 1) hx hb dX5_isGood_61 (by decide) ?_
          refine lv_icmp_ne (tgt := 69) hx hb dX5_isGood_62 (by decide) (fun c4 => ?_) (fun c4 => ?_)
          · have h := ob_neg c4 h
            refine lv_iconst (v := 0) hx hb dX5_isGood_69 (by decide) ?_
            exact rt_z X hW h dX5_isGood_70
          · have h := ob_pos c4 h
            exact sX5_isGood_b65 X M _ _ _ (lv_sub hl [0] rfl) hW h
    · have h := ob_neg c1 h
      refine lv_aload_n hx hb dX5_isGood_14 rfl (lv_at hl 0 rfl) ?_
      refine gf5_15 (cN := 15) X hW rfl dX5_isGood_15 ?_
      refine lv_iload_n hx hb dX5_isGood_18 rfl (lv_at hl 3 rfl) ?_
      obtain ⟨g5, h⟩ := ob_gd h
      refine bg_ald (cN := 17) X hW (n := 8) rfl g5 dX5_isGood_19 ?_
      refine lv_if_le (tgt := 39) hx hb dX5_isGood_20 (by decide) (fun c6 => ?_) (fun c6 => ?_)
      · have h := ob_pos c6 h
        exact sX5_isGood_b39 X hq6 x1 x2 x3 M _ _ _ (lv_sub hl [0, 1, 2, 3] rfl) hW h
      · have h := ob_neg c6 h
        refine lv_iload_n hx hb dX5_isGood_23 rfl (lv_at hl 1 rfl) ?_
        refine lv_sipush (v := 128) hx hb dX5_isGood_24 (by decide) ?_
        refine lv_aload_n hx hb dX5_isGood_27 rfl (lv_at hl 0 rfl) ?_
        refine gf5_15 (cN := 15) X hW rfl dX5_isGood_28 ?_
        refine lv_iload_n hx hb dX5_isGood_31 rfl (lv_at hl 3 rfl) ?_
        obtain ⟨g8, h⟩ := ob_gd h
        refine bg_ald (cN := 17) X hW (n := 8) rfl g8 dX5_isGood_32 ?_
        refine lv_ishr hx hb dX5_isGood_33 ?_
        refine lv_iadd hx hb dX5_isGood_34 ?_
        refine lv_topi (fun y9 ey9 => ?_)
        have h := ob_lt ey9 h
        refine lv_istore_n (lv' := [(1, .int y9), (0, .ref (G.2.2.2 15)), (2, .int x2), (3, .int x3)]) hx hb dX5_isGood_35 rfl hl (by decide) rfl (fun ls hl => ?_)
        obtain ⟨y10, ey10⟩ : ∃ y : Int32, y = (x2 + 1) := ⟨_, rfl⟩
        have h := ob_lt ey10 h
        refine lv_iinc (v := y10) (lv' := [(2, .int y10), (1, .int y9), (0, .ref (G.2.2.2 15)), (3, .int x3)]) hx hb dX5_isGood_36 hl (k := 2) rfl (by rw [ey10]; rfl) (by decide) rfl (fun ls hl => ?_)
        exact sX5_isGood_b39 X hq6 y9 y10 x3 M _ _ _ (lv_sub hl [2, 1, 0, 3] rfl) hW h
def rX5_isGood (M : Mm) : Option (Int32 × Mm) :=
    (rX5_isGood_b6 FU (0 : Int32) (0 : Int32) (0 : Int32) M)
set_option maxRecDepth 100000 in
set_option maxHeartbeats 4000000 in
theorem cX5_isGood_k {l : Launch} {G : Gg} {M M' : Mm} {r : Int32} (h : rX5_isGood M = some (r, M')) : CTi l yX5_isGood cX5_isGood 4 (some .boolean) 0 G [.ref (G.2.2.2 15)] M r M' := by
  unfold rX5_isGood at h
  refine ct_i (by decide) (Nat.le_of_ble_eq_true rfl) (fun p e s m below meth c ls X hl hW => ?_)
  have hx := X.1.1
  have hb := X.1.2.1
  refine lv_iconst (v := 0) hx hb dX5_isGood_0 (by decide) ?_
  refine lv_istore_n (lv' := [(1, .int (0 : Int32)), (0, .ref (G.2.2.2 15))]) hx hb dX5_isGood_1 rfl hl (by decide) rfl (fun ls hl => ?_)
  refine lv_iconst (v := 0) hx hb dX5_isGood_2 (by decide) ?_
  refine lv_istore_n (lv' := [(2, .int (0 : Int32)), (1, .int (0 : Int32)), (0, .ref (G.2.2.2 15))]) hx hb dX5_isGood_3 rfl hl (by decide) rfl (fun ls hl => ?_)
  refine lv_iconst (v := 0) hx hb dX5_isGood_4 (by decide) ?_
  refine lv_istore_n (lv' := [(3, .int (0 : Int32)), (2, .int (0 : Int32)), (1, .int (0 : Int32)), (0, .ref (G.2.2.2 15))]) hx hb dX5_isGood_5 rfl hl (by decide) rfl (fun ls hl => ?_)
  exact sX5_isGood_b6 X FU (0 : Int32) (0 : Int32) (0 : Int32) M _ _ _ (lv_sub hl [3, 2, 1, 0] rfl) hW h
def rX5_makeCodes_b46 (q18 : Int32 → Int32 → Int32 → Mm → Option Mm) (x1 : Int32) (x2 : Int32) (x3 : Int32) (M : Mm) : Option Mm :=
    (lt_ (x3 + 1) fun y7 => q18 x1 x2 y7 M)
set_option maxRecDepth 100000 in
set_option maxHeartbeats 4000000 in
theorem sX5_makeCodes_b46 {p : Program} {l : Launch} {e : Env} {s : State} {m : MethodId} {args : Array Value} {below : List Frame} {meth : Method} {c : Code} {G : Gg} {M' : Mm} (X : Cx p m c meth cX5_makeCodes 4 s args RX5 none G) {q18 : Int32 → Int32 → Int32 → Mm → Option Mm} (hq18 : ∀ (x1 : Int32) (x2 : Int32) (x3 : Int32) (M : Mm) (ls : Array Slot) (H : Heap) (locs : List Loc), lv_has ls 4 [(0, .ref (G.2.2.2 15)), (1, .int x1), (2, .int x2), (3, .int x3)] → Wo G s M H locs → q18 x1 x2 x3 M = some M' → W p l e (rm 0) s m args below meth c H locs 0 0 (Qv below args s G M') (F0 m 18 ls [])) : ∀ (x1 : Int32) (x2 : Int32) (x3 : Int32) (M : Mm) (ls : Array Slot) (H : Heap) (locs : List Loc), lv_has ls 4 [(0, .ref (G.2.2.2 15)), (1, .int x1), (2, .int x2), (3, .int x3)] → Wo G s M H locs → rX5_makeCodes_b46 q18 x1 x2 x3 M = some M' → W p l e (rm 0) s m args below meth c H locs 0 0 (Qv below args s G M') (F0 m 46 ls []) := by
    intro x1 x2 x3 M ls H locs hl hW h
    unfold rX5_makeCodes_b46 at h
    have hx := X.1.1
    have hb := X.1.2.1
    obtain ⟨y7, ey7⟩ : ∃ y : Int32, y = (x3 + 1) := ⟨_, rfl⟩
    have h := ob_lt ey7 h
    refine lv_iinc (v := y7) (lv' := [(3, .int y7), (0, .ref (G.2.2.2 15)), (1, .int x1), (2, .int x2)]) hx hb dX5_makeCodes_46 hl (k := 3) rfl (by rw [ey7]; rfl) (by decide) rfl (fun ls hl => ?_)
    refine lv_goto (tgt := 18) hx hb dX5_makeCodes_49 (by decide) ?_
    exact hq18 x1 x2 y7 M _ _ _ (lv_sub hl [1, 2, 3, 0] rfl) hW h
def rX5_makeCodes_b18_s (q4 : Int32 → Int32 → Mm → Option Mm) (q18 : Int32 → Int32 → Int32 → Mm → Option Mm) (x1 : Int32) (x2 : Int32) (x3 : Int32) (M : Mm) : Option Mm :=
    (if (M.1 15 3) ≤ x3 then (lt_ (x2 + 1) fun y4 => q4 x1 y4 M) else (if x3 < 0 ∨ 8 ≤ (x3).toNatClampNeg then none else if (M.1 17 (x3).toNatClampNeg) = x2 then (if x3 < 0 ∨ 8 ≤ (x3).toNatClampNeg then none else lt_ (st M 18 (x3).toNatClampNeg x1) fun M9 => lt_ (x1 + 1) fun y10 => rX5_makeCodes_b46 q18 y10 x2 x3 M9) else (rX5_makeCodes_b46 q18 x1 x2 x3 M)))
def rX5_makeCodes_b18 (q4 : Int32 → Int32 → Mm → Option Mm) : Nat → Int32 → Int32 → Int32 → Mm → Option Mm
  | 0 => fun _ _ _ _ => none
  | n + 1 => rX5_makeCodes_b18_s q4 (rX5_makeCodes_b18 q4 n)
set_option maxRecDepth 100000 in
set_option maxHeartbeats 4000000 in
theorem sX5_makeCodes_b18 {p : Program} {l : Launch} {e : Env} {s : State} {m : MethodId} {args : Array Value} {below : List Frame} {meth : Method} {c : Code} {G : Gg} {M' : Mm} (X : Cx p m c meth cX5_makeCodes 4 s args RX5 none G) {q4 : Int32 → Int32 → Mm → Option Mm} (hq4 : ∀ (x1 : Int32) (x2 : Int32) (M : Mm) (ls : Array Slot) (H : Heap) (locs : List Loc), lv_has ls 4 [(0, .ref (G.2.2.2 15)), (1, .int x1), (2, .int x2)] → Wo G s M H locs → q4 x1 x2 M = some M' → W p l e (rm 0) s m args below meth c H locs 0 0 (Qv below args s G M') (F0 m 4 ls [])) : ∀ (n : Nat), ∀ (x1 : Int32) (x2 : Int32) (x3 : Int32) (M : Mm) (ls : Array Slot) (H : Heap) (locs : List Loc), lv_has ls 4 [(0, .ref (G.2.2.2 15)), (1, .int x1), (2, .int x2), (3, .int x3)] → Wo G s M H locs → rX5_makeCodes_b18 q4 n x1 x2 x3 M = some M' → W p l e (rm 0) s m args below meth c H locs 0 0 (Qv below args s G M') (F0 m 18 ls []) := by
  intro n
  induction n with
  | zero =>
    intro x1 x2 x3 M ls H locs hl hW h
    cases (show (none : Option Mm) = some M' from h)
  | succ n hq180 =>
    have hq18 : ∀ (x1 : Int32) (x2 : Int32) (x3 : Int32) (M : Mm) (ls : Array Slot) (H : Heap) (locs : List Loc), lv_has ls 4 [(0, .ref (G.2.2.2 15)), (1, .int x1), (2, .int x2), (3, .int x3)] → Wo G s M H locs → (rX5_makeCodes_b18 q4 n) x1 x2 x3 M = some M' → W p l e (rm 0) s m args below meth c H locs 0 0 (Qv below args s G M') (F0 m 18 ls []) := hq180
    intro x1 x2 x3 M ls H locs hl hW h
    have h : rX5_makeCodes_b18_s q4 (rX5_makeCodes_b18 q4 n) x1 x2 x3 M = some M' := h
    unfold rX5_makeCodes_b18_s at h
    have hx := X.1.1
    have hb := X.1.2.1
    refine lv_iload_n hx hb dX5_makeCodes_18 rfl (lv_at hl 3 rfl) ?_
    refine lv_aload_n hx hb dX5_makeCodes_19 rfl (lv_at hl 0 rfl) ?_
    refine gf5_30 (cN := 15) X hW rfl dX5_makeCodes_20 ?_
    refine lv_icmp_ge (tgt := 52) hx hb dX5_makeCodes_23 (by decide) (fun c3 => ?_) (fun c3 => ?_)
    · have h := ob_pos c3 h
      obtain ⟨y4, ey4⟩ : ∃ y : Int32, y = (x2 + 1) := ⟨_, rfl⟩
      have h := ob_lt ey4 h
      refine lv_iinc (v := y4) (lv' := [(2, .int y4), (0, .ref (G.2.2.2 15)), (1, .int x1), (3, .int x3)]) hx hb dX5_makeCodes_52 hl (k := 2) rfl (by rw [ey4]; rfl) (by decide) rfl (fun ls hl => ?_)
      refine lv_goto (tgt := 4) hx hb dX5_makeCodes_55 (by decide) ?_
      exact hq4 x1 y4 M _ _ _ (lv_sub hl [1, 2, 0] rfl) hW h
    · have h := ob_neg c3 h
      refine lv_aload_n hx hb dX5_makeCodes_26 rfl (lv_at hl 0 rfl) ?_
      refine gf5_15 (cN := 15) X hW rfl dX5_makeCodes_27 ?_
      refine lv_iload_n hx hb dX5_makeCodes_30 rfl (lv_at hl 3 rfl) ?_
      obtain ⟨g5, h⟩ := ob_gd h
      refine bg_ald (cN := 17) X hW (n := 8) rfl g5 dX5_makeCodes_31 ?_
      refine lv_iload_n hx hb dX5_makeCodes_32 rfl (lv_at hl 2 rfl) ?_
      refine lv_icmp_ne (tgt := 46) hx hb dX5_makeCodes_33 (by decide) (fun c6 => ?_) (fun c6 => ?_)
      · have h := ob_neg c6 h
        exact sX5_makeCodes_b46 X hq18 x1 x2 x3 M _ _ _ (lv_sub hl [0, 1, 2, 3] rfl) hW h
      · have h := ob_pos c6 h
        refine lv_aload_n hx hb dX5_makeCodes_36 rfl (lv_at hl 0 rfl) ?_
        refine gf5_18 (cN := 15) X hW rfl dX5_makeCodes_37 ?_
        refine lv_iload_n hx hb dX5_makeCodes_40 rfl (lv_at hl 3 rfl) ?_
        refine lv_iload_n hx hb dX5_makeCodes_41 rfl (lv_at hl 1 rfl) ?_
        obtain ⟨g8, h⟩ := ob_gd h
        refine bg_ast (cN := 18) X hW (n := 8) rfl g8 dX5_makeCodes_42 (fun M9 eM9 H locs hW => ?_)
        have h := ob_lt eM9 h
        obtain ⟨y10, ey10⟩ : ∃ y : Int32, y = (x1 + 1) := ⟨_, rfl⟩
        have h := ob_lt ey10 h
        refine lv_iinc (v := y10) (lv' := [(1, .int y10), (0, .ref (G.2.2.2 15)), (2, .int x2), (3, .int x3)]) hx hb dX5_makeCodes_43 hl (k := 1) rfl (by rw [ey10]; rfl) (by decide) rfl (fun ls hl => ?_)
        exact sX5_makeCodes_b46 X hq18 y10 x2 x3 M9 _ _ _ (lv_sub hl [1, 0, 2, 3] rfl) hW h
def rX5_makeCodes_b4_s (q4 : Int32 → Int32 → Mm → Option Mm) (x1 : Int32) (x2 : Int32) (M : Mm) : Option Mm :=
    (if (M.1 15 4) < x2 then (some M) else (lt_ ((2 : Int32) * x1) fun y2 => rX5_makeCodes_b18 q4 FU y2 x2 (0 : Int32) M))
def rX5_makeCodes_b4 : Nat → Int32 → Int32 → Mm → Option Mm
  | 0 => fun _ _ _ => none
  | n + 1 => rX5_makeCodes_b4_s (rX5_makeCodes_b4 n)
set_option maxRecDepth 100000 in
set_option maxHeartbeats 4000000 in
theorem sX5_makeCodes_b4 {p : Program} {l : Launch} {e : Env} {s : State} {m : MethodId} {args : Array Value} {below : List Frame} {meth : Method} {c : Code} {G : Gg} {M' : Mm} (X : Cx p m c meth cX5_makeCodes 4 s args RX5 none G) : ∀ (n : Nat), ∀ (x1 : Int32) (x2 : Int32) (M : Mm) (ls : Array Slot) (H : Heap) (locs : List Loc), lv_has ls 4 [(0, .ref (G.2.2.2 15)), (1, .int x1), (2, .int x2)] → Wo G s M H locs → rX5_makeCodes_b4 n x1 x2 M = some M' → W p l e (rm 0) s m args below meth c H locs 0 0 (Qv below args s G M') (F0 m 4 ls []) := by
  intro n
  induction n with
  | zero =>
    intro x1 x2 M ls H locs hl hW h
    cases (show (none : Option Mm) = some M' from h)
  | succ n hq40 =>
    have hq4 : ∀ (x1 : Int32) (x2 : Int32) (M : Mm) (ls : Array Slot) (H : Heap) (locs : List Loc), lv_has ls 4 [(0, .ref (G.2.2.2 15)), (1, .int x1), (2, .int x2)] → Wo G s M H locs → (rX5_makeCodes_b4 n) x1 x2 M = some M' → W p l e (rm 0) s m args below meth c H locs 0 0 (Qv below args s G M') (F0 m 4 ls []) := hq40
    intro x1 x2 M ls H locs hl hW h
    have h : rX5_makeCodes_b4_s (rX5_makeCodes_b4 n) x1 x2 M = some M' := h
    unfold rX5_makeCodes_b4_s at h
    have hx := X.1.1
    have hb := X.1.2.1
    refine lv_iload_n hx hb dX5_makeCodes_4 rfl (lv_at hl 2 rfl) ?_
    refine lv_aload_n hx hb dX5_makeCodes_5 rfl (lv_at hl 0 rfl) ?_
    refine gf5_34 (cN := 15) X hW rfl dX5_makeCodes_6 ?_
    refine lv_icmp_gt (tgt := 58) hx hb dX5_makeCodes_9 (by decide) (fun c1 => ?_) (fun c1 => ?_)
    · have h := ob_pos c1 h
      exact rt_v X hW h dX5_makeCodes_58
    · have h := ob_neg c1 h
      refine lv_iconst (v := 2) hx hb dX5_makeCodes_12 (by decide) ?_
      refine lv_iload_n hx hb dX5_makeCodes_13 rfl (lv_at hl 1 rfl) ?_
      refine lv_imul hx hb dX5_makeCodes_14 ?_
      refine lv_topi (fun y2 ey2 => ?_)
      have h := ob_lt ey2 h
      refine lv_istore_n (lv' := [(1, .int y2), (0, .ref (G.2.2.2 15)), (2, .int x2)]) hx hb dX5_makeCodes_15 rfl hl (by decide) rfl (fun ls hl => ?_)
      refine lv_iconst (v := 0) hx hb dX5_makeCodes_16 (by decide) ?_
      refine lv_istore_n (lv' := [(3, .int (0 : Int32)), (1, .int y2), (0, .ref (G.2.2.2 15)), (2, .int x2)]) hx hb dX5_makeCodes_17 rfl hl (by decide) rfl (fun ls hl => ?_)
      exact sX5_makeCodes_b18 X hq4 FU y2 x2 (0 : Int32) M _ _ _ (lv_sub hl [2, 1, 3, 0] rfl) hW h
def rX5_makeCodes (M : Mm) : Option Mm :=
    (rX5_makeCodes_b4 FU (0 : Int32) (1 : Int32) M)
set_option maxRecDepth 100000 in
set_option maxHeartbeats 4000000 in
theorem cX5_makeCodes_k {l : Launch} {G : Gg} {M M' : Mm} (h : rX5_makeCodes M = some M') : CTv l yX5_makeCodes cX5_makeCodes 4 0 G [.ref (G.2.2.2 15)] M M' := by
  unfold rX5_makeCodes at h
  refine ct_v (by decide) (Nat.le_of_ble_eq_true rfl) (fun p e s m below meth c ls X hl hW => ?_)
  have hx := X.1.1
  have hb := X.1.2.1
  refine lv_iconst (v := 0) hx hb dX5_makeCodes_0 (by decide) ?_
  refine lv_istore_n (lv' := [(1, .int (0 : Int32)), (0, .ref (G.2.2.2 15))]) hx hb dX5_makeCodes_1 rfl hl (by decide) rfl (fun ls hl => ?_)
  refine lv_iconst (v := 1) hx hb dX5_makeCodes_2 (by decide) ?_
  refine lv_istore_n (lv' := [(2, .int (1 : Int32)), (1, .int (0 : Int32)), (0, .ref (G.2.2.2 15))]) hx hb dX5_makeCodes_3 rfl hl (by decide) rfl (fun ls hl => ?_)
  exact sX5_makeCodes_b4 X FU (0 : Int32) (1 : Int32) M _ _ _ (lv_sub hl [2, 1, 0] rfl) hW h
def rX5_symbolOf_b37 (q2 : Int32 → Int32 → Int32 → Mm → Option (Int32 × Mm)) (x1 : Int32) (x2 : Int32) (x3 : Int32) (M : Mm) : Option (Int32 × Mm) :=
    (lt_ (x3 + 1) fun y4 => q2 x1 x2 y4 M)
set_option maxRecDepth 100000 in
set_option maxHeartbeats 4000000 in
theorem sX5_symbolOf_b37 {p : Program} {l : Launch} {e : Env} {s : State} {m : MethodId} {args : Array Value} {below : List Frame} {meth : Method} {c : Code} {G : Gg} {r : Int32} {M' : Mm} (X : Cx p m c meth cX5_symbolOf 4 s args RX5 (some .int) G) {q2 : Int32 → Int32 → Int32 → Mm → Option (Int32 × Mm)} (hq2 : ∀ (x1 : Int32) (x2 : Int32) (x3 : Int32) (M : Mm) (ls : Array Slot) (H : Heap) (locs : List Loc), lv_has ls 4 [(0, .ref (G.2.2.2 15)), (1, .int x1), (2, .int x2), (3, .int x3)] → Wo G s M H locs → q2 x1 x2 x3 M = some (r, M') → W p l e (rm 0) s m args below meth c H locs 0 0 (Qi below args s G r M') (F0 m 2 ls [])) : ∀ (x1 : Int32) (x2 : Int32) (x3 : Int32) (M : Mm) (ls : Array Slot) (H : Heap) (locs : List Loc), lv_has ls 4 [(0, .ref (G.2.2.2 15)), (1, .int x1), (2, .int x2), (3, .int x3)] → Wo G s M H locs → rX5_symbolOf_b37 q2 x1 x2 x3 M = some (r, M') → W p l e (rm 0) s m args below meth c H locs 0 0 (Qi below args s G r M') (F0 m 37 ls []) := by
    intro x1 x2 x3 M ls H locs hl hW h
    unfold rX5_symbolOf_b37 at h
    have hx := X.1.1
    have hb := X.1.2.1
    obtain ⟨y4, ey4⟩ : ∃ y : Int32, y = (x3 + 1) := ⟨_, rfl⟩
    have h := ob_lt ey4 h
    refine lv_iinc (v := y4) (lv' := [(3, .int y4), (0, .ref (G.2.2.2 15)), (1, .int x1), (2, .int x2)]) hx hb dX5_symbolOf_37 hl (k := 3) rfl (by rw [ey4]; rfl) (by decide) rfl (fun ls hl => ?_)
    refine lv_goto (tgt := 2) hx hb dX5_symbolOf_40 (by decide) ?_
    exact hq2 x1 x2 y4 M _ _ _ (lv_sub hl [1, 2, 3, 0] rfl) hW h
def rX5_symbolOf_b2_s (q2 : Int32 → Int32 → Int32 → Mm → Option (Int32 × Mm)) (x1 : Int32) (x2 : Int32) (x3 : Int32) (M : Mm) : Option (Int32 × Mm) :=
    (if (M.1 15 3) ≤ x3 then (some ((-1 : Int32), M)) else (if x3 < 0 ∨ 8 ≤ (x3).toNatClampNeg then none else if (M.1 17 (x3).toNatClampNeg) = x2 then (if x3 < 0 ∨ 8 ≤ (x3).toNatClampNeg then none else if (M.1 18 (x3).toNatClampNeg) = x1 then (if x3 < 0 ∨ 8 ≤ (x3).toNatClampNeg then none else some ((M.1 16 (x3).toNatClampNeg), M)) else (rX5_symbolOf_b37 q2 x1 x2 x3 M)) else (rX5_symbolOf_b37 q2 x1 x2 x3 M)))
def rX5_symbolOf_b2 : Nat → Int32 → Int32 → Int32 → Mm → Option (Int32 × Mm)
  | 0 => fun _ _ _ _ => none
  | n + 1 => rX5_symbolOf_b2_s (rX5_symbolOf_b2 n)
set_option maxRecDepth 100000 in
set_option maxHeartbeats 4000000 in
theorem sX5_symbolOf_b2 {p : Program} {l : Launch} {e : Env} {s : State} {m : MethodId} {args : Array Value} {below : List Frame} {meth : Method} {c : Code} {G : Gg} {r : Int32} {M' : Mm} (X : Cx p m c meth cX5_symbolOf 4 s args RX5 (some .int) G) : ∀ (n : Nat), ∀ (x1 : Int32) (x2 : Int32) (x3 : Int32) (M : Mm) (ls : Array Slot) (H : Heap) (locs : List Loc), lv_has ls 4 [(0, .ref (G.2.2.2 15)), (1, .int x1), (2, .int x2), (3, .int x3)] → Wo G s M H locs → rX5_symbolOf_b2 n x1 x2 x3 M = some (r, M') → W p l e (rm 0) s m args below meth c H locs 0 0 (Qi below args s G r M') (F0 m 2 ls []) := by
  intro n
  induction n with
  | zero =>
    intro x1 x2 x3 M ls H locs hl hW h
    cases (show (none : Option (Int32 × Mm)) = some (r, M') from h)
  | succ n hq20 =>
    have hq2 : ∀ (x1 : Int32) (x2 : Int32) (x3 : Int32) (M : Mm) (ls : Array Slot) (H : Heap) (locs : List Loc), lv_has ls 4 [(0, .ref (G.2.2.2 15)), (1, .int x1), (2, .int x2), (3, .int x3)] → Wo G s M H locs → (rX5_symbolOf_b2 n) x1 x2 x3 M = some (r, M') → W p l e (rm 0) s m args below meth c H locs 0 0 (Qi below args s G r M') (F0 m 2 ls []) := hq20
    intro x1 x2 x3 M ls H locs hl hW h
    have h : rX5_symbolOf_b2_s (rX5_symbolOf_b2 n) x1 x2 x3 M = some (r, M') := h
    unfold rX5_symbolOf_b2_s at h
    have hx := X.1.1
    have hb := X.1.2.1
    refine lv_iload_n hx hb dX5_symbolOf_2 rfl (lv_at hl 3 rfl) ?_
    refine lv_aload_n hx hb dX5_symbolOf_3 rfl (lv_at hl 0 rfl) ?_
    refine gf5_30 (cN := 15) X hW rfl dX5_symbolOf_4 ?_
    refine lv_icmp_ge (tgt := 43) hx hb dX5_symbolOf_7 (by decide) (fun c1 => ?_) (fun c1 => ?_)
    · have h := ob_pos c1 h
      refine lv_iconst (v := (-1)) hx hb dX5_symbolOf_43 (by decide) ?_
      exact rt_i X hW h dX5_symbolOf_44
    · have h := ob_neg c1 h
      refine lv_aload_n hx hb dX5_symbolOf_10 rfl (lv_at hl 0 rfl) ?_
      refine gf5_15 (cN := 15) X hW rfl dX5_symbolOf_11 ?_
      refine lv_iload_n hx hb dX5_symbolOf_14 rfl (lv_at hl 3 rfl) ?_
      obtain ⟨g2, h⟩ := ob_gd h
      refine bg_ald (cN := 17) X hW (n := 8) rfl g2 dX5_symbolOf_15 ?_
      refine lv_iload_n hx hb dX5_symbolOf_16 rfl (lv_at hl 2 rfl) ?_
      refine lv_icmp_ne (tgt := 37) hx hb dX5_symbolOf_17 (by decide) (fun c3 => ?_) (fun c3 => ?_)
      · have h := ob_neg c3 h
        exact sX5_symbolOf_b37 X hq2 x1 x2 x3 M _ _ _ (lv_sub hl [0, 1, 2, 3] rfl) hW h
      · have h := ob_pos c3 h
        refine lv_aload_n hx hb dX5_symbolOf_20 rfl (lv_at hl 0 rfl) ?_
        refine gf5_18 (cN := 15) X hW rfl dX5_symbolOf_21 ?_
        refine lv_iload_n hx hb dX5_symbolOf_24 rfl (lv_at hl 3 rfl) ?_
        obtain ⟨g5, h⟩ := ob_gd h
        refine bg_ald (cN := 18) X hW (n := 8) rfl g5 dX5_symbolOf_25 ?_
        refine lv_iload_n hx hb dX5_symbolOf_26 rfl (lv_at hl 1 rfl) ?_
        refine lv_icmp_ne (tgt := 37) hx hb dX5_symbolOf_27 (by decide) (fun c6 => ?_) (fun c6 => ?_)
        · have h := ob_neg c6 h
          exact sX5_symbolOf_b37 X hq2 x1 x2 x3 M _ _ _ (lv_sub hl [0, 1, 2, 3] rfl) hW h
        · have h := ob_pos c6 h
          refine lv_aload_n hx hb dX5_symbolOf_30 rfl (lv_at hl 0 rfl) ?_
          refine gf5_11 (cN := 15) X hW rfl dX5_symbolOf_31 ?_
          refine lv_iload_n hx hb dX5_symbolOf_34 rfl (lv_at hl 3 rfl) ?_
          obtain ⟨g7, h⟩ := ob_gd h
          refine bg_ald (cN := 16) X hW (n := 8) rfl g7 dX5_symbolOf_35 ?_
          exact rt_i X hW h dX5_symbolOf_36
def rX5_symbolOf (a1 : Int32) (a2 : Int32) (M : Mm) : Option (Int32 × Mm) :=
    (rX5_symbolOf_b2 FU a1 a2 (0 : Int32) M)
set_option maxRecDepth 100000 in
set_option maxHeartbeats 4000000 in
theorem cX5_symbolOf_k {l : Launch} {G : Gg} {a1 : Int32} {a2 : Int32} {M M' : Mm} {r : Int32} (h : rX5_symbolOf a1 a2 M = some (r, M')) : CTi l yX5_symbolOf cX5_symbolOf 4 (some .int) 0 G [.ref (G.2.2.2 15), .int a1, .int a2] M r M' := by
  unfold rX5_symbolOf at h
  refine ct_i (by decide) (Nat.le_of_ble_eq_true rfl) (fun p e s m below meth c ls X hl hW => ?_)
  have hx := X.1.1
  have hb := X.1.2.1
  refine lv_iconst (v := 0) hx hb dX5_symbolOf_0 (by decide) ?_
  refine lv_istore_n (lv' := [(3, .int (0 : Int32)), (0, .ref (G.2.2.2 15)), (1, .int a1), (2, .int a2)]) hx hb dX5_symbolOf_1 rfl hl (by decide) rfl (fun ls hl => ?_)
  exact sX5_symbolOf_b2 X FU a1 a2 (0 : Int32) M _ _ _ (lv_sub hl [1, 2, 3, 0] rfl) hW h
