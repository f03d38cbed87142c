def rX4_nextSymbol_b70 (q26 : Int32 → Int32 → Int32 → Int32 → Mm → Option (Int32 × Mm)) (x1 : Int32) (x2 : Int32) (x3 : Int32) (x4 : Int32) (M : Mm) : Option (Int32 × Mm) :=
    (lt_ (st M 5 11 ((M.1 5 11) - (1 : Int32))) fun M6 => lt_ (((2 : Int32) * x3) + (((M6.1 5 10) >>> ((M6.1 5 11) &&& 31)) &&& (1 : Int32))) fun y7 => bd2 (rX5_symbolOf y7 x4 M6) fun r10 M9 => if r10 = (-1 : Int32) then (lt_ (x4 + 1) fun y12 => q26 x1 x2 y7 y12 M9) else (some (r10, M9)))
set_option maxRecDepth 100000 in
set_option maxHeartbeats 4000000 in
theorem sX4_nextSymbol_b70 {p : Program} {l : Launch} {e : Env} {s : State} {m : MethodId} {args : Array Value} {below : List Frame} {meth : Method} {c : Code} {G : Gg} {r : Int32} {M' : Mm} (X : Cx p m c meth cX4_nextSymbol 6 s args RX4 (some .int) G) {q26 : Int32 → Int32 → Int32 → Int32 → Mm → Option (Int32 × Mm)} (hq26 : ∀ (x1 : Int32) (x2 : Int32) (x3 : Int32) (x4 : Int32) (M : Mm) (ls : Array Slot) (H : Heap) (locs : List Loc), lv_has ls 6 [(0, .ref (G.2.2.2 5)), (1, .int x1), (2, .int x2), (3, .int x3), (4, .int x4)] → Wo G s M H locs → q26 x1 x2 x3 x4 M = some (r, M') → W p l e (rm 2) s m args below meth c H locs 0 0 (Qi below args s G r M') (F0 m 26 ls [])) : ∀ (x1 : Int32) (x2 : Int32) (x3 : Int32) (x4 : Int32) (M : Mm) (ls : Array Slot) (H : Heap) (locs : List Loc), lv_has ls 6 [(0, .ref (G.2.2.2 5)), (1, .int x1), (2, .int x2), (3, .int x3), (4, .int x4)] → Wo G s M H locs → rX4_nextSymbol_b70 q26 x1 x2 x3 x4 M = some (r, M') → W p l e (rm 2) s m args below meth c H locs 0 0 (Qi below args s G r M') (F0 m 70 ls []) := by
    intro x1 x2 x3 x4 M ls H locs hl hW h
    unfold rX4_nextSymbol_b70 at h
    have hx := X.1.1
    have hb := X.1.2.1
    refine lv_aload_n hx hb dX4_nextSymbol_70 rfl (lv_at hl 0 rfl) ?_
    refine lv_dup hx hb dX4_nextSymbol_71 rfl ?_
    refine gf4_199 (cN := 5) X hW rfl dX4_nextSymbol_72 ?_
    refine lv_iconst (v := 1) hx hb dX4_nextSymbol_75 (by decide) ?_
    refine lv_isub hx hb dX4_nextSymbol_76 ?_
    refine pf4_199 (cN := 5) X hW rfl dX4_nextSymbol_77 (fun M6 eM6 H locs hW => ?_)
    have h := ob_lt eM6 h
    refine lv_iconst (v := 2) hx hb dX4_nextSymbol_80 (by decide) ?_
    refine lv_iload_n hx hb dX4_nextSymbol_81 rfl (lv_at hl 3 rfl) ?_
    refine lv_imul hx hb dX4_nextSymbol_82 ?_
    refine lv_aload_n hx hb dX4_nextSymbol_83 rfl (lv_at hl 0 rfl) ?_
    refine gf4_196 (cN := 5) X hW rfl dX4_nextSymbol_84 ?_
    refine lv_aload_n hx hb dX4_nextSymbol_87 rfl (lv_at hl 0 rfl) ?_
    refine gf4_199 (cN := 5) X hW rfl dX4_nextSymbol_88 ?_
    refine lv_ishr hx hb dX4_nextSymbol_91 ?_
    refine lv_iconst (v := 1) hx hb dX4_nextSymbol_92 (by decide) ?_
    refine lv_iand hx hb dX4_nextSymbol_93 ?_
    refine lv_iadd hx hb dX4_nextSymbol_94 ?_
    refine lv_topi (fun y7 ey7 => ?_)
    have h := ob_lt ey7 h
    refine lv_istore_n (lv' := [(3, .int y7), (0, .ref (G.2.2.2 5)), (1, .int x1), (2, .int x2), (4, .int x4)]) hx hb dX4_nextSymbol_95 rfl hl (by decide) rfl (fun ls hl => ?_)
    refine lv_aload_n hx hb dX4_nextSymbol_96 rfl (lv_at hl 1 rfl) ?_
    refine gf4_33 (cN := 5) X hW rfl dX4_nextSymbol_97 ?_
    refine lv_iload_n hx hb dX4_nextSymbol_100 rfl (lv_at hl 0 rfl) ?_
    refine lv_iload hx hb dX4_nextSymbol_101 (lv_at hl 4 rfl) ?_
    obtain ⟨r10, M9, e8, h⟩ := ob_bd2 h
    refine bg_calli X hW (cX5_symbolOf_k e8) rfl rfl kw4_208 kd_X5_symbolOf rfl rfl ⟨Nat.le_of_ble_eq_true rfl, Nat.le_of_ble_eq_true rfl⟩ ⟨Nat.le_refl _, Nat.le_refl _⟩ hl.1 (Nat.le_of_ble_eq_true rfl) dX4_nextSymbol_103 (fun H locs hW => ?_)
    refine lv_istore (lv' := [(5, .int r10), (3, .int y7), (0, .ref (G.2.2.2 5)), (1, .int x1), (2, .int x2), (4, .int x4)]) hx hb dX4_nextSymbol_106 hl (by decide) rfl (fun ls hl => ?_)
    refine lv_iload hx hb dX4_nextSymbol_108 (lv_at hl 0 rfl) ?_
    refine lv_iconst (v := (-1)) hx hb dX4_nextSymbol_110 (by decide) ?_
    refine lv_icmp_eq (tgt := 117) hx hb dX4_nextSymbol_111 (by decide) (fun c11 => ?_) (fun c11 => ?_)
    · have h := ob_pos c11 h
      obtain ⟨y12, ey12⟩ : ∃ y : Int32, y = (x4 + 1) := ⟨_, rfl⟩
      have h := ob_lt ey12 h
      refine lv_iinc (v := y12) (lv' := [(4, .int y12), (5, .int r10), (3, .int y7), (0, .ref (G.2.2.2 5)), (1, .int x1), (2, .int x2)]) hx hb dX4_nextSymbol_117 hl (k := 5) rfl (by rw [ey12]; rfl) (by decide) rfl (fun ls hl => ?_)
      refine lv_goto (tgt := 26) hx hb dX4_nextSymbol_120 (by decide) ?_
      exact hq26 x1 x2 y7 y12 M9 _ _ _ (lv_sub hl [3, 4, 5, 2, 0] rfl) hW h
    · have h := ob_neg c11 h
      refine lv_iload hx hb dX4_nextSymbol_114 (lv_at hl 0 rfl) ?_
      exact rt_i X hW h dX4_nextSymbol_116
def rX4_nextSymbol_b26_s (q26 : Int32 → Int32 → Int32 → Int32 → Mm → Option (Int32 × Mm)) (x1 : Int32) (x2 : Int32) (x3 : Int32) (x4 : Int32) (M : Mm) : Option (Int32 × Mm) :=
    (if (M.1 15 4) < x4 then (Option.bind (rX4_fail (7 : Int32) x2 M) fun M4 => some ((-1 : Int32), M4)) else (if (M.1 5 11) = 0 then (bd2 (rX4_next x1 M) fun r15 M14 => lt_ (st M14 5 10 r15) fun M16 => if (M16.1 5 10) = (-1 : Int32) then (some ((-1 : Int32), M16)) else (lt_ (st M16 5 11 (8 : Int32)) fun M18 => rX4_nextSymbol_b70 q26 x1 x2 x3 x4 M18)) else (rX4_nextSymbol_b70 q26 x1 x2 x3 x4 M)))
def rX4_nextSymbol_b26 : Nat → Int32 → Int32 → Int32 → Int32 → Mm → Option (Int32 × Mm)
  | 0 => fun _ _ _ _ _ => none
  | n + 1 => rX4_nextSymbol_b26_s (rX4_nextSymbol_b26 n)
set_option maxRecDepth 100000 in
set_option maxHeartbeats 4000000 in
theorem sX4_nextSymbol_b26 {p : Program} {l : Launch} {e : Env} {s : State} {m : MethodId} {args : Array Value} {below : List Frame} {meth : Method} {c : Code} {G : Gg} {r : Int32} {M' : Mm} (X : Cx p m c meth cX4_nextSymbol 6 s args RX4 (some .int) G) : ∀ (n : Nat), ∀ (x1 : Int32) (x2 : Int32) (x3 : Int32) (x4 : Int32) (M : Mm) (ls : Array Slot) (H : Heap) (locs : List Loc), lv_has ls 6 [(0, .ref (G.2.2.2 5)), (1, .int x1), (2, .int x2), (3, .int x3), (4, .int x4)] → Wo G s M H locs → rX4_nextSymbol_b26 n x1 x2 x3 x4 M = some (r, M') → W p l e (rm 2) s m args below meth c H locs 0 0 (Qi below args s G r M') (F0 m 26 ls []) := by
  intro n
  induction n with
  | zero =>
    intro x1 x2 x3 x4 M ls H locs hl hW h
    cases (show (none : Option (Int32 × Mm)) = some (r, M') from h)
  | succ n hq260 =>
    have hq26 : ∀ (x1 : Int32) (x2 : Int32) (x3 : Int32) (x4 : Int32) (M : Mm) (ls : Array Slot) (H : Heap) (locs : List Loc), lv_has ls 6 [(0, .ref (G.2.2.2 5)), (1, .int x1), (2, .int x2), (3, .int x3), (4, .int x4)] → Wo G s M H locs → (rX4_nextSymbol_b26 n) x1 x2 x3 x4 M = some (r, M') → W p l e (rm 2) s m args below meth c H locs 0 0 (Qi below args s G r M') (F0 m 26 ls []) := hq260
    intro x1 x2 x3 x4 M ls H locs hl hW h
    have h : rX4_nextSymbol_b26_s (rX4_nextSymbol_b26 n) x1 x2 x3 x4 M = some (r, M') := h
    unfold rX4_nextSymbol_b26_s at h
    have hx := X.1.1
    have hb := X.1.2.1
    refine lv_iload hx hb dX4_nextSymbol_26 (lv_at hl 4 rfl) ?_
    refine lv_aload_n hx hb dX4_nextSymbol_28 rfl (lv_at hl 0 rfl) ?_
    refine gf4_33 (cN := 5) X hW rfl dX4_nextSymbol_29 ?_
    refine gf4_205 (cN := 15) X hW rfl dX4_nextSymbol_32 ?_
    refine lv_icmp_gt (tgt := 123) hx hb dX4_nextSymbol_35 (by decide) (fun c2 => ?_) (fun c2 => ?_)
    · have h := ob_pos c2 h
      refine lv_aload_n hx hb dX4_nextSymbol_123 rfl (lv_at hl 0 rfl) ?_
      refine lv_bipush (v := 7) hx hb dX4_nextSymbol_124 (by decide) ?_
      refine lv_iload_n hx hb dX4_nextSymbol_126 rfl (lv_at hl 2 rfl) ?_
      obtain ⟨M4, e3, h⟩ := ob_bind h
      refine bg_callv X hW (cX4_fail_k e3) rfl rfl kw4_91 kd_X4_fail rfl rfl ⟨Nat.le_of_ble_eq_true rfl, Nat.le_of_ble_eq_true rfl⟩ ⟨Nat.le_refl _, Nat.le_refl _⟩ hl.1 (Nat.le_of_ble_eq_true rfl) dX4_nextSymbol_127 (fun H locs hW => ?_)
      refine lv_iconst (v := (-1)) hx hb dX4_nextSymbol_130 (by decide) ?_
      exact rt_i X hW h dX4_nextSymbol_131
    · have h := ob_neg c2 h
      refine lv_aload_n hx hb dX4_nextSymbol_38 rfl (lv_at hl 0 rfl) ?_
      refine gf4_199 (cN := 5) X hW rfl dX4_nextSymbol_39 ?_
      refine lv_if_ne (tgt := 70) hx hb dX4_nextSymbol_42 (by decide) (fun c5 => ?_) (fun c5 => ?_)
      · have h := ob_neg c5 h
        exact sX4_nextSymbol_b70 X hq26 x1 x2 x3 x4 M _ _ _ (lv_sub hl [0, 1, 2, 3, 4] rfl) hW h
      · have h := ob_pos c5 h
        refine lv_aload_n hx hb dX4_nextSymbol_45 rfl (lv_at hl 0 rfl) ?_
        refine lv_aload_n hx hb dX4_nextSymbol_46 rfl (lv_at hl 0 rfl) ?_
        refine lv_iload_n hx hb dX4_nextSymbol_47 rfl (lv_at hl 1 rfl) ?_
        obtain ⟨r15, M14, e13, h⟩ := ob_bd2 h
        refine bg_calli X hW (cX4_next_k e13) rfl rfl kw4_117 kd_X4_next rfl rfl ⟨Nat.le_of_ble_eq_true rfl, Nat.le_of_ble_eq_true rfl⟩ ⟨Nat.le_refl _, Nat.le_refl _⟩ hl.1 (Nat.le_of_ble_eq_true rfl) dX4_nextSymbol_48 (fun H locs hW => ?_)
        refine pf4_196 (cN := 5) X hW rfl dX4_nextSymbol_51 (fun M16 eM16 H locs hW => ?_)
        have h := ob_lt eM16 h
        refine lv_aload_n hx hb dX4_nextSymbol_54 rfl (lv_at hl 0 rfl) ?_
        refine gf4_196 (cN := 5) X hW rfl dX4_nextSymbol_55 ?_
        refine lv_iconst (v := (-1)) hx hb dX4_nextSymbol_58 (by decide) ?_
        refine lv_icmp_ne (tgt := 64) hx hb dX4_nextSymbol_59 (by decide) (fun c17 => ?_) (fun c17 => ?_)
        · have h := ob_neg c17 h
          refine lv_aload_n hx hb dX4_nextSymbol_64 rfl (lv_at hl 0 rfl) ?_
          refine lv_bipush (v := 8) hx hb dX4_nextSymbol_65 (by decide) ?_
          refine pf4_199 (cN := 5) X hW rfl dX4_nextSymbol_67 (fun M18 eM18 H locs hW => ?_)
          have h := ob_lt eM18 h
          exact sX4_nextSymbol_b70 X hq26 x1 x2 x3 x4 M18 _ _ _ (lv_sub hl [0, 1, 2, 3, 4] rfl) hW h
        · have h := ob_pos c17 h
          refine lv_iconst (v := (-1)) hx hb dX4_nextSymbol_62 (by decide) ?_
          exact rt_i X hW h dX4_nextSymbol_63
def rX4_nextSymbol_b20 (x1 : Int32) (s0 : Int32) (M : Mm) : Option (Int32 × Mm) :=
    (rX4_nextSymbol_b26 FU x1 s0 (0 : Int32) (1 : Int32) M)
set_option maxRecDepth 100000 in
set_option maxHeartbeats 4000000 in
theorem sX4_nextSymbol_b20 {p : Program} {l : Launch} {e : Env} {s : State} {m : MethodId} {args : Array Value} {below : List Frame} {meth : Method} {c : Code} {G : Gg} {r : Int32} {M' : Mm} (X : Cx p m c meth cX4_nextSymbol 6 s args RX4 (some .int) G) : ∀ (x1 : Int32) (s0 : Int32) (M : Mm) (ls : Array Slot) (H : Heap) (locs : List Loc), lv_has ls 6 [(0, .ref (G.2.2.2 5)), (1, .int x1)] → Wo G s M H locs → rX4_nextSymbol_b20 x1 s0 M = some (r, M') → W p l e (rm 2) s m args below meth c H locs 0 0 (Qi below args s G r M') (F0 m 20 ls [.int s0]) := by
    intro x1 s0 M ls H locs hl hW h
    unfold rX4_nextSymbol_b20 at h
    have hx := X.1.1
    have hb := X.1.2.1
    refine lv_istore_n (lv' := [(2, .int s0), (0, .ref (G.2.2.2 5)), (1, .int x1)]) hx hb dX4_nextSymbol_20 rfl hl (by decide) rfl (fun ls hl => ?_)
    refine lv_iconst (v := 0) hx hb dX4_nextSymbol_21 (by decide) ?_
    refine lv_istore_n (lv' := [(3, .int (0 : Int32)), (2, .int s0), (0, .ref (G.2.2.2 5)), (1, .int x1)]) hx hb dX4_nextSymbol_22 rfl hl (by decide) rfl (fun ls hl => ?_)
    refine lv_iconst (v := 1) hx hb dX4_nextSymbol_23 (by decide) ?_
    refine lv_istore (lv' := [(4, .int (1 : Int32)), (3, .int (0 : Int32)), (2, .int s0), (0, .ref (G.2.2.2 5)), (1, .int x1)]) hx hb dX4_nextSymbol_24 hl (by decide) rfl (fun ls hl => ?_)
    exact sX4_nextSymbol_b26 X FU x1 s0 (0 : Int32) (1 : Int32) M _ _ _ (lv_sub hl [3, 4, 2, 1, 0] rfl) hW h
def rX4_nextSymbol (a1 : Int32) (M : Mm) : Option (Int32 × Mm) :=
    (if (M.1 5 11) ≤ 0 then (rX4_nextSymbol_b20 a1 (M.1 5 9) M) else (rX4_nextSymbol_b20 a1 ((M.1 5 9) - (1 : Int32)) M))
set_option maxRecDepth 100000 in
set_option maxHeartbeats 4000000 in
theorem cX4_nextSymbol_k {l : Launch} {G : Gg} {a1 : Int32} {M M' : Mm} {r : Int32} (h : rX4_nextSymbol a1 M = some (r, M')) : CTi l yX4_nextSymbol cX4_nextSymbol 6 (some .int) 2 G [.ref (G.2.2.2 5), .int a1] M r M' := by
  unfold rX4_nextSymbol at h
  refine ct_i (by decide) (Nat.le_of_ble_eq_true rfl) (fun p e s m below meth c ls X hl hW => ?_)
  have hx := X.1.1
  have hb := X.1.2.1
  refine lv_aload_n hx hb dX4_nextSymbol_0 rfl (lv_at hl 0 rfl) ?_
  refine gf4_199 (cN := 5) X hW rfl dX4_nextSymbol_1 ?_
  refine lv_if_le (tgt := 16) hx hb dX4_nextSymbol_4 (by decide) (fun c1 => ?_) (fun c1 => ?_)
  · have h := ob_pos c1 h
    refine lv_aload_n hx hb dX4_nextSymbol_16 rfl (lv_at hl 0 rfl) ?_
    refine gf4_88 (cN := 5) X hW rfl dX4_nextSymbol_17 ?_
    exact sX4_nextSymbol_b20 X a1 (M.1 5 9) M _ _ _ (lv_sub hl [0, 1] rfl) hW h
  · have h := ob_neg c1 h
    refine lv_aload_n hx hb dX4_nextSymbol_7 rfl (lv_at hl 0 rfl) ?_
    refine gf4_88 (cN := 5) X hW rfl dX4_nextSymbol_8 ?_
    refine lv_iconst (v := 1) hx hb dX4_nextSymbol_11 (by decide) ?_
    refine lv_isub hx hb dX4_nextSymbol_12 ?_
    refine lv_goto (tgt := 20) hx hb dX4_nextSymbol_13 (by decide) ?_
    exact sX4_nextSymbol_b20 X a1 ((M.1 5 9) - (1 : Int32)) M _ _ _ (lv_sub hl [0, 1] rfl) hW h
def rX4_readBits_b12_s (q12 : Int32 → Int32 → Int32 → Mm → Option Mm) (x1 : Int32) (x2 : Int32) (x3 : Int32) (M : Mm) : Option Mm :=
    (if x1 ≤ x3 then (if ((M.1 5 10) &&& (((1 : Int32) <<< ((M.1 5 11) &&& 31)) - (1 : Int32))) = 0 then (some M) else (Option.bind (rX4_fail (8 : Int32) ((M.1 5 9) - (1 : Int32)) M) fun M6 => some M6)) else (bd2 (rX4_nextSymbol x2 M) fun r9 M8 => if r9 = (-1 : Int32) then (some M8) else (Option.bind (rX0_append 6 4000 0 r9 M8) fun M12 => lt_ (x3 + 1) fun y13 => q12 x1 x2 y13 M12)))
def rX4_readBits_b12 : Nat → Int32 → Int32 → Int32 → Mm → Option Mm
  | 0 => fun _ _ _ _ => none
  | n + 1 => rX4_readBits_b12_s (rX4_readBits_b12 n)
set_option maxRecDepth 100000 in
set_option maxHeartbeats 4000000 in
theorem sX4_readBits_b12 {p : Program} {l : Launch} {e : Env} {s : State} {m : MethodId} {args : Array Value} {below : List Frame} {meth : Method} {c : Code} {G : Gg} {M' : Mm} (X : Cx p m c meth cX4_readBits 5 s args RX4 none G) : ∀ (n : Nat), ∀ (x1 : Int32) (x2 : Int32) (x3 : Int32) (M : Mm) (ls : Array Slot) (H : Heap) (locs : List Loc), lv_has ls 5 [(0, .ref (G.2.2.2 5)), (1, .int x1), (2, .int x2), (3, .int x3)] → Wo G s M H locs → rX4_readBits_b12 n x1 x2 x3 M = some M' → W p l e (rm 3) s m args below meth c H locs 0 0 (Qv below args s G M') (F0 m 12 ls []) := by
  intro n
  induction n with
  | zero =>
    intro x1 x2 x3 M ls H locs hl hW h
    cases (show (none : Option Mm) = some M' from h)
  | succ n hq120 =>
    have hq12 : ∀ (x1 : Int32) (x2 : Int32) (x3 : Int32) (M : Mm) (ls : Array Slot) (H : Heap) (locs : List Loc), lv_has ls 5 [(0, .ref (G.2.2.2 5)), (1, .int x1), (2, .int x2), (3, .int x3)] → Wo G s M H locs → (rX4_readBits_b12 n) x1 x2 x3 M = some M' → W p l e (rm 3) s m args below meth c H locs 0 0 (Qv below args s G M') (F0 m 12 ls []) := hq120
    intro x1 x2 x3 M ls H locs hl hW h
    have h : rX4_readBits_b12_s (rX4_readBits_b12 n) x1 x2 x3 M = some M' := h
    unfold rX4_readBits_b12_s at h
    have hx := X.1.1
    have hb := X.1.2.1
    refine lv_iload_n hx hb dX4_readBits_12 rfl (lv_at hl 3 rfl) ?_
    refine lv_iload_n hx hb dX4_readBits_13 rfl (lv_at hl 1 rfl) ?_
    refine lv_icmp_ge (tgt := 46) hx hb dX4_readBits_14 (by decide) (fun c3 => ?_) (fun c3 => ?_)
    · have h := ob_pos c3 h
      refine lv_aload_n hx hb dX4_readBits_46 rfl (lv_at hl 0 rfl) ?_
      refine gf4_196 (cN := 5) X hW rfl dX4_readBits_47 ?_
      refine lv_iconst (v := 1) hx hb dX4_readBits_50 (by decide) ?_
      refine lv_aload_n hx hb dX4_readBits_51 rfl (lv_at hl 0 rfl) ?_
      refine gf4_199 (cN := 5) X hW rfl dX4_readBits_52 ?_
      refine lv_ishl hx hb dX4_readBits_55 ?_
      refine lv_iconst (v := 1) hx hb dX4_readBits_56 (by decide) ?_
      refine lv_isub hx hb dX4_readBits_57 ?_
      refine lv_iand hx hb dX4_readBits_58 ?_
      refine lv_if_eq (tgt := 74) hx hb dX4_readBits_59 (by decide) (fun c4 => ?_) (fun c4 => ?_)
      · have h := ob_pos c4 h
        exact rt_v X hW h dX4_readBits_74
      · have h := ob_neg c4 h
        refine lv_aload_n hx hb dX4_readBits_62 rfl (lv_at hl 0 rfl) ?_
        refine lv_bipush (v := 8) hx hb dX4_readBits_63 (by decide) ?_
        refine lv_aload_n hx hb dX4_readBits_65 rfl (lv_at hl 0 rfl) ?_
        refine gf4_88 (cN := 5) X hW rfl dX4_readBits_66 ?_
        refine lv_iconst (v := 1) hx hb dX4_readBits_69 (by decide) ?_
        refine lv_isub hx hb dX4_readBits_70 ?_
        obtain ⟨M6, e5, h⟩ := ob_bind h
        refine bg_callv X hW (cX4_fail_k e5) rfl rfl kw4_91 kd_X4_fail rfl rfl ⟨Nat.le_of_ble_eq_true rfl, Nat.le_of_ble_eq_true rfl⟩ ⟨Nat.le_refl _, Nat.le_refl _⟩ hl.1 (Nat.le_of_ble_eq_true rfl) dX4_readBits_71 (fun H locs hW => ?_)
        exact rt_v X hW h dX4_readBits_74
    · have h := ob_neg c3 h
      refine lv_aload_n hx hb dX4_readBits_17 rfl (lv_at hl 0 rfl) ?_
      refine lv_iload_n hx hb dX4_readBits_18 rfl (lv_at hl 2 rfl) ?_
      obtain ⟨r9, M8, e7, h⟩ := ob_bd2 h
      refine bg_calli X hW (cX4_nextSymbol_k e7) rfl rfl kw4_202 kd_X4_nextSymbol rfl rfl ⟨Nat.le_of_ble_eq_true rfl, Nat.le_of_ble_eq_true rfl⟩ ⟨Nat.le_refl _, Nat.le_refl _⟩ hl.1 (Nat.le_of_ble_eq_true rfl) dX4_readBits_19 (fun H locs hW => ?_)
      refine lv_istore (lv' := [(4, .int r9), (0, .ref (G.2.2.2 5)), (1, .int x1), (2, .int x2), (3, .int x3)]) hx hb dX4_readBits_22 hl (by decide) rfl (fun ls hl => ?_)
      refine lv_iload hx hb dX4_readBits_24 (lv_at hl 0 rfl) ?_
      refine lv_iconst (v := (-1)) hx hb dX4_readBits_26 (by decide) ?_
      refine lv_icmp_ne (tgt := 31) hx hb dX4_readBits_27 (by decide) (fun c10 => ?_) (fun c10 => ?_)
      · have h := ob_neg c10 h
        refine lv_aload_n hx hb dX4_readBits_31 rfl (lv_at hl 1 rfl) ?_
        refine gf4_20 (cN := 5) X hW rfl dX4_readBits_32 ?_
        refine lv_iload hx hb dX4_readBits_35 (lv_at hl 0 rfl) ?_
        obtain ⟨M12, e11, h⟩ := ob_bind h
        refine bg_callv X hW (cX0_append_k rfl rfl rfl e11) rfl rfl kw4_176 kd_X0_append rfl rfl ⟨Nat.le_of_ble_eq_true rfl, Nat.le_of_ble_eq_true rfl⟩ ⟨Nat.le_refl _, Nat.le_refl _⟩ hl.1 (Nat.le_of_ble_eq_true rfl) dX4_readBits_37 (fun H locs hW => ?_)
        obtain ⟨y13, ey13⟩ : ∃ y : Int32, y = (x3 + 1) := ⟨_, rfl⟩
        have h := ob_lt ey13 h
        refine lv_iinc (v := y13) (lv' := [(3, .int y13), (4, .int r9), (0, .ref (G.2.2.2 5)), (1, .int x1), (2, .int x2)]) hx hb dX4_readBits_40 hl (k := 4) rfl (by rw [ey13]; rfl) (by decide) rfl (fun ls hl => ?_)
        refine lv_goto (tgt := 12) hx hb dX4_readBits_43 (by decide) ?_
        exact hq12 x1 x2 y13 M12 _ _ _ (lv_sub hl [2, 3, 4, 0] rfl) hW h
      · have h := ob_pos c10 h
        exact rt_v X hW h dX4_readBits_30
def rX4_readBits (a1 : Int32) (a2 : Int32) (M : Mm) : Option Mm :=
    (lt_ (st M 5 10 (0 : Int32)) fun M1 => lt_ (st M1 5 11 (0 : Int32)) fun M2 => rX4_readBits_b12 FU a1 a2 (0 : Int32) M2)
set_option maxRecDepth 100000 in
set_option maxHeartbeats 4000000 in
theorem cX4_readBits_k {l : Launch} {G : Gg} {a1 : Int32} {a2 : Int32} {M M' : Mm} (h : rX4_readBits a1 a2 M = some M') : CTv l yX4_readBits cX4_readBits 5 3 G [.ref (G.2.2.2 5), .int a1, .int a2] M M' := by
  unfold rX4_readBits at h
  refine ct_v (by decide) (Nat.le_of_ble_eq_true rfl) (fun p e s m below meth c ls X hl hW => ?_)
  have hx := X.1.1
  have hb := X.1.2.1
  refine lv_aload_n hx hb dX4_readBits_0 rfl (lv_at hl 0 rfl) ?_
  refine lv_iconst (v := 0) hx hb dX4_readBits_1 (by decide) ?_
  refine pf4_196 (cN := 5) X hW rfl dX4_readBits_2 (fun M1 eM1 H locs hW => ?_)
  have h := ob_lt eM1 h
  refine lv_aload_n hx hb dX4_readBits_5 rfl (lv_at hl 0 rfl) ?_
  refine lv_iconst (v := 0) hx hb dX4_readBits_6 (by decide) ?_
  refine pf4_199 (cN := 5) X hW rfl dX4_readBits_7 (fun M2 eM2 H locs hW => ?_)
  have h := ob_lt eM2 h
  refine lv_iconst (v := 0) hx hb dX4_readBits_10 (by decide) ?_
  refine lv_istore_n (lv' := [(3, .int (0 : Int32)), (0, .ref (G.2.2.2 5)), (1, .int a1), (2, .int a2)]) hx hb dX4_readBits_11 rfl hl (by decide) rfl (fun ls hl => ?_)
  exact sX4_readBits_b12 X FU a1 a2 (0 : Int32) M2 _ _ _ (lv_sub hl [1, 2, 3, 0] rfl) hW h
def rX4_readItem_b199 (rp : Int32 → Int32 → Int32 → Int32 → Mm → Option Mm) (pk : Nat) (x1 : Int32) (x2 : Int32) (x4 : Int32) (x5 : Int32) (x6 : Int32) (M : Mm) : Option Mm :=
    (lt_ (st M pk 4 ((M.1 pk 4) + (1 : Int32))) fun M9 => if x4 = 0 then (Option.bind (rX1_append x1 x2 ((M9.1 6 1) - x5) ((M9.1 5 12) - x6) ((M9.1 5 9) - x2) M9) fun M12 => some M12) else (some M9))
set_option maxRecDepth 100000 in
set_option maxHeartbeats 4000000 in
theorem sX4_readItem_b199 {p : Program} {l : Launch} {e : Env} {s : State} {m : MethodId} {args : Array Value} {below : List Frame} {meth : Method} {c : Code} {G : Gg} {M' : Mm} {pk : Nat} (hpk : sh[pk]? = some skX3) (X : Cx p m c meth cX4_readItem 8 s args RX4 none G) {dd : Nat} {rp : Int32 → Int32 → Int32 → Int32 → Mm → Option Mm} (hrp : ∀ (a1 a2 a3 a4 : Int32) (M M' : Mm), rp a1 a2 a3 a4 M = some M' → CTv l yX4_readPack cX4_readPack 9 dd G [.ref (G.2.2.2 5), .int a1, .int a2, .int a3, .int a4] M M') (hdd : 8 ≤ dd) : ∀ (x1 : Int32) (x2 : Int32) (x4 : Int32) (x5 : Int32) (x6 : Int32) (M : Mm) (ls : Array Slot) (H : Heap) (locs : List Loc), lv_has ls 8 [(0, .ref (G.2.2.2 5)), (1, .int x1), (2, .int x2), (3, .ref (G.2.2.2 pk)), (4, .int x4), (5, .int x5), (6, .int x6)] → Wo G s M H locs → rX4_readItem_b199 rp pk x1 x2 x4 x5 x6 M = some M' → W p l e (rm (dd + 2)) s m args below meth c H locs 0 0 (Qv below args s G M') (F0 m 199 ls []) := by
    intro x1 x2 x4 x5 x6 M ls H locs hl hW h
    unfold rX4_readItem_b199 at h
    have hx := X.1.1
    have hb := X.1.2.1
    refine lv_aload_n hx hb dX4_readItem_199 rfl (lv_at hl 3 rfl) ?_
    refine lv_dup hx hb dX4_readItem_200 rfl ?_
    refine gf4_166 (cN := pk) X hW hpk dX4_readItem_201 ?_
    refine lv_iconst (v := 1) hx hb dX4_readItem_204 (by decide) ?_
    refine lv_iadd hx hb dX4_readItem_205 ?_
    refine pf4_166 (cN := pk) X hW hpk dX4_readItem_206 (fun M9 eM9 H locs hW => ?_)
    have h := ob_lt eM9 h
    refine lv_iload hx hb dX4_readItem_209 (lv_at hl 4 rfl) ?_
    refine lv_if_ne (tgt := 246) hx hb dX4_readItem_211 (by decide) (fun c10 => ?_) (fun c10 => ?_)
    · have h := ob_neg c10 h
      exact rt_v X hW h dX4_readItem_246
    · have h := ob_pos c10 h
      refine lv_aload_n hx hb dX4_readItem_214 rfl (lv_at hl 0 rfl) ?_
      refine gf4_26 (cN := 5) X hW rfl dX4_readItem_215 ?_
      refine lv_iload_n hx hb dX4_readItem_218 rfl (lv_at hl 1 rfl) ?_
      refine lv_iload_n hx hb dX4_readItem_219 rfl (lv_at hl 2 rfl) ?_
      refine lv_aload_n hx hb dX4_readItem_220 rfl (lv_at hl 0 rfl) ?_
      refine gf4_20 (cN := 5) X hW rfl dX4_readItem_221 ?_
      refine gf4_83 (cN := 6) X hW rfl dX4_readItem_224 ?_
      refine lv_iload hx hb dX4_readItem_227 (lv_at hl 5 rfl) ?_
      refine lv_isub hx hb dX4_readItem_229 ?_
      refine lv_aload_n hx hb dX4_readItem_230 rfl (lv_at hl 0 rfl) ?_
      refine gf4_61 (cN := 5) X hW rfl dX4_readItem_231 ?_
      refine lv_iload hx hb dX4_readItem_234 (lv_at hl 6 rfl) ?_
      refine lv_isub hx hb dX4_readItem_236 ?_
      refine lv_aload_n hx hb dX4_readItem_237 rfl (lv_at hl 0 rfl) ?_
      refine gf4_88 (cN := 5) X hW rfl dX4_readItem_238 ?_
      refine lv_iload_n hx hb dX4_readItem_241 rfl (lv_at hl 2 rfl) ?_
      refine lv_isub hx hb dX4_readItem_242 ?_
      obtain ⟨M12, e11, h⟩ := ob_bind h
      refine bg_callv X hW (cX1_append_k e11) rfl rfl kw4_168 kd_X1_append rfl rfl ⟨by first | (simp only [rm]; omega) | decide, by first | (simp only [rm]; omega) | decide⟩ ⟨Nat.le_refl _, Nat.le_refl _⟩ hl.1 (Nat.le_of_ble_eq_true rfl) dX4_readItem_243 (fun H locs hW => ?_)
      exact rt_v X hW h dX4_readItem_246
def rX4_readItem_b151 (rp : Int32 → Int32 → Int32 → Int32 → Mm → Option Mm) (pk : Nat) (x1 : Int32) (x2 : Int32) (x4 : Int32) (x5 : Int32) (x6 : Int32) (M : Mm) : Option Mm :=
    (if (M.1 5 15) = 0 then (lt_ ((M.1 pk 3) + (M.1 pk 4)) fun y7 => if y7 < 0 then (rX4_readItem_b199 rp pk x1 x2 x4 x5 x6 M) else (if (nI 600) ≤ y7 then (rX4_readItem_b199 rp pk x1 x2 x4 x5 x6 M) else (if y7 < 0 ∨ 600 ≤ (y7).toNatClampNeg then none else lt_ (st M 29 (y7).toNatClampNeg (M.1 6 1)) fun M15 => rX4_readItem_b199 rp pk x1 x2 x4 x5 x6 M15))) else (some M))
set_option maxRecDepth 100000 in
set_option maxHeartbeats 4000000 in
theorem sX4_readItem_b151 {p : Program} {l : Launch} {e : Env} {s : State} {m : MethodId} {args : Array Value} {below : List Frame} {meth : Method} {c : Code} {G : Gg} {M' : Mm} {pk : Nat} (hpk : sh[pk]? = some skX3) (X : Cx p m c meth cX4_readItem 8 s args RX4 none G) {dd : Nat} {rp : Int32 → Int32 → Int32 → Int32 → Mm → Option Mm} (hrp : ∀ (a1 a2 a3 a4 : Int32) (M M' : Mm), rp a1 a2 a3 a4 M = some M' → CTv l yX4_readPack cX4_readPack 9 dd G [.ref (G.2.2.2 5), .int a1, .int a2, .int a3, .int a4] M M') (hdd : 8 ≤ dd) : ∀ (x1 : Int32) (x2 : Int32) (x4 : Int32) (x5 : Int32) (x6 : Int32) (M : Mm) (ls : Array Slot) (H : Heap) (locs : List Loc), lv_has ls 8 [(0, .ref (G.2.2.2 5)), (1, .int x1), (2, .int x2), (3, .ref (G.2.2.2 pk)), (4, .int x4), (5, .int x5), (6, .int x6)] → Wo G s M H locs → rX4_readItem_b151 rp pk x1 x2 x4 x5 x6 M = some M' → W p l e (rm (dd + 2)) s m args below meth c H locs 0 0 (Qv below args s G M') (F0 m 151 ls []) := by
    intro x1 x2 x4 x5 x6 M ls H locs hl hW h
    unfold rX4_readItem_b151 at h
    have hx := X.1.1
    have hb := X.1.2.1
    refine lv_aload_n hx hb dX4_readItem_151 rfl (lv_at hl 0 rfl) ?_
    refine gf4_70 (cN := 5) X hW rfl dX4_readItem_152 ?_
    refine lv_if_eq (tgt := 159) hx hb dX4_readItem_155 (by decide) (fun c6 => ?_) (fun c6 => ?_)
    · have h := ob_pos c6 h
      refine lv_aload_n hx hb dX4_readItem_159 rfl (lv_at hl 3 rfl) ?_
      refine gf4_163 (cN := pk) X hW hpk dX4_readItem_160 ?_
      refine lv_aload_n hx hb dX4_readItem_163 rfl (lv_at hl 3 rfl) ?_
      refine gf4_166 (cN := pk) X hW hpk dX4_readItem_164 ?_
      refine lv_iadd hx hb dX4_readItem_167 ?_
      refine lv_topi (fun y7 ey7 => ?_)
      have h := ob_lt ey7 h
      refine lv_istore (lv' := [(7, .int y7), (0, .ref (G.2.2.2 5)), (1, .int x1), (2, .int x2), (3, .ref (G.2.2.2 pk)), (4, .int x4), (5, .int x5), (6, .int x6)]) hx hb dX4_readItem_168 hl (by decide) rfl (fun ls hl => ?_)
      refine lv_iload hx hb dX4_readItem_170 (lv_at hl 0 rfl) ?_
      refine lv_if_lt (tgt := 199) hx hb dX4_readItem_172 (by decide) (fun c8 => ?_) (fun c8 => ?_)
      · have h := ob_pos c8 h
        exact sX4_readItem_b199 hpk X hrp hdd x1 x2 x4 x5 x6 M _ _ _ (lv_sub hl [1, 2, 3, 4, 5, 6, 7] rfl) hW h
      · have h := ob_neg c8 h
        refine lv_iload hx hb dX4_readItem_175 (lv_at hl 0 rfl) ?_
        refine lv_aload_n hx hb dX4_readItem_177 rfl (lv_at hl 1 rfl) ?_
        refine gf4_44 (cN := 5) X hW rfl dX4_readItem_178 ?_
        refine bg_len (cN := 29) X hW (n := 600) rfl dX4_readItem_181 ?_
        refine lv_icmp_ge (tgt := 199) hx hb dX4_readItem_182 (by decide) (fun c13 => ?_) (fun c13 => ?_)
        · have h := ob_pos c13 h
          exact sX4_readItem_b199 hpk X hrp hdd x1 x2 x4 x5 x6 M _ _ _ (lv_sub hl [1, 2, 3, 4, 5, 6, 7] rfl) hW h
        · have h := ob_neg c13 h
          refine lv_aload_n hx hb dX4_readItem_185 rfl (lv_at hl 1 rfl) ?_
          refine gf4_44 (cN := 5) X hW rfl dX4_readItem_186 ?_
          refine lv_iload hx hb dX4_readItem_189 (lv_at hl 0 rfl) ?_
          refine lv_aload_n hx hb dX4_readItem_191 rfl (lv_at hl 1 rfl) ?_
          refine gf4_20 (cN := 5) X hW rfl dX4_readItem_192 ?_
          refine gf4_83 (cN := 6) X hW rfl dX4_readItem_195 ?_
          obtain ⟨g14, h⟩ := ob_gd h
          refine bg_ast (cN := 29) X hW (n := 600) rfl g14 dX4_readItem_198 (fun M15 eM15 H locs hW => ?_)
          have h := ob_lt eM15 h
          exact sX4_readItem_b199 hpk X hrp hdd x1 x2 x4 x5 x6 M15 _ _ _ (lv_sub hl [1, 2, 3, 4, 5, 6, 7] rfl) hW h
    · have h := ob_neg c6 h
      exact rt_v X hW h dX4_readItem_158
def rX4_readItem (rp : Int32 → Int32 → Int32 → Int32 → Mm → Option Mm) (a1 : Int32) (a2 : Int32) (pk : Nat) (a4 : Int32) (M : Mm) : Option Mm :=
    (lt_ (M.1 6 1) fun y1 => lt_ (M.1 5 12) fun y2 => if a1 = 1 then (Option.bind (rX4_readStored a2 (M.1 pk 1) M) fun M5 => rX4_readItem_b151 rp pk a1 a2 a4 y1 y2 M5) else if a1 = 2 then (Option.bind (rX4_readRun a2 (M.1 pk 1) M) fun M18 => rX4_readItem_b151 rp pk a1 a2 a4 y1 y2 M18) else if a1 = 3 then (Option.bind (rX4_readCopy a2 pk M) fun M21 => rX4_readItem_b151 rp pk a1 a2 a4 y1 y2 M21) else if a1 = 4 then (Option.bind (rX4_readNest rp a2 pk a4 M) fun M24 => rX4_readItem_b151 rp pk a1 a2 a4 y1 y2 M24) else if a1 = 5 then (Option.bind (rX4_readNote a2 (M.1 pk 1) M) fun M27 => rX4_readItem_b151 rp pk a1 a2 a4 y1 y2 M27) else if a1 = 6 then (Option.bind (rX4_readAgain a2 pk M) fun M30 => rX4_readItem_b151 rp pk a1 a2 a4 y1 y2 M30) else if a1 = 7 then (bd2 (rX4_readTable a2 (M.1 pk 1) M) fun r34 M33 => Option.bind (rX4_readBits r34 (M33.1 pk 1) M33) fun M36 => rX4_readItem_b151 rp pk a1 a2 a4 y1 y2 M36) else (Option.bind (rX4_fail (2 : Int32) a2 M) fun M38 => rX4_readItem_b151 rp pk a1 a2 a4 y1 y2 M38))
set_option maxRecDepth 100000 in
set_option maxHeartbeats 4000000 in
theorem cX4_readItem_k {l : Launch} {G : Gg} {dd : Nat} {rp : Int32 → Int32 → Int32 → Int32 → Mm → Option Mm} (hrp : ∀ (a1 a2 a3 a4 : Int32) (M M' : Mm), rp a1 a2 a3 a4 M = some M' → CTv l yX4_readPack cX4_readPack 9 dd G [.ref (G.2.2.2 5), .int a1, .int a2, .int a3, .int a4] M M') (hdd : 8 ≤ dd) {a1 : Int32} {a2 : Int32} {pk : Nat} {a4 : Int32} (hpk : sh[pk]? = some skX3) {M M' : Mm} (h : rX4_readItem rp a1 a2 pk a4 M = some M') : CTv l yX4_readItem cX4_readItem 8 (dd + 2) G [.ref (G.2.2.2 5), .int a1, .int a2, .ref (G.2.2.2 pk), .int a4] M M' := by
  unfold rX4_readItem at h
  refine ct_v (by decide) (Nat.le_of_ble_eq_true rfl) (fun p e s m below meth c ls X hl hW => ?_)
  have hx := X.1.1
  have hb := X.1.2.1
  refine lv_aload_n hx hb dX4_readItem_0 rfl (lv_at hl 0 rfl) ?_
  refine gf4_20 (cN := 5) X hW rfl dX4_readItem_1 ?_
  refine gf4_83 (cN := 6) X hW rfl dX4_readItem_4 ?_
  refine lv_topi (fun y1 ey1 => ?_)
  have h := ob_lt ey1 h
  refine lv_istore (lv' := [(5, .int y1), (0, .ref (G.2.2.2 5)), (1, .int a1), (2, .int a2), (3, .ref (G.2.2.2 pk)), (4, .int a4)]) hx hb dX4_readItem_7 hl (by decide) rfl (fun ls hl => ?_)
  refine lv_aload_n hx hb dX4_readItem_9 rfl (lv_at hl 1 rfl) ?_
  refine gf4_61 (cN := 5) X hW rfl dX4_readItem_10 ?_
  refine lv_topi (fun y2 ey2 => ?_)
  have h := ob_lt ey2 h
  refine lv_istore (lv' := [(6, .int y2), (5, .int y1), (0, .ref (G.2.2.2 5)), (1, .int a1), (2, .int a2), (3, .ref (G.2.2.2 pk)), (4, .int a4)]) hx hb dX4_readItem_13 hl (by decide) rfl (fun ls hl => ?_)
  refine lv_iload_n hx hb dX4_readItem_15 rfl (lv_at hl 3 rfl) ?_
  by_cases c3 : a1 = 1
  · have h := ob_pos c3 h
    refine lv_tableIn (off := 44) (tgt := 60) hx hb dX4_readItem_16 (by rw [c3]; decide) (by rw [c3]; decide) (by rw [c3]; decide) (by decide) ?_
    refine lv_aload_n hx hb dX4_readItem_60 rfl (lv_at hl 2 rfl) ?_
    refine lv_iload_n hx hb dX4_readItem_61 rfl (lv_at hl 4 rfl) ?_
    refine lv_aload_n hx hb dX4_readItem_62 rfl (lv_at hl 5 rfl) ?_
    refine gf4_128 (cN := pk) X hW hpk dX4_readItem_63 ?_
    obtain ⟨M5, e4, h⟩ := ob_bind h
    refine bg_callv X hW (cX4_readStored_k e4) rfl rfl kw4_137 kd_X4_readStored rfl rfl ⟨by first | (simp only [rm]; omega) | decide, by first | (simp only [rm]; omega) | decide⟩ ⟨Nat.le_refl _, Nat.le_refl _⟩ hl.1 (Nat.le_of_ble_eq_true rfl) dX4_readItem_66 (fun H locs hW => ?_)
    refine lv_goto (tgt := 151) hx hb dX4_readItem_69 (by decide) ?_
    exact sX4_readItem_b151 hpk X hrp hdd a1 a2 a4 y1 y2 M5 _ _ _ (lv_sub hl [2, 3, 4, 5, 6, 1, 0] rfl) hW h
  · have h := ob_neg c3 h
    by_cases c16 : a1 = 2
    · have h := ob_pos c16 h
      refine lv_tableIn (off := 56) (tgt := 72) hx hb dX4_readItem_16 (by rw [c16]; decide) (by rw [c16]; decide) (by rw [c16]; decide) (by decide) ?_
      refine lv_aload_n hx hb dX4_readItem_72 rfl (lv_at hl 2 rfl) ?_
      refine lv_iload_n hx hb dX4_readItem_73 rfl (lv_at hl 4 rfl) ?_
      refine lv_aload_n hx hb dX4_readItem_74 rfl (lv_at hl 5 rfl) ?_
      refine gf4_128 (cN := pk) X hW hpk dX4_readItem_75 ?_
      obtain ⟨M18, e17, h⟩ := ob_bind h
      refine bg_callv X hW (cX4_readRun_k e17) rfl rfl kw4_140 kd_X4_readRun rfl rfl ⟨by first | (simp only [rm]; omega) | decide, by first | (simp only [rm]; omega) | decide⟩ ⟨Nat.le_refl _, Nat.le_refl _⟩ hl.1 (Nat.le_of_ble_eq_true rfl) dX4_readItem_78 (fun H locs hW => ?_)
      refine lv_goto (tgt := 151) hx hb dX4_readItem_81 (by decide) ?_
      exact sX4_readItem_b151 hpk X hrp hdd a1 a2 a4 y1 y2 M18 _ _ _ (lv_sub hl [2, 3, 4, 5, 6, 1, 0] rfl) hW h
    · have h := ob_neg c16 h
      by_cases c19 : a1 = 3
      · have h := ob_pos c19 h
        refine lv_tableIn (off := 68) (tgt := 84) hx hb dX4_readItem_16 (by rw [c19]; decide) (by rw [c19]; decide) (by rw [c19]; decide) (by decide) ?_
        refine lv_aload_n hx hb dX4_readItem_84 rfl (lv_at hl 2 rfl) ?_
        refine lv_iload_n hx hb dX4_readItem_85 rfl (lv_at hl 4 rfl) ?_
        refine lv_aload_n hx hb dX4_readItem_86 rfl (lv_at hl 5 rfl) ?_
        obtain ⟨M21, e20, h⟩ := ob_bind h
        refine bg_callv X hW (cX4_readCopy_k hpk e20) rfl rfl kw4_143 kd_X4_readCopy rfl rfl ⟨by first | (simp only [rm]; omega) | decide, by first | (simp only [rm]; omega) | decide⟩ ⟨Nat.le_refl _, Nat.le_refl _⟩ hl.1 (Nat.le_of_ble_eq_true rfl) dX4_readItem_87 (fun H locs hW => ?_)
        refine lv_goto (tgt := 151) hx hb dX4_readItem_90 (by decide) ?_
        exact sX4_readItem_b151 hpk X hrp hdd a1 a2 a4 y1 y2 M21 _ _ _ (lv_sub hl [2, 3, 4, 5, 6, 1, 0] rfl) hW h
      · have h := ob_neg c19 h
        by_cases c22 : a1 = 4
        · have h := ob_pos c22 h
          refine lv_tableIn (off := 77) (tgt := 93) hx hb dX4_readItem_16 (by rw [c22]; decide) (by rw [c22]; decide) (by rw [c22]; decide) (by decide) ?_
          refine lv_aload_n hx hb dX4_readItem_93 rfl (lv_at hl 2 rfl) ?_
          refine lv_iload_n hx hb dX4_readItem_94 rfl (lv_at hl 4 rfl) ?_
          refine lv_aload_n hx hb dX4_readItem_95 rfl (lv_at hl 5 rfl) ?_
          refine lv_iload hx hb dX4_readItem_96 (lv_at hl 6 rfl) ?_
          obtain ⟨M24, e23, h⟩ := ob_bind h
          refine bg_callv X hW (cX4_readNest_k hrp hdd hpk e23) rfl rfl kw4_147 kd_X4_readNest rfl rfl ⟨by first | (simp only [rm]; omega) | decide, by first | (simp only [rm]; omega) | decide⟩ ⟨Nat.le_refl _, Nat.le_refl _⟩ hl.1 (Nat.le_of_ble_eq_true rfl) dX4_readItem_98 (fun H locs hW => ?_)
          refine lv_goto (tgt := 151) hx hb dX4_readItem_101 (by decide) ?_
          exact sX4_readItem_b151 hpk X hrp hdd a1 a2 a4 y1 y2 M24 _ _ _ (lv_sub hl [2, 3, 4, 5, 6, 1, 0] rfl) hW h
        · have h := ob_neg c22 h
          by_cases c25 : a1 = 5
          · have h := ob_pos c25 h
            refine lv_tableIn (off := 88) (tgt := 104) hx hb dX4_readItem_16 (by rw [c25]; decide) (by rw [c25]; decide) (by rw [c25]; decide) (by decide) ?_
            refine lv_aload_n hx hb dX4_readItem_104 rfl (lv_at hl 2 rfl) ?_
            refine lv_iload_n hx hb dX4_readItem_105 rfl (lv_at hl 4 rfl) ?_
            refine lv_aload_n hx hb dX4_readItem_106 rfl (lv_at hl 5 rfl) ?_
            refine gf4_128 (cN := pk) X hW hpk dX4_readItem_107 ?_
            obtain ⟨M27, e26, h⟩ := ob_bind h
            refine bg_callv X hW (cX4_readNote_k e26) rfl rfl kw4_151 kd_X4_readNote rfl rfl ⟨by first | (simp only [rm]; omega) | decide, by first | (simp only [rm]; omega) | decide⟩ ⟨Nat.le_refl _, Nat.le_refl _⟩ hl.1 (Nat.le_of_ble_eq_true rfl) dX4_readItem_110 (fun H locs hW => ?_)
            refine lv_goto (tgt := 151) hx hb dX4_readItem_113 (by decide) ?_
            exact sX4_readItem_b151 hpk X hrp hdd a1 a2 a4 y1 y2 M27 _ _ _ (lv_sub hl [2, 3, 4, 5, 6, 1, 0] rfl) hW h
          · have h := ob_neg c25 h
            by_cases c28 : a1 = 6
            · have h := ob_pos c28 h
              refine lv_tableIn (off := 100) (tgt := 116) hx hb dX4_readItem_16 (by rw [c28]; decide) (by rw [c28]; decide) (by rw [c28]; decide) (by decide) ?_
              refine lv_aload_n hx hb dX4_readItem_116 rfl (lv_at hl 2 rfl) ?_
              refine lv_iload_n hx hb dX4_readItem_117 rfl (lv_at hl 4 rfl) ?_
              refine lv_aload_n hx hb dX4_readItem_118 rfl (lv_at hl 5 rfl) ?_
              obtain ⟨M30, e29, h⟩ := ob_bind h
              refine bg_callv X hW (cX4_readAgain_k hpk e29) rfl rfl kw4_154 kd_X4_readAgain rfl rfl ⟨by first | (simp only [rm]; omega) | decide, by first | (simp only [rm]; omega) | decide⟩ ⟨Nat.le_refl _, Nat.le_refl _⟩ hl.1 (Nat.le_of_ble_eq_true rfl) dX4_readItem_119 (fun H locs hW => ?_)
              refine lv_goto (tgt := 151) hx hb dX4_readItem_122 (by decide) ?_
              exact sX4_readItem_b151 hpk X hrp hdd a1 a2 a4 y1 y2 M30 _ _ _ (lv_sub hl [2, 3, 4, 5, 6, 1, 0] rfl) hW h
            · have h := ob_neg c28 h
              by_cases c31 : a1 = 7
              · have h := ob_pos c31 h
                refine lv_tableIn (off := 109) (tgt := 125) hx hb dX4_readItem_16 (by rw [c31]; decide) (by rw [c31]; decide) (by rw [c31]; decide) (by decide) ?_
                refine lv_aload_n hx hb dX4_readItem_125 rfl (lv_at hl 2 rfl) ?_
                refine lv_aload_n hx hb dX4_readItem_126 rfl (lv_at hl 2 rfl) ?_
                refine lv_iload_n hx hb dX4_readItem_127 rfl (lv_at hl 4 rfl) ?_
                refine lv_aload_n hx hb dX4_readItem_128 rfl (lv_at hl 5 rfl) ?_
                refine gf4_128 (cN := pk) X hW hpk dX4_readItem_129 ?_
                obtain ⟨r34, M33, e32, h⟩ := ob_bd2 h
                refine bg_calli X hW (cX4_readTable_k e32) rfl rfl kw4_157 kd_X4_readTable rfl rfl ⟨by first | (simp only [rm]; omega) | decide, by first | (simp only [rm]; omega) | decide⟩ ⟨Nat.le_refl _, Nat.le_refl _⟩ hl.1 (Nat.le_of_ble_eq_true rfl) dX4_readItem_132 (fun H locs hW => ?_)
                refine lv_aload_n hx hb dX4_readItem_135 rfl (lv_at hl 5 rfl) ?_
                refine gf4_128 (cN := pk) X hW hpk dX4_readItem_136 ?_
                obtain ⟨M36, e35, h⟩ := ob_bind h
                refine bg_callv X hW (cX4_readBits_k e35) rfl rfl kw4_160 kd_X4_readBits rfl rfl ⟨by first | (simp only [rm]; omega) | decide, by first | (simp only [rm]; omega) | decide⟩ ⟨Nat.le_refl _, Nat.le_refl _⟩ hl.1 (Nat.le_of_ble_eq_true rfl) dX4_readItem_139 (fun H locs hW => ?_)
                refine lv_goto (tgt := 151) hx hb dX4_readItem_142 (by decide) ?_
                exact sX4_readItem_b151 hpk X hrp hdd a1 a2 a4 y1 y2 M36 _ _ _ (lv_sub hl [2, 3, 4, 5, 6, 1, 0] rfl) hW h
              · have h := ob_neg c31 h
                refine lv_tableOut (tgt := 145) hx hb dX4_readItem_16 (by have nc3 := lv_neT (a := 1) c3 rfl; have nc16 := lv_neT (a := 2) c16 rfl; have nc19 := lv_neT (a := 3) c19 rfl; have nc22 := lv_neT (a := 4) c22 rfl; have nc25 := lv_neT (a := 5) c25 rfl; have nc28 := lv_neT (a := 6) c28 rfl; have nc31 := lv_neT (a := 7) c31 rfl; omega) (by decide) ?_
                refine lv_aload_n hx hb dX4_readItem_145 rfl (lv_at hl 2 rfl) ?_
                refine lv_iconst (v := 2) hx hb dX4_readItem_146 (by decide) ?_
                refine lv_iload_n hx hb dX4_readItem_147 rfl (lv_at hl 4 rfl) ?_
                obtain ⟨M38, e37, h⟩ := ob_bind h
                refine bg_callv X hW (cX4_fail_k e37) rfl rfl kw4_91 kd_X4_fail rfl rfl ⟨by first | (simp only [rm]; omega) | decide, by first | (simp only [rm]; omega) | decide⟩ ⟨Nat.le_refl _, Nat.le_refl _⟩ hl.1 (Nat.le_of_ble_eq_true rfl) dX4_readItem_148 (fun H locs hW => ?_)
                exact sX4_readItem_b151 hpk X hrp hdd a1 a2 a4 y1 y2 M38 _ _ _ (lv_sub hl [2, 3, 4, 5, 6, 1, 0] rfl) hW h
def rX4_readPack_b13 (rp : Int32 → Int32 → Int32 → Int32 → Mm → Option Mm) (x1 : Int32) (x2 : Int32) (x3 : Int32) (x4 : Int32) (M : Mm) : Option Mm :=
    (Option.bind (rX4_fail (13 : Int32) x1 M) fun M3 => some M3)
set_option maxRecDepth 100000 in
set_option maxHeartbeats 4000000 in
theorem sX4_readPack_b13 {p : Program} {l : Launch} {e : Env} {s : State} {m : MethodId} {args : Array Value} {below : List Frame} {meth : Method} {c : Code} {G : Gg} {M' : Mm} (X : Cx p m c meth cX4_readPack 9 s args RX4 none G) {dd : Nat} {rp : Int32 → Int32 → Int32 → Int32 → Mm → Option Mm} (hrp : ∀ (a1 a2 a3 a4 : Int32) (M M' : Mm), rp a1 a2 a3 a4 M = some M' → CTv l yX4_readPack cX4_readPack 9 dd G [.ref (G.2.2.2 5), .int a1, .int a2, .int a3, .int a4] M M') (hdd : 8 ≤ dd) : ∀ (x1 : Int32) (x2 : Int32) (x3 : Int32) (x4 : Int32) (M : Mm) (ls : Array Slot) (H : Heap) (locs : List Loc), lv_has ls 9 [(0, .ref (G.2.2.2 5)), (1, .int x1), (2, .int x2), (3, .int x3), (4, .int x4)] → Wo G s M H locs → rX4_readPack_b13 rp x1 x2 x3 x4 M = some M' → W p l e (rm (dd + 3)) s m args below meth c H locs 0 0 (Qv below args s G M') (F0 m 13 ls []) := by
    intro x1 x2 x3 x4 M ls H locs hl hW h
    unfold rX4_readPack_b13 at h
    have hx := X.1.1
    have hb := X.1.2.1
    refine lv_null hx hb dX4_readPack_13 ?_
    refine lv_goto (tgt := 23) hx hb dX4_readPack_14 (by decide) ?_
    refine lv_astoreN (lv' := [(5, .null), (0, .ref (G.2.2.2 5)), (1, .int x1), (2, .int x2), (3, .int x3), (4, .int x4)]) hx hb dX4_readPack_23 hl (by decide) rfl (fun ls hl => ?_)
    refine lv_aloadN hx hb dX4_readPack_25 (lv_at hl 0 rfl) ?_
    refine lv_ifnonnullN hx hb dX4_readPack_27 ?_
    refine lv_aload_n hx hb dX4_readPack_30 rfl (lv_at hl 1 rfl) ?_
    refine lv_bipush (v := 13) hx hb dX4_readPack_31 (by decide) ?_
    refine lv_iload_n hx hb dX4_readPack_33 rfl (lv_at hl 2 rfl) ?_
    obtain ⟨M3, e2, h⟩ := ob_bind h
    refine bg_callv X hW (cX4_fail_k e2) rfl rfl kw4_91 kd_X4_fail rfl rfl ⟨by first | (simp only [rm]; omega) | decide, by first | (simp only [rm]; omega) | decide⟩ ⟨Nat.le_refl _, Nat.le_refl _⟩ hl.1 (Nat.le_of_ble_eq_true rfl) dX4_readPack_34 (fun H locs hW => ?_)
    exact rt_v X hW h dX4_readPack_37
def rX4_readPack_b166 (rp : Int32 → Int32 → Int32 → Int32 → Mm → Option Mm) (q109 : Int32 → Int32 → Nat → Int32 → Mm → Option Mm) (x2 : Int32) (x3 : Int32) (k5 : Nat) (x6 : Int32) (M : Mm) : Option Mm :=
    (lt_ (x6 + 1) fun y27 => q109 x2 x3 k5 y27 M)
set_option maxRecDepth 100000 in
set_option maxHeartbeats 4000000 in
theorem sX4_readPack_b166 {p : Program} {l : Launch} {e : Env} {s : State} {m : MethodId} {args : Array Value} {below : List Frame} {meth : Method} {c : Code} {G : Gg} {M' : Mm} (X : Cx p m c meth cX4_readPack 9 s args RX4 none G) {dd : Nat} {rp : Int32 → Int32 → Int32 → Int32 → Mm → Option Mm} (hrp : ∀ (a1 a2 a3 a4 : Int32) (M M' : Mm), rp a1 a2 a3 a4 M = some M' → CTv l yX4_readPack cX4_readPack 9 dd G [.ref (G.2.2.2 5), .int a1, .int a2, .int a3, .int a4] M M') (hdd : 8 ≤ dd) {q109 : Int32 → Int32 → Nat → Int32 → Mm → Option Mm} (hq109 : ∀ (x2 : Int32) (x3 : Int32) (k5 : Nat) (x6 : Int32) (M : Mm) (hk5 : sh[k5]? = some skX3) (ls : Array Slot) (H : Heap) (locs : List Loc), lv_has ls 9 [(0, .ref (G.2.2.2 5)), (2, .int x2), (3, .int x3), (5, .ref (G.2.2.2 k5)), (6, .int x6)] → Wo G s M H locs → q109 x2 x3 k5 x6 M = some M' → W p l e (rm (dd + 3)) s m args below meth c H locs 0 0 (Qv below args s G M') (F0 m 109 ls [])) : ∀ (x2 : Int32) (x3 : Int32) (k5 : Nat) (x6 : Int32) (M : Mm) (hk5 : sh[k5]? = some skX3) (ls : Array Slot) (H : Heap) (locs : List Loc), lv_has ls 9 [(0, .ref (G.2.2.2 5)), (2, .int x2), (3, .int x3), (5, .ref (G.2.2.2 k5)), (6, .int x6)] → Wo G s M H locs → rX4_readPack_b166 rp q109 x2 x3 k5 x6 M = some M' → W p l e (rm (dd + 3)) s m args below meth c H locs 0 0 (Qv below args s G M') (F0 m 166 ls []) := by
    intro x2 x3 k5 x6 M hk5 ls H locs hl hW h
    unfold rX4_readPack_b166 at h
    have hx := X.1.1
    have hb := X.1.2.1
    obtain ⟨y27, ey27⟩ : ∃ y : Int32, y = (x6 + 1) := ⟨_, rfl⟩
    have h := ob_lt ey27 h
    refine lv_iinc (v := y27) (lv' := [(6, .int y27), (0, .ref (G.2.2.2 5)), (2, .int x2), (3, .int x3), (5, .ref (G.2.2.2 k5))]) hx hb dX4_readPack_166 hl (k := 4) rfl (by rw [ey27]; rfl) (by decide) rfl (fun ls hl => ?_)
    refine lv_goto (tgt := 109) hx hb dX4_readPack_169 (by decide) ?_
    exact hq109 x2 x3 k5 y27 M hk5 _ _ _ (lv_sub hl [1, 2, 3, 4, 0] rfl) hW h
def rX4_readPack_b109_s (rp : Int32 → Int32 → Int32 → Int32 → Mm → Option Mm) (q109 : Int32 → Int32 → Nat → Int32 → Mm → Option Mm) (x2 : Int32) (x3 : Int32) (k5 : Nat) (x6 : Int32) (M : Mm) : Option Mm :=
    (if (1200 : Int32) < x6 then (some M) else (if (M.1 5 15) = 0 then (lt_ (M.1 5 9) fun y21 => bd2 (rX4_next x2 M) fun r24 M23 => if r24 = 0 then (Option.bind (rX4_readCheck k5 M23) fun M31 => some M31) else (if r24 = (-1 : Int32) then (rX4_readPack_b166 rp q109 x2 x3 k5 x6 M23) else (Option.bind (rX4_readItem rp r24 y21 k5 x3 M23) fun M29 => rX4_readPack_b166 rp q109 x2 x3 k5 x6 M29))) else (some M)))
def rX4_readPack_b109 (rp : Int32 → Int32 → Int32 → Int32 → Mm → Option Mm) : Nat → Int32 → Int32 → Nat → Int32 → Mm → Option Mm
  | 0 => fun _ _ _ _ _ => none
  | n + 1 => rX4_readPack_b109_s rp (rX4_readPack_b109 rp n)
set_option maxRecDepth 100000 in
set_option maxHeartbeats 4000000 in
theorem sX4_readPack_b109 {p : Program} {l : Launch} {e : Env} {s : State} {m : MethodId} {args : Array Value} {below : List Frame} {meth : Method} {c : Code} {G : Gg} {M' : Mm} (X : Cx p m c meth cX4_readPack 9 s args RX4 none G) {dd : Nat} {rp : Int32 → Int32 → Int32 → Int32 → Mm → Option Mm} (hrp : ∀ (a1 a2 a3 a4 : Int32) (M M' : Mm), rp a1 a2 a3 a4 M = some M' → CTv l yX4_readPack cX4_readPack 9 dd G [.ref (G.2.2.2 5), .int a1, .int a2, .int a3, .int a4] M M') (hdd : 8 ≤ dd) : ∀ (n : Nat), ∀ (x2 : Int32) (x3 : Int32) (k5 : Nat) (x6 : Int32) (M : Mm) (hk5 : sh[k5]? = some skX3) (ls : Array Slot) (H : Heap) (locs : List Loc), lv_has ls 9 [(0, .ref (G.2.2.2 5)), (2, .int x2), (3, .int x3), (5, .ref (G.2.2.2 k5)), (6, .int x6)] → Wo G s M H locs → rX4_readPack_b109 rp n x2 x3 k5 x6 M = some M' → W p l e (rm (dd + 3)) s m args below meth c H locs 0 0 (Qv below args s G M') (F0 m 109 ls []) := by
  intro n
  induction n with
  | zero =>
    intro x2 x3 k5 x6 M hk5 ls H locs hl hW h
    cases (show (none : Option Mm) = some M' from h)
  | succ n hq1090 =>
    have hq109 : ∀ (x2 : Int32) (x3 : Int32) (k5 : Nat) (x6 : Int32) (M : Mm) (hk5 : sh[k5]? = some skX3) (ls : Array Slot) (H : Heap) (locs : List Loc), lv_has ls 9 [(0, .ref (G.2.2.2 5)), (2, .int x2), (3, .int x3), (5, .ref (G.2.2.2 k5)), (6, .int x6)] → Wo G s M H locs → (rX4_readPack_b109 rp n) x2 x3 k5 x6 M = some M' → W p l e (rm (dd + 3)) s m args below meth c H locs 0 0 (Qv below args s G M') (F0 m 109 ls []) := hq1090
    intro x2 x3 k5 x6 M hk5 ls H locs hl hW h
    have h : rX4_readPack_b109_s rp (rX4_readPack_b109 rp n) x2 x3 k5 x6 M = some M' := h
    unfold rX4_readPack_b109_s at h
    have hx := X.1.1
    have hb := X.1.2.1
    refine lv_iload hx hb dX4_readPack_109 (lv_at hl 4 rfl) ?_
    refine lv_sipush (v := 1200) hx hb dX4_readPack_111 (by decide) ?_
    refine lv_icmp_gt (tgt := 172) hx hb dX4_readPack_114 (by decide) (fun c19 => ?_) (fun c19 => ?_)
    · have h := ob_pos c19 h
      exact rt_v X hW h dX4_readPack_172
    · have h := ob_neg c19 h
      refine lv_aload_n hx hb dX4_readPack_117 rfl (lv_at hl 0 rfl) ?_
      refine gf4_70 (cN := 5) X hW rfl dX4_readPack_118 ?_
      refine lv_if_ne (tgt := 172) hx hb dX4_readPack_121 (by decide) (fun c20 => ?_) (fun c20 => ?_)
      · have h := ob_neg c20 h
        exact rt_v X hW h dX4_readPack_172
      · have h := ob_pos c20 h
        refine lv_aload_n hx hb dX4_readPack_124 rfl (lv_at hl 0 rfl) ?_
        refine gf4_88 (cN := 5) X hW rfl dX4_readPack_125 ?_
        refine lv_topi (fun y21 ey21 => ?_)
        have h := ob_lt ey21 h
        refine lv_istore (lv' := [(7, .int y21), (0, .ref (G.2.2.2 5)), (2, .int x2), (3, .int x3), (5, .ref (G.2.2.2 k5)), (6, .int x6)]) hx hb dX4_readPack_128 hl (by decide) rfl (fun ls hl => ?_)
        refine lv_aload_n hx hb dX4_readPack_130 rfl (lv_at hl 1 rfl) ?_
        refine lv_iload_n hx hb dX4_readPack_131 rfl (lv_at hl 2 rfl) ?_
        obtain ⟨r24, M23, e22, h⟩ := ob_bd2 h
        refine bg_calli X hW (cX4_next_k e22) rfl rfl kw4_117 kd_X4_next rfl rfl ⟨by first | (simp only [rm]; omega) | decide, by first | (simp only [rm]; omega) | decide⟩ ⟨Nat.le_refl _, Nat.le_refl _⟩ hl.1 (Nat.le_of_ble_eq_true rfl) dX4_readPack_132 (fun H locs hW => ?_)
        refine lv_istore (lv' := [(8, .int r24), (7, .int y21), (0, .ref (G.2.2.2 5)), (2, .int x2), (3, .int x3), (5, .ref (G.2.2.2 k5)), (6, .int x6)]) hx hb dX4_readPack_135 hl (by decide) rfl (fun ls hl => ?_)
        refine lv_iload hx hb dX4_readPack_137 (lv_at hl 0 rfl) ?_
        refine lv_if_ne (tgt := 149) hx hb dX4_readPack_139 (by decide) (fun c25 => ?_) (fun c25 => ?_)
        · have h := ob_neg c25 h
          refine lv_iload hx hb dX4_readPack_149 (lv_at hl 0 rfl) ?_
          refine lv_iconst (v := (-1)) hx hb dX4_readPack_151 (by decide) ?_
          refine lv_icmp_eq (tgt := 166) hx hb dX4_readPack_152 (by decide) (fun c26 => ?_) (fun c26 => ?_)
          · have h := ob_pos c26 h
            exact sX4_readPack_b166 X hrp hdd hq109 x2 x3 k5 x6 M23 hk5 _ _ _ (lv_sub hl [2, 3, 4, 5, 6] rfl) hW h
          · have h := ob_neg c26 h
            refine lv_aload_n hx hb dX4_readPack_155 rfl (lv_at hl 2 rfl) ?_
            refine lv_iload hx hb dX4_readPack_156 (lv_at hl 0 rfl) ?_
            refine lv_iload hx hb dX4_readPack_158 (lv_at hl 1 rfl) ?_
            refine lv_aload hx hb dX4_readPack_160 (lv_at hl 5 rfl) ?_
            refine lv_iload_n hx hb dX4_readPack_162 rfl (lv_at hl 4 rfl) ?_
            obtain ⟨M29, e28, h⟩ := ob_bind h
            refine bg_callv X hW (cX4_readItem_k hrp hdd hk5 e28) rfl rfl kw4_124 kd_X4_readItem rfl rfl ⟨by first | (simp only [rm]; omega) | decide, by first | (simp only [rm]; omega) | decide⟩ ⟨Nat.le_refl _, Nat.le_refl _⟩ hl.1 (Nat.le_of_ble_eq_true rfl) dX4_readPack_163 (fun H locs hW => ?_)
            exact sX4_readPack_b166 X hrp hdd hq109 x2 x3 k5 x6 M29 hk5 _ _ _ (lv_sub hl [2, 3, 4, 5, 6] rfl) hW h
        · have h := ob_pos c25 h
          refine lv_aload_n hx hb dX4_readPack_142 rfl (lv_at hl 2 rfl) ?_
          refine lv_aload hx hb dX4_readPack_143 (lv_at hl 5 rfl) ?_
          obtain ⟨M31, e30, h⟩ := ob_bind h
          refine bg_callv X hW (cX4_readCheck_k hk5 e30) rfl rfl kw4_120 kd_X4_readCheck rfl rfl ⟨by first | (simp only [rm]; omega) | decide, by first | (simp only [rm]; omega) | decide⟩ ⟨Nat.le_refl _, Nat.le_refl _⟩ hl.1 (Nat.le_of_ble_eq_true rfl) dX4_readPack_145 (fun H locs hW => ?_)
          exact rt_v X hW h dX4_readPack_148
def rX4_readPack_s (rp : Int32 → Int32 → Int32 → Int32 → Mm → Option Mm) (a1 : Int32) (a2 : Int32) (a3 : Int32) (a4 : Int32) (M : Mm) : Option Mm :=
    (if a3 < 0 then (rX4_readPack_b13 rp a1 a2 a3 a4 M) else (if a3 < (nI 9) then (if a3 < 0 ∨ 9 ≤ (a3).toNatClampNeg then none else bd2 (rX4_pay a1 (0 : Int32) (4 : Int32) M) fun r8 M7 => if r8 = 0 then (some M7) else (lt_ (st M7 5 14 ((M7.1 5 14) + (1 : Int32))) fun M10 => lt_ (st M10 5 13 (if (M10.1 5 13) < a3 then a3 else (M10.1 5 13))) fun M11 => Option.bind (rX3_begin (20 + (a3).toNatClampNeg) a1 a2 (M11.1 6 1) a4 M11) fun M13 => lt_ (st M13 5 9 a1) fun M14 => Option.bind (rX4_readMark (80 : Int32) a2 M14) fun M16 => Option.bind (rX4_readMark (75 : Int32) a2 M16) fun M18 => rX4_readPack_b109 rp FU a2 a3 (20 + (a3).toNatClampNeg) (0 : Int32) M18)) else (rX4_readPack_b13 rp a1 a2 a3 a4 M)))
set_option maxRecDepth 100000 in
set_option maxHeartbeats 4000000 in
theorem cX4_readPack_s {l : Launch} {G : Gg} {dd : Nat} {rp : Int32 → Int32 → Int32 → Int32 → Mm → Option Mm} (hrp : ∀ (a1 a2 a3 a4 : Int32) (M M' : Mm), rp a1 a2 a3 a4 M = some M' → CTv l yX4_readPack cX4_readPack 9 dd G [.ref (G.2.2.2 5), .int a1, .int a2, .int a3, .int a4] M M') (hdd : 8 ≤ dd) {a1 : Int32} {a2 : Int32} {a3 : Int32} {a4 : Int32} {M M' : Mm} (h : rX4_readPack_s rp a1 a2 a3 a4 M = some M') : CTv l yX4_readPack cX4_readPack 9 (dd + 3) G [.ref (G.2.2.2 5), .int a1, .int a2, .int a3, .int a4] M M' := by
  unfold rX4_readPack_s at h
  refine ct_v (by decide) (Nat.le_of_ble_eq_true rfl) (fun p e s m below meth c ls X hl hW => ?_)
  have hx := X.1.1
  have hb := X.1.2.1
  refine lv_iload_n hx hb dX4_readPack_0 rfl (lv_at hl 3 rfl) ?_
  refine lv_if_lt (tgt := 13) hx hb dX4_readPack_1 (by decide) (fun c1 => ?_) (fun c1 => ?_)
  · have h := ob_pos c1 h
    exact sX4_readPack_b13 X hrp hdd a1 a2 a3 a4 M _ _ _ (lv_sub hl [0, 1, 2, 3, 4] rfl) hW h
  · have h := ob_neg c1 h
    refine lv_iload_n hx hb dX4_readPack_4 rfl (lv_at hl 3 rfl) ?_
    refine lv_aload_n hx hb dX4_readPack_5 rfl (lv_at hl 0 rfl) ?_
    refine gf4_39 (cN := 5) X hW rfl dX4_readPack_6 ?_
    refine bg_lenP X hW dX4_readPack_9 ?_
    refine lv_icmp_lt (tgt := 17) hx hb dX4_readPack_10 (by decide) (fun c4 => ?_) (fun c4 => ?_)
    · have h := ob_pos c4 h
      refine lv_aload_n hx hb dX4_readPack_17 rfl (lv_at hl 0 rfl) ?_
      refine gf4_39 (cN := 5) X hW rfl dX4_readPack_18 ?_
      refine lv_iload_n hx hb dX4_readPack_21 rfl (lv_at hl 3 rfl) ?_
      obtain ⟨g5, h⟩ := ob_gd h
      refine bg_aldP X hW g5 dX4_readPack_22 ?_
      refine lv_astore (lv' := [(5, .ref (G.2.2.2 (20 + (a3).toNatClampNeg))), (0, .ref (G.2.2.2 5)), (1, .int a1), (2, .int a2), (3, .int a3), (4, .int a4)]) hx hb dX4_readPack_23 hl (by decide) rfl (fun ls hl => ?_)
      refine lv_aload hx hb dX4_readPack_25 (lv_at hl 0 rfl) ?_
      refine lv_ifnonnull (tgt := 38) hx hb dX4_readPack_27 (by decide) ?_
      refine lv_aload_n hx hb dX4_readPack_38 rfl (lv_at hl 1 rfl) ?_
      refine lv_iload_n hx hb dX4_readPack_39 rfl (lv_at hl 2 rfl) ?_
      refine lv_iconst (v := 0) hx hb dX4_readPack_40 (by decide) ?_
      refine lv_iconst (v := 4) hx hb dX4_readPack_41 (by decide) ?_
      obtain ⟨r8, M7, e6, h⟩ := ob_bd2 h
      refine bg_calli X hW (cX4_pay_k e6) rfl rfl kw4_102 kd_X4_pay rfl rfl ⟨by first | (simp only [rm]; omega) | decide, by first | (simp only [rm]; omega) | decide⟩ ⟨Nat.le_refl _, Nat.le_refl _⟩ hl.1 (Nat.le_of_ble_eq_true rfl) dX4_readPack_42 (fun H locs hW => ?_)
      refine lv_if_ne (tgt := 49) hx hb dX4_readPack_45 (by decide) (fun c9 => ?_) (fun c9 => ?_)
      · have h := ob_neg c9 h
        refine lv_aload_n hx hb dX4_readPack_49 rfl (lv_at hl 1 rfl) ?_
        refine lv_dup hx hb dX4_readPack_50 rfl ?_
        refine gf4_67 (cN := 5) X hW rfl dX4_readPack_51 ?_
        refine lv_iconst (v := 1) hx hb dX4_readPack_54 (by decide) ?_
        refine lv_iadd hx hb dX4_readPack_55 ?_
        refine pf4_67 (cN := 5) X hW rfl dX4_readPack_56 (fun M10 eM10 H locs hW => ?_)
        have h := ob_lt eM10 h
        refine lv_aload_n hx hb dX4_readPack_59 rfl (lv_at hl 1 rfl) ?_
        refine lv_aload_n hx hb dX4_readPack_60 rfl (lv_at hl 1 rfl) ?_
        refine gf4_64 (cN := 5) X hW rfl dX4_readPack_61 ?_
        refine lv_iload_n hx hb dX4_readPack_64 rfl (lv_at hl 4 rfl) ?_
        refine bg_max X mw386 mw26 mw3 mw27 hl.1 (Nat.le_of_ble_eq_true rfl) (Nat.le_of_ble_eq_true rfl) ⟨Nat.le_refl _, Nat.le_refl _⟩ dX4_readPack_65 ?_
        refine pf4_64 (cN := 5) X hW rfl dX4_readPack_68 (fun M11 eM11 H locs hW => ?_)
        have h := ob_lt eM11 h
        refine lv_aload hx hb dX4_readPack_71 (lv_at hl 0 rfl) ?_
        refine lv_iload_n hx hb dX4_readPack_73 rfl (lv_at hl 2 rfl) ?_
        refine lv_iload_n hx hb dX4_readPack_74 rfl (lv_at hl 3 rfl) ?_
        refine lv_aload_n hx hb dX4_readPack_75 rfl (lv_at hl 1 rfl) ?_
        refine gf4_20 (cN := 5) X hW rfl dX4_readPack_76 ?_
        refine gf4_83 (cN := 6) X hW rfl dX4_readPack_79 ?_
        refine lv_iload hx hb dX4_readPack_82 (lv_at hl 5 rfl) ?_
        obtain ⟨M13, e12, h⟩ := ob_bind h
        refine bg_callv X hW (cX3_begin_k (pk_sh (vp_lt g5)) e12) (pk_sh (vp_lt g5)) rfl kw4_111 kd_X3_begin rfl rfl ⟨by first | (simp only [rm]; omega) | decide, by first | (simp only [rm]; omega) | decide⟩ ⟨Nat.le_refl _, Nat.le_refl _⟩ hl.1 (Nat.le_of_ble_eq_true rfl) dX4_readPack_84 (fun H locs hW => ?_)
        refine lv_aload_n hx hb dX4_readPack_87 rfl (lv_at hl 1 rfl) ?_
        refine lv_iload_n hx hb dX4_readPack_88 rfl (lv_at hl 2 rfl) ?_
        refine pf4_88 (cN := 5) X hW rfl dX4_readPack_89 (fun M14 eM14 H locs hW => ?_)
        have h := ob_lt eM14 h
        refine lv_aload_n hx hb dX4_readPack_92 rfl (lv_at hl 1 rfl) ?_
        refine lv_bipush (v := 80) hx hb dX4_readPack_93 (by decide) ?_
        refine lv_iload_n hx hb dX4_readPack_95 rfl (lv_at hl 3 rfl) ?_
        obtain ⟨M16, e15, h⟩ := ob_bind h
        refine bg_callv X hW (cX4_readMark_k e15) rfl rfl kw4_114 kd_X4_readMark rfl rfl ⟨by first | (simp only [rm]; omega) | decide, by first | (simp only [rm]; omega) | decide⟩ ⟨Nat.le_refl _, Nat.le_refl _⟩ hl.1 (Nat.le_of_ble_eq_true rfl) dX4_readPack_96 (fun H locs hW => ?_)
        refine lv_aload_n hx hb dX4_readPack_99 rfl (lv_at hl 1 rfl) ?_
        refine lv_bipush (v := 75) hx hb dX4_readPack_100 (by decide) ?_
        refine lv_iload_n hx hb dX4_readPack_102 rfl (lv_at hl 3 rfl) ?_
        obtain ⟨M18, e17, h⟩ := ob_bind h
        refine bg_callv X hW (cX4_readMark_k e17) rfl rfl kw4_114 kd_X4_readMark rfl rfl ⟨by first | (simp only [rm]; omega) | decide, by first | (simp only [rm]; omega) | decide⟩ ⟨Nat.le_refl _, Nat.le_refl _⟩ hl.1 (Nat.le_of_ble_eq_true rfl) dX4_readPack_103 (fun H locs hW => ?_)
        refine lv_iconst (v := 0) hx hb dX4_readPack_106 (by decide) ?_
        refine lv_istore (lv' := [(6, .int (0 : Int32)), (5, .ref (G.2.2.2 (20 + (a3).toNatClampNeg))), (0, .ref (G.2.2.2 5)), (1, .int a1), (2, .int a2), (3, .int a3), (4, .int a4)]) hx hb dX4_readPack_107 hl (by decide) rfl (fun ls hl => ?_)
        exact sX4_readPack_b109 X hrp hdd FU a2 a3 (20 + (a3).toNatClampNeg) (0 : Int32) M18 (pk_sh (vp_lt g5)) _ _ _ (lv_sub hl [2, 4, 5, 1, 0] rfl) hW h
      · have h := ob_pos c9 h
        exact rt_v X hW h dX4_readPack_48
    · have h := ob_neg c4 h
      exact sX4_readPack_b13 X hrp hdd a1 a2 a3 a4 M _ _ _ (lv_sub hl [0, 1, 2, 3, 4] rfl) hW h
def rX4_readPack : Nat → Int32 → Int32 → Int32 → Int32 → Mm → Option Mm
  | 0 => fun _ _ _ _ _ => none
  | n + 1 => rX4_readPack_s (rX4_readPack n)
theorem cX4_readPack_n {l : Launch} {G : Gg} : ∀ (n : Nat) (a1 a2 a3 a4 : Int32) (M M' : Mm), rX4_readPack n a1 a2 a3 a4 M = some M' → CTv l yX4_readPack cX4_readPack 9 (8 + 3 * n) G [.ref (G.2.2.2 5), .int a1, .int a2, .int a3, .int a4] M M'
  | 0 => fun _ _ _ _ _ _ h => by cases (show (none : Option Mm) = some _ from h)
  | n + 1 => fun a1 a2 a3 a4 M M' h => cX4_readPack_s (dd := 8 + 3 * n) (rp := rX4_readPack n) (fun a1 a2 a3 a4 M M' h => cX4_readPack_n n a1 a2 a3 a4 M M' h) (by omega) (show rX4_readPack_s (rX4_readPack n) a1 a2 a3 a4 M = some M' from h)
theorem cX4_readPack_k {l : Launch} {G : Gg} {a1 a2 a3 a4 : Int32} {M M' : Mm} (h : rX4_readPack FR a1 a2 a3 a4 M = some M') : CTv l yX4_readPack cX4_readPack 9 38 G [.ref (G.2.2.2 5), .int a1, .int a2, .int a3, .int a4] M M' := cX4_readPack_n 10 a1 a2 a3 a4 M M' h
def rX4_read (a1 : Int32) (a2 : Int32) (a3 : Int32) (M : Mm) : Option (Int32 × Mm) :=
    (lt_ (st M 5 6 a1) fun M1 => lt_ (st M1 5 7 a2) fun M2 => lt_ (st M2 5 8 a3) fun M3 => lt_ (st M3 5 12 (0 : Int32)) fun M4 => lt_ (st M4 5 13 (0 : Int32)) fun M5 => lt_ (st M5 5 14 (0 : Int32)) fun M6 => lt_ (st M6 5 15 (0 : Int32)) fun M7 => lt_ (st M7 5 16 (-1 : Int32)) fun M8 => lt_ (st M8 9 5 (0 : Int32)) fun M9 => Option.bind (rX0_keepFirst 6 4000 0 (0 : Int32) M9) fun M11 => lt_ (st M11 5 17 ((M11.1 5 17) + (1 : Int32))) fun M12 => Option.bind (rX4_readPack FR (0 : Int32) (M12.1 1 1) (0 : Int32) (0 : Int32) M12) fun M14 => some ((M14.1 5 15), M14))
set_option maxRecDepth 100000 in
set_option maxHeartbeats 4000000 in
theorem cX4_read_k {l : Launch} {G : Gg} {a1 : Int32} {a2 : Int32} {a3 : Int32} {M M' : Mm} {r : Int32} (h : rX4_read a1 a2 a3 M = some (r, M')) : CTi l yX4_read cX4_read 4 (some .int) 39 G [.ref (G.2.2.2 5), .int a1, .int a2, .int a3] M r M' := by
  unfold rX4_read at h
  refine ct_i (by decide) (Nat.le_of_ble_eq_true rfl) (fun p e s m below meth c ls X hl hW => ?_)
  have hx := X.1.1
  have hb := X.1.2.1
  refine lv_aload_n hx hb dX4_read_0 rfl (lv_at hl 0 rfl) ?_
  refine lv_iload_n hx hb dX4_read_1 rfl (lv_at hl 1 rfl) ?_
  refine pf4_52 (cN := 5) X hW rfl dX4_read_2 (fun M1 eM1 H locs hW => ?_)
  have h := ob_lt eM1 h
  refine lv_aload_n hx hb dX4_read_5 rfl (lv_at hl 0 rfl) ?_
  refine lv_iload_n hx hb dX4_read_6 rfl (lv_at hl 2 rfl) ?_
  refine pf4_55 (cN := 5) X hW rfl dX4_read_7 (fun M2 eM2 H locs hW => ?_)
  have h := ob_lt eM2 h
  refine lv_aload_n hx hb dX4_read_10 rfl (lv_at hl 0 rfl) ?_
  refine lv_iload_n hx hb dX4_read_11 rfl (lv_at hl 3 rfl) ?_
  refine pf4_58 (cN := 5) X hW rfl dX4_read_12 (fun M3 eM3 H locs hW => ?_)
  have h := ob_lt eM3 h
  refine lv_aload_n hx hb dX4_read_15 rfl (lv_at hl 0 rfl) ?_
  refine lv_iconst (v := 0) hx hb dX4_read_16 (by decide) ?_
  refine pf4_61 (cN := 5) X hW rfl dX4_read_17 (fun M4 eM4 H locs hW => ?_)
  have h := ob_lt eM4 h
  refine lv_aload_n hx hb dX4_read_20 rfl (lv_at hl 0 rfl) ?_
  refine lv_iconst (v := 0) hx hb dX4_read_21 (by decide) ?_
  refine pf4_64 (cN := 5) X hW rfl dX4_read_22 (fun M5 eM5 H locs hW => ?_)
  have h := ob_lt eM5 h
  refine lv_aload_n hx hb dX4_read_25 rfl (lv_at hl 0 rfl) ?_
  refine lv_iconst (v := 0) hx hb dX4_read_26 (by decide) ?_
  refine pf4_67 (cN := 5) X hW rfl dX4_read_27 (fun M6 eM6 H locs hW => ?_)
  have h := ob_lt eM6 h
  refine lv_aload_n hx hb dX4_read_30 rfl (lv_at hl 0 rfl) ?_
  refine lv_iconst (v := 0) hx hb dX4_read_31 (by decide) ?_
  refine pf4_70 (cN := 5) X hW rfl dX4_read_32 (fun M7 eM7 H locs hW => ?_)
  have h := ob_lt eM7 h
  refine lv_aload_n hx hb dX4_read_35 rfl (lv_at hl 0 rfl) ?_
  refine lv_iconst (v := (-1)) hx hb dX4_read_36 (by decide) ?_
  refine pf4_48 (cN := 5) X hW rfl dX4_read_37 (fun M8 eM8 H locs hW => ?_)
  have h := ob_lt eM8 h
  refine lv_aload_n hx hb dX4_read_40 rfl (lv_at hl 0 rfl) ?_
  refine gf4_26 (cN := 5) X hW rfl dX4_read_41 ?_
  refine lv_iconst (v := 0) hx hb dX4_read_44 (by decide) ?_
  refine pf4_73 (cN := 9) X hW rfl dX4_read_45 (fun M9 eM9 H locs hW => ?_)
  have h := ob_lt eM9 h
  refine lv_aload_n hx hb dX4_read_48 rfl (lv_at hl 0 rfl) ?_
  refine gf4_20 (cN := 5) X hW rfl dX4_read_49 ?_
  refine lv_iconst (v := 0) hx hb dX4_read_52 (by decide) ?_
  obtain ⟨M11, e10, h⟩ := ob_bind h
  refine bg_callv X hW (cX0_keepFirst_k rfl rfl rfl e10) rfl rfl kw4_76 kd_X0_keepFirst rfl rfl ⟨Nat.le_of_ble_eq_true rfl, Nat.le_of_ble_eq_true rfl⟩ ⟨Nat.le_refl _, Nat.le_refl _⟩ hl.1 (Nat.le_of_ble_eq_true rfl) dX4_read_53 (fun H locs hW => ?_)
  refine lv_aload_n hx hb dX4_read_56 rfl (lv_at hl 0 rfl) ?_
  refine lv_dup hx hb dX4_read_57 rfl ?_
  refine gf4_80 (cN := 5) X hW rfl dX4_read_58 ?_
  refine lv_iconst (v := 1) hx hb dX4_read_61 (by decide) ?_
  refine lv_iadd hx hb dX4_read_62 ?_
  refine pf4_80 (cN := 5) X hW rfl dX4_read_63 (fun M12 eM12 H locs hW => ?_)
  have h := ob_lt eM12 h
  refine lv_aload_n hx hb dX4_read_66 rfl (lv_at hl 0 rfl) ?_
  refine lv_iconst (v := 0) hx hb dX4_read_67 (by decide) ?_
  refine lv_aload_n hx hb dX4_read_68 rfl (lv_at hl 0 rfl) ?_
  refine gf4_9 (cN := 5) X hW rfl dX4_read_69 ?_
  refine gf4_83 (cN := 1) X hW rfl dX4_read_72 ?_
  refine lv_iconst (v := 0) hx hb dX4_read_75 (by decide) ?_
  refine lv_iconst (v := 0) hx hb dX4_read_76 (by decide) ?_
  obtain ⟨M14, e13, h⟩ := ob_bind h
  refine bg_callv X hW (cX4_readPack_k e13) rfl rfl kw4_84 kd_X4_readPack rfl rfl ⟨Nat.le_of_ble_eq_true rfl, Nat.le_of_ble_eq_true rfl⟩ ⟨Nat.le_refl _, Nat.le_refl _⟩ hl.1 (Nat.le_of_ble_eq_true rfl) dX4_read_77 (fun H locs hW => ?_)
  refine lv_aload_n hx hb dX4_read_80 rfl (lv_at hl 0 rfl) ?_
  refine gf4_70 (cN := 5) X hW rfl dX4_read_81 ?_
  exact rt_i X hW h dX4_read_84
