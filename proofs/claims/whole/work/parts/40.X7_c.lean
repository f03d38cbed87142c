def rX7_codesOf_b171 (s0 : Int32) (M : Mm) : Option (Int32 × Mm) :=
    (if ¬ s0 &&& 1 = s0 then none else some (s0, M))
set_option maxRecDepth 100000 in
set_option maxHeartbeats 4000000 in
theorem sX7_codesOf_b171 {p : Program} {l : Launch} {e : Env} {s : State} {m : MethodId} {args : Array Value} {below : List Frame} {meth : Method} {c : Code} {G : Gg} {r : Int32} {M' : Mm} (X : Cx p m c meth cX7_codesOf 9 s args RX7 (some .boolean) G) : ∀ (s0 : Int32) (M : Mm) (ls : Array Slot) (H : Heap) (locs : List Loc), lv_has ls 9 [(0, .ref (G.2.2.2 31))] → Wo G s M H locs → rX7_codesOf_b171 s0 M = some (r, M') → W p l e (rm 0) s m args below meth c H locs 0 0 (Qi below args s G r M') (F0 m 171 ls [.int s0]) := by
    intro s0 M ls H locs hl hW h
    unfold rX7_codesOf_b171 at h
    have hx := X.1.1
    have hb := X.1.2.1
    exact rt_z X hW h dX7_codesOf_171
def rX7_codesOf_b166 (M : Mm) : Option (Int32 × Mm) :=
    (rX7_codesOf_b171 (1 : Int32) M)
set_option maxRecDepth 100000 in
set_option maxHeartbeats 4000000 in
theorem sX7_codesOf_b166 {p : Program} {l : Launch} {e : Env} {s : State} {m : MethodId} {args : Array Value} {below : List Frame} {meth : Method} {c : Code} {G : Gg} {r : Int32} {M' : Mm} (X : Cx p m c meth cX7_codesOf 9 s args RX7 (some .boolean) G) : ∀ (M : Mm) (ls : Array Slot) (H : Heap) (locs : List Loc), lv_has ls 9 [(0, .ref (G.2.2.2 31))] → Wo G s M H locs → rX7_codesOf_b166  M = some (r, M') → W p l e (rm 0) s m args below meth c H locs 0 0 (Qi below args s G r M') (F0 m 166 ls []) := by
    intro M ls H locs hl hW h
    unfold rX7_codesOf_b166 at h
    have hx := X.1.1
    have hb := X.1.2.1
    refine lv_iconst (v := 1) hx hb dX7_codesOf_166 (by decide) ?_
    refine lv_goto (tgt := 171) hx hb dX7_codesOf_167 (by decide) ?_
    exact sX7_codesOf_b171 X (1 : Int32) M _ _ _ (lv_sub hl [0] rfl) hW h
def rX7_codesOf_b170 (M : Mm) : Option (Int32 × Mm) :=
    (rX7_codesOf_b171 (0 : Int32) M)
set_option maxRecDepth 100000 in
set_option maxHeartbeats 4000000 in
theorem sX7_codesOf_b170 {p : Program} {l : Launch} {e : Env} {s : State} {m : MethodId} {args : Array Value} {below : List Frame} {meth : Method} {c : Code} {G : Gg} {r : Int32} {M' : Mm} (X : Cx p m c meth cX7_codesOf 9 s args RX7 (some .boolean) G) : ∀ (M : Mm) (ls : Array Slot) (H : Heap) (locs : List Loc), lv_has ls 9 [(0, .ref (G.2.2.2 31))] → Wo G s M H locs → rX7_codesOf_b170  M = some (r, M') → W p l e (rm 0) s m args below meth c H locs 0 0 (Qi below args s G r M') (F0 m 170 ls []) := by
    intro M ls H locs hl hW h
    unfold rX7_codesOf_b170 at h
    have hx := X.1.1
    have hb := X.1.2.1
    refine lv_iconst (v := 0) hx hb dX7_codesOf_170 (by decide) ?_
    exact sX7_codesOf_b171 X (0 : Int32) M _ _ _ (lv_sub hl [0] rfl) hW h
def rX7_codesOf_b135 (q103 : Int32 → Int32 → Int32 → Int32 → Int32 → Int32 → Int32 → Int32 → Mm → Option (Int32 × Mm)) (x1 : Int32) (x2 : Int32) (x3 : Int32) (x4 : Int32) (x5 : Int32) (x6 : Int32) (x7 : Int32) (x8 : Int32) (M : Mm) : Option (Int32 × Mm) :=
    (lt_ (x8 + 1) fun y11 => q103 x1 x2 x3 x4 x5 x6 x7 y11 M)
set_option maxRecDepth 100000 in
set_option maxHeartbeats 4000000 in
theorem sX7_codesOf_b135 {p : Program} {l : Launch} {e : Env} {s : State} {m : MethodId} {args : Array Value} {below : List Frame} {meth : Method} {c : Code} {G : Gg} {r : Int32} {M' : Mm} (X : Cx p m c meth cX7_codesOf 9 s args RX7 (some .boolean) G) {q103 : Int32 → Int32 → Int32 → Int32 → Int32 → Int32 → Int32 → Int32 → Mm → Option (Int32 × Mm)} (hq103 : ∀ (x1 : Int32) (x2 : Int32) (x3 : Int32) (x4 : Int32) (x5 : Int32) (x6 : Int32) (x7 : Int32) (x8 : Int32) (M : Mm) (ls : Array Slot) (H : Heap) (locs : List Loc), lv_has ls 9 [(0, .ref (G.2.2.2 31)), (1, .int x1), (2, .int x2), (3, .int x3), (4, .int x4), (5, .int x5), (6, .int x6), (7, .int x7), (8, .int x8)] → Wo G s M H locs → q103 x1 x2 x3 x4 x5 x6 x7 x8 M = some (r, M') → W p l e (rm 0) s m args below meth c H locs 0 0 (Qi below args s G r M') (F0 m 103 ls [])) : ∀ (x1 : Int32) (x2 : Int32) (x3 : Int32) (x4 : Int32) (x5 : Int32) (x6 : Int32) (x7 : Int32) (x8 : Int32) (M : Mm) (ls : Array Slot) (H : Heap) (locs : List Loc), lv_has ls 9 [(0, .ref (G.2.2.2 31)), (1, .int x1), (2, .int x2), (3, .int x3), (4, .int x4), (5, .int x5), (6, .int x6), (7, .int x7), (8, .int x8)] → Wo G s M H locs → rX7_codesOf_b135 q103 x1 x2 x3 x4 x5 x6 x7 x8 M = some (r, M') → W p l e (rm 0) s m args below meth c H locs 0 0 (Qi below args s G r M') (F0 m 135 ls []) := by
    intro x1 x2 x3 x4 x5 x6 x7 x8 M ls H locs hl hW h
    unfold rX7_codesOf_b135 at h
    have hx := X.1.1
    have hb := X.1.2.1
    obtain ⟨y11, ey11⟩ : ∃ y : Int32, y = (x8 + 1) := ⟨_, rfl⟩
    have h := ob_lt ey11 h
    refine lv_iinc (v := y11) (lv' := [(8, .int y11), (0, .ref (G.2.2.2 31)), (1, .int x1), (2, .int x2), (3, .int x3), (4, .int x4), (5, .int x5), (6, .int x6), (7, .int x7)]) hx hb dX7_codesOf_135 hl (k := 8) rfl (by rw [ey11]; rfl) (by decide) rfl (fun ls hl => ?_)
    refine lv_goto (tgt := 103) hx hb dX7_codesOf_138 (by decide) ?_
    exact hq103 x1 x2 x3 x4 x5 x6 x7 y11 M _ _ _ (lv_sub hl [1, 2, 3, 4, 5, 6, 7, 8, 0] rfl) hW h
def rX7_codesOf_b103_s (q87 : Int32 → Int32 → Int32 → Int32 → Int32 → Int32 → Int32 → Mm → Option (Int32 × Mm)) (q103 : Int32 → Int32 → Int32 → Int32 → Int32 → Int32 → Int32 → Int32 → Mm → Option (Int32 × Mm)) (x1 : Int32) (x2 : Int32) (x3 : Int32) (x4 : Int32) (x5 : Int32) (x6 : Int32) (x7 : Int32) (x8 : Int32) (M : Mm) : Option (Int32 × Mm) :=
    (if x2 ≤ x8 then (lt_ (x7 + 1) fun y8 => q87 x1 x2 x3 x4 x5 x6 y8 M) else (if (x1 + x8) < 0 ∨ 1200 ≤ ((x1 + x8)).toNatClampNeg then none else if (M.1 32 ((x1 + x8)).toNatClampNeg) = x7 then (if x8 < 0 ∨ 8 ≤ (x8).toNatClampNeg then none else lt_ (st M 47 (x8).toNatClampNeg x6) fun M13 => lt_ (x6 + 1) fun y14 => rX7_codesOf_b135 q103 x1 x2 x3 x4 x5 y14 x7 x8 M13) else (rX7_codesOf_b135 q103 x1 x2 x3 x4 x5 x6 x7 x8 M)))
def rX7_codesOf_b103 (q87 : Int32 → Int32 → Int32 → Int32 → Int32 → Int32 → Int32 → Mm → Option (Int32 × Mm)) : Nat → Int32 → Int32 → Int32 → Int32 → Int32 → Int32 → Int32 → Int32 → Mm → Option (Int32 × Mm)
  | 0 => fun _ _ _ _ _ _ _ _ _ => none
  | n + 1 => rX7_codesOf_b103_s q87 (rX7_codesOf_b103 q87 n)
set_option maxRecDepth 100000 in
set_option maxHeartbeats 4000000 in
theorem sX7_codesOf_b103 {p : Program} {l : Launch} {e : Env} {s : State} {m : MethodId} {args : Array Value} {below : List Frame} {meth : Method} {c : Code} {G : Gg} {r : Int32} {M' : Mm} (X : Cx p m c meth cX7_codesOf 9 s args RX7 (some .boolean) G) {q87 : Int32 → Int32 → Int32 → Int32 → Int32 → Int32 → Int32 → Mm → Option (Int32 × Mm)} (hq87 : ∀ (x1 : Int32) (x2 : Int32) (x3 : Int32) (x4 : Int32) (x5 : Int32) (x6 : Int32) (x7 : Int32) (M : Mm) (ls : Array Slot) (H : Heap) (locs : List Loc), lv_has ls 9 [(0, .ref (G.2.2.2 31)), (1, .int x1), (2, .int x2), (3, .int x3), (4, .int x4), (5, .int x5), (6, .int x6), (7, .int x7)] → Wo G s M H locs → q87 x1 x2 x3 x4 x5 x6 x7 M = some (r, M') → W p l e (rm 0) s m args below meth c H locs 0 0 (Qi below args s G r M') (F0 m 87 ls [])) : ∀ (n : Nat), ∀ (x1 : Int32) (x2 : Int32) (x3 : Int32) (x4 : Int32) (x5 : Int32) (x6 : Int32) (x7 : Int32) (x8 : Int32) (M : Mm) (ls : Array Slot) (H : Heap) (locs : List Loc), lv_has ls 9 [(0, .ref (G.2.2.2 31)), (1, .int x1), (2, .int x2), (3, .int x3), (4, .int x4), (5, .int x5), (6, .int x6), (7, .int x7), (8, .int x8)] → Wo G s M H locs → rX7_codesOf_b103 q87 n x1 x2 x3 x4 x5 x6 x7 x8 M = some (r, M') → W p l e (rm 0) s m args below meth c H locs 0 0 (Qi below args s G r M') (F0 m 103 ls []) := by
  intro n
  induction n with
  | zero =>
    intro x1 x2 x3 x4 x5 x6 x7 x8 M ls H locs hl hW h
    cases (show (none : Option (Int32 × Mm)) = some (r, M') from h)
  | succ n hq1030 =>
    have hq103 : ∀ (x1 : Int32) (x2 : Int32) (x3 : Int32) (x4 : Int32) (x5 : Int32) (x6 : Int32) (x7 : Int32) (x8 : Int32) (M : Mm) (ls : Array Slot) (H : Heap) (locs : List Loc), lv_has ls 9 [(0, .ref (G.2.2.2 31)), (1, .int x1), (2, .int x2), (3, .int x3), (4, .int x4), (5, .int x5), (6, .int x6), (7, .int x7), (8, .int x8)] → Wo G s M H locs → (rX7_codesOf_b103 q87 n) x1 x2 x3 x4 x5 x6 x7 x8 M = some (r, M') → W p l e (rm 0) s m args below meth c H locs 0 0 (Qi below args s G r M') (F0 m 103 ls []) := hq1030
    intro x1 x2 x3 x4 x5 x6 x7 x8 M ls H locs hl hW h
    have h : rX7_codesOf_b103_s q87 (rX7_codesOf_b103 q87 n) x1 x2 x3 x4 x5 x6 x7 x8 M = some (r, M') := h
    unfold rX7_codesOf_b103_s at h
    have hx := X.1.1
    have hb := X.1.2.1
    refine lv_iload hx hb dX7_codesOf_103 (lv_at hl 8 rfl) ?_
    refine lv_iload_n hx hb dX7_codesOf_105 rfl (lv_at hl 2 rfl) ?_
    refine lv_icmp_ge (tgt := 141) hx hb dX7_codesOf_106 (by decide) (fun c7 => ?_) (fun c7 => ?_)
    · have h := ob_pos c7 h
      obtain ⟨y8, ey8⟩ : ∃ y : Int32, y = (x7 + 1) := ⟨_, rfl⟩
      have h := ob_lt ey8 h
      refine lv_iinc (v := y8) (lv' := [(7, .int y8), (0, .ref (G.2.2.2 31)), (1, .int x1), (2, .int x2), (3, .int x3), (4, .int x4), (5, .int x5), (6, .int x6), (8, .int x8)]) hx hb dX7_codesOf_141 hl (k := 7) rfl (by rw [ey8]; rfl) (by decide) rfl (fun ls hl => ?_)
      refine lv_goto (tgt := 87) hx hb dX7_codesOf_144 (by decide) ?_
      exact hq87 x1 x2 x3 x4 x5 x6 y8 M _ _ _ (lv_sub hl [1, 2, 3, 4, 5, 6, 7, 0] rfl) hW h
    · have h := ob_neg c7 h
      refine lv_aload_n hx hb dX7_codesOf_109 rfl (lv_at hl 0 rfl) ?_
      refine gf7_7 (cN := 31) X hW rfl dX7_codesOf_110 ?_
      refine lv_iload_n hx hb dX7_codesOf_113 rfl (lv_at hl 1 rfl) ?_
      refine lv_iload hx hb dX7_codesOf_114 (lv_at hl 8 rfl) ?_
      refine lv_iadd hx hb dX7_codesOf_116 ?_
      obtain ⟨g9, h⟩ := ob_gd h
      refine bg_ald (cN := 32) X hW (n := 1200) rfl g9 dX7_codesOf_117 ?_
      refine lv_iload hx hb dX7_codesOf_118 (lv_at hl 7 rfl) ?_
      refine lv_icmp_ne (tgt := 135) hx hb dX7_codesOf_120 (by decide) (fun c10 => ?_) (fun c10 => ?_)
      · have h := ob_neg c10 h
        exact sX7_codesOf_b135 X hq103 x1 x2 x3 x4 x5 x6 x7 x8 M _ _ _ (lv_sub hl [0, 1, 2, 3, 4, 5, 6, 7, 8] rfl) hW h
      · have h := ob_pos c10 h
        refine lv_aload_n hx hb dX7_codesOf_123 rfl (lv_at hl 0 rfl) ?_
        refine gf7_59 (cN := 31) X hW rfl dX7_codesOf_124 ?_
        refine lv_iload hx hb dX7_codesOf_127 (lv_at hl 8 rfl) ?_
        refine lv_iload hx hb dX7_codesOf_129 (lv_at hl 6 rfl) ?_
        obtain ⟨g12, h⟩ := ob_gd h
        refine bg_ast (cN := 47) X hW (n := 8) rfl g12 dX7_codesOf_131 (fun M13 eM13 H locs hW => ?_)
        have h := ob_lt eM13 h
        obtain ⟨y14, ey14⟩ : ∃ y : Int32, y = (x6 + 1) := ⟨_, rfl⟩
        have h := ob_lt ey14 h
        refine lv_iinc (v := y14) (lv' := [(6, .int y14), (0, .ref (G.2.2.2 31)), (1, .int x1), (2, .int x2), (3, .int x3), (4, .int x4), (5, .int x5), (7, .int x7), (8, .int x8)]) hx hb dX7_codesOf_132 hl (k := 6) rfl (by rw [ey14]; rfl) (by decide) rfl (fun ls hl => ?_)
        exact sX7_codesOf_b135 X hq103 x1 x2 x3 x4 x5 y14 x7 x8 M13 _ _ _ (lv_sub hl [1, 2, 3, 4, 5, 6, 0, 7, 8] rfl) hW h
def rX7_codesOf_b87_s (q87 : Int32 → Int32 → Int32 → Int32 → Int32 → Int32 → Int32 → Mm → Option (Int32 × Mm)) (x1 : Int32) (x2 : Int32) (x3 : Int32) (x4 : Int32) (x5 : Int32) (x6 : Int32) (x7 : Int32) (M : Mm) : Option (Int32 × Mm) :=
    (if (7 : Int32) < x7 then (if x3 = (128 : Int32) then (rX7_codesOf_b166  M) else (if x4 = (1 : Int32) then (if x5 = (1 : Int32) then (rX7_codesOf_b166  M) else (rX7_codesOf_b170  M)) else (rX7_codesOf_b170  M))) else (lt_ (x6 * (2 : Int32)) fun y6 => rX7_codesOf_b103 q87 FU x1 x2 x3 x4 x5 y6 x7 (0 : Int32) M))
def rX7_codesOf_b87 : Nat → Int32 → Int32 → Int32 → Int32 → Int32 → Int32 → Int32 → Mm → Option (Int32 × Mm)
  | 0 => fun _ _ _ _ _ _ _ _ => none
  | n + 1 => rX7_codesOf_b87_s (rX7_codesOf_b87 n)
set_option maxRecDepth 100000 in
set_option maxHeartbeats 4000000 in
theorem sX7_codesOf_b87 {p : Program} {l : Launch} {e : Env} {s : State} {m : MethodId} {args : Array Value} {below : List Frame} {meth : Method} {c : Code} {G : Gg} {r : Int32} {M' : Mm} (X : Cx p m c meth cX7_codesOf 9 s args RX7 (some .boolean) G) : ∀ (n : Nat), ∀ (x1 : Int32) (x2 : Int32) (x3 : Int32) (x4 : Int32) (x5 : Int32) (x6 : Int32) (x7 : Int32) (M : Mm) (ls : Array Slot) (H : Heap) (locs : List Loc), lv_has ls 9 [(0, .ref (G.2.2.2 31)), (1, .int x1), (2, .int x2), (3, .int x3), (4, .int x4), (5, .int x5), (6, .int x6), (7, .int x7)] → Wo G s M H locs → rX7_codesOf_b87 n x1 x2 x3 x4 x5 x6 x7 M = some (r, M') → W p l e (rm 0) s m args below meth c H locs 0 0 (Qi below args s G r M') (F0 m 87 ls []) := by
  intro n
  induction n with
  | zero =>
    intro x1 x2 x3 x4 x5 x6 x7 M ls H locs hl hW h
    cases (show (none : Option (Int32 × Mm)) = some (r, M') from h)
  | succ n hq870 =>
    have hq87 : ∀ (x1 : Int32) (x2 : Int32) (x3 : Int32) (x4 : Int32) (x5 : Int32) (x6 : Int32) (x7 : Int32) (M : Mm) (ls : Array Slot) (H : Heap) (locs : List Loc), lv_has ls 9 [(0, .ref (G.2.2.2 31)), (1, .int x1), (2, .int x2), (3, .int x3), (4, .int x4), (5, .int x5), (6, .int x6), (7, .int x7)] → Wo G s M H locs → (rX7_codesOf_b87 n) x1 x2 x3 x4 x5 x6 x7 M = some (r, M') → W p l e (rm 0) s m args below meth c H locs 0 0 (Qi below args s G r M') (F0 m 87 ls []) := hq870
    intro x1 x2 x3 x4 x5 x6 x7 M ls H locs hl hW h
    have h : rX7_codesOf_b87_s (rX7_codesOf_b87 n) x1 x2 x3 x4 x5 x6 x7 M = some (r, M') := h
    unfold rX7_codesOf_b87_s at h
    have hx := X.1.1
    have hb := X.1.2.1
    refine lv_iload hx hb dX7_codesOf_87 (lv_at hl 7 rfl) ?_
    refine lv_bipush (v := 7) hx hb dX7_codesOf_89 (by decide) ?_
    refine lv_icmp_gt (tgt := 147) hx hb dX7_codesOf_91 (by decide) (fun c2 => ?_) (fun c2 => ?_)
    · have h := ob_pos c2 h
      refine lv_iload_n hx hb dX7_codesOf_147 rfl (lv_at hl 3 rfl) ?_
      refine lv_sipush (v := 128) hx hb dX7_codesOf_148 (by decide) ?_
      refine lv_icmp_eq (tgt := 166) hx hb dX7_codesOf_151 (by decide) (fun c3 => ?_) (fun c3 => ?_)
      · have h := ob_pos c3 h
        exact sX7_codesOf_b166 X M _ _ _ (lv_sub hl [0] rfl) hW h
      · have h := ob_neg c3 h
        refine lv_iload hx hb dX7_codesOf_154 (lv_at hl 4 rfl) ?_
        refine lv_iconst (v := 1) hx hb dX7_codesOf_156 (by decide) ?_
        refine lv_icmp_ne (tgt := 170) hx hb dX7_codesOf_157 (by decide) (fun c4 => ?_) (fun c4 => ?_)
        · have h := ob_neg c4 h
          exact sX7_codesOf_b170 X M _ _ _ (lv_sub hl [0] rfl) hW h
        · have h := ob_pos c4 h
          refine lv_iload hx hb dX7_codesOf_160 (lv_at hl 5 rfl) ?_
          refine lv_iconst (v := 1) hx hb dX7_codesOf_162 (by decide) ?_
          refine lv_icmp_ne (tgt := 170) hx hb dX7_codesOf_163 (by decide) (fun c5 => ?_) (fun c5 => ?_)
          · have h := ob_neg c5 h
            exact sX7_codesOf_b170 X M _ _ _ (lv_sub hl [0] rfl) hW h
          · have h := ob_pos c5 h
            exact sX7_codesOf_b166 X M _ _ _ (lv_sub hl [0] rfl) hW h
    · have h := ob_neg c2 h
      refine lv_iload hx hb dX7_codesOf_94 (lv_at hl 6 rfl) ?_
      refine lv_iconst (v := 2) hx hb dX7_codesOf_96 (by decide) ?_
      refine lv_imul hx hb dX7_codesOf_97 ?_
      refine lv_topi (fun y6 ey6 => ?_)
      have h := ob_lt ey6 h
      refine lv_istore (lv' := [(6, .int y6), (0, .ref (G.2.2.2 31)), (1, .int x1), (2, .int x2), (3, .int x3), (4, .int x4), (5, .int x5), (7, .int x7)]) hx hb dX7_codesOf_98 hl (by decide) rfl (fun ls hl => ?_)
      refine lv_iconst (v := 0) hx hb dX7_codesOf_100 (by decide) ?_
      refine lv_istore (lv' := [(8, .int (0 : Int32)), (6, .int y6), (0, .ref (G.2.2.2 31)), (1, .int x1), (2, .int x2), (3, .int x3), (4, .int x4), (5, .int x5), (7, .int x7)]) hx hb dX7_codesOf_101 hl (by decide) rfl (fun ls hl => ?_)
      exact sX7_codesOf_b103 X hq87 FU x1 x2 x3 x4 x5 y6 x7 (0 : Int32) M _ _ _ (lv_sub hl [2, 3, 4, 5, 6, 7, 1, 8, 0] rfl) hW h
def rX7_codesOf_b73 (q11 : Int32 → Int32 → Int32 → Int32 → Int32 → Int32 → Mm → Option (Int32 × Mm)) (x1 : Int32) (x2 : Int32) (x3 : Int32) (x4 : Int32) (x6 : Int32) (s0 : Int32) (M : Mm) : Option (Int32 × Mm) :=
    (lt_ (x6 + 1) fun y22 => q11 x1 x2 x3 x4 s0 y22 M)
set_option maxRecDepth 100000 in
set_option maxHeartbeats 4000000 in
theorem sX7_codesOf_b73 {p : Program} {l : Launch} {e : Env} {s : State} {m : MethodId} {args : Array Value} {below : List Frame} {meth : Method} {c : Code} {G : Gg} {r : Int32} {M' : Mm} (X : Cx p m c meth cX7_codesOf 9 s args RX7 (some .boolean) G) {q11 : Int32 → Int32 → Int32 → Int32 → Int32 → Int32 → Mm → Option (Int32 × Mm)} (hq11 : ∀ (x1 : Int32) (x2 : Int32) (x3 : Int32) (x4 : Int32) (x5 : Int32) (x6 : Int32) (M : Mm) (ls : Array Slot) (H : Heap) (locs : List Loc), lv_has ls 9 [(0, .ref (G.2.2.2 31)), (1, .int x1), (2, .int x2), (3, .int x3), (4, .int x4), (5, .int x5), (6, .int x6)] → Wo G s M H locs → q11 x1 x2 x3 x4 x5 x6 M = some (r, M') → W p l e (rm 0) s m args below meth c H locs 0 0 (Qi below args s G r M') (F0 m 11 ls [])) : ∀ (x1 : Int32) (x2 : Int32) (x3 : Int32) (x4 : Int32) (x6 : Int32) (s0 : Int32) (M : Mm) (ls : Array Slot) (H : Heap) (locs : List Loc), lv_has ls 9 [(0, .ref (G.2.2.2 31)), (1, .int x1), (2, .int x2), (3, .int x3), (4, .int x4), (6, .int x6)] → Wo G s M H locs → rX7_codesOf_b73 q11 x1 x2 x3 x4 x6 s0 M = some (r, M') → W p l e (rm 0) s m args below meth c H locs 0 0 (Qi below args s G r M') (F0 m 73 ls [.int s0]) := by
    intro x1 x2 x3 x4 x6 s0 M ls H locs hl hW h
    unfold rX7_codesOf_b73 at h
    have hx := X.1.1
    have hb := X.1.2.1
    refine lv_istore (lv' := [(5, .int s0), (0, .ref (G.2.2.2 31)), (1, .int x1), (2, .int x2), (3, .int x3), (4, .int x4), (6, .int x6)]) hx hb dX7_codesOf_73 hl (by decide) rfl (fun ls hl => ?_)
    obtain ⟨y22, ey22⟩ : ∃ y : Int32, y = (x6 + 1) := ⟨_, rfl⟩
    have h := ob_lt ey22 h
    refine lv_iinc (v := y22) (lv' := [(6, .int y22), (5, .int s0), (0, .ref (G.2.2.2 31)), (1, .int x1), (2, .int x2), (3, .int x3), (4, .int x4)]) hx hb dX7_codesOf_75 hl (k := 6) rfl (by rw [ey22]; rfl) (by decide) rfl (fun ls hl => ?_)
    refine lv_goto (tgt := 11) hx hb dX7_codesOf_78 (by decide) ?_
    exact hq11 x1 x2 x3 x4 s0 y22 M _ _ _ (lv_sub hl [2, 3, 4, 5, 6, 1, 0] rfl) hW h
def rX7_codesOf_b58 (q11 : Int32 → Int32 → Int32 → Int32 → Int32 → Int32 → Mm → Option (Int32 × Mm)) (x1 : Int32) (x2 : Int32) (x3 : Int32) (x5 : Int32) (x6 : Int32) (x7 : Int32) (s0 : Int32) (s1 : Int32) (M : Mm) : Option (Int32 × Mm) :=
    (lt_ (s1 + s0) fun y20 => if x7 ≤ 0 then (rX7_codesOf_b73 q11 x1 x2 x3 y20 x6 x5 M) else (rX7_codesOf_b73 q11 x1 x2 x3 y20 x6 x7 M))
set_option maxRecDepth 100000 in
set_option maxHeartbeats 4000000 in
theorem sX7_codesOf_b58 {p : Program} {l : Launch} {e : Env} {s : State} {m : MethodId} {args : Array Value} {below : List Frame} {meth : Method} {c : Code} {G : Gg} {r : Int32} {M' : Mm} (X : Cx p m c meth cX7_codesOf 9 s args RX7 (some .boolean) G) {q11 : Int32 → Int32 → Int32 → Int32 → Int32 → Int32 → Mm → Option (Int32 × Mm)} (hq11 : ∀ (x1 : Int32) (x2 : Int32) (x3 : Int32) (x4 : Int32) (x5 : Int32) (x6 : Int32) (M : Mm) (ls : Array Slot) (H : Heap) (locs : List Loc), lv_has ls 9 [(0, .ref (G.2.2.2 31)), (1, .int x1), (2, .int x2), (3, .int x3), (4, .int x4), (5, .int x5), (6, .int x6)] → Wo G s M H locs → q11 x1 x2 x3 x4 x5 x6 M = some (r, M') → W p l e (rm 0) s m args below meth c H locs 0 0 (Qi below args s G r M') (F0 m 11 ls [])) : ∀ (x1 : Int32) (x2 : Int32) (x3 : Int32) (x5 : Int32) (x6 : Int32) (x7 : Int32) (s0 : Int32) (s1 : Int32) (M : Mm) (ls : Array Slot) (H : Heap) (locs : List Loc), lv_has ls 9 [(0, .ref (G.2.2.2 31)), (1, .int x1), (2, .int x2), (3, .int x3), (5, .int x5), (6, .int x6), (7, .int x7)] → Wo G s M H locs → rX7_codesOf_b58 q11 x1 x2 x3 x5 x6 x7 s0 s1 M = some (r, M') → W p l e (rm 0) s m args below meth c H locs 0 0 (Qi below args s G r M') (F0 m 58 ls [.int s0, .int s1]) := by
    intro x1 x2 x3 x5 x6 x7 s0 s1 M ls H locs hl hW h
    unfold rX7_codesOf_b58 at h
    have hx := X.1.1
    have hb := X.1.2.1
    refine lv_iadd hx hb dX7_codesOf_58 ?_
    refine lv_topi (fun y20 ey20 => ?_)
    have h := ob_lt ey20 h
    refine lv_istore (lv' := [(4, .int y20), (0, .ref (G.2.2.2 31)), (1, .int x1), (2, .int x2), (3, .int x3), (5, .int x5), (6, .int x6), (7, .int x7)]) hx hb dX7_codesOf_59 hl (by decide) rfl (fun ls hl => ?_)
    refine lv_iload hx hb dX7_codesOf_61 (lv_at hl 7 rfl) ?_
    refine lv_if_le (tgt := 71) hx hb dX7_codesOf_63 (by decide) (fun c21 => ?_) (fun c21 => ?_)
    · have h := ob_pos c21 h
      refine lv_iload hx hb dX7_codesOf_71 (lv_at hl 5 rfl) ?_
      exact sX7_codesOf_b73 X hq11 x1 x2 x3 y20 x6 x5 M _ _ _ (lv_sub hl [1, 2, 3, 4, 0, 6] rfl) hW h
    · have h := ob_neg c21 h
      refine lv_iload hx hb dX7_codesOf_66 (lv_at hl 7 rfl) ?_
      refine lv_goto (tgt := 73) hx hb dX7_codesOf_68 (by decide) ?_
      exact sX7_codesOf_b73 X hq11 x1 x2 x3 y20 x6 x7 M _ _ _ (lv_sub hl [1, 2, 3, 4, 0, 6] rfl) hW h
def rX7_codesOf_b44 (q11 : Int32 → Int32 → Int32 → Int32 → Int32 → Int32 → Mm → Option (Int32 × Mm)) (x1 : Int32) (x2 : Int32) (x4 : Int32) (x5 : Int32) (x6 : Int32) (x7 : Int32) (s0 : Int32) (s1 : Int32) (M : Mm) : Option (Int32 × Mm) :=
    (lt_ (s1 + s0) fun y18 => if x7 ≤ 0 then (rX7_codesOf_b58 q11 x1 x2 y18 x5 x6 x7 (0 : Int32) x4 M) else (rX7_codesOf_b58 q11 x1 x2 y18 x5 x6 x7 (1 : Int32) x4 M))
set_option maxRecDepth 100000 in
set_option maxHeartbeats 4000000 in
theorem sX7_codesOf_b44 {p : Program} {l : Launch} {e : Env} {s : State} {m : MethodId} {args : Array Value} {below : List Frame} {meth : Method} {c : Code} {G : Gg} {r : Int32} {M' : Mm} (X : Cx p m c meth cX7_codesOf 9 s args RX7 (some .boolean) G) {q11 : Int32 → Int32 → Int32 → Int32 → Int32 → Int32 → Mm → Option (Int32 × Mm)} (hq11 : ∀ (x1 : Int32) (x2 : Int32) (x3 : Int32) (x4 : Int32) (x5 : Int32) (x6 : Int32) (M : Mm) (ls : Array Slot) (H : Heap) (locs : List Loc), lv_has ls 9 [(0, .ref (G.2.2.2 31)), (1, .int x1), (2, .int x2), (3, .int x3), (4, .int x4), (5, .int x5), (6, .int x6)] → Wo G s M H locs → q11 x1 x2 x3 x4 x5 x6 M = some (r, M') → W p l e (rm 0) s m args below meth c H locs 0 0 (Qi below args s G r M') (F0 m 11 ls [])) : ∀ (x1 : Int32) (x2 : Int32) (x4 : Int32) (x5 : Int32) (x6 : Int32) (x7 : Int32) (s0 : Int32) (s1 : Int32) (M : Mm) (ls : Array Slot) (H : Heap) (locs : List Loc), lv_has ls 9 [(0, .ref (G.2.2.2 31)), (1, .int x1), (2, .int x2), (4, .int x4), (5, .int x5), (6, .int x6), (7, .int x7)] → Wo G s M H locs → rX7_codesOf_b44 q11 x1 x2 x4 x5 x6 x7 s0 s1 M = some (r, M') → W p l e (rm 0) s m args below meth c H locs 0 0 (Qi below args s G r M') (F0 m 44 ls [.int s0, .int s1]) := by
    intro x1 x2 x4 x5 x6 x7 s0 s1 M ls H locs hl hW h
    unfold rX7_codesOf_b44 at h
    have hx := X.1.1
    have hb := X.1.2.1
    refine lv_iadd hx hb dX7_codesOf_44 ?_
    refine lv_topi (fun y18 ey18 => ?_)
    have h := ob_lt ey18 h
    refine lv_istore_n (lv' := [(3, .int y18), (0, .ref (G.2.2.2 31)), (1, .int x1), (2, .int x2), (4, .int x4), (5, .int x5), (6, .int x6), (7, .int x7)]) hx hb dX7_codesOf_45 rfl hl (by decide) rfl (fun ls hl => ?_)
    refine lv_iload hx hb dX7_codesOf_46 (lv_at hl 4 rfl) ?_
    refine lv_iload hx hb dX7_codesOf_48 (lv_at hl 7 rfl) ?_
    refine lv_if_le (tgt := 57) hx hb dX7_codesOf_50 (by decide) (fun c19 => ?_) (fun c19 => ?_)
    · have h := ob_pos c19 h
      refine lv_iconst (v := 0) hx hb dX7_codesOf_57 (by decide) ?_
      exact sX7_codesOf_b58 X hq11 x1 x2 y18 x5 x6 x7 (0 : Int32) x4 M _ _ _ (lv_sub hl [1, 2, 3, 0, 5, 6, 7] rfl) hW h
    · have h := ob_neg c19 h
      refine lv_iconst (v := 1) hx hb dX7_codesOf_53 (by decide) ?_
      refine lv_goto (tgt := 58) hx hb dX7_codesOf_54 (by decide) ?_
      exact sX7_codesOf_b58 X hq11 x1 x2 y18 x5 x6 x7 (1 : Int32) x4 M _ _ _ (lv_sub hl [1, 2, 3, 0, 5, 6, 7] rfl) hW h
def rX7_codesOf_b11_s (q11 : Int32 → Int32 → Int32 → Int32 → Int32 → Int32 → Mm → Option (Int32 × Mm)) (x1 : Int32) (x2 : Int32) (x3 : Int32) (x4 : Int32) (x5 : Int32) (x6 : Int32) (M : Mm) : Option (Int32 × Mm) :=
    (if x2 ≤ x6 then (rX7_codesOf_b87 FU x1 x2 x3 x4 x5 (0 : Int32) (1 : Int32) M) else (if (x1 + x6) < 0 ∨ 1200 ≤ ((x1 + x6)).toNatClampNeg then none else lt_ (M.1 32 ((x1 + x6)).toNatClampNeg) fun y16 => if y16 ≤ 0 then (rX7_codesOf_b44 q11 x1 x2 x4 x5 x6 y16 (0 : Int32) x3 M) else (rX7_codesOf_b44 q11 x1 x2 x4 x5 x6 y16 ((128 : Int32) >>> (y16 &&& 31)) x3 M)))
def rX7_codesOf_b11 : Nat → Int32 → Int32 → Int32 → Int32 → Int32 → Int32 → Mm → Option (Int32 × Mm)
  | 0 => fun _ _ _ _ _ _ _ => none
  | n + 1 => rX7_codesOf_b11_s (rX7_codesOf_b11 n)
set_option maxRecDepth 100000 in
set_option maxHeartbeats 4000000 in
theorem sX7_codesOf_b11 {p : Program} {l : Launch} {e : Env} {s : State} {m : MethodId} {args : Array Value} {below : List Frame} {meth : Method} {c : Code} {G : Gg} {r : Int32} {M' : Mm} (X : Cx p m c meth cX7_codesOf 9 s args RX7 (some .boolean) G) : ∀ (n : Nat), ∀ (x1 : Int32) (x2 : Int32) (x3 : Int32) (x4 : Int32) (x5 : Int32) (x6 : Int32) (M : Mm) (ls : Array Slot) (H : Heap) (locs : List Loc), lv_has ls 9 [(0, .ref (G.2.2.2 31)), (1, .int x1), (2, .int x2), (3, .int x3), (4, .int x4), (5, .int x5), (6, .int x6)] → Wo G s M H locs → rX7_codesOf_b11 n x1 x2 x3 x4 x5 x6 M = some (r, M') → W p l e (rm 0) s m args below meth c H locs 0 0 (Qi below args s G r M') (F0 m 11 ls []) := by
  intro n
  induction n with
  | zero =>
    intro x1 x2 x3 x4 x5 x6 M ls H locs hl hW h
    cases (show (none : Option (Int32 × Mm)) = some (r, M') from h)
  | succ n hq110 =>
    have hq11 : ∀ (x1 : Int32) (x2 : Int32) (x3 : Int32) (x4 : Int32) (x5 : Int32) (x6 : Int32) (M : Mm) (ls : Array Slot) (H : Heap) (locs : List Loc), lv_has ls 9 [(0, .ref (G.2.2.2 31)), (1, .int x1), (2, .int x2), (3, .int x3), (4, .int x4), (5, .int x5), (6, .int x6)] → Wo G s M H locs → (rX7_codesOf_b11 n) x1 x2 x3 x4 x5 x6 M = some (r, M') → W p l e (rm 0) s m args below meth c H locs 0 0 (Qi below args s G r M') (F0 m 11 ls []) := hq110
    intro x1 x2 x3 x4 x5 x6 M ls H locs hl hW h
    have h : rX7_codesOf_b11_s (rX7_codesOf_b11 n) x1 x2 x3 x4 x5 x6 M = some (r, M') := h
    unfold rX7_codesOf_b11_s at h
    have hx := X.1.1
    have hb := X.1.2.1
    refine lv_iload hx hb dX7_codesOf_11 (lv_at hl 6 rfl) ?_
    refine lv_iload_n hx hb dX7_codesOf_13 rfl (lv_at hl 2 rfl) ?_
    refine lv_icmp_ge (tgt := 81) hx hb dX7_codesOf_14 (by decide) (fun c1 => ?_) (fun c1 => ?_)
    · have h := ob_pos c1 h
      refine lv_iconst (v := 0) hx hb dX7_codesOf_81 (by decide) ?_
      refine lv_istore (lv' := [(6, .int (0 : Int32)), (0, .ref (G.2.2.2 31)), (1, .int x1), (2, .int x2), (3, .int x3), (4, .int x4), (5, .int x5)]) hx hb dX7_codesOf_82 hl (by decide) rfl (fun ls hl => ?_)
      refine lv_iconst (v := 1) hx hb dX7_codesOf_84 (by decide) ?_
      refine lv_istore (lv' := [(7, .int (1 : Int32)), (6, .int (0 : Int32)), (0, .ref (G.2.2.2 31)), (1, .int x1), (2, .int x2), (3, .int x3), (4, .int x4), (5, .int x5)]) hx hb dX7_codesOf_85 hl (by decide) rfl (fun ls hl => ?_)
      exact sX7_codesOf_b87 X FU x1 x2 x3 x4 x5 (0 : Int32) (1 : Int32) M _ _ _ (lv_sub hl [2, 3, 4, 5, 6, 7, 1, 0] rfl) hW h
    · have h := ob_neg c1 h
      refine lv_aload_n hx hb dX7_codesOf_17 rfl (lv_at hl 0 rfl) ?_
      refine gf7_7 (cN := 31) X hW rfl dX7_codesOf_18 ?_
      refine lv_iload_n hx hb dX7_codesOf_21 rfl (lv_at hl 1 rfl) ?_
      refine lv_iload hx hb dX7_codesOf_22 (lv_at hl 6 rfl) ?_
      refine lv_iadd hx hb dX7_codesOf_24 ?_
      obtain ⟨g15, h⟩ := ob_gd h
      refine bg_ald (cN := 32) X hW (n := 1200) rfl g15 dX7_codesOf_25 ?_
      refine lv_topi (fun y16 ey16 => ?_)
      have h := ob_lt ey16 h
      refine lv_istore (lv' := [(7, .int y16), (0, .ref (G.2.2.2 31)), (1, .int x1), (2, .int x2), (3, .int x3), (4, .int x4), (5, .int x5), (6, .int x6)]) hx hb dX7_codesOf_26 hl (by decide) rfl (fun ls hl => ?_)
      refine lv_iload_n hx hb dX7_codesOf_28 rfl (lv_at hl 4 rfl) ?_
      refine lv_iload hx hb dX7_codesOf_29 (lv_at hl 0 rfl) ?_
      refine lv_if_le (tgt := 43) hx hb dX7_codesOf_31 (by decide) (fun c17 => ?_) (fun c17 => ?_)
      · have h := ob_pos c17 h
        refine lv_iconst (v := 0) hx hb dX7_codesOf_43 (by decide) ?_
        exact sX7_codesOf_b44 X hq11 x1 x2 x4 x5 x6 y16 (0 : Int32) x3 M _ _ _ (lv_sub hl [1, 2, 3, 5, 6, 7, 0] rfl) hW h
      · have h := ob_neg c17 h
        refine lv_sipush (v := 128) hx hb dX7_codesOf_34 (by decide) ?_
        refine lv_iload hx hb dX7_codesOf_37 (lv_at hl 0 rfl) ?_
        refine lv_ishr hx hb dX7_codesOf_39 ?_
        refine lv_goto (tgt := 44) hx hb dX7_codesOf_40 (by decide) ?_
        exact sX7_codesOf_b44 X hq11 x1 x2 x4 x5 x6 y16 ((128 : Int32) >>> (y16 &&& 31)) x3 M _ _ _ (lv_sub hl [1, 2, 3, 5, 6, 7, 0] rfl) hW h
def rX7_codesOf (a1 : Int32) (a2 : Int32) (M : Mm) : Option (Int32 × Mm) :=
    (rX7_codesOf_b11 FU a1 a2 (0 : Int32) (0 : Int32) (0 : Int32) (0 : Int32) M)
set_option maxRecDepth 100000 in
set_option maxHeartbeats 4000000 in
theorem cX7_codesOf_k {l : Launch} {G : Gg} {a1 : Int32} {a2 : Int32} {M M' : Mm} {r : Int32} (h : rX7_codesOf a1 a2 M = some (r, M')) : CTi l yX7_codesOf cX7_codesOf 9 (some .boolean) 0 G [.ref (G.2.2.2 31), .int a1, .int a2] M r M' := by
  unfold rX7_codesOf at h
  refine ct_i (by decide) (Nat.le_of_ble_eq_true rfl) (fun p e s m below meth c ls X hl hW => ?_)
  have hx := X.1.1
  have hb := X.1.2.1
  refine lv_iconst (v := 0) hx hb dX7_codesOf_0 (by decide) ?_
  refine lv_istore_n (lv' := [(3, .int (0 : Int32)), (0, .ref (G.2.2.2 31)), (1, .int a1), (2, .int a2)]) hx hb dX7_codesOf_1 rfl hl (by decide) rfl (fun ls hl => ?_)
  refine lv_iconst (v := 0) hx hb dX7_codesOf_2 (by decide) ?_
  refine lv_istore (lv' := [(4, .int (0 : Int32)), (3, .int (0 : Int32)), (0, .ref (G.2.2.2 31)), (1, .int a1), (2, .int a2)]) hx hb dX7_codesOf_3 hl (by decide) rfl (fun ls hl => ?_)
  refine lv_iconst (v := 0) hx hb dX7_codesOf_5 (by decide) ?_
  refine lv_istore (lv' := [(5, .int (0 : Int32)), (4, .int (0 : Int32)), (3, .int (0 : Int32)), (0, .ref (G.2.2.2 31)), (1, .int a1), (2, .int a2)]) hx hb dX7_codesOf_6 hl (by decide) rfl (fun ls hl => ?_)
  refine lv_iconst (v := 0) hx hb dX7_codesOf_8 (by decide) ?_
  refine lv_istore (lv' := [(6, .int (0 : Int32)), (5, .int (0 : Int32)), (4, .int (0 : Int32)), (3, .int (0 : Int32)), (0, .ref (G.2.2.2 31)), (1, .int a1), (2, .int a2)]) hx hb dX7_codesOf_9 hl (by decide) rfl (fun ls hl => ?_)
  exact sX7_codesOf_b11 X FU a1 a2 (0 : Int32) (0 : Int32) (0 : Int32) (0 : Int32) M _ _ _ (lv_sub hl [4, 5, 6, 3, 2, 1, 0] rfl) hW h
def rX7_bits_b232_s (q232 : Int32 → Int32 → Int32 → Mm → Option Mm) (x1 : Int32) (x6 : Int32) (x7 : Int32) (M : Mm) : Option Mm :=
    (if ((8 : Int32) * x7) ≤ x6 then (Option.bind (rX7_ends x1 x7 M) fun M7 => some M7) else (if (x6 / (8 : Int32)) < 0 ∨ 1200 ≤ ((x6 / (8 : Int32))).toNatClampNeg then none else if (((M.1 32 ((x6 / (8 : Int32))).toNatClampNeg) >>> (((7 : Int32) - (x6 - x6 / (8 : Int32) * (8 : Int32))) &&& 31)) &&& (1 : Int32)) = (1 : Int32) then (Option.bind (rX7_fails (8 : Int32) (x6 / (8 : Int32)) M) fun M15 => some M15) else (lt_ (x6 + 1) fun y12 => q232 x1 y12 x7 M)))
def rX7_bits_b232 : Nat → Int32 → Int32 → Int32 → Mm → Option Mm
  | 0 => fun _ _ _ _ => none
  | n + 1 => rX7_bits_b232_s (rX7_bits_b232 n)
set_option maxRecDepth 100000 in
set_option maxHeartbeats 4000000 in
theorem sX7_bits_b232 {p : Program} {l : Launch} {e : Env} {s : State} {m : MethodId} {args : Array Value} {below : List Frame} {meth : Method} {c : Code} {G : Gg} {M' : Mm} (X : Cx p m c meth cX7_bits 15 s args RX7 none G) : ∀ (n : Nat), ∀ (x1 : Int32) (x6 : Int32) (x7 : Int32) (M : Mm) (ls : Array Slot) (H : Heap) (locs : List Loc), lv_has ls 15 [(0, .ref (G.2.2.2 31)), (1, .int x1), (6, .int x6), (7, .int x7)] → Wo G s M H locs → rX7_bits_b232 n x1 x6 x7 M = some M' → W p l e (rm 2) s m args below meth c H locs 0 0 (Qv below args s G M') (F0 m 232 ls []) := by
  intro n
  induction n with
  | zero =>
    intro x1 x6 x7 M ls H locs hl hW h
    cases (show (none : Option Mm) = some M' from h)
  | succ n hq2320 =>
    have hq232 : ∀ (x1 : Int32) (x6 : Int32) (x7 : Int32) (M : Mm) (ls : Array Slot) (H : Heap) (locs : List Loc), lv_has ls 15 [(0, .ref (G.2.2.2 31)), (1, .int x1), (6, .int x6), (7, .int x7)] → Wo G s M H locs → (rX7_bits_b232 n) x1 x6 x7 M = some M' → W p l e (rm 2) s m args below meth c H locs 0 0 (Qv below args s G M') (F0 m 232 ls []) := hq2320
    intro x1 x6 x7 M ls H locs hl hW h
    have h : rX7_bits_b232_s (rX7_bits_b232 n) x1 x6 x7 M = some M' := h
    unfold rX7_bits_b232_s at h
    have hx := X.1.1
    have hb := X.1.2.1
    refine lv_iload hx hb dX7_bits_232 (lv_at hl 2 rfl) ?_
    refine lv_bipush (v := 8) hx hb dX7_bits_234 (by decide) ?_
    refine lv_iload hx hb dX7_bits_236 (lv_at hl 3 rfl) ?_
    refine lv_imul hx hb dX7_bits_238 ?_
    refine lv_icmp_ge (tgt := 285) hx hb dX7_bits_239 (by decide) (fun c5 => ?_) (fun c5 => ?_)
    · have h := ob_pos c5 h
      refine lv_aload_n hx hb dX7_bits_285 rfl (lv_at hl 0 rfl) ?_
      refine lv_iload_n hx hb dX7_bits_286 rfl (lv_at hl 1 rfl) ?_
      refine lv_iload hx hb dX7_bits_287 (lv_at hl 3 rfl) ?_
      obtain ⟨M7, e6, h⟩ := ob_bind h
      refine bg_callv X hW (cX7_ends_k e6) rfl rfl kw7_163 kd_X7_ends rfl rfl ⟨Nat.le_of_ble_eq_true rfl, Nat.le_of_ble_eq_true rfl⟩ ⟨Nat.le_refl _, Nat.le_refl _⟩ hl.1 (Nat.le_of_ble_eq_true rfl) dX7_bits_289 (fun H locs hW => ?_)
      exact rt_v X hW h dX7_bits_292
    · have h := ob_neg c5 h
      refine lv_aload_n hx hb dX7_bits_242 rfl (lv_at hl 0 rfl) ?_
      refine gf7_7 (cN := 31) X hW rfl dX7_bits_243 ?_
      refine lv_iload hx hb dX7_bits_246 (lv_at hl 2 rfl) ?_
      refine lv_bipush (v := 8) hx hb dX7_bits_248 (by decide) ?_
      have g8 : ¬ (8 : Int32) = 0 := by decide
      refine lv_idiv hx hb dX7_bits_250 g8 ?_
      obtain ⟨g9, h⟩ := ob_gd h
      refine bg_ald (cN := 32) X hW (n := 1200) rfl g9 dX7_bits_251 ?_
      refine lv_bipush (v := 7) hx hb dX7_bits_252 (by decide) ?_
      refine lv_iload hx hb dX7_bits_254 (lv_at hl 2 rfl) ?_
      refine lv_bipush (v := 8) hx hb dX7_bits_256 (by decide) ?_
      have g10 : ¬ (8 : Int32) = 0 := by decide
      refine lv_irem hx hb dX7_bits_258 g10 ?_
      refine lv_isub hx hb dX7_bits_259 ?_
      refine lv_ishr hx hb dX7_bits_260 ?_
      refine lv_iconst (v := 1) hx hb dX7_bits_261 (by decide) ?_
      refine lv_iand hx hb dX7_bits_262 ?_
      refine lv_iconst (v := 1) hx hb dX7_bits_263 (by decide) ?_
      refine lv_icmp_ne (tgt := 279) hx hb dX7_bits_264 (by decide) (fun c11 => ?_) (fun c11 => ?_)
      · have h := ob_neg c11 h
        obtain ⟨y12, ey12⟩ : ∃ y : Int32, y = (x6 + 1) := ⟨_, rfl⟩
        have h := ob_lt ey12 h
        refine lv_iinc (v := y12) (lv' := [(6, .int y12), (0, .ref (G.2.2.2 31)), (1, .int x1), (7, .int x7)]) hx hb dX7_bits_279 hl (k := 2) rfl (by rw [ey12]; rfl) (by decide) rfl (fun ls hl => ?_)
        refine lv_goto (tgt := 232) hx hb dX7_bits_282 (by decide) ?_
        exact hq232 x1 y12 x7 M _ _ _ (lv_sub hl [1, 2, 0, 3] rfl) hW h
      · have h := ob_pos c11 h
        refine lv_aload_n hx hb dX7_bits_267 rfl (lv_at hl 0 rfl) ?_
        refine lv_bipush (v := 8) hx hb dX7_bits_268 (by decide) ?_
        refine lv_iload hx hb dX7_bits_270 (lv_at hl 2 rfl) ?_
        refine lv_bipush (v := 8) hx hb dX7_bits_272 (by decide) ?_
        have g13 : ¬ (8 : Int32) = 0 := by decide
        refine lv_idiv hx hb dX7_bits_274 g13 ?_
        obtain ⟨M15, e14, h⟩ := ob_bind h
        refine bg_callv X hW (cX7_fails_k e14) rfl rfl kw7_131 kd_X7_fails rfl rfl ⟨Nat.le_of_ble_eq_true rfl, Nat.le_of_ble_eq_true rfl⟩ ⟨Nat.le_refl _, Nat.le_refl _⟩ hl.1 (Nat.le_of_ble_eq_true rfl) dX7_bits_275 (fun H locs hW => ?_)
        exact rt_v X hW h dX7_bits_278
def rX7_bits_b213 (q33 : Int32 → Int32 → Int32 → Int32 → Int32 → Int32 → Int32 → Int32 → Int32 → Int32 → Mm → Option Mm) (x1 : Int32) (x2 : Int32) (x3 : Int32) (x5 : Int32) (x6 : Int32) (x7 : Int32) (x8 : Int32) (x9 : Int32) (x10 : Int32) (x11 : Int32) (M : Mm) : Option Mm :=
    (q33 x1 x2 x3 x5 x6 x7 x8 x9 x10 x11 M)
set_option maxRecDepth 100000 in
set_option maxHeartbeats 4000000 in
theorem sX7_bits_b213 {p : Program} {l : Launch} {e : Env} {s : State} {m : MethodId} {args : Array Value} {below : List Frame} {meth : Method} {c : Code} {G : Gg} {M' : Mm} (X : Cx p m c meth cX7_bits 15 s args RX7 none G) {q33 : Int32 → Int32 → Int32 → Int32 → Int32 → Int32 → Int32 → Int32 → Int32 → Int32 → Mm → Option Mm} (hq33 : ∀ (x1 : Int32) (x2 : Int32) (x3 : Int32) (x5 : Int32) (x6 : Int32) (x7 : Int32) (x8 : Int32) (x9 : Int32) (x10 : Int32) (x11 : Int32) (M : Mm) (ls : Array Slot) (H : Heap) (locs : List Loc), lv_has ls 15 [(0, .ref (G.2.2.2 31)), (1, .int x1), (2, .int x2), (3, .int x3), (5, .int x5), (6, .int x6), (7, .int x7), (8, .int x8), (9, .int x9), (10, .int x10), (11, .int x11)] → Wo G s M H locs → q33 x1 x2 x3 x5 x6 x7 x8 x9 x10 x11 M = some M' → W p l e (rm 2) s m args below meth c H locs 0 0 (Qv below args s G M') (F0 m 33 ls [])) : ∀ (x1 : Int32) (x2 : Int32) (x3 : Int32) (x5 : Int32) (x6 : Int32) (x7 : Int32) (x8 : Int32) (x9 : Int32) (x10 : Int32) (x11 : Int32) (M : Mm) (ls : Array Slot) (H : Heap) (locs : List Loc), lv_has ls 15 [(0, .ref (G.2.2.2 31)), (1, .int x1), (2, .int x2), (3, .int x3), (5, .int x5), (6, .int x6), (7, .int x7), (8, .int x8), (9, .int x9), (10, .int x10), (11, .int x11)] → Wo G s M H locs → rX7_bits_b213 q33 x1 x2 x3 x5 x6 x7 x8 x9 x10 x11 M = some M' → W p l e (rm 2) s m args below meth c H locs 0 0 (Qv below args s G M') (F0 m 213 ls []) := by
    intro x1 x2 x3 x5 x6 x7 x8 x9 x10 x11 M ls H locs hl hW h
    unfold rX7_bits_b213 at h
    have hx := X.1.1
    have hb := X.1.2.1
    refine lv_goto (tgt := 33) hx hb dX7_bits_213 (by decide) ?_
    exact hq33 x1 x2 x3 x5 x6 x7 x8 x9 x10 x11 M _ _ _ (lv_sub hl [0, 1, 2, 3, 4, 5, 6, 7, 8, 9, 10] rfl) hW h
def rX7_bits_b194 (q33 : Int32 → Int32 → Int32 → Int32 → Int32 → Int32 → Int32 → Int32 → Int32 → Int32 → Mm → Option Mm) (x1 : Int32) (x2 : Int32) (x3 : Int32) (x5 : Int32) (x6 : Int32) (x7 : Int32) (x8 : Int32) (x9 : Int32) (x10 : Int32) (x11 : Int32) (x12 : Int32) (M : Mm) : Option Mm :=
    (if x11 = 0 then (if x12 = 0 then (Option.bind (rX7_fails (7 : Int32) x10 M) fun M35 => some M35) else (rX7_bits_b213 q33 x1 x2 x3 x5 x6 x7 x8 x9 x10 x11 M)) else (rX7_bits_b213 q33 x1 x2 x3 x5 x6 x7 x8 x9 x10 x11 M))
set_option maxRecDepth 100000 in
set_option maxHeartbeats 4000000 in
theorem sX7_bits_b194 {p : Program} {l : Launch} {e : Env} {s : State} {m : MethodId} {args : Array Value} {below : List Frame} {meth : Method} {c : Code} {G : Gg} {M' : Mm} (X : Cx p m c meth cX7_bits 15 s args RX7 none G) {q33 : Int32 → Int32 → Int32 → Int32 → Int32 → Int32 → Int32 → Int32 → Int32 → Int32 → Mm → Option Mm} (hq33 : ∀ (x1 : Int32) (x2 : Int32) (x3 : Int32) (x5 : Int32) (x6 : Int32) (x7 : Int32) (x8 : Int32) (x9 : Int32) (x10 : Int32) (x11 : Int32) (M : Mm) (ls : Array Slot) (H : Heap) (locs : List Loc), lv_has ls 15 [(0, .ref (G.2.2.2 31)), (1, .int x1), (2, .int x2), (3, .int x3), (5, .int x5), (6, .int x6), (7, .int x7), (8, .int x8), (9, .int x9), (10, .int x10), (11, .int x11)] → Wo G s M H locs → q33 x1 x2 x3 x5 x6 x7 x8 x9 x10 x11 M = some M' → W p l e (rm 2) s m args below meth c H locs 0 0 (Qv below args s G M') (F0 m 33 ls [])) : ∀ (x1 : Int32) (x2 : Int32) (x3 : Int32) (x5 : Int32) (x6 : Int32) (x7 : Int32) (x8 : Int32) (x9 : Int32) (x10 : Int32) (x11 : Int32) (x12 : Int32) (M : Mm) (ls : Array Slot) (H : Heap) (locs : List Loc), lv_has ls 15 [(0, .ref (G.2.2.2 31)), (1, .int x1), (2, .int x2), (3, .int x3), (5, .int x5), (6, .int x6), (7, .int x7), (8, .int x8), (9, .int x9), (10, .int x10), (11, .int x11), (12, .int x12)] → Wo G s M H locs → rX7_bits_b194 q33 x1 x2 x3 x5 x6 x7 x8 x9 x10 x11 x12 M = some M' → W p l e (rm 2) s m args below meth c H locs 0 0 (Qv below args s G M') (F0 m 194 ls []) := by
    intro x1 x2 x3 x5 x6 x7 x8 x9 x10 x11 x12 M ls H locs hl hW h
    unfold rX7_bits_b194 at h
    have hx := X.1.1
    have hb := X.1.2.1
    refine lv_iload hx hb dX7_bits_194 (lv_at hl 10 rfl) ?_
    refine lv_if_ne (tgt := 213) hx hb dX7_bits_196 (by decide) (fun c32 => ?_) (fun c32 => ?_)
    · have h := ob_neg c32 h
      exact sX7_bits_b213 X hq33 x1 x2 x3 x5 x6 x7 x8 x9 x10 x11 M _ _ _ (lv_sub hl [0, 1, 2, 3, 4, 5, 6, 7, 8, 9, 10] rfl) hW h
    · have h := ob_pos c32 h
      refine lv_iload hx hb dX7_bits_199 (lv_at hl 11 rfl) ?_
      refine lv_if_ne (tgt := 213) hx hb dX7_bits_201 (by decide) (fun c33 => ?_) (fun c33 => ?_)
      · have h := ob_neg c33 h
        exact sX7_bits_b213 X hq33 x1 x2 x3 x5 x6 x7 x8 x9 x10 x11 M _ _ _ (lv_sub hl [0, 1, 2, 3, 4, 5, 6, 7, 8, 9, 10] rfl) hW h
      · have h := ob_pos c33 h
        refine lv_aload_n hx hb dX7_bits_204 rfl (lv_at hl 0 rfl) ?_
        refine lv_bipush (v := 7) hx hb dX7_bits_205 (by decide) ?_
        refine lv_iload hx hb dX7_bits_207 (lv_at hl 9 rfl) ?_
        obtain ⟨M35, e34, h⟩ := ob_bind h
        refine bg_callv X hW (cX7_fails_k e34) rfl rfl kw7_131 kd_X7_fails rfl rfl ⟨Nat.le_of_ble_eq_true rfl, Nat.le_of_ble_eq_true rfl⟩ ⟨Nat.le_refl _, Nat.le_refl _⟩ hl.1 (Nat.le_of_ble_eq_true rfl) dX7_bits_209 (fun H locs hW => ?_)
        exact rt_v X hW h dX7_bits_212
def rX7_bits_b186 (q92 : Int32 → Int32 → Int32 → Int32 → Int32 → Int32 → Int32 → Int32 → Int32 → Int32 → Int32 → Int32 → Mm → Option Mm) (x1 : Int32) (x2 : Int32) (x3 : Int32) (x5 : Int32) (x6 : Int32) (x7 : Int32) (x8 : Int32) (x9 : Int32) (x10 : Int32) (x11 : Int32) (x13 : Int32) (s0 : Int32) (M : Mm) : Option Mm :=
    (lt_ (x13 + 1) fun y41 => q92 x1 x2 x3 x5 x6 x7 x8 x9 x10 x11 s0 y41 M)
set_option maxRecDepth 100000 in
set_option maxHeartbeats 4000000 in
theorem sX7_bits_b186 {p : Program} {l : Launch} {e : Env} {s : State} {m : MethodId} {args : Array Value} {below : List Frame} {meth : Method} {c : Code} {G : Gg} {M' : Mm} (X : Cx p m c meth cX7_bits 15 s args RX7 none G) {q92 : Int32 → Int32 → Int32 → Int32 → Int32 → Int32 → Int32 → Int32 → Int32 → Int32 → Int32 → Int32 → Mm → Option Mm} (hq92 : ∀ (x1 : Int32) (x2 : Int32) (x3 : Int32) (x5 : Int32) (x6 : Int32) (x7 : Int32) (x8 : Int32) (x9 : Int32) (x10 : Int32) (x11 : Int32) (x12 : Int32) (x13 : Int32) (M : Mm) (ls : Array Slot) (H : Heap) (locs : List Loc), lv_has ls 15 [(0, .ref (G.2.2.2 31)), (1, .int x1), (2, .int x2), (3, .int x3), (5, .int x5), (6, .int x6), (7, .int x7), (8, .int x8), (9, .int x9), (10, .int x10), (11, .int x11), (12, .int x12), (13, .int x13)] → Wo G s M H locs → q92 x1 x2 x3 x5 x6 x7 x8 x9 x10 x11 x12 x13 M = some M' → W p l e (rm 2) s m args below meth c H locs 0 0 (Qv below args s G M') (F0 m 92 ls [])) : ∀ (x1 : Int32) (x2 : Int32) (x3 : Int32) (x5 : Int32) (x6 : Int32) (x7 : Int32) (x8 : Int32) (x9 : Int32) (x10 : Int32) (x11 : Int32) (x13 : Int32) (s0 : Int32) (M : Mm) (ls : Array Slot) (H : Heap) (locs : List Loc), lv_has ls 15 [(0, .ref (G.2.2.2 31)), (1, .int x1), (2, .int x2), (3, .int x3), (5, .int x5), (6, .int x6), (7, .int x7), (8, .int x8), (9, .int x9), (10, .int x10), (11, .int x11), (13, .int x13)] → Wo G s M H locs → rX7_bits_b186 q92 x1 x2 x3 x5 x6 x7 x8 x9 x10 x11 x13 s0 M = some M' → W p l e (rm 2) s m args below meth c H locs 0 0 (Qv below args s G M') (F0 m 186 ls [.int s0]) := by
    intro x1 x2 x3 x5 x6 x7 x8 x9 x10 x11 x13 s0 M ls H locs hl hW h
    unfold rX7_bits_b186 at h
    have hx := X.1.1
    have hb := X.1.2.1
    refine lv_istore (lv' := [(12, .int s0), (0, .ref (G.2.2.2 31)), (1, .int x1), (2, .int x2), (3, .int x3), (5, .int x5), (6, .int x6), (7, .int x7), (8, .int x8), (9, .int x9), (10, .int x10), (11, .int x11), (13, .int x13)]) hx hb dX7_bits_186 hl (by decide) rfl (fun ls hl => ?_)
    obtain ⟨y41, ey41⟩ : ∃ y : Int32, y = (x13 + 1) := ⟨_, rfl⟩
    have h := ob_lt ey41 h
    refine lv_iinc (v := y41) (lv' := [(13, .int y41), (12, .int s0), (0, .ref (G.2.2.2 31)), (1, .int x1), (2, .int x2), (3, .int x3), (5, .int x5), (6, .int x6), (7, .int x7), (8, .int x8), (9, .int x9), (10, .int x10), (11, .int x11)]) hx hb dX7_bits_188 hl (k := 12) rfl (by rw [ey41]; rfl) (by decide) rfl (fun ls hl => ?_)
    refine lv_goto (tgt := 92) hx hb dX7_bits_191 (by decide) ?_
    exact hq92 x1 x2 x3 x5 x6 x7 x8 x9 x10 x11 s0 y41 M _ _ _ (lv_sub hl [2, 3, 4, 5, 6, 7, 8, 9, 10, 11, 12, 1, 0] rfl) hW h
def rX7_bits_b181 (q92 : Int32 → Int32 → Int32 → Int32 → Int32 → Int32 → Int32 → Int32 → Int32 → Int32 → Int32 → Int32 → Mm → Option Mm) (x1 : Int32) (x2 : Int32) (x3 : Int32) (x5 : Int32) (x6 : Int32) (x7 : Int32) (x8 : Int32) (x9 : Int32) (x10 : Int32) (x11 : Int32) (x13 : Int32) (M : Mm) : Option Mm :=
    (rX7_bits_b186 q92 x1 x2 x3 x5 x6 x7 x8 x9 x10 x11 x13 (1 : Int32) M)
set_option maxRecDepth 100000 in
set_option maxHeartbeats 4000000 in
theorem sX7_bits_b181 {p : Program} {l : Launch} {e : Env} {s : State} {m : MethodId} {args : Array Value} {below : List Frame} {meth : Method} {c : Code} {G : Gg} {M' : Mm} (X : Cx p m c meth cX7_bits 15 s args RX7 none G) {q92 : Int32 → Int32 → Int32 → Int32 → Int32 → Int32 → Int32 → Int32 → Int32 → Int32 → Int32 → Int32 → Mm → Option Mm} (hq92 : ∀ (x1 : Int32) (x2 : Int32) (x3 : Int32) (x5 : Int32) (x6 : Int32) (x7 : Int32) (x8 : Int32) (x9 : Int32) (x10 : Int32) (x11 : Int32) (x12 : Int32) (x13 : Int32) (M : Mm) (ls : Array Slot) (H : Heap) (locs : List Loc), lv_has ls 15 [(0, .ref (G.2.2.2 31)), (1, .int x1), (2, .int x2), (3, .int x3), (5, .int x5), (6, .int x6), (7, .int x7), (8, .int x8), (9, .int x9), (10, .int x10), (11, .int x11), (12, .int x12), (13, .int x13)] → Wo G s M H locs → q92 x1 x2 x3 x5 x6 x7 x8 x9 x10 x11 x12 x13 M = some M' → W p l e (rm 2) s m args below meth c H locs 0 0 (Qv below args s G M') (F0 m 92 ls [])) : ∀ (x1 : Int32) (x2 : Int32) (x3 : Int32) (x5 : Int32) (x6 : Int32) (x7 : Int32) (x8 : Int32) (x9 : Int32) (x10 : Int32) (x11 : Int32) (x13 : Int32) (M : Mm) (ls : Array Slot) (H : Heap) (locs : List Loc), lv_has ls 15 [(0, .ref (G.2.2.2 31)), (1, .int x1), (2, .int x2), (3, .int x3), (5, .int x5), (6, .int x6), (7, .int x7), (8, .int x8), (9, .int x9), (10, .int x10), (11, .int x11), (13, .int x13)] → Wo G s M H locs → rX7_bits_b181 q92 x1 x2 x3 x5 x6 x7 x8 x9 x10 x11 x13 M = some M' → W p l e (rm 2) s m args below meth c H locs 0 0 (Qv below args s G M') (F0 m 181 ls []) := by
    intro x1 x2 x3 x5 x6 x7 x8 x9 x10 x11 x13 M ls H locs hl hW h
    unfold rX7_bits_b181 at h
    have hx := X.1.1
    have hb := X.1.2.1
    refine lv_iconst (v := 1) hx hb dX7_bits_181 (by decide) ?_
    refine lv_goto (tgt := 186) hx hb dX7_bits_182 (by decide) ?_
    exact sX7_bits_b186 X hq92 x1 x2 x3 x5 x6 x7 x8 x9 x10 x11 x13 (1 : Int32) M _ _ _ (lv_sub hl [0, 1, 2, 3, 4, 5, 6, 7, 8, 9, 10, 11] rfl) hW h
def rX7_bits_b185 (q92 : Int32 → Int32 → Int32 → Int32 → Int32 → Int32 → Int32 → Int32 → Int32 → Int32 → Int32 → Int32 → Mm → Option Mm) (x1 : Int32) (x2 : Int32) (x3 : Int32) (x5 : Int32) (x6 : Int32) (x7 : Int32) (x8 : Int32) (x9 : Int32) (x10 : Int32) (x11 : Int32) (x13 : Int32) (M : Mm) : Option Mm :=
    (rX7_bits_b186 q92 x1 x2 x3 x5 x6 x7 x8 x9 x10 x11 x13 (0 : Int32) M)
set_option maxRecDepth 100000 in
set_option maxHeartbeats 4000000 in
theorem sX7_bits_b185 {p : Program} {l : Launch} {e : Env} {s : State} {m : MethodId} {args : Array Value} {below : List Frame} {meth : Method} {c : Code} {G : Gg} {M' : Mm} (X : Cx p m c meth cX7_bits 15 s args RX7 none G) {q92 : Int32 → Int32 → Int32 → Int32 → Int32 → Int32 → Int32 → Int32 → Int32 → Int32 → Int32 → Int32 → Mm → Option Mm} (hq92 : ∀ (x1 : Int32) (x2 : Int32) (x3 : Int32) (x5 : Int32) (x6 : Int32) (x7 : Int32) (x8 : Int32) (x9 : Int32) (x10 : Int32) (x11 : Int32) (x12 : Int32) (x13 : Int32) (M : Mm) (ls : Array Slot) (H : Heap) (locs : List Loc), lv_has ls 15 [(0, .ref (G.2.2.2 31)), (1, .int x1), (2, .int x2), (3, .int x3), (5, .int x5), (6, .int x6), (7, .int x7), (8, .int x8), (9, .int x9), (10, .int x10), (11, .int x11), (12, .int x12), (13, .int x13)] → Wo G s M H locs → q92 x1 x2 x3 x5 x6 x7 x8 x9 x10 x11 x12 x13 M = some M' → W p l e (rm 2) s m args below meth c H locs 0 0 (Qv below args s G M') (F0 m 92 ls [])) : ∀ (x1 : Int32) (x2 : Int32) (x3 : Int32) (x5 : Int32) (x6 : Int32) (x7 : Int32) (x8 : Int32) (x9 : Int32) (x10 : Int32) (x11 : Int32) (x13 : Int32) (M : Mm) (ls : Array Slot) (H : Heap) (locs : List Loc), lv_has ls 15 [(0, .ref (G.2.2.2 31)), (1, .int x1), (2, .int x2), (3, .int x3), (5, .int x5), (6, .int x6), (7, .int x7), (8, .int x8), (9, .int x9), (10, .int x10), (11, .int x11), (13, .int x13)] → Wo G s M H locs → rX7_bits_b185 q92 x1 x2 x3 x5 x6 x7 x8 x9 x10 x11 x13 M = some M' → W p l e (rm 2) s m args below meth c H locs 0 0 (Qv below args s G M') (F0 m 185 ls []) := by
    intro x1 x2 x3 x5 x6 x7 x8 x9 x10 x11 x13 M ls H locs hl hW h
    unfold rX7_bits_b185 at h
    have hx := X.1.1
    have hb := X.1.2.1
    refine lv_iconst (v := 0) hx hb dX7_bits_185 (by decide) ?_
    exact sX7_bits_b186 X hq92 x1 x2 x3 x5 x6 x7 x8 x9 x10 x11 x13 (0 : Int32) M _ _ _ (lv_sub hl [0, 1, 2, 3, 4, 5, 6, 7, 8, 9, 10, 11] rfl) hW h
def rX7_bits_b151 (q92 : Int32 → Int32 → Int32 → Int32 → Int32 → Int32 → Int32 → Int32 → Int32 → Int32 → Int32 → Int32 → Mm → Option Mm) (x1 : Int32) (x2 : Int32) (x3 : Int32) (x5 : Int32) (x6 : Int32) (x7 : Int32) (x8 : Int32) (x9 : Int32) (x10 : Int32) (x11 : Int32) (x12 : Int32) (x13 : Int32) (x14 : Int32) (M : Mm) : Option Mm :=
    (if x12 = 0 then (if x14 ≤ x9 then (rX7_bits_b185 q92 x1 x2 x3 x5 x6 x7 x8 x9 x10 x11 x13 M) else (if x13 < 0 ∨ 8 ≤ (x13).toNatClampNeg then none else if ((M.1 47 (x13).toNatClampNeg) >>> ((x14 - x9) &&& 31)) = x8 then (rX7_bits_b181 q92 x1 x2 x3 x5 x6 x7 x8 x9 x10 x11 x13 M) else (rX7_bits_b185 q92 x1 x2 x3 x5 x6 x7 x8 x9 x10 x11 x13 M))) else (rX7_bits_b181 q92 x1 x2 x3 x5 x6 x7 x8 x9 x10 x11 x13 M))
set_option maxRecDepth 100000 in
set_option maxHeartbeats 4000000 in
theorem sX7_bits_b151 {p : Program} {l : Launch} {e : Env} {s : State} {m : MethodId} {args : Array Value} {below : List Frame} {meth : Method} {c : Code} {G : Gg} {M' : Mm} (X : Cx p m c meth cX7_bits 15 s args RX7 none G) {q92 : Int32 → Int32 → Int32 → Int32 → Int32 → Int32 → Int32 → Int32 → Int32 → Int32 → Int32 → Int32 → Mm → Option Mm} (hq92 : ∀ (x1 : Int32) (x2 : Int32) (x3 : Int32) (x5 : Int32) (x6 : Int32) (x7 : Int32) (x8 : Int32) (x9 : Int32) (x10 : Int32) (x11 : Int32) (x12 : Int32) (x13 : Int32) (M : Mm) (ls : Array Slot) (H : Heap) (locs : List Loc), lv_has ls 15 [(0, .ref (G.2.2.2 31)), (1, .int x1), (2, .int x2), (3, .int x3), (5, .int x5), (6, .int x6), (7, .int x7), (8, .int x8), (9, .int x9), (10, .int x10), (11, .int x11), (12, .int x12), (13, .int x13)] → Wo G s M H locs → q92 x1 x2 x3 x5 x6 x7 x8 x9 x10 x11 x12 x13 M = some M' → W p l e (rm 2) s m args below meth c H locs 0 0 (Qv below args s G M') (F0 m 92 ls [])) : ∀ (x1 : Int32) (x2 : Int32) (x3 : Int32) (x5 : Int32) (x6 : Int32) (x7 : Int32) (x8 : Int32) (x9 : Int32) (x10 : Int32) (x11 : Int32) (x12 : Int32) (x13 : Int32) (x14 : Int32) (M : Mm) (ls : Array Slot) (H : Heap) (locs : List Loc), lv_has ls 15 [(0, .ref (G.2.2.2 31)), (1, .int x1), (2, .int x2), (3, .int x3), (5, .int x5), (6, .int x6), (7, .int x7), (8, .int x8), (9, .int x9), (10, .int x10), (11, .int x11), (12, .int x12), (13, .int x13), (14, .int x14)] → Wo G s M H locs → rX7_bits_b151 q92 x1 x2 x3 x5 x6 x7 x8 x9 x10 x11 x12 x13 x14 M = some M' → W p l e (rm 2) s m args below meth c H locs 0 0 (Qv below args s G M') (F0 m 151 ls []) := by
    intro x1 x2 x3 x5 x6 x7 x8 x9 x10 x11 x12 x13 x14 M ls H locs hl hW h
    unfold rX7_bits_b151 at h
    have hx := X.1.1
    have hb := X.1.2.1
    refine lv_iload hx hb dX7_bits_151 (lv_at hl 11 rfl) ?_
    refine lv_if_ne (tgt := 181) hx hb dX7_bits_153 (by decide) (fun c40 => ?_) (fun c40 => ?_)
    · have h := ob_neg c40 h
      exact sX7_bits_b181 X hq92 x1 x2 x3 x5 x6 x7 x8 x9 x10 x11 x13 M _ _ _ (lv_sub hl [0, 1, 2, 3, 4, 5, 6, 7, 8, 9, 10, 12] rfl) hW h
    · have h := ob_pos c40 h
      refine lv_iload hx hb dX7_bits_156 (lv_at hl 13 rfl) ?_
      refine lv_iload hx hb dX7_bits_158 (lv_at hl 8 rfl) ?_
      refine lv_icmp_le (tgt := 185) hx hb dX7_bits_160 (by decide) (fun c42 => ?_) (fun c42 => ?_)
      · have h := ob_pos c42 h
        exact sX7_bits_b185 X hq92 x1 x2 x3 x5 x6 x7 x8 x9 x10 x11 x13 M _ _ _ (lv_sub hl [0, 1, 2, 3, 4, 5, 6, 7, 8, 9, 10, 12] rfl) hW h
      · have h := ob_neg c42 h
        refine lv_aload_n hx hb dX7_bits_163 rfl (lv_at hl 0 rfl) ?_
        refine gf7_59 (cN := 31) X hW rfl dX7_bits_164 ?_
        refine lv_iload hx hb dX7_bits_167 (lv_at hl 12 rfl) ?_
        obtain ⟨g43, h⟩ := ob_gd h
        refine bg_ald (cN := 47) X hW (n := 8) rfl g43 dX7_bits_169 ?_
        refine lv_iload hx hb dX7_bits_170 (lv_at hl 13 rfl) ?_
        refine lv_iload hx hb dX7_bits_172 (lv_at hl 8 rfl) ?_
        refine lv_isub hx hb dX7_bits_174 ?_
        refine lv_ishr hx hb dX7_bits_175 ?_
        refine lv_iload hx hb dX7_bits_176 (lv_at hl 7 rfl) ?_
        refine lv_icmp_ne (tgt := 185) hx hb dX7_bits_178 (by decide) (fun c44 => ?_) (fun c44 => ?_)
        · have h := ob_neg c44 h
          exact sX7_bits_b185 X hq92 x1 x2 x3 x5 x6 x7 x8 x9 x10 x11 x13 M _ _ _ (lv_sub hl [0, 1, 2, 3, 4, 5, 6, 7, 8, 9, 10, 12] rfl) hW h
        · have h := ob_pos c44 h
          exact sX7_bits_b181 X hq92 x1 x2 x3 x5 x6 x7 x8 x9 x10 x11 x13 M _ _ _ (lv_sub hl [0, 1, 2, 3, 4, 5, 6, 7, 8, 9, 10, 12] rfl) hW h
def rX7_bits_b92_s (q33 : Int32 → Int32 → Int32 → Int32 → Int32 → Int32 → Int32 → Int32 → Int32 → Int32 → Mm → Option Mm) (q92 : Int32 → Int32 → Int32 → Int32 → Int32 → Int32 → Int32 → Int32 → Int32 → Int32 → Int32 → Int32 → Mm → Option Mm) (x1 : Int32) (x2 : Int32) (x3 : Int32) (x5 : Int32) (x6 : Int32) (x7 : Int32) (x8 : Int32) (x9 : Int32) (x10 : Int32) (x11 : Int32) (x12 : Int32) (x13 : Int32) (M : Mm) : Option Mm :=
    (if x3 ≤ x13 then (rX7_bits_b194 q33 x1 x2 x3 x5 x6 x7 x8 x9 x10 x11 x12 M) else (if x11 = 0 then (if ((x2 + x3) + x13) < 0 ∨ 1200 ≤ (((x2 + x3) + x13)).toNatClampNeg then none else lt_ (M.1 32 (((x2 + x3) + x13)).toNatClampNeg) fun y38 => if y38 = x9 then (if x13 < 0 ∨ 8 ≤ (x13).toNatClampNeg then none else if (M.1 47 (x13).toNatClampNeg) = x8 then (if (x2 + x13) < 0 ∨ 1200 ≤ ((x2 + x13)).toNatClampNeg then none else Option.bind (rX7_comes (M.1 32 ((x2 + x13)).toNatClampNeg) M) fun M49 => rX7_bits_b151 q92 x1 x2 x3 x5 x6 x7 x8 x9 x10 (1 : Int32) x12 x13 y38 M49) else (rX7_bits_b151 q92 x1 x2 x3 x5 x6 x7 x8 x9 x10 x11 x12 x13 y38 M)) else (rX7_bits_b151 q92 x1 x2 x3 x5 x6 x7 x8 x9 x10 x11 x12 x13 y38 M)) else (rX7_bits_b194 q33 x1 x2 x3 x5 x6 x7 x8 x9 x10 x11 x12 M)))
def rX7_bits_b92 (q33 : Int32 → Int32 → Int32 → Int32 → Int32 → Int32 → Int32 → Int32 → Int32 → Int32 → Mm → Option Mm) : Nat → Int32 → Int32 → Int32 → Int32 → Int32 → Int32 → Int32 → Int32 → Int32 → Int32 → Int32 → Int32 → Mm → Option Mm
  | 0 => fun _ _ _ _ _ _ _ _ _ _ _ _ _ => none
  | n + 1 => rX7_bits_b92_s q33 (rX7_bits_b92 q33 n)
set_option maxRecDepth 100000 in
set_option maxHeartbeats 4000000 in
theorem sX7_bits_b92 {p : Program} {l : Launch} {e : Env} {s : State} {m : MethodId} {args : Array Value} {below : List Frame} {meth : Method} {c : Code} {G : Gg} {M' : Mm} (X : Cx p m c meth cX7_bits 15 s args RX7 none G) {q33 : Int32 → Int32 → Int32 → Int32 → Int32 → Int32 → Int32 → Int32 → Int32 → Int32 → Mm → Option Mm} (hq33 : ∀ (x1 : Int32) (x2 : Int32) (x3 : Int32) (x5 : Int32) (x6 : Int32) (x7 : Int32) (x8 : Int32) (x9 : Int32) (x10 : Int32) (x11 : Int32) (M : Mm) (ls : Array Slot) (H : Heap) (locs : List Loc), lv_has ls 15 [(0, .ref (G.2.2.2 31)), (1, .int x1), (2, .int x2), (3, .int x3), (5, .int x5), (6, .int x6), (7, .int x7), (8, .int x8), (9, .int x9), (10, .int x10), (11, .int x11)] → Wo G s M H locs → q33 x1 x2 x3 x5 x6 x7 x8 x9 x10 x11 M = some M' → W p l e (rm 2) s m args below meth c H locs 0 0 (Qv below args s G M') (F0 m 33 ls [])) : ∀ (n : Nat), ∀ (x1 : Int32) (x2 : Int32) (x3 : Int32) (x5 : Int32) (x6 : Int32) (x7 : Int32) (x8 : Int32) (x9 : Int32) (x10 : Int32) (x11 : Int32) (x12 : Int32) (x13 : Int32) (M : Mm) (ls : Array Slot) (H : Heap) (locs : List Loc), lv_has ls 15 [(0, .ref (G.2.2.2 31)), (1, .int x1), (2, .int x2), (3, .int x3), (5, .int x5), (6, .int x6), (7, .int x7), (8, .int x8), (9, .int x9), (10, .int x10), (11, .int x11), (12, .int x12), (13, .int x13)] → Wo G s M H locs → rX7_bits_b92 q33 n x1 x2 x3 x5 x6 x7 x8 x9 x10 x11 x12 x13 M = some M' → W p l e (rm 2) s m args below meth c H locs 0 0 (Qv below args s G M') (F0 m 92 ls []) := by
  intro n
  induction n with
  | zero =>
    intro x1 x2 x3 x5 x6 x7 x8 x9 x10 x11 x12 x13 M ls H locs hl hW h
    cases (show (none : Option Mm) = some M' from h)
  | succ n hq920 =>
    have hq92 : ∀ (x1 : Int32) (x2 : Int32) (x3 : Int32) (x5 : Int32) (x6 : Int32) (x7 : Int32) (x8 : Int32) (x9 : Int32) (x10 : Int32) (x11 : Int32) (x12 : Int32) (x13 : Int32) (M : Mm) (ls : Array Slot) (H : Heap) (locs : List Loc), lv_has ls 15 [(0, .ref (G.2.2.2 31)), (1, .int x1), (2, .int x2), (3, .int x3), (5, .int x5), (6, .int x6), (7, .int x7), (8, .int x8), (9, .int x9), (10, .int x10), (11, .int x11), (12, .int x12), (13, .int x13)] → Wo G s M H locs → (rX7_bits_b92 q33 n) x1 x2 x3 x5 x6 x7 x8 x9 x10 x11 x12 x13 M = some M' → W p l e (rm 2) s m args below meth c H locs 0 0 (Qv below args s G M') (F0 m 92 ls []) := hq920
    intro x1 x2 x3 x5 x6 x7 x8 x9 x10 x11 x12 x13 M ls H locs hl hW h
    have h : rX7_bits_b92_s q33 (rX7_bits_b92 q33 n) x1 x2 x3 x5 x6 x7 x8 x9 x10 x11 x12 x13 M = some M' := h
    unfold rX7_bits_b92_s at h
    have hx := X.1.1
    have hb := X.1.2.1
    refine lv_iload hx hb dX7_bits_92 (lv_at hl 12 rfl) ?_
    refine lv_iload_n hx hb dX7_bits_94 rfl (lv_at hl 3 rfl) ?_
    refine lv_icmp_ge (tgt := 194) hx hb dX7_bits_95 (by decide) (fun c31 => ?_) (fun c31 => ?_)
    · have h := ob_pos c31 h
      exact sX7_bits_b194 X hq33 x1 x2 x3 x5 x6 x7 x8 x9 x10 x11 x12 M _ _ _ (lv_sub hl [0, 1, 2, 3, 4, 5, 6, 7, 8, 9, 10, 11] rfl) hW h
    · have h := ob_neg c31 h
      refine lv_iload hx hb dX7_bits_98 (lv_at hl 10 rfl) ?_
      refine lv_if_ne (tgt := 194) hx hb dX7_bits_100 (by decide) (fun c36 => ?_) (fun c36 => ?_)
      · have h := ob_neg c36 h
        exact sX7_bits_b194 X hq33 x1 x2 x3 x5 x6 x7 x8 x9 x10 x11 x12 M _ _ _ (lv_sub hl [0, 1, 2, 3, 4, 5, 6, 7, 8, 9, 10, 11] rfl) hW h
      · have h := ob_pos c36 h
        refine lv_aload_n hx hb dX7_bits_103 rfl (lv_at hl 0 rfl) ?_
        refine gf7_7 (cN := 31) X hW rfl dX7_bits_104 ?_
        refine lv_iload_n hx hb dX7_bits_107 rfl (lv_at hl 2 rfl) ?_
        refine lv_iload_n hx hb dX7_bits_108 rfl (lv_at hl 3 rfl) ?_
        refine lv_iadd hx hb dX7_bits_109 ?_
        refine lv_iload hx hb dX7_bits_110 (lv_at hl 12 rfl) ?_
        refine lv_iadd hx hb dX7_bits_112 ?_
        obtain ⟨g37, h⟩ := ob_gd h
        refine bg_ald (cN := 32) X hW (n := 1200) rfl g37 dX7_bits_113 ?_
        refine lv_topi (fun y38 ey38 => ?_)
        have h := ob_lt ey38 h
        refine lv_istore (lv' := [(14, .int y38), (0, .ref (G.2.2.2 31)), (1, .int x1), (2, .int x2), (3, .int x3), (5, .int x5), (6, .int x6), (7, .int x7), (8, .int x8), (9, .int x9), (10, .int x10), (11, .int x11), (12, .int x12), (13, .int x13)]) hx hb dX7_bits_114 hl (by decide) rfl (fun ls hl => ?_)
        refine lv_iload hx hb dX7_bits_116 (lv_at hl 0 rfl) ?_
        refine lv_iload hx hb dX7_bits_118 (lv_at hl 9 rfl) ?_
        refine lv_icmp_ne (tgt := 151) hx hb dX7_bits_120 (by decide) (fun c39 => ?_) (fun c39 => ?_)
        · have h := ob_neg c39 h
          exact sX7_bits_b151 X hq92 x1 x2 x3 x5 x6 x7 x8 x9 x10 x11 x12 x13 y38 M _ _ _ (lv_sub hl [1, 2, 3, 4, 5, 6, 7, 8, 9, 10, 11, 12, 13, 0] rfl) hW h
        · have h := ob_pos c39 h
          refine lv_aload_n hx hb dX7_bits_123 rfl (lv_at hl 1 rfl) ?_
          refine gf7_59 (cN := 31) X hW rfl dX7_bits_124 ?_
          refine lv_iload hx hb dX7_bits_127 (lv_at hl 13 rfl) ?_
          obtain ⟨g45, h⟩ := ob_gd h
          refine bg_ald (cN := 47) X hW (n := 8) rfl g45 dX7_bits_129 ?_
          refine lv_iload hx hb dX7_bits_130 (lv_at hl 8 rfl) ?_
          refine lv_icmp_ne (tgt := 151) hx hb dX7_bits_132 (by decide) (fun c46 => ?_) (fun c46 => ?_)
          · have h := ob_neg c46 h
            exact sX7_bits_b151 X hq92 x1 x2 x3 x5 x6 x7 x8 x9 x10 x11 x12 x13 y38 M _ _ _ (lv_sub hl [1, 2, 3, 4, 5, 6, 7, 8, 9, 10, 11, 12, 13, 0] rfl) hW h
          · have h := ob_pos c46 h
            refine lv_aload_n hx hb dX7_bits_135 rfl (lv_at hl 1 rfl) ?_
            refine lv_aload_n hx hb dX7_bits_136 rfl (lv_at hl 1 rfl) ?_
            refine gf7_7 (cN := 31) X hW rfl dX7_bits_137 ?_
            refine lv_iload_n hx hb dX7_bits_140 rfl (lv_at hl 3 rfl) ?_
            refine lv_iload hx hb dX7_bits_141 (lv_at hl 13 rfl) ?_
            refine lv_iadd hx hb dX7_bits_143 ?_
            obtain ⟨g47, h⟩ := ob_gd h
            refine bg_ald (cN := 32) X hW (n := 1200) rfl g47 dX7_bits_144 ?_
            obtain ⟨M49, e48, h⟩ := ob_bind h
            refine bg_callv X hW (cX7_comes_k e48) rfl rfl kw7_160 kd_X7_comes rfl rfl ⟨Nat.le_of_ble_eq_true rfl, Nat.le_of_ble_eq_true rfl⟩ ⟨Nat.le_refl _, Nat.le_refl _⟩ hl.1 (Nat.le_of_ble_eq_true rfl) dX7_bits_145 (fun H locs hW => ?_)
            refine lv_iconst (v := 1) hx hb dX7_bits_148 (by decide) ?_
            refine lv_istore (lv' := [(11, .int (1 : Int32)), (14, .int y38), (0, .ref (G.2.2.2 31)), (1, .int x1), (2, .int x2), (3, .int x3), (5, .int x5), (6, .int x6), (7, .int x7), (8, .int x8), (9, .int x9), (10, .int x10), (12, .int x12), (13, .int x13)]) hx hb dX7_bits_149 hl (by decide) rfl (fun ls hl => ?_)
            exact sX7_bits_b151 X hq92 x1 x2 x3 x5 x6 x7 x8 x9 x10 (1 : Int32) x12 x13 y38 M49 _ _ _ (lv_sub hl [2, 3, 4, 5, 6, 7, 8, 9, 10, 11, 0, 12, 13, 1] rfl) hW h
def rX7_bits_b33_s (q10 : Int32 → Int32 → Int32 → Int32 → Int32 → Int32 → Mm → Option Mm) (q33 : Int32 → Int32 → Int32 → Int32 → Int32 → Int32 → Int32 → Int32 → Int32 → Int32 → Mm → Option Mm) (x1 : Int32) (x2 : Int32) (x3 : Int32) (x5 : Int32) (x6 : Int32) (x7 : Int32) (x8 : Int32) (x9 : Int32) (x10 : Int32) (x11 : Int32) (M : Mm) : Option Mm :=
    (if x11 = 0 then (bd2 (rX7_has (x6 / (8 : Int32)) (1 : Int32) M) fun r23 M22 => if r23 = 0 then (some M22) else (if (x6 / (8 : Int32)) < 0 ∨ 1200 ≤ ((x6 / (8 : Int32))).toNatClampNeg then none else lt_ (((2 : Int32) * x8) + (((M22.1 32 ((x6 / (8 : Int32))).toNatClampNeg) >>> (((7 : Int32) - (x6 - x6 / (8 : Int32) * (8 : Int32))) &&& 31)) &&& (1 : Int32))) fun y28 => lt_ (x9 + 1) fun y29 => lt_ (x6 + 1) fun y30 => rX7_bits_b92 q33 FU x1 x2 x3 x5 y30 x7 y28 y29 x10 x11 (0 : Int32) (0 : Int32) M22)) else (lt_ (x7 + 1) fun y19 => q10 x1 x2 x3 x5 x6 y19 M))
def rX7_bits_b33 (q10 : Int32 → Int32 → Int32 → Int32 → Int32 → Int32 → Mm → Option Mm) : Nat → Int32 → Int32 → Int32 → Int32 → Int32 → Int32 → Int32 → Int32 → Int32 → Int32 → Mm → Option Mm
  | 0 => fun _ _ _ _ _ _ _ _ _ _ _ => none
  | n + 1 => rX7_bits_b33_s q10 (rX7_bits_b33 q10 n)
set_option maxRecDepth 100000 in
set_option maxHeartbeats 4000000 in
theorem sX7_bits_b33 {p : Program} {l : Launch} {e : Env} {s : State} {m : MethodId} {args : Array Value} {below : List Frame} {meth : Method} {c : Code} {G : Gg} {M' : Mm} (X : Cx p m c meth cX7_bits 15 s args RX7 none G) {q10 : Int32 → Int32 → Int32 → Int32 → Int32 → Int32 → Mm → Option Mm} (hq10 : ∀ (x1 : Int32) (x2 : Int32) (x3 : Int32) (x5 : Int32) (x6 : Int32) (x7 : Int32) (M : Mm) (ls : Array Slot) (H : Heap) (locs : List Loc), lv_has ls 15 [(0, .ref (G.2.2.2 31)), (1, .int x1), (2, .int x2), (3, .int x3), (5, .int x5), (6, .int x6), (7, .int x7)] → Wo G s M H locs → q10 x1 x2 x3 x5 x6 x7 M = some M' → W p l e (rm 2) s m args below meth c H locs 0 0 (Qv below args s G M') (F0 m 10 ls [])) : ∀ (n : Nat), ∀ (x1 : Int32) (x2 : Int32) (x3 : Int32) (x5 : Int32) (x6 : Int32) (x7 : Int32) (x8 : Int32) (x9 : Int32) (x10 : Int32) (x11 : Int32) (M : Mm) (ls : Array Slot) (H : Heap) (locs : List Loc), lv_has ls 15 [(0, .ref (G.2.2.2 31)), (1, .int x1), (2, .int x2), (3, .int x3), (5, .int x5), (6, .int x6), (7, .int x7), (8, .int x8), (9, .int x9), (10, .int x10), (11, .int x11)] → Wo G s M H locs → rX7_bits_b33 q10 n x1 x2 x3 x5 x6 x7 x8 x9 x10 x11 M = some M' → W p l e (rm 2) s m args below meth c H locs 0 0 (Qv below args s G M') (F0 m 33 ls []) := by
  intro n
  induction n with
  | zero =>
    intro x1 x2 x3 x5 x6 x7 x8 x9 x10 x11 M ls H locs hl hW h
    cases (show (none : Option Mm) = some M' from h)
  | succ n hq330 =>
    have hq33 : ∀ (x1 : Int32) (x2 : Int32) (x3 : Int32) (x5 : Int32) (x6 : Int32) (x7 : Int32) (x8 : Int32) (x9 : Int32) (x10 : Int32) (x11 : Int32) (M : Mm) (ls : Array Slot) (H : Heap) (locs : List Loc), lv_has ls 15 [(0, .ref (G.2.2.2 31)), (1, .int x1), (2, .int x2), (3, .int x3), (5, .int x5), (6, .int x6), (7, .int x7), (8, .int x8), (9, .int x9), (10, .int x10), (11, .int x11)] → Wo G s M H locs → (rX7_bits_b33 q10 n) x1 x2 x3 x5 x6 x7 x8 x9 x10 x11 M = some M' → W p l e (rm 2) s m args below meth c H locs 0 0 (Qv below args s G M') (F0 m 33 ls []) := hq330
    intro x1 x2 x3 x5 x6 x7 x8 x9 x10 x11 M ls H locs hl hW h
    have h : rX7_bits_b33_s q10 (rX7_bits_b33 q10 n) x1 x2 x3 x5 x6 x7 x8 x9 x10 x11 M = some M' := h
    unfold rX7_bits_b33_s at h
    have hx := X.1.1
    have hb := X.1.2.1
    refine lv_iload hx hb dX7_bits_33 (lv_at hl 10 rfl) ?_
    refine lv_if_ne (tgt := 216) hx hb dX7_bits_35 (by decide) (fun c18 => ?_) (fun c18 => ?_)
    · have h := ob_neg c18 h
      obtain ⟨y19, ey19⟩ : ∃ y : Int32, y = (x7 + 1) := ⟨_, rfl⟩
      have h := ob_lt ey19 h
      refine lv_iinc (v := y19) (lv' := [(7, .int y19), (0, .ref (G.2.2.2 31)), (1, .int x1), (2, .int x2), (3, .int x3), (5, .int x5), (6, .int x6), (8, .int x8), (9, .int x9), (10, .int x10), (11, .int x11)]) hx hb dX7_bits_216 hl (k := 6) rfl (by rw [ey19]; rfl) (by decide) rfl (fun ls hl => ?_)
      refine lv_goto (tgt := 10) hx hb dX7_bits_219 (by decide) ?_
      exact hq10 x1 x2 x3 x5 x6 y19 M _ _ _ (lv_sub hl [1, 2, 3, 4, 5, 6, 0] rfl) hW h
    · have h := ob_pos c18 h
      refine lv_aload_n hx hb dX7_bits_38 rfl (lv_at hl 0 rfl) ?_
      refine lv_iload hx hb dX7_bits_39 (lv_at hl 5 rfl) ?_
      refine lv_bipush (v := 8) hx hb dX7_bits_41 (by decide) ?_
      have g20 : ¬ (8 : Int32) = 0 := by decide
      refine lv_idiv hx hb dX7_bits_43 g20 ?_
      refine lv_iconst (v := 1) hx hb dX7_bits_44 (by decide) ?_
      obtain ⟨r23, M22, e21, h⟩ := ob_bd2 h
      refine bg_calli X hW (cX7_has_k e21) rfl rfl kw7_149 kd_X7_has rfl rfl ⟨Nat.le_of_ble_eq_true rfl, Nat.le_of_ble_eq_true rfl⟩ ⟨Nat.le_refl _, Nat.le_refl _⟩ hl.1 (Nat.le_of_ble_eq_true rfl) dX7_bits_45 (fun H locs hW => ?_)
      refine lv_if_ne (tgt := 52) hx hb dX7_bits_48 (by decide) (fun c24 => ?_) (fun c24 => ?_)
      · have h := ob_neg c24 h
        refine lv_iconst (v := 2) hx hb dX7_bits_52 (by decide) ?_
        refine lv_iload hx hb dX7_bits_53 (lv_at hl 7 rfl) ?_
        refine lv_imul hx hb dX7_bits_55 ?_
        refine lv_aload_n hx hb dX7_bits_56 rfl (lv_at hl 0 rfl) ?_
        refine gf7_7 (cN := 31) X hW rfl dX7_bits_57 ?_
        refine lv_iload hx hb dX7_bits_60 (lv_at hl 5 rfl) ?_
        refine lv_bipush (v := 8) hx hb dX7_bits_62 (by decide) ?_
        have g25 : ¬ (8 : Int32) = 0 := by decide
        refine lv_idiv hx hb dX7_bits_64 g25 ?_
        obtain ⟨g26, h⟩ := ob_gd h
        refine bg_ald (cN := 32) X hW (n := 1200) rfl g26 dX7_bits_65 ?_
        refine lv_bipush (v := 7) hx hb dX7_bits_66 (by decide) ?_
        refine lv_iload hx hb dX7_bits_68 (lv_at hl 5 rfl) ?_
        refine lv_bipush (v := 8) hx hb dX7_bits_70 (by decide) ?_
        have g27 : ¬ (8 : Int32) = 0 := by decide
        refine lv_irem hx hb dX7_bits_72 g27 ?_
        refine lv_isub hx hb dX7_bits_73 ?_
        refine lv_ishr hx hb dX7_bits_74 ?_
        refine lv_iconst (v := 1) hx hb dX7_bits_75 (by decide) ?_
        refine lv_iand hx hb dX7_bits_76 ?_
        refine lv_iadd hx hb dX7_bits_77 ?_
        refine lv_topi (fun y28 ey28 => ?_)
        have h := ob_lt ey28 h
        refine lv_istore (lv' := [(8, .int y28), (0, .ref (G.2.2.2 31)), (1, .int x1), (2, .int x2), (3, .int x3), (5, .int x5), (6, .int x6), (7, .int x7), (9, .int x9), (10, .int x10), (11, .int x11)]) hx hb dX7_bits_78 hl (by decide) rfl (fun ls hl => ?_)
        obtain ⟨y29, ey29⟩ : ∃ y : Int32, y = (x9 + 1) := ⟨_, rfl⟩
        have h := ob_lt ey29 h
        refine lv_iinc (v := y29) (lv' := [(9, .int y29), (8, .int y28), (0, .ref (G.2.2.2 31)), (1, .int x1), (2, .int x2), (3, .int x3), (5, .int x5), (6, .int x6), (7, .int x7), (10, .int x10), (11, .int x11)]) hx hb dX7_bits_80 hl (k := 8) rfl (by rw [ey29]; rfl) (by decide) rfl (fun ls hl => ?_)
        obtain ⟨y30, ey30⟩ : ∃ y : Int32, y = (x6 + 1) := ⟨_, rfl⟩
        have h := ob_lt ey30 h
        refine lv_iinc (v := y30) (lv' := [(6, .int y30), (9, .int y29), (8, .int y28), (0, .ref (G.2.2.2 31)), (1, .int x1), (2, .int x2), (3, .int x3), (5, .int x5), (7, .int x7), (10, .int x10), (11, .int x11)]) hx hb dX7_bits_83 hl (k := 7) rfl (by rw [ey30]; rfl) (by decide) rfl (fun ls hl => ?_)
        refine lv_iconst (v := 0) hx hb dX7_bits_86 (by decide) ?_
        refine lv_istore (lv' := [(12, .int (0 : Int32)), (6, .int y30), (9, .int y29), (8, .int y28), (0, .ref (G.2.2.2 31)), (1, .int x1), (2, .int x2), (3, .int x3), (5, .int x5), (7, .int x7), (10, .int x10), (11, .int x11)]) hx hb dX7_bits_87 hl (by decide) rfl (fun ls hl => ?_)
        refine lv_iconst (v := 0) hx hb dX7_bits_89 (by decide) ?_
        refine lv_istore (lv' := [(13, .int (0 : Int32)), (12, .int (0 : Int32)), (6, .int y30), (9, .int y29), (8, .int y28), (0, .ref (G.2.2.2 31)), (1, .int x1), (2, .int x2), (3, .int x3), (5, .int x5), (7, .int x7), (10, .int x10), (11, .int x11)]) hx hb dX7_bits_90 hl (by decide) rfl (fun ls hl => ?_)
        exact sX7_bits_b92 X hq33 FU x1 x2 x3 x5 y30 x7 y28 y29 x10 x11 (0 : Int32) (0 : Int32) M22 _ _ _ (lv_sub hl [5, 6, 7, 8, 9, 2, 10, 4, 3, 11, 12, 1, 0] rfl) hW h
      · have h := ob_pos c24 h
        exact rt_v X hW h dX7_bits_51
def rX7_bits_b10_s (q10 : Int32 → Int32 → Int32 → Int32 → Int32 → Int32 → Mm → Option Mm) (x1 : Int32) (x2 : Int32) (x3 : Int32) (x5 : Int32) (x6 : Int32) (x7 : Int32) (M : Mm) : Option Mm :=
    (if x5 ≤ x7 then (lt_ ((x6 + (7 : Int32)) / (8 : Int32)) fun y4 => rX7_bits_b232 FU x1 x6 y4 M) else (lt_ (x6 / (8 : Int32)) fun y17 => rX7_bits_b33 q10 FU x1 x2 x3 x5 x6 x7 (0 : Int32) (0 : Int32) y17 (0 : Int32) M))
def rX7_bits_b10 : Nat → Int32 → Int32 → Int32 → Int32 → Int32 → Int32 → Mm → Option Mm
  | 0 => fun _ _ _ _ _ _ _ => none
  | n + 1 => rX7_bits_b10_s (rX7_bits_b10 n)
set_option maxRecDepth 100000 in
set_option maxHeartbeats 4000000 in
theorem sX7_bits_b10 {p : Program} {l : Launch} {e : Env} {s : State} {m : MethodId} {args : Array Value} {below : List Frame} {meth : Method} {c : Code} {G : Gg} {M' : Mm} (X : Cx p m c meth cX7_bits 15 s args RX7 none G) : ∀ (n : Nat), ∀ (x1 : Int32) (x2 : Int32) (x3 : Int32) (x5 : Int32) (x6 : Int32) (x7 : Int32) (M : Mm) (ls : Array Slot) (H : Heap) (locs : List Loc), lv_has ls 15 [(0, .ref (G.2.2.2 31)), (1, .int x1), (2, .int x2), (3, .int x3), (5, .int x5), (6, .int x6), (7, .int x7)] → Wo G s M H locs → rX7_bits_b10 n x1 x2 x3 x5 x6 x7 M = some M' → W p l e (rm 2) s m args below meth c H locs 0 0 (Qv below args s G M') (F0 m 10 ls []) := by
  intro n
  induction n with
  | zero =>
    intro x1 x2 x3 x5 x6 x7 M ls H locs hl hW h
    cases (show (none : Option Mm) = some M' from h)
  | succ n hq100 =>
    have hq10 : ∀ (x1 : Int32) (x2 : Int32) (x3 : Int32) (x5 : Int32) (x6 : Int32) (x7 : Int32) (M : Mm) (ls : Array Slot) (H : Heap) (locs : List Loc), lv_has ls 15 [(0, .ref (G.2.2.2 31)), (1, .int x1), (2, .int x2), (3, .int x3), (5, .int x5), (6, .int x6), (7, .int x7)] → Wo G s M H locs → (rX7_bits_b10 n) x1 x2 x3 x5 x6 x7 M = some M' → W p l e (rm 2) s m args below meth c H locs 0 0 (Qv below args s G M') (F0 m 10 ls []) := hq100
    intro x1 x2 x3 x5 x6 x7 M ls H locs hl hW h
    have h : rX7_bits_b10_s (rX7_bits_b10 n) x1 x2 x3 x5 x6 x7 M = some M' := h
    unfold rX7_bits_b10_s at h
    have hx := X.1.1
    have hb := X.1.2.1
    refine lv_iload hx hb dX7_bits_10 (lv_at hl 6 rfl) ?_
    refine lv_iload hx hb dX7_bits_12 (lv_at hl 4 rfl) ?_
    refine lv_icmp_ge (tgt := 222) hx hb dX7_bits_14 (by decide) (fun c2 => ?_) (fun c2 => ?_)
    · have h := ob_pos c2 h
      refine lv_iload hx hb dX7_bits_222 (lv_at hl 5 rfl) ?_
      refine lv_bipush (v := 7) hx hb dX7_bits_224 (by decide) ?_
      refine lv_iadd hx hb dX7_bits_226 ?_
      refine lv_bipush (v := 8) hx hb dX7_bits_227 (by decide) ?_
      have g3 : ¬ (8 : Int32) = 0 := by decide
      refine lv_idiv hx hb dX7_bits_229 g3 ?_
      refine lv_topi (fun y4 ey4 => ?_)
      have h := ob_lt ey4 h
      refine lv_istore (lv' := [(7, .int y4), (0, .ref (G.2.2.2 31)), (1, .int x1), (2, .int x2), (3, .int x3), (5, .int x5), (6, .int x6)]) hx hb dX7_bits_230 hl (by decide) rfl (fun ls hl => ?_)
      exact sX7_bits_b232 X FU x1 x6 y4 M _ _ _ (lv_sub hl [1, 2, 6, 0] rfl) hW h
    · have h := ob_neg c2 h
      refine lv_iconst (v := 0) hx hb dX7_bits_17 (by decide) ?_
      refine lv_istore (lv' := [(8, .int (0 : Int32)), (0, .ref (G.2.2.2 31)), (1, .int x1), (2, .int x2), (3, .int x3), (5, .int x5), (6, .int x6), (7, .int x7)]) hx hb dX7_bits_18 hl (by decide) rfl (fun ls hl => ?_)
      refine lv_iconst (v := 0) hx hb dX7_bits_20 (by decide) ?_
      refine lv_istore (lv' := [(9, .int (0 : Int32)), (8, .int (0 : Int32)), (0, .ref (G.2.2.2 31)), (1, .int x1), (2, .int x2), (3, .int x3), (5, .int x5), (6, .int x6), (7, .int x7)]) hx hb dX7_bits_21 hl (by decide) rfl (fun ls hl => ?_)
      refine lv_iload hx hb dX7_bits_23 (lv_at hl 7 rfl) ?_
      refine lv_bipush (v := 8) hx hb dX7_bits_25 (by decide) ?_
      have g16 : ¬ (8 : Int32) = 0 := by decide
      refine lv_idiv hx hb dX7_bits_27 g16 ?_
      refine lv_topi (fun y17 ey17 => ?_)
      have h := ob_lt ey17 h
      refine lv_istore (lv' := [(10, .int y17), (9, .int (0 : Int32)), (8, .int (0 : Int32)), (0, .ref (G.2.2.2 31)), (1, .int x1), (2, .int x2), (3, .int x3), (5, .int x5), (6, .int x6), (7, .int x7)]) hx hb dX7_bits_28 hl (by decide) rfl (fun ls hl => ?_)
      refine lv_iconst (v := 0) hx hb dX7_bits_30 (by decide) ?_
      refine lv_istore (lv' := [(11, .int (0 : Int32)), (10, .int y17), (9, .int (0 : Int32)), (8, .int (0 : Int32)), (0, .ref (G.2.2.2 31)), (1, .int x1), (2, .int x2), (3, .int x3), (5, .int x5), (6, .int x6), (7, .int x7)]) hx hb dX7_bits_31 hl (by decide) rfl (fun ls hl => ?_)
      exact sX7_bits_b33 X hq10 FU x1 x2 x3 x5 x6 x7 (0 : Int32) (0 : Int32) y17 (0 : Int32) M _ _ _ (lv_sub hl [4, 5, 6, 7, 8, 9, 10, 3, 2, 1, 0] rfl) hW h
def rX7_bits (a1 : Int32) (a2 : Int32) (a3 : Int32) (a4 : Int32) (a5 : Int32) (M : Mm) : Option Mm :=
    (lt_ ((8 : Int32) * a4) fun y1 => rX7_bits_b10 FU a1 a2 a3 a5 y1 (0 : Int32) M)
set_option maxRecDepth 100000 in
set_option maxHeartbeats 4000000 in
theorem cX7_bits_k {l : Launch} {G : Gg} {a1 : Int32} {a2 : Int32} {a3 : Int32} {a4 : Int32} {a5 : Int32} {M M' : Mm} (h : rX7_bits a1 a2 a3 a4 a5 M = some M') : CTv l yX7_bits cX7_bits 15 2 G [.ref (G.2.2.2 31), .int a1, .int a2, .int a3, .int a4, .int a5] M M' := by
  unfold rX7_bits at h
  refine ct_v (by decide) (Nat.le_of_ble_eq_true rfl) (fun p e s m below meth c ls X hl hW => ?_)
  have hx := X.1.1
  have hb := X.1.2.1
  refine lv_bipush (v := 8) hx hb dX7_bits_0 (by decide) ?_
  refine lv_iload hx hb dX7_bits_2 (lv_at hl 4 rfl) ?_
  refine lv_imul hx hb dX7_bits_4 ?_
  refine lv_topi (fun y1 ey1 => ?_)
  have h := ob_lt ey1 h
  refine lv_istore (lv' := [(6, .int y1), (0, .ref (G.2.2.2 31)), (1, .int a1), (2, .int a2), (3, .int a3), (4, .int a4), (5, .int a5)]) hx hb dX7_bits_5 hl (by decide) rfl (fun ls hl => ?_)
  refine lv_iconst (v := 0) hx hb dX7_bits_7 (by decide) ?_
  refine lv_istore (lv' := [(7, .int (0 : Int32)), (6, .int y1), (0, .ref (G.2.2.2 31)), (1, .int a1), (2, .int a2), (3, .int a3), (4, .int a4), (5, .int a5)]) hx hb dX7_bits_8 hl (by decide) rfl (fun ls hl => ?_)
  exact sX7_bits_b10 X FU a1 a2 a3 a5 y1 (0 : Int32) M _ _ _ (lv_sub hl [2, 3, 4, 5, 7, 1, 0] rfl) hW h
def rX7_coded_b207 (M : Mm) : Option Mm :=
    (some M)
set_option maxRecDepth 100000 in
set_option maxHeartbeats 4000000 in
theorem sX7_coded_b207 {p : Program} {l : Launch} {e : Env} {s : State} {m : MethodId} {args : Array Value} {below : List Frame} {meth : Method} {c : Code} {G : Gg} {M' : Mm} (X : Cx p m c meth cX7_coded 6 s args RX7 none G) : ∀ (M : Mm) (ls : Array Slot) (H : Heap) (locs : List Loc), lv_has ls 6 [(0, .ref (G.2.2.2 31))] → Wo G s M H locs → rX7_coded_b207  M = some M' → W p l e (rm 3) s m args below meth c H locs 0 0 (Qv below args s G M') (F0 m 207 ls []) := by
    intro M ls H locs hl hW h
    unfold rX7_coded_b207 at h
    have hx := X.1.1
    have hb := X.1.2.1
    exact rt_v X hW h dX7_coded_207
def rX7_coded_b63_s (q63 : Int32 → Int32 → Int32 → Int32 → Int32 → Mm → Option Mm) (x1 : Int32) (x2 : Int32) (x3 : Int32) (x4 : Int32) (x5 : Int32) (M : Mm) : Option Mm :=
    (if x3 ≤ x5 then (bd2 (rX7_codesOf x4 x3 M) fun r19 M18 => if r19 = 0 then (Option.bind (rX7_fails (6 : Int32) x4 M18) fun M35 => rX7_coded_b207  M35) else (bd2 (rX7_has (x4 + x3) (1 : Int32) M18) fun r23 M22 => if r23 = 0 then (rX7_coded_b207  M22) else (if (x4 + x3) < 0 ∨ 1200 ≤ ((x4 + x3)).toNatClampNeg then none else if (x4 + x3) < 0 ∨ 1200 ≤ ((x4 + x3)).toNatClampNeg then none else bd2 (rX7_pays x2 (((3 : Int32) + ((2 : Int32) * x3)) + ((2 : Int32) * (M22.1 32 ((x4 + x3)).toNatClampNeg))) (M22.1 32 ((x4 + x3)).toNatClampNeg) M22) fun r29 M28 => if r29 = 0 then (rX7_coded_b207  M28) else (if (x4 + x3) < 0 ∨ 1200 ≤ ((x4 + x3)).toNatClampNeg then none else Option.bind (rX7_bits x1 (x2 + (2 : Int32)) x3 ((x4 + x3) + (1 : Int32)) (M28.1 32 ((x4 + x3)).toNatClampNeg) M28) fun M33 => rX7_coded_b207  M33)))) else (bd2 (rX7_has (x4 + x5) (1 : Int32) M) fun r38 M37 => if r38 = 0 then (some M37) else (if (x4 + x5) < 0 ∨ 1200 ≤ ((x4 + x5)).toNatClampNeg then none else if (M37.1 32 ((x4 + x5)).toNatClampNeg) ≤ (7 : Int32) then (lt_ (x5 + 1) fun y42 => q63 x1 x2 x3 x4 y42 M37) else (Option.bind (rX7_fails (6 : Int32) (x4 + x5) M37) fun M44 => some M44))))
def rX7_coded_b63 : Nat → Int32 → Int32 → Int32 → Int32 → Int32 → Mm → Option Mm
  | 0 => fun _ _ _ _ _ _ => none
  | n + 1 => rX7_coded_b63_s (rX7_coded_b63 n)
set_option maxRecDepth 100000 in
set_option maxHeartbeats 4000000 in
theorem sX7_coded_b63 {p : Program} {l : Launch} {e : Env} {s : State} {m : MethodId} {args : Array Value} {below : List Frame} {meth : Method} {c : Code} {G : Gg} {M' : Mm} (X : Cx p m c meth cX7_coded 6 s args RX7 none G) : ∀ (n : Nat), ∀ (x1 : Int32) (x2 : Int32) (x3 : Int32) (x4 : Int32) (x5 : Int32) (M : Mm) (ls : Array Slot) (H : Heap) (locs : List Loc), lv_has ls 6 [(0, .ref (G.2.2.2 31)), (1, .int x1), (2, .int x2), (3, .int x3), (4, .int x4), (5, .int x5)] → Wo G s M H locs → rX7_coded_b63 n x1 x2 x3 x4 x5 M = some M' → W p l e (rm 3) s m args below meth c H locs 0 0 (Qv below args s G M') (F0 m 63 ls []) := by
  intro n
  induction n with
  | zero =>
    intro x1 x2 x3 x4 x5 M ls H locs hl hW h
    cases (show (none : Option Mm) = some M' from h)
  | succ n hq630 =>
    have hq63 : ∀ (x1 : Int32) (x2 : Int32) (x3 : Int32) (x4 : Int32) (x5 : Int32) (M : Mm) (ls : Array Slot) (H : Heap) (locs : List Loc), lv_has ls 6 [(0, .ref (G.2.2.2 31)), (1, .int x1), (2, .int x2), (3, .int x3), (4, .int x4), (5, .int x5)] → Wo G s M H locs → (rX7_coded_b63 n) x1 x2 x3 x4 x5 M = some M' → W p l e (rm 3) s m args below meth c H locs 0 0 (Qv below args s G M') (F0 m 63 ls []) := hq630
    intro x1 x2 x3 x4 x5 M ls H locs hl hW h
    have h : rX7_coded_b63_s (rX7_coded_b63 n) x1 x2 x3 x4 x5 M = some M' := h
    unfold rX7_coded_b63_s at h
    have hx := X.1.1
    have hb := X.1.2.1
    refine lv_iload hx hb dX7_coded_63 (lv_at hl 5 rfl) ?_
    refine lv_iload_n hx hb dX7_coded_65 rfl (lv_at hl 3 rfl) ?_
    refine lv_icmp_ge (tgt := 116) hx hb dX7_coded_66 (by decide) (fun c16 => ?_) (fun c16 => ?_)
    · have h := ob_pos c16 h
      refine lv_aload_n hx hb dX7_coded_116 rfl (lv_at hl 0 rfl) ?_
      refine lv_iload hx hb dX7_coded_117 (lv_at hl 4 rfl) ?_
      refine lv_iload_n hx hb dX7_coded_119 rfl (lv_at hl 3 rfl) ?_
      obtain ⟨r19, M18, e17, h⟩ := ob_bd2 h
      refine bg_calli X hW (cX7_codesOf_k e17) rfl rfl kw7_184 kd_X7_codesOf rfl rfl ⟨Nat.le_of_ble_eq_true rfl, Nat.le_of_ble_eq_true rfl⟩ ⟨Nat.le_refl _, Nat.le_refl _⟩ hl.1 (Nat.le_of_ble_eq_true rfl) dX7_coded_120 (fun H locs hW => ?_)
      refine lv_if_ne (tgt := 137) hx hb dX7_coded_123 (by decide) (fun c20 => ?_) (fun c20 => ?_)
      · have h := ob_neg c20 h
        refine lv_aload_n hx hb dX7_coded_137 rfl (lv_at hl 0 rfl) ?_
        refine lv_iload hx hb dX7_coded_138 (lv_at hl 4 rfl) ?_
        refine lv_iload_n hx hb dX7_coded_140 rfl (lv_at hl 3 rfl) ?_
        refine lv_iadd hx hb dX7_coded_141 ?_
        refine lv_iconst (v := 1) hx hb dX7_coded_142 (by decide) ?_
        obtain ⟨r23, M22, e21, h⟩ := ob_bd2 h
        refine bg_calli X hW (cX7_has_k e21) rfl rfl kw7_149 kd_X7_has rfl rfl ⟨Nat.le_of_ble_eq_true rfl, Nat.le_of_ble_eq_true rfl⟩ ⟨Nat.le_refl _, Nat.le_refl _⟩ hl.1 (Nat.le_of_ble_eq_true rfl) dX7_coded_143 (fun H locs hW => ?_)
        refine lv_if_eq (tgt := 207) hx hb dX7_coded_146 (by decide) (fun c24 => ?_) (fun c24 => ?_)
        · have h := ob_pos c24 h
          exact sX7_coded_b207 X M22 _ _ _ (lv_sub hl [0] rfl) hW h
        · have h := ob_neg c24 h
          refine lv_aload_n hx hb dX7_coded_149 rfl (lv_at hl 0 rfl) ?_
          refine lv_iload_n hx hb dX7_coded_150 rfl (lv_at hl 2 rfl) ?_
          refine lv_iconst (v := 3) hx hb dX7_coded_151 (by decide) ?_
          refine lv_iconst (v := 2) hx hb dX7_coded_152 (by decide) ?_
          refine lv_iload_n hx hb dX7_coded_153 rfl (lv_at hl 3 rfl) ?_
          refine lv_imul hx hb dX7_coded_154 ?_
          refine lv_iadd hx hb dX7_coded_155 ?_
          refine lv_iconst (v := 2) hx hb dX7_coded_156 (by decide) ?_
          refine lv_aload_n hx hb dX7_coded_157 rfl (lv_at hl 0 rfl) ?_
          refine gf7_7 (cN := 31) X hW rfl dX7_coded_158 ?_
          refine lv_iload hx hb dX7_coded_161 (lv_at hl 4 rfl) ?_
          refine lv_iload_n hx hb dX7_coded_163 rfl (lv_at hl 3 rfl) ?_
          refine lv_iadd hx hb dX7_coded_164 ?_
          obtain ⟨g25, h⟩ := ob_gd h
          refine bg_ald (cN := 32) X hW (n := 1200) rfl g25 dX7_coded_165 ?_
          refine lv_imul hx hb dX7_coded_166 ?_
          refine lv_iadd hx hb dX7_coded_167 ?_
          refine lv_aload_n hx hb dX7_coded_168 rfl (lv_at hl 0 rfl) ?_
          refine gf7_7 (cN := 31) X hW rfl dX7_coded_169 ?_
          refine lv_iload hx hb dX7_coded_172 (lv_at hl 4 rfl) ?_
          refine lv_iload_n hx hb dX7_coded_174 rfl (lv_at hl 3 rfl) ?_
          refine lv_iadd hx hb dX7_coded_175 ?_
          obtain ⟨g26, h⟩ := ob_gd h
          refine bg_ald (cN := 32) X hW (n := 1200) rfl g26 dX7_coded_176 ?_
          obtain ⟨r29, M28, e27, h⟩ := ob_bd2 h
          refine bg_calli X hW (cX7_pays_k e27) rfl rfl kw7_156 kd_X7_pays rfl rfl ⟨Nat.le_of_ble_eq_true rfl, Nat.le_of_ble_eq_true rfl⟩ ⟨Nat.le_refl _, Nat.le_refl _⟩ hl.1 (Nat.le_of_ble_eq_true rfl) dX7_coded_177 (fun H locs hW => ?_)
          refine lv_if_eq (tgt := 207) hx hb dX7_coded_180 (by decide) (fun c30 => ?_) (fun c30 => ?_)
          · have h := ob_pos c30 h
            exact sX7_coded_b207 X M28 _ _ _ (lv_sub hl [0] rfl) hW h
          · have h := ob_neg c30 h
            refine lv_aload_n hx hb dX7_coded_183 rfl (lv_at hl 0 rfl) ?_
            refine lv_iload_n hx hb dX7_coded_184 rfl (lv_at hl 1 rfl) ?_
            refine lv_iload_n hx hb dX7_coded_185 rfl (lv_at hl 2 rfl) ?_
            refine lv_iconst (v := 2) hx hb dX7_coded_186 (by decide) ?_
            refine lv_iadd hx hb dX7_coded_187 ?_
            refine lv_iload_n hx hb dX7_coded_188 rfl (lv_at hl 3 rfl) ?_
            refine lv_iload hx hb dX7_coded_189 (lv_at hl 4 rfl) ?_
            refine lv_iload_n hx hb dX7_coded_191 rfl (lv_at hl 3 rfl) ?_
            refine lv_iadd hx hb dX7_coded_192 ?_
            refine lv_iconst (v := 1) hx hb dX7_coded_193 (by decide) ?_
            refine lv_iadd hx hb dX7_coded_194 ?_
            refine lv_aload_n hx hb dX7_coded_195 rfl (lv_at hl 0 rfl) ?_
            refine gf7_7 (cN := 31) X hW rfl dX7_coded_196 ?_
            refine lv_iload hx hb dX7_coded_199 (lv_at hl 4 rfl) ?_
            refine lv_iload_n hx hb dX7_coded_201 rfl (lv_at hl 3 rfl) ?_
            refine lv_iadd hx hb dX7_coded_202 ?_
            obtain ⟨g31, h⟩ := ob_gd h
            refine bg_ald (cN := 32) X hW (n := 1200) rfl g31 dX7_coded_203 ?_
            obtain ⟨M33, e32, h⟩ := ob_bind h
            refine bg_callv X hW (cX7_bits_k e32) rfl rfl kw7_187 kd_X7_bits rfl rfl ⟨Nat.le_of_ble_eq_true rfl, Nat.le_of_ble_eq_true rfl⟩ ⟨Nat.le_refl _, Nat.le_refl _⟩ hl.1 (Nat.le_of_ble_eq_true rfl) dX7_coded_204 (fun H locs hW => ?_)
            exact sX7_coded_b207 X M33 _ _ _ (lv_sub hl [0] rfl) hW h
      · have h := ob_pos c20 h
        refine lv_aload_n hx hb dX7_coded_126 rfl (lv_at hl 0 rfl) ?_
        refine lv_bipush (v := 6) hx hb dX7_coded_127 (by decide) ?_
        refine lv_iload hx hb dX7_coded_129 (lv_at hl 4 rfl) ?_
        obtain ⟨M35, e34, h⟩ := ob_bind h
        refine bg_callv X hW (cX7_fails_k e34) rfl rfl kw7_131 kd_X7_fails rfl rfl ⟨Nat.le_of_ble_eq_true rfl, Nat.le_of_ble_eq_true rfl⟩ ⟨Nat.le_refl _, Nat.le_refl _⟩ hl.1 (Nat.le_of_ble_eq_true rfl) dX7_coded_131 (fun H locs hW => ?_)
        refine lv_goto (tgt := 207) hx hb dX7_coded_134 (by decide) ?_
        exact sX7_coded_b207 X M35 _ _ _ (lv_sub hl [0] rfl) hW h
    · have h := ob_neg c16 h
      refine lv_aload_n hx hb dX7_coded_69 rfl (lv_at hl 0 rfl) ?_
      refine lv_iload hx hb dX7_coded_70 (lv_at hl 4 rfl) ?_
      refine lv_iload hx hb dX7_coded_72 (lv_at hl 5 rfl) ?_
      refine lv_iadd hx hb dX7_coded_74 ?_
      refine lv_iconst (v := 1) hx hb dX7_coded_75 (by decide) ?_
      obtain ⟨r38, M37, e36, h⟩ := ob_bd2 h
      refine bg_calli X hW (cX7_has_k e36) rfl rfl kw7_149 kd_X7_has rfl rfl ⟨Nat.le_of_ble_eq_true rfl, Nat.le_of_ble_eq_true rfl⟩ ⟨Nat.le_refl _, Nat.le_refl _⟩ hl.1 (Nat.le_of_ble_eq_true rfl) dX7_coded_76 (fun H locs hW => ?_)
      refine lv_if_ne (tgt := 83) hx hb dX7_coded_79 (by decide) (fun c39 => ?_) (fun c39 => ?_)
      · have h := ob_neg c39 h
        refine lv_aload_n hx hb dX7_coded_83 rfl (lv_at hl 0 rfl) ?_
        refine gf7_7 (cN := 31) X hW rfl dX7_coded_84 ?_
        refine lv_iload hx hb dX7_coded_87 (lv_at hl 4 rfl) ?_
        refine lv_iload hx hb dX7_coded_89 (lv_at hl 5 rfl) ?_
        refine lv_iadd hx hb dX7_coded_91 ?_
        obtain ⟨g40, h⟩ := ob_gd h
        refine bg_ald (cN := 32) X hW (n := 1200) rfl g40 dX7_coded_92 ?_
        refine lv_bipush (v := 7) hx hb dX7_coded_93 (by decide) ?_
        refine lv_icmp_le (tgt := 110) hx hb dX7_coded_95 (by decide) (fun c41 => ?_) (fun c41 => ?_)
        · have h := ob_pos c41 h
          obtain ⟨y42, ey42⟩ : ∃ y : Int32, y = (x5 + 1) := ⟨_, rfl⟩
          have h := ob_lt ey42 h
          refine lv_iinc (v := y42) (lv' := [(5, .int y42), (0, .ref (G.2.2.2 31)), (1, .int x1), (2, .int x2), (3, .int x3), (4, .int x4)]) hx hb dX7_coded_110 hl (k := 5) rfl (by rw [ey42]; rfl) (by decide) rfl (fun ls hl => ?_)
          refine lv_goto (tgt := 63) hx hb dX7_coded_113 (by decide) ?_
          exact hq63 x1 x2 x3 x4 y42 M37 _ _ _ (lv_sub hl [1, 2, 3, 4, 5, 0] rfl) hW h
        · have h := ob_neg c41 h
          refine lv_aload_n hx hb dX7_coded_98 rfl (lv_at hl 0 rfl) ?_
          refine lv_bipush (v := 6) hx hb dX7_coded_99 (by decide) ?_
          refine lv_iload hx hb dX7_coded_101 (lv_at hl 4 rfl) ?_
          refine lv_iload hx hb dX7_coded_103 (lv_at hl 5 rfl) ?_
          refine lv_iadd hx hb dX7_coded_105 ?_
          obtain ⟨M44, e43, h⟩ := ob_bind h
          refine bg_callv X hW (cX7_fails_k e43) rfl rfl kw7_131 kd_X7_fails rfl rfl ⟨Nat.le_of_ble_eq_true rfl, Nat.le_of_ble_eq_true rfl⟩ ⟨Nat.le_refl _, Nat.le_refl _⟩ hl.1 (Nat.le_of_ble_eq_true rfl) dX7_coded_106 (fun H locs hW => ?_)
          exact rt_v X hW h dX7_coded_109
      · have h := ob_pos c39 h
        exact rt_v X hW h dX7_coded_82
def rX7_coded (a1 : Int32) (a2 : Int32) (M : Mm) : Option Mm :=
    (bd2 (rX7_has a2 (2 : Int32) M) fun r3 M2 => if r3 = 0 then (some M2) else (if (a2 + (1 : Int32)) < 0 ∨ 1200 ≤ ((a2 + (1 : Int32))).toNatClampNeg then none else lt_ (M2.1 32 ((a2 + (1 : Int32))).toNatClampNeg) fun y6 => bd2 (rX7_in (y6).toInt64 (1 : Int64) (8 : Int64) M2) fun r9 M8 => if r9 = 0 then (Option.bind (rX7_fails (6 : Int32) (a2 + (1 : Int32)) M8) fun M46 => some M46) else (bd2 (rX7_has a2 ((2 : Int32) + y6) M8) fun r13 M12 => if r13 = 0 then (some M12) else (lt_ ((a2 + (2 : Int32)) + y6) fun y15 => rX7_coded_b63 FU a1 a2 y6 y15 (0 : Int32) M12))))
set_option maxRecDepth 100000 in
set_option maxHeartbeats 4000000 in
theorem cX7_coded_k {l : Launch} {G : Gg} {a1 : Int32} {a2 : Int32} {M M' : Mm} (h : rX7_coded a1 a2 M = some M') : CTv l yX7_coded cX7_coded 6 3 G [.ref (G.2.2.2 31), .int a1, .int a2] M M' := by
  unfold rX7_coded at h
  refine ct_v (by decide) (Nat.le_of_ble_eq_true rfl) (fun p e s m below meth c ls X hl hW => ?_)
  have hx := X.1.1
  have hb := X.1.2.1
  refine lv_aload_n hx hb dX7_coded_0 rfl (lv_at hl 0 rfl) ?_
  refine lv_iload_n hx hb dX7_coded_1 rfl (lv_at hl 2 rfl) ?_
  refine lv_iconst (v := 2) hx hb dX7_coded_2 (by decide) ?_
  obtain ⟨r3, M2, e1, h⟩ := ob_bd2 h
  refine bg_calli X hW (cX7_has_k e1) rfl rfl kw7_149 kd_X7_has rfl rfl ⟨Nat.le_of_ble_eq_true rfl, Nat.le_of_ble_eq_true rfl⟩ ⟨Nat.le_refl _, Nat.le_refl _⟩ hl.1 (Nat.le_of_ble_eq_true rfl) dX7_coded_3 (fun H locs hW => ?_)
  refine lv_if_ne (tgt := 10) hx hb dX7_coded_6 (by decide) (fun c4 => ?_) (fun c4 => ?_)
  · have h := ob_neg c4 h
    refine lv_aload_n hx hb dX7_coded_10 rfl (lv_at hl 0 rfl) ?_
    refine gf7_7 (cN := 31) X hW rfl dX7_coded_11 ?_
    refine lv_iload_n hx hb dX7_coded_14 rfl (lv_at hl 2 rfl) ?_
    refine lv_iconst (v := 1) hx hb dX7_coded_15 (by decide) ?_
    refine lv_iadd hx hb dX7_coded_16 ?_
    obtain ⟨g5, h⟩ := ob_gd h
    refine bg_ald (cN := 32) X hW (n := 1200) rfl g5 dX7_coded_17 ?_
    refine lv_topi (fun y6 ey6 => ?_)
    have h := ob_lt ey6 h
    refine lv_istore_n (lv' := [(3, .int y6), (0, .ref (G.2.2.2 31)), (1, .int a1), (2, .int a2)]) hx hb dX7_coded_18 rfl hl (by decide) rfl (fun ls hl => ?_)
    refine lv_iload_n hx hb dX7_coded_19 rfl (lv_at hl 0 rfl) ?_
    refine lv_i2l hx hb dX7_coded_20 rfl ?_
    refine lv_lconst (v := 1) hx hb dX7_coded_21 (by decide) ?_
    refine lv_ldc2 (v := 8) hx hb X.1.2.2.2.1 (X.1.2.2.2.2 _ mw628) dX7_coded_22 ?_
    obtain ⟨r9, M8, e7, h⟩ := ob_bd2 h
    refine bg_calls X hW (cX7_in_k e7) kw7_74 kd_X7_in rfl rfl ⟨Nat.le_of_ble_eq_true rfl, Nat.le_of_ble_eq_true rfl⟩ ⟨Nat.le_refl _, Nat.le_refl _⟩ hl.1 (Nat.le_of_ble_eq_true rfl) dX7_coded_25 (fun H locs hW => ?_)
    refine lv_if_ne (tgt := 41) hx hb dX7_coded_28 (by decide) (fun c10 => ?_) (fun c10 => ?_)
    · have h := ob_neg c10 h
      refine lv_aload_n hx hb dX7_coded_41 rfl (lv_at hl 1 rfl) ?_
      refine lv_iload_n hx hb dX7_coded_42 rfl (lv_at hl 3 rfl) ?_
      refine lv_iconst (v := 2) hx hb dX7_coded_43 (by decide) ?_
      refine lv_iload_n hx hb dX7_coded_44 rfl (lv_at hl 0 rfl) ?_
      refine lv_iadd hx hb dX7_coded_45 ?_
      obtain ⟨r13, M12, e11, h⟩ := ob_bd2 h
      refine bg_calli X hW (cX7_has_k e11) rfl rfl kw7_149 kd_X7_has rfl rfl ⟨Nat.le_of_ble_eq_true rfl, Nat.le_of_ble_eq_true rfl⟩ ⟨Nat.le_refl _, Nat.le_refl _⟩ hl.1 (Nat.le_of_ble_eq_true rfl) dX7_coded_46 (fun H locs hW => ?_)
      refine lv_if_ne (tgt := 53) hx hb dX7_coded_49 (by decide) (fun c14 => ?_) (fun c14 => ?_)
      · have h := ob_neg c14 h
        refine lv_iload_n hx hb dX7_coded_53 rfl (lv_at hl 3 rfl) ?_
        refine lv_iconst (v := 2) hx hb dX7_coded_54 (by decide) ?_
        refine lv_iadd hx hb dX7_coded_55 ?_
        refine lv_iload_n hx hb dX7_coded_56 rfl (lv_at hl 0 rfl) ?_
        refine lv_iadd hx hb dX7_coded_57 ?_
        refine lv_topi (fun y15 ey15 => ?_)
        have h := ob_lt ey15 h
        refine lv_istore (lv' := [(4, .int y15), (3, .int y6), (0, .ref (G.2.2.2 31)), (1, .int a1), (2, .int a2)]) hx hb dX7_coded_58 hl (by decide) rfl (fun ls hl => ?_)
        refine lv_iconst (v := 0) hx hb dX7_coded_60 (by decide) ?_
        refine lv_istore (lv' := [(5, .int (0 : Int32)), (4, .int y15), (3, .int y6), (0, .ref (G.2.2.2 31)), (1, .int a1), (2, .int a2)]) hx hb dX7_coded_61 hl (by decide) rfl (fun ls hl => ?_)
        exact sX7_coded_b63 X FU a1 a2 y6 y15 (0 : Int32) M12 _ _ _ (lv_sub hl [3, 4, 5, 2, 1, 0] rfl) hW h
      · have h := ob_pos c14 h
        exact rt_v X hW h dX7_coded_52
    · have h := ob_pos c10 h
      refine lv_aload_n hx hb dX7_coded_31 rfl (lv_at hl 1 rfl) ?_
      refine lv_bipush (v := 6) hx hb dX7_coded_32 (by decide) ?_
      refine lv_iload_n hx hb dX7_coded_34 rfl (lv_at hl 3 rfl) ?_
      refine lv_iconst (v := 1) hx hb dX7_coded_35 (by decide) ?_
      refine lv_iadd hx hb dX7_coded_36 ?_
      obtain ⟨M46, e45, h⟩ := ob_bind h
      refine bg_callv X hW (cX7_fails_k e45) rfl rfl kw7_131 kd_X7_fails rfl rfl ⟨Nat.le_of_ble_eq_true rfl, Nat.le_of_ble_eq_true rfl⟩ ⟨Nat.le_refl _, Nat.le_refl _⟩ hl.1 (Nat.le_of_ble_eq_true rfl) dX7_coded_37 (fun H locs hW => ?_)
      exact rt_v X hW h dX7_coded_40
  · have h := ob_pos c4 h
    exact rt_v X hW h dX7_coded_9
