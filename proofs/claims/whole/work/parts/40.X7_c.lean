def rX7_bits_b232_s (q232 : Int32 → Int32 → Int32 → Mm → Option Mm) (x1 : Int32) (x6 : Int32) (x7 : Int32) (M : Mm) : Option Mm :=
    (if ((8 : Int32) * x7) ≤ x6 then (Option.bind (rX7_ends x1 x7 M) fun M7 => some M7) else (if (x6 / (8 : Int32)) < 0 ∨ 1200 ≤ ((x6 / (8 : Int32))).toNatClampNeg then none else if (((M.1 32 ((x6 / (8 : Int32))).toNatClampNeg) >>> (((7 : Int32) - (x6 - x6 / (8 : Int32) * (8 : Int32))) &&& 31)) &&& (1 : Int32)) = (1 : Int32) then (Option.bind (rX7_fails (8 : Int32) (x6 / (8 : Int32)) M) fun M15 => some M15) else (lt_ (x6 + 1) fun y12 => q232 x1 y12 x7 M)))
def rX7_bits_b232 : Nat → Int32 → Int32 → Int32 → Mm → Option Mm
  | 0 => fun _ _ _ _ => none
  | n + 1 => rX7_bits_b232_s (rX7_bits_b232 n)
set_option maxRecDepth 100000 in
set_option maxHeartbeats 4000000 in
theorem sX7_bits_b232 {p : Program} {l : Launch} {e : Env} {s : State} {m : MethodId} {args : Array Value} {below : List Frame} {meth : Method} {c : Code} {G : Gg} {M' : Mm} (X : Cx p m c meth cX7_bits 15 s args RX7 none G) : ∀ (n : Nat), ∀ (x1 : Int32) (x6 : Int32) (x7 : Int32) (M : Mm) (ls : Array Slot) (H : Heap) (locs : List Loc), lv_has ls 15 [(0, .ref (G.2.2.2 31)), (1, .int x1), (6, .int x6), (7, .int x7)] → Wo G s M H locs → rX7_bits_b232 n x1 x6 x7 M = some M' → W p l e (rm 2) s m args below meth c H locs 0 0 (Qv below args s G M') (F0 m 232 ls []) := by
  intro n
  induction n with
  | zero =>
    intro x1 x6 x7 M ls H locs hl hW h
    cases (show (none : Option Mm) = some M' from h)
  | succ n hq2320 =>
    have hq232 : ∀ (x1 : Int32) (x6 : Int32) (x7 : Int32) (M : Mm) (ls : Array Slot) (H : Heap) (locs : List Loc), lv_has ls 15 [(0, .ref (G.2.2.2 31)), (1, .int x1), (6, .int x6), (7, .int x7)] → Wo G s M H locs → (rX7_bits_b232 n) x1 x6 x7 M = some M' → W p l e (rm 2) s m args below meth c H locs 0 0 (Qv below args s G M') (F0 m 232 ls []) := hq2320
    intro x1 x6 x7 M ls H locs hl hW h
    have h : rX7_bits_b232_s (rX7_bits_b232 n) x1 x6 x7 M = some M' := h
    unfold rX7_bits_b232_s at h
    have hx := X.1.1
    have hb := X.1.2.1
    refine lv_iload hx hb dX7_bits_232 (lv_at hl 2 rfl) ?_
    refine lv_bipush (v := 8) hx hb dX7_bits_234 (by decide) ?_
    refine lv_iload hx hb dX7_bits_236 (lv_at hl 3 rfl) ?_
    refine lv_imul hx hb dX7_bits_238 ?_
    refine lv_icmp_ge (tgt := 285) hx hb dX7_bits_239 (by decide) (fun c5 => ?_) (fun c5 => ?_)
    · have h := ob_pos c5 h
      refine lv_aload_n hx hb dX7_bits_285 rfl (lv_at hl 0 rfl) ?_
      refine lv_iload_n hx hb dX7_bits_286 rfl (lv_at hl 1 rfl) ?_
      refine lv_iload hx hb dX7_bits_287 (lv_at hl 3 rfl) ?_
      obtain ⟨M7, e6, h⟩ := ob_bind h
      refine bg_callv X hW (cX7_ends_k e6) rfl rfl kw7_163 kd_X7_ends rfl rfl ⟨Nat.le_of_ble_eq_true rfl, Nat.le_of_ble_eq_true rfl⟩ ⟨Nat.le_refl _, Nat.le_refl _⟩ hl.1 (Nat.le_of_ble_eq_true rfl) dX7_bits_289 (fun H locs hW => ?_)
      exact rt_v X hW h dX7_bits_292
    · have h := ob_neg c5 h
      refine lv_aload_n hx hb dX7_bits_242 rfl (lv_at hl 0 rfl) ?_
      refine gf7_7 (cN := 31) X hW rfl dX7_bits_243 ?_
      refine lv_iload hx hb dX7_bits_246 (lv_at hl 2 rfl) ?_
      refine lv_bipush (v := 8) hx hb dX7_bits_248 (by decide) ?_
      have g8 : ¬ (8 : Int32) = 0 := by decide
      refine lv_idiv hx hb dX7_bits_250 g8 ?_
      obtain ⟨g9, h⟩ := ob_gd h
      refine bg_ald (cN := 32) X hW (n := 1200) rfl g9 dX7_bits_251 ?_
      refine lv_bipush (v := 7) hx hb dX7_bits_252 (by decide) ?_
      refine lv_iload hx hb dX7_bits_254 (lv_at hl 2 rfl) ?_
      refine lv_bipush (v := 8) hx hb dX7_bits_256 (by decide) ?_
      have g10 : ¬ (8 : Int32) = 0 := by decide
      refine lv_irem hx hb dX7_bits_258 g10 ?_
      refine lv_isub hx hb dX7_bits_259 ?_
      refine lv_ishr hx hb dX7_bits_260 ?_
      refine lv_iconst (v := 1) hx hb dX7_bits_261 (by decide) ?_
      refine lv_iand hx hb dX7_bits_262 ?_
      refine lv_iconst (v := 1) hx hb dX7_bits_263 (by decide) ?_
      refine lv_icmp_ne (tgt := 279) hx hb dX7_bits_264 (by decide) (fun c11 => ?_) (fun c11 => ?_)
      · have h := ob_neg c11 h
        obtain ⟨y12, ey12⟩ : ∃ y : Int32, y = (x6 + 1) := ⟨_, rfl⟩
        have h := ob_lt ey12 h
        refine lv_iinc (v := y12) (lv' := [(6, .int y12), (0, .ref (G.2.2.2 31)), (1, .int x1), (7, .int x7)]) hx hb dX7_bits_279 hl (k := 2) rfl (by rw [ey12]; rfl) (by decide) rfl (fun ls hl => ?_)
        refine lv_goto (tgt := 232) hx hb dX7_bits_282 (by decide) ?_
        exact hq232 x1 y12 x7 M _ _ _ (lv_sub hl [1, 2, 0, 3] rfl) hW h
      · have h := ob_pos c11 h
        refine lv_aload_n hx hb dX7_bits_267 rfl (lv_at hl 0 rfl) ?_
        refine lv_bipush (v := 8) hx hb dX7_bits_268 (by decide) ?_
        refine lv_iload hx hb dX7_bits_270 (lv_at hl 2 rfl) ?_
        refine lv_bipush (v := 8) hx hb dX7_bits_272 (by decide) ?_
        have g13 : ¬ (8 : Int32) = 0 := by decide
        refine lv_idiv hx hb dX7_bits_274 g13 ?_
        obtain ⟨M15, e14, h⟩ := ob_bind h
        refine bg_callv X hW (cX7_fails_k e14) rfl rfl kw7_131 kd_X7_fails rfl rfl ⟨Nat.le_of_ble_eq_true rfl, Nat.le_of_ble_eq_true rfl⟩ ⟨Nat.le_refl _, Nat.le_refl _⟩ hl.1 (Nat.le_of_ble_eq_true rfl) dX7_bits_275 (fun H locs hW => ?_)
        exact rt_v X hW h dX7_bits_278
def rX7_bits_b213 (q33 : Int32 → Int32 → Int32 → Int32 → Int32 → Int32 → Int32 → Int32 → Int32 → Int32 → Mm → Option Mm) (x1 : Int32) (x2 : Int32) (x3 : Int32) (x5 : Int32) (x6 : Int32) (x7 : Int32) (x8 : Int32) (x9 : Int32) (x10 : Int32) (x11 : Int32) (M : Mm) : Option Mm :=
    (q33 x1 x2 x3 x5 x6 x7 x8 x9 x10 x11 M)
set_option maxRecDepth 100000 in
set_option maxHeartbeats 4000000 in
theorem sX7_bits_b213 {p : Program} {l : Launch} {e : Env} {s : State} {m : MethodId} {args : Array Value} {below : List Frame} {meth : Method} {c : Code} {G : Gg} {M' : Mm} (X : Cx p m c meth cX7_bits 15 s args RX7 none G) {q33 : Int32 → Int32 → Int32 → Int32 → Int32 → Int32 → Int32 → Int32 → Int32 → Int32 → Mm → Option Mm} (hq33 : ∀ (x1 : Int32) (x2 : Int32) (x3 : Int32) (x5 : Int32) (x6 : Int32) (x7 : Int32) (x8 : Int32) (x9 : Int32) (x10 : Int32) (x11 : Int32) (M : Mm) (ls : Array Slot) (H : Heap) (locs : List Loc), lv_has ls 15 [(0, .ref (G.2.2.2 31)), (1, .int x1), (2, .int x2), (3, .int x3), (5, .int x5), (6, .int x6), (7, .int x7), (8, .int x8), (9, .int x9), (10, .int x10), (11, .int x11)] → Wo G s M H locs → q33 x1 x2 x3 x5 x6 x7 x8 x9 x10 x11 M = some M' → W p l e (rm 2) s m args below meth c H locs 0 0 (Qv below args s G M') (F0 m 33 ls [])) : ∀ (x1 : Int32) (x2 : Int32) (x3 : Int32) (x5 : Int32) (x6 : Int32) (x7 : Int32) (x8 : Int32) (x9 : Int32) (x10 : Int32) (x11 : Int32) (M : Mm) (ls : Array Slot) (H : Heap) (locs : List Loc), lv_has ls 15 [(0, .ref (G.2.2.2 31)), (1, .int x1), (2, .int x2), (3, .int x3), (5, .int x5), (6, .int x6), (7, .int x7), (8, .int x8), (9, .int x9), (10, .int x10), (11, .int x11)] → Wo G s M H locs → rX7_bits_b213 q33 x1 x2 x3 x5 x6 x7 x8 x9 x10 x11 M = some M' → W p l e (rm 2) s m args below meth c H locs 0 0 (Qv below args s G M') (F0 m 213 ls []) := by
    intro x1 x2 x3 x5 x6 x7 x8 x9 x10 x11 M ls H locs hl hW h
    unfold rX7_bits_b213 at h
    have hx := X.1.1
    have hb := X.1.2.1
    refine lv_goto (tgt := 33) hx hb dX7_bits_213 (by decide) ?_
    exact hq33 x1 x2 x3 x5 x6 x7 x8 x9 x10 x11 M _ _ _ (lv_sub hl [0, 1, 2, 3, 4, 5, 6, 7, 8, 9, 10] rfl) hW h
def rX7_bits_b194 (q33 : Int32 → Int32 → Int32 → Int32 → Int32 → Int32 → Int32 → Int32 → Int32 → Int32 → Mm → Option Mm) (x1 : Int32) (x2 : Int32) (x3 : Int32) (x5 : Int32) (x6 : Int32) (x7 : Int32) (x8 : Int32) (x9 : Int32) (x10 : Int32) (x11 : Int32) (x12 : Int32) (M : Mm) : Option Mm :=
    (if x11 = 0 then (if x12 = 0 then (Option.bind (rX7_fails (7 : Int32) x10 M) fun M35 => some M35) else (rX7_bits_b213 q33 x1 x2 x3 x5 x6 x7 x8 x9 x10 x11 M)) else (rX7_bits_b213 q33 x1 x2 x3 x5 x6 x7 x8 x9 x10 x11 M))
set_option maxRecDepth 100000 in
set_option maxHeartbeats 4000000 in
theorem sX7_bits_b194 {p : Program} {l : Launch} {e : Env} {s : State} {m : MethodId} {args : Array Value} {below : List Frame} {meth : Method} {c : Code} {G : Gg} {M' : Mm} (X : Cx p m c meth cX7_bits 15 s args RX7 none G) {q33 : Int32 → Int32 → Int32 → Int32 → Int32 → Int32 → Int32 → Int32 → Int32 → Int32 → Mm → Option Mm} (hq33 : ∀ (x1 : Int32) (x2 : Int32) (x3 : Int32) (x5 : Int32) (x6 : Int32) (x7 : Int32) (x8 : Int32) (x9 : Int32) (x10 : Int32) (x11 : Int32) (M : Mm) (ls : Array Slot) (H : Heap) (locs : List Loc), lv_has ls 15 [(0, .ref (G.2.2.2 31)), (1, .int x1), (2, .int x2), (3, .int x3), (5, .int x5), (6, .int x6), (7, .int x7), (8, .int x8), (9, .int x9), (10, .int x10), (11, .int x11)] → Wo G s M H locs → q33 x1 x2 x3 x5 x6 x7 x8 x9 x10 x11 M = some M' → W p l e (rm 2) s m args below meth c H locs 0 0 (Qv below args s G M') (F0 m 33 ls [])) : ∀ (x1 : Int32) (x2 : Int32) (x3 : Int32) (x5 : Int32) (x6 : Int32) (x7 : Int32) (x8 : Int32) (x9 : Int32) (x10 : Int32) (x11 : Int32) (x12 : Int32) (M : Mm) (ls : Array Slot) (H : Heap) (locs : List Loc), lv_has ls 15 [(0, .ref (G.2.2.2 31)), (1, .int x1), (2, .int x2), (3, .int x3), (5, .int x5), (6, .int x6), (7, .int x7), (8, .int x8), (9, .int x9), (10, .int x10), (11, .int x11), (12, .int x12)] → Wo G s M H locs → rX7_bits_b194 q33 x1 x2 x3 x5 x6 x7 x8 x9 x10 x11 x12 M = some M' → W p l e (rm 2) s m args below meth c H locs 0 0 (Qv below args s G M') (F0 m 194 ls []) := by
    intro x1 x2 x3 x5 x6 x7 x8 x9 x10 x11 x12 M ls H locs hl hW h
    unfold rX7_bits_b194 at h
    have hx := X.1.1
    have hb := X.1.2.1
    refine lv_iload hx hb dX7_bits_194 (lv_at hl 10 rfl) ?_
    refine lv_if_ne (tgt := 213) hx hb dX7_bits_196 (by decide) (fun c32 => ?_) (fun c32 => ?_)
    · have h := ob_neg c32 h
      exact sX7_bits_b213 X hq33 x1 x2 x3 x5 x6 x7 x8 x9 x10 x11 M _ _ _ (lv_sub hl [0, 1, 2, 3, 4, 5, 6, 7, 8, 9, 10] rfl) hW h
    · have h := ob_pos c32 h
      refine lv_iload hx hb dX7_bits_199 (lv_at hl 11 rfl) ?_
      refine lv_if_ne (tgt := 213) hx hb dX7_bits_201 (by decide) (fun c33 => ?_) (fun c33 => ?_)
      · have h := ob_neg c33 h
        exact sX7_bits_b213 X hq33 x1 x2 x3 x5 x6 x7 x8 x9 x10 x11 M _ _ _ (lv_sub hl [0, 1, 2, 3, 4, 5, 6, 7, 8, 9, 10] rfl) hW h
      · have h := ob_pos c33 h
        refine lv_aload_n hx hb dX7_bits_204 rfl (lv_at hl 0 rfl) ?_
        refine lv_bipush (v := 7) hx hb dX7_bits_205 (by decide) ?_
        refine lv_iload hx hb dX7_bits_207 (lv_at hl 9 rfl) ?_
        obtain ⟨M35, e34, h⟩ := ob_bind h
        refine bg_callv X hW (cX7_fails_k e34) rfl rfl kw7_131 kd_X7_fails rfl rfl ⟨Nat.le_of_ble_eq_true rfl, Nat.le_of_ble_eq_true rfl⟩ ⟨Nat.le_refl _, Nat.le_refl _⟩ hl.1 (Nat.le_of_ble_eq_true rfl) dX7_bits_209 (fun H locs hW => ?_)
        exact rt_v X hW h dX7_bits_212
def rX7_bits_b186 (q92 : Int32 → Int32 → Int32 → Int32 → Int32 → Int32 → Int32 → Int32 → Int32 → Int32 → Int32 → Int32 → Mm → Option Mm) (x1 : Int32) (x2 : Int32) (x3 : Int32) (x5 : Int32) (x6 : Int32) (x7 : Int32) (x8 : Int32) (x9 : Int32) (x10 : Int32) (x11 : Int32) (x13 : Int32) (s0 : Int32) (M : Mm) : Option Mm :=
    (lt_ (x13 + 1) fun y41 => q92 x1 x2 x3 x5 x6 x7 x8 x9 x10 x11 s0 y41 M)
set_option maxRecDepth 100000 in
set_option maxHeartbeats 4000000 in
theorem sX7_bits_b186 {p : Program} {l : Launch} {e : Env} {s : State} {m : MethodId} {args : Array Value} {below : List Frame} {meth : Method} {c : Code} {G : Gg} {M' : Mm} (X : Cx p m c meth cX7_bits 15 s args RX7 none G) {q92 : Int32 → Int32 → Int32 → Int32 → Int32 → Int32 → Int32 → Int32 → Int32 → Int32 → Int32 → Int32 → Mm → Option Mm} (hq92 : ∀ (x1 : Int32) (x2 : Int32) (x3 : Int32) (x5 : Int32) (x6 : Int32) (x7 : Int32) (x8 : Int32) (x9 : Int32) (x10 : Int32) (x11 : Int32) (x12 : Int32) (x13 : Int32) (M : Mm) (ls : Array Slot) (H : Heap) (locs : List Loc), lv_has ls 15 [(0, .ref (G.2.2.2 31)), (1, .int x1), (2, .int x2), (3, .int x3), (5, .int x5), (6, .int x6), (7, .int x7), (8, .int x8), (9, .int x9), (10, .int x10), (11, .int x11), (12, .int x12), (13, .int x13)] → Wo G s M H locs → q92 x1 x2 x3 x5 x6 x7 x8 x9 x10 x11 x12 x13 M = some M' → W p l e (rm 2) s m args below meth c H locs 0 0 (Qv below args s G M') (F0 m 92 ls [])) : ∀ (x1 : Int32) (x2 : Int32) (x3 : Int32) (x5 : Int32) (x6 : Int32) (x7 : Int32) (x8 : Int32) (x9 : Int32) (x10 : Int32) (x11 : Int32) (x13 : Int32) (s0 : Int32) (M : Mm) (ls : Array Slot) (H : Heap) (locs : List Loc), lv_has ls 15 [(0, .ref (G.2.2.2 31)), (1, .int x1), (2, .int x2), (3, .int x3), (5, .int x5), (6, .int x6), (7, .int x7), (8, .int x8), (9, .int x9), (10, .int x10), (11, .int x11), (13, .int x13)] → Wo G s M H locs → rX7_bits_b186 q92 x1 x2 x3 x5 x6 x7 x8 x9 x10 x11 x13 s0 M = some M' → W p l e (rm 2) s m args below meth c H locs 0 0 (Qv below args s G M') (F0 m 186 ls [.int s0]) := by
    intro x1 x2 x3 x5 x6 x7 x8 x9 x10 x11 x13 s0 M ls H locs hl hW h
    unfold rX7_bits_b186 at h
    have hx := X.1.1
    have hb := X.1.2.1
    refine lv_istore (lv' := [(12, .int s0), (0, .ref (G.2.2.2 31)), (1, .int x1), (2, .int x2), (3, .int x3), (5, .int x5), (6, .int x6), (7, .int x7), (8, .int x8), (9, .int x9), (10, .int x10), (11, .int x11), (13, .int x13)]) hx hb dX7_bits_186 hl (by decide) rfl (fun ls hl => ?_)
    obtain ⟨y41, ey41⟩ : ∃ y : Int32, y = (x13 + 1) := ⟨_, rfl⟩
    have h := ob_lt ey41 h
    refine lv_iinc (v := y41) (lv' := [(13, .int y41), (12, .int s0), (0, .ref (G.2.2.2 31)), (1, .int x1), (2, .int x2), (3, .int x3), (5, .int x5), (6, .int x6), (7, .int x7), (8, .int x8), (9, .int x9), (10, .int x10), (11, .int x11)]) hx hb dX7_bits_188 hl (k := 12) rfl (by rw [ey41]; rfl) (by decide) rfl (fun ls hl => ?_)
    refine lv_goto (tgt := 92) hx hb dX7_bits_191 (by decide) ?_
    exact hq92 x1 x2 x3 x5 x6 x7 x8 x9 x10 x11 s0 y41 M _ _ _ (lv_sub hl [2, 3, 4, 5, 6, 7, 8, 9, 10, 11, 12, 1, 0] rfl) hW h
def rX7_bits_b181 (q92 : Int32 → Int32 → Int32 → Int32 → Int32 → Int32 → Int32 → Int32 → Int32 → Int32 → Int32 → Int32 → Mm → Option Mm) (x1 : Int32) (x2 : Int32) (x3 : Int32) (x5 : Int32) (x6 : Int32) (x7 : Int32) (x8 : Int32) (x9 : Int32) (x10 : Int32) (x11 : Int32) (x13 : Int32) (M : Mm) : Option Mm :=
    (rX7_bits_b186 q92 x1 x2 x3 x5 x6 x7 x8 x9 x10 x11 x13 (1 : Int32) M)
set_option maxRecDepth 100000 in
set_option maxHeartbeats 4000000 in
theorem sX7_bits_b181 {p : Program} {l : Launch} {e : Env} {s : State} {m : MethodId} {args : Array Value} {below : List Frame} {meth : Method} {c : Code} {G : Gg} {M' : Mm} (X : Cx p m c meth cX7_bits 15 s args RX7 none G) {q92 : Int32 → Int32 → Int32 → Int32 → Int32 → Int32 → Int32 → Int32 → Int32 → Int32 → Int32 → Int32 → Mm → Option Mm} (hq92 : ∀ (x1 : Int32) (x2 : Int32) (x3 : Int32) (x5 : Int32) (x6 : Int32) (x7 : Int32) (x8 : Int32) (x9 : Int32) (x10 : Int32) (x11 : Int32) (x12 : Int32) (x13 : Int32) (M : Mm) (ls : Array Slot) (H : Heap) (locs : List Loc), lv_has ls 15 [(0, .ref (G.2.2.2 31)), (1, .int x1), (2, .int x2), (3, .int x3), (5, .int x5), (6, .int x6), (7, .int x7), (8, .int x8), (9, .int x9), (10, .int x10), (11, .int x11), (12, .int x12), (13, .int x13)] → Wo G s M H locs → q92 x1 x2 x3 x5 x6 x7 x8 x9 x10 x11 x12 x13 M = some M' → W p l e (rm 2) s m args below meth c H locs 0 0 (Qv below args s G M') (F0 m 92 ls [])) : ∀ (x1 : Int32) (x2 : Int32) (x3 : Int32) (x5 : Int32) (x6 : Int32) (x7 : Int32) (x8 : Int32) (x9 : Int32) (x10 : Int32) (x11 : Int32) (x13 : Int32) (M : Mm) (ls : Array Slot) (H : Heap) (locs : List Loc), lv_has ls 15 [(0, .ref (G.2.2.2 31)), (1, .int x1), (2, .int x2), (3, .int x3), (5, .int x5), (6, .int x6), (7, .int x7), (8, .int x8), (9, .int x9), (10, .int x10), (11, .int x11), (13, .int x13)] → Wo G s M H locs → rX7_bits_b181 q92 x1 x2 x3 x5 x6 x7 x8 x9 x10 x11 x13 M = some M' → W p l e (rm 2) s m args below meth c H locs 0 0 (Qv below args s G M') (F0 m 181 ls []) := by
    intro x1 x2 x3 x5 x6 x7 x8 x9 x10 x11 x13 M ls H locs hl hW h
    unfold rX7_bits_b181 at h
    have hx := X.1.1
    have hb := X.1.2.1
    refine lv_iconst (v := 1) hx hb dX7_bits_181 (by decide) ?_
    refine lv_goto (tgt := 186) hx hb dX7_bits_182 (by decide) ?_
    exact sX7_bits_b186 X hq92 x1 x2 x3 x5 x6 x7 x8 x9 x10 x11 x13 (1 : Int32) M _ _ _ (lv_sub hl [0, 1, 2, 3, 4, 5, 6, 7, 8, 9, 10, 11] rfl) hW h
def rX7_bits_b185 (q92 : Int32 → Int32 → Int32 → Int32 → Int32 → Int32 → Int32 → Int32 → Int32 → Int32 → Int32 → Int32 → Mm → Option Mm) (x1 : Int32) (x2 : Int32) (x3 : Int32) (x5 : Int32) (x6 : Int32) (x7 : Int32) (x8 : Int32) (x9 : Int32) (x10 : Int32) (x11 : Int32) (x13 : Int32) (M : Mm) : Option Mm :=
    (rX7_bits_b186 q92 x1 x2 x3 x5 x6 x7 x8 x9 x10 x11 x13 (0 : Int32) M)
set_option maxRecDepth 100000 in
set_option maxHeartbeats 4000000 in
theorem sX7_bits_b185 {p : Program} {l : Launch} {e : Env} {s : State} {m : MethodId} {args : Array Value} {below : List Frame} {meth : Method} {c : Code} {G : Gg} {M' : Mm} (X : Cx p m c meth cX7_bits 15 s args RX7 none G) {q92 : Int32 → Int32 → Int32 → Int32 → Int32 → Int32 → Int32 → Int32 → Int32 → Int32 → Int32 → Int32 → Mm → Option Mm} (hq92 : ∀ (x1 : Int32) (x2 : Int32) (x3 : Int32) (x5 : Int32) (x6 : Int32) (x7 : Int32) (x8 : Int32) (x9 : Int32) (x10 : Int32) (x11 : Int32) (x12 : Int32) (x13 : Int32) (M : Mm) (ls : Array Slot) (H : Heap) (locs : List Loc), lv_has ls 15 [(0, .ref (G.2.2.2 31)), (1, .int x1), (2, .int x2), (3, .int x3), (5, .int x5), (6, .int x6), (7, .int x7), (8, .int x8), (9, .int x9), (10, .int x10), (11, .int x11), (12, .int x12), (13, .int x13)] → Wo G s M H locs → q92 x1 x2 x3 x5 x6 x7 x8 x9 x10 x11 x12 x13 M = some M' → W p l e (rm 2) s m args below meth c H locs 0 0 (Qv below args s G M') (F0 m 92 ls [])) : ∀ (x1 : Int32) (x2 : Int32) (x3 : Int32) (x5 : Int32) (x6 : Int32) (x7 : Int32) (x8 : Int32) (x9 : Int32) (x10 : Int32) (x11 : Int32) (x13 : Int32) (M : Mm) (ls : Array Slot) (H : Heap) (locs : List Loc), lv_has ls 15 [(0, .ref (G.2.2.2 31)), (1, .int x1), (2, .int x2), (3, .int x3), (5, .int x5), (6, .int x6), (7, .int x7), (8, .int x8), (9, .int x9), (10, .int x10), (11, .int x11), (13, .int x13)] → Wo G s M H locs → rX7_bits_b185 q92 x1 x2 x3 x5 x6 x7 x8 x9 x10 x11 x13 M = some M' → W p l e (rm 2) s m args below meth c H locs 0 0 (Qv below args s G M') (F0 m 185 ls []) := by
    intro x1 x2 x3 x5 x6 x7 x8 x9 x10 x11 x13 M ls H locs hl hW h
    unfold rX7_bits_b185 at h
    have hx := X.1.1
    have hb := X.1.2.1
    refine lv_iconst (v := 0) hx hb dX7_bits_185 (by decide) ?_
    exact sX7_bits_b186 X hq92 x1 x2 x3 x5 x6 x7 x8 x9 x10 x11 x13 (0 : Int32) M _ _ _ (lv_sub hl [0, 1, 2, 3, 4, 5, 6, 7, 8, 9, 10, 11] rfl) hW h
def rX7_bits_b151 (q92 : Int32 → Int32 → Int32 → Int32 → Int32 → Int32 → Int32 → Int32 → Int32 → Int32 → Int32 → Int32 → Mm → Option Mm) (x1 : Int32) (x2 : Int32) (x3 : Int32) (x5 : Int32) (x6 : Int32) (x7 : Int32) (x8 : Int32) (x9 : Int32) (x10 : Int32) (x11 : Int32) (x12 : Int32) (x13 : Int32) (x14 : Int32) (M : Mm) : Option Mm :=
    (if x12 = 0 then (if x14 ≤ x9 then (rX7_bits_b185 q92 x1 x2 x3 x5 x6 x7 x8 x9 x10 x11 x13 M) else (if x13 < 0 ∨ 8 ≤ (x13).toNatClampNeg then none else if ((M.1 47 (x13).toNatClampNeg) >>> ((x14 - x9) &&& 31)) = x8 then (rX7_bits_b181 q92 x1 x2 x3 x5 x6 x7 x8 x9 x10 x11 x13 M) else (rX7_bits_b185 q92 x1 x2 x3 x5 x6 x7 x8 x9 x10 x11 x13 M))) else (rX7_bits_b181 q92 x1 x2 x3 x5 x6 x7 x8 x9 x10 x11 x13 M))
set_option maxRecDepth 100000 in
set_option maxHeartbeats 4000000 in
theorem sX7_bits_b151 {p : Program} {l : Launch} {e : Env} {s : State} {m : MethodId} {args : Array Value} {below : List Frame} {meth : Method} {c : Code} {G : Gg} {M' : Mm} (X : Cx p m c meth cX7_bits 15 s args RX7 none G) {q92 : Int32 → Int32 → Int32 → Int32 → Int32 → Int32 → Int32 → Int32 → Int32 → Int32 → Int32 → Int32 → Mm → Option Mm} (hq92 : ∀ (x1 : Int32) (x2 : Int32) (x3 : Int32) (x5 : Int32) (x6 : Int32) (x7 : Int32) (x8 : Int32) (x9 : Int32) (x10 : Int32) (x11 : Int32) (x12 : Int32) (x13 : Int32) (M : Mm) (ls : Array Slot) (H : Heap) (locs : List Loc), lv_has ls 15 [(0, .ref (G.2.2.2 31)), (1, .int x1), (2, .int x2), (3, .int x3), (5, .int x5), (6, .int x6), (7, .int x7), (8, .int x8), (9, .int x9), (10, .int x10), (11, .int x11), (12, .int x12), (13, .int x13)] → Wo G s M H locs → q92 x1 x2 x3 x5 x6 x7 x8 x9 x10 x11 x12 x13 M = some M' → W p l e (rm 2) s m args below meth c H locs 0 0 (Qv below args s G M') (F0 m 92 ls [])) : ∀ (x1 : Int32) (x2 : Int32) (x3 : Int32) (x5 : Int32) (x6 : Int32) (x7 : Int32) (x8 : Int32) (x9 : Int32) (x10 : Int32) (x11 : Int32) (x12 : Int32) (x13 : Int32) (x14 : Int32) (M : Mm) (ls : Array Slot) (H : Heap) (locs : List Loc), lv_has ls 15 [(0, .ref (G.2.2.2 31)), (1, .int x1), (2, .int x2), (3, .int x3), (5, .int x5), (6, .int x6), (7, .int x7), (8, .int x8), (9, .int x9), (10, .int x10), (11, .int x11), (12, .int x12), (13, .int x13), (14, .int x14)] → Wo G s M H locs → rX7_bits_b151 q92 x1 x2 x3 x5 x6 x7 x8 x9 x10 x11 x12 x13 x14 M = some M' → W p l e (rm 2) s m args below meth c H locs 0 0 (Qv below args s G M') (F0 m 151 ls []) := by
    intro x1 x2 x3 x5 x6 x7 x8 x9 x10 x11 x12 x13 x14 M ls H locs hl hW h
    unfold rX7_bits_b151 at h
    have hx := X.1.1
    have hb := X.1.2.1
    refine lv_iload hx hb dX7_bits_151 (lv_at hl 11 rfl) ?_
    refine lv_if_ne (tgt := 181) hx hb dX7_bits_153 (by decide) (fun c40 => ?_) (fun c40 => ?_)
    · have h := ob_neg c40 h
      exact sX7_bits_b181 X hq92 x1 x2 x3 x5 x6 x7 x8 x9 x10 x11 x13 M _ _ _ (lv_sub hl [0, 1, 2, 3, 4, 5, 6, 7, 8, 9, 10, 12] rfl) hW h
    · have h := ob_pos c40 h
      refine lv_iload hx hb dX7_bits_156 (lv_at hl 13 rfl) ?_
      refine lv_iload hx hb dX7_bits_158 (lv_at hl 8 rfl) ?_
      refine lv_icmp_le (tgt := 185) hx hb dX7_bits_160 (by decide) (fun c42 => ?_) (fun c42 => ?_)
      · have h := ob_pos c42 h
        exact sX7_bits_b185 X hq92 x1 x2 x3 x5 x6 x7 x8 x9 x10 x11 x13 M _ _ _ (lv_sub hl [0, 1, 2, 3, 4, 5, 6, 7, 8, 9, 10, 12] rfl) hW h
      · have h := ob_neg c42 h
        refine lv_aload_n hx hb dX7_bits_163 rfl (lv_at hl 0 rfl) ?_
        refine gf7_59 (cN := 31) X hW rfl dX7_bits_164 ?_
        refine lv_iload hx hb dX7_bits_167 (lv_at hl 12 rfl) ?_
        obtain ⟨g43, h⟩ := ob_gd h
        refine bg_ald (cN := 47) X hW (n := 8) rfl g43 dX7_bits_169 ?_
        refine lv_iload hx hb dX7_bits_170 (lv_at hl 13 rfl) ?_
        refine lv_iload hx hb dX7_bits_172 (lv_at hl 8 rfl) ?_
        refine lv_isub hx hb dX7_bits_174 ?_
        refine lv_ishr hx hb dX7_bits_175 ?_
        refine lv_iload hx hb dX7_bits_176 (lv_at hl 7 rfl) ?_
        refine lv_icmp_ne (tgt := 185) hx hb dX7_bits_178 (by decide) (fun c44 => ?_) (fun c44 => ?_)
        · have h := ob_neg c44 h
          exact sX7_bits_b185 X hq92 x1 x2 x3 x5 x6 x7 x8 x9 x10 x11 x13 M _ _ _ (lv_sub hl [0, 1, 2, 3, 4, 5, 6, 7, 8, 9, 10, 12] rfl) hW h
        · have h := ob_pos c44 h
          exact sX7_bits_b181 X hq92 x1 x2 x3 x5 x6 x7 x8 x9 x10 x11 x13 M _ _ _ (lv_sub hl [0, 1, 2, 3, 4, 5, 6, 7, 8, 9, 10, 12] rfl) hW h
def rX7_bits_b92_s (q33 : Int32 → Int32 → Int32 → Int32 → Int32 → Int32 → Int32 → Int32 → Int32 → Int32 → Mm → Option Mm) (q92 : Int32 → Int32 → Int32 → Int32 → Int32 → Int32 → Int32 → Int32 → Int32 → Int32 → Int32 → Int32 → Mm → Option Mm) (x1 : Int32) (x2 : Int32) (x3 : Int32) (x5 : Int32) (x6 : Int32) (x7 : Int32) (x8 : Int32) (x9 : Int32) (x10 : Int32) (x11 : Int32) (x12 : Int32) (x13 : Int32) (M : Mm) : Option Mm :=
    (if x3 ≤ x13 then (rX7_bits_b194 q33 x1 x2 x3 x5 x6 x7 x8 x9 x10 x11 x12 M) else (if x11 = 0 then (if ((x2 + x3) + x13) < 0 ∨ 1200 ≤ (((x2 + x3) + x13)).toNatClampNeg then none else lt_ (M.1 32 (((x2 + x3) + x13)).toNatClampNeg) fun y38 => if y38 = x9 then (if x13 < 0 ∨ 8 ≤ (x13).toNatClampNeg then none else if (M.1 47 (x13).toNatClampNeg) = x8 then (if (x2 + x13) < 0 ∨ 1200 ≤ ((x2 + x13)).toNatClampNeg then none else Option.bind (rX7_comes (M.1 32 ((x2 + x13)).toNatClampNeg) M) fun M49 => rX7_bits_b151 q92 x1 x2 x3 x5 x6 x7 x8 x9 x10 (1 : Int32) x12 x13 y38 M49) else (rX7_bits_b151 q92 x1 x2 x3 x5 x6 x7 x8 x9 x10 x11 x12 x13 y38 M)) else (rX7_bits_b151 q92 x1 x2 x3 x5 x6 x7 x8 x9 x10 x11 x12 x13 y38 M)) else (rX7_bits_b194 q33 x1 x2 x3 x5 x6 x7 x8 x9 x10 x11 x12 M)))
def rX7_bits_b92 (q33 : Int32 → Int32 → Int32 → Int32 → Int32 → Int32 → Int32 → Int32 → Int32 → Int32 → Mm → Option Mm) : Nat → Int32 → Int32 → Int32 → Int32 → Int32 → Int32 → Int32 → Int32 → Int32 → Int32 → Int32 → Int32 → Mm → Option Mm
  | 0 => fun _ _ _ _ _ _ _ _ _ _ _ _ _ => none
  | n + 1 => rX7_bits_b92_s q33 (rX7_bits_b92 q33 n)
set_option maxRecDepth 100000 in
set_option maxHeartbeats 4000000 in
theorem sX7_bits_b92 {p : Program} {l : Launch} {e : Env} {s : State} {m : MethodId} {args : Array Value} {below : List Frame} {meth : Method} {c : Code} {G : Gg} {M' : Mm} (X : Cx p m c meth cX7_bits 15 s args RX7 none G) {q33 : Int32 → Int32 → Int32 → Int32 → Int32 → Int32 → Int32 → Int32 → Int32 → Int32 → Mm → Option Mm} (hq33 : ∀ (x1 : Int32) (x2 : Int32) (x3 : Int32) (x5 : Int32) (x6 : Int32) (x7 : Int32) (x8 : Int32) (x9 : Int32) (x10 : Int32) (x11 : Int32) (M : Mm) (ls : Array Slot) (H : Heap) (locs : List Loc), lv_has ls 15 [(0, .ref (G.2.2.2 31)), (1, .int x1), (2, .int x2), (3, .int x3), (5, .int x5), (6, .int x6), (7, .int x7), (8, .int x8), (9, .int x9), (10, .int x10), (11, .int x11)] → Wo G s M H locs → q33 x1 x2 x3 x5 x6 x7 x8 x9 x10 x11 M = some M' → W p l e (rm 2) s m args below meth c H locs 0 0 (Qv below args s G M') (F0 m 33 ls [])) : ∀ (n : Nat), ∀ (x1 : Int32) (x2 : Int32) (x3 : Int32) (x5 : Int32) (x6 : Int32) (x7 : Int32) (x8 : Int32) (x9 : Int32) (x10 : Int32) (x11 : Int32) (x12 : Int32) (x13 : Int32) (M : Mm) (ls : Array Slot) (H : Heap) (locs : List Loc), lv_has ls 15 [(0, .ref (G.2.2.2 31)), (1, .int x1), (2, .int x2), (3, .int x3), (5, .int x5), (6, .int x6), (7, .int x7), (8, .int x8), (9, .int x9), (10, .int x10), (11, .int x11), (12, .int x12), (13, .int x13)] → Wo G s M H locs → rX7_bits_b92 q33 n x1 x2 x3 x5 x6 x7 x8 x9 x10 x11 x12 x13 M = some M' → W p l e (rm 2) s m args below meth c H locs 0 0 (Qv below args s G M') (F0 m 92 ls []) := by
  intro n
  induction n with
  | zero =>
    intro x1 x2 x3 x5 x6 x7 x8 x9 x10 x11 x12 x13 M ls H locs hl hW h
    cases (show (none : Option Mm) = some M' from h)
  | succ n hq920 =>
    have hq92 : ∀ (x1 : Int32) (x2 : Int32) (x3 : Int32) (x5 : Int32) (x6 : Int32) (x7 : Int32) (x8 : Int32) (x9 : Int32) (x10 : Int32) (x11 : Int32) (x12 : Int32) (x13 : Int32) (M : Mm) (ls : Array Slot) (H : Heap) (locs : List Loc), lv_has ls 15 [(0, .ref (G.2.2.2 31)), (1, .int x1), (2, .int x2), (3, .int x3), (5, .int x5), (6, .int x6), (7, .int x7), (8, .int x8), (9, .int x9), (10, .int x10), (11, .int x11), (12, .int x12), (13, .int x13)] → Wo G s M H locs → (rX7_bits_b92 q33 n) x1 x2 x3 x5 x6 x7 x8 x9 x10 x11 x12 x13 M = some M' → W p l e (rm 2) s m args below meth c H locs 0 0 (Qv below args s G M') (F0 m 92 ls []) := hq920
    intro x1 x2 x3 x5 x6 x7 x8 x9 x10 x11 x12 x13 M ls H locs hl hW h
    have h : rX7_bits_b92_s q33 (rX7_bits_b92 q33 n) x1 x2 x3 x5 x6 x7 x8 x9 x10 x11 x12 x13 M = some M' := h
    unfold rX7_bits_b92_s at h
    have hx := X.1.1
    have hb := X.1.2.1
    refine lv_iload hx hb dX7_bits_92 (lv_at hl 12 rfl) ?_
    refine lv_iload_n hx hb dX7_bits_94 rfl (lv_at hl 3 rfl) ?_
    refine lv_icmp_ge (tgt := 194) hx hb dX7_bits_95 (by decide) (fun c31 => ?_) (fun c31 => ?_)
    · have h := ob_pos c31 h
      exact sX7_bits_b194 X hq33 x1 x2 x3 x5 x6 x7 x8 x9 x10 x11 x12 M _ _ _ (lv_sub hl [0, 1, 2, 3, 4, 5, 6, 7, 8, 9, 10, 11] rfl) hW h
    · have h := ob_neg c31 h
      refine lv_iload hx hb dX7_bits_98 (lv_at hl 10 rfl) ?_
      refine lv_if_ne (tgt := 194) hx hb dX7_bits_100 (by decide) (fun c36 => ?_) (fun c36 => ?_)
      · have h := ob_neg c36 h
        exact sX7_bits_b194 X hq33 x1 x2 x3 x5 x6 x7 x8 x9 x10 x11 x12 M _ _ _ (lv_sub hl [0, 1, 2, 3, 4, 5, 6, 7, 8, 9, 10, 11] rfl) hW h
      · have h := ob_pos c36 h
        refine lv_aload_n hx hb dX7_bits_103 rfl (lv_at hl 0 rfl) ?_
        refine gf7_7 (cN := 31) X hW rfl dX7_bits_104 ?_
        refine lv_iload_n hx hb dX7_bits_107 rfl (lv_at hl 2 rfl) ?_
        refine lv_iload_n hx hb dX7_bits_108 rfl (lv_at hl 3 rfl) ?_
        refine lv_iadd hx hb dX7_bits_109 ?_
        refine lv_iload hx hb dX7_bits_110 (lv_at hl 12 rfl) ?_
        refine lv_iadd hx hb dX7_bits_112 ?_
        obtain ⟨g37, h⟩ := ob_gd h
        refine bg_ald (cN := 32) X hW (n := 1200) rfl g37 dX7_bits_113 ?_
        refine lv_topi (fun y38 ey38 => ?_)
        have h := ob_lt ey38 h
        refine lv_istore (lv' := [(14, .int y38), (0, .ref (G.2.2.2 31)), (1, .int x1), (2, .int x2), (3, .int x3), (5, .int x5), (6, .int x6), (7, .int x7), (8, .int x8), (9, .int x9), (10, .int x10), (11, .int x11), (12, .int x12), (13, .int x13)]) hx hb dX7_bits_114 hl (by decide) rfl (fun ls hl => ?_)
        refine lv_iload hx hb dX7_bits_116 (lv_at hl 0 rfl) ?_
        refine lv_iload hx hb dX7_bits_118 (lv_at hl 9 rfl) ?_
        refine lv_icmp_ne (tgt := 151) hx hb dX7_bits_120 (by decide) (fun c39 => ?_) (fun c39 => ?_)
        · have h := ob_neg c39 h
          exact sX7_bits_b151 X hq92 x1 x2 x3 x5 x6 x7 x8 x9 x10 x11 x12 x13 y38 M _ _ _ (lv_sub hl [1, 2, 3, 4, 5, 6, 7, 8, 9, 10, 11, 12, 13, 0] rfl) hW h
        · have h := ob_pos c39 h
          refine lv_aload_n hx hb dX7_bits_123 rfl (lv_at hl 1 rfl) ?_
          refine gf7_59 (cN := 31) X hW rfl dX7_bits_124 ?_
          refine lv_iload hx hb dX7_bits_127 (lv_at hl 13 rfl) ?_
          obtain ⟨g45, h⟩ := ob_gd h
          refine bg_ald (cN := 47) X hW (n := 8) rfl g45 dX7_bits_129 ?_
          refine lv_iload hx hb dX7_bits_130 (lv_at hl 8 rfl) ?_
          refine lv_icmp_ne (tgt := 151) hx hb dX7_bits_132 (by decide) (fun c46 => ?_) (fun c46 => ?_)
          · have h := ob_neg c46 h
            exact sX7_bits_b151 X hq92 x1 x2 x3 x5 x6 x7 x8 x9 x10 x11 x12 x13 y38 M _ _ _ (lv_sub hl [1, 2, 3, 4, 5, 6, 7, 8, 9, 10, 11, 12, 13, 0] rfl) hW h
          · have h := ob_pos c46 h
            refine lv_aload_n hx hb dX7_bits_135 rfl (lv_at hl 1 rfl) ?_
            refine lv_aload_n hx hb dX7_bits_136 rfl (lv_at hl 1 rfl) ?_
            refine gf7_7 (cN := 31) X hW rfl dX7_bits_137 ?_
            refine lv_iload_n hx hb dX7_bits_140 rfl (lv_at hl 3 rfl) ?_
            refine lv_iload hx hb dX7_bits_141 (lv_at hl 13 rfl) ?_
            refine lv_iadd hx hb dX7_bits_143 ?_
            obtain ⟨g47, h⟩ := ob_gd h
            refine bg_ald (cN := 32) X hW (n := 1200) rfl g47 dX7_bits_144 ?_
            obtain ⟨M49, e48, h⟩ := ob_bind h
            refine bg_callv X hW (cX7_comes_k e48) rfl rfl kw7_160 kd_X7_comes rfl rfl ⟨Nat.le_of_ble_eq_true rfl, Nat.le_of_ble_eq_true rfl⟩ ⟨Nat.le_refl _, Nat.le_refl _⟩ hl.1 (Nat.le_of_ble_eq_true rfl) dX7_bits_145 (fun H locs hW => ?_)
            refine lv_iconst (v := 1) hx hb dX7_bits_148 (by decide) ?_
            refine lv_istore (lv' := [(11, .int (1 : Int32)), (14, .int y38), (0, .ref (G.2.2.2 31)), (1, .int x1), (2, .int x2), (3, .int x3), (5, .int x5), (6, .int x6), (7, .int x7), (8, .int x8), (9, .int x9), (10, .int x10), (12, .int x12), (13, .int x13)]) hx hb dX7_bits_149 hl (by decide) rfl (fun ls hl => ?_)
            exact sX7_bits_b151 X hq92 x1 x2 x3 x5 x6 x7 x8 x9 x10 (1 : Int32) x12 x13 y38 M49 _ _ _ (lv_sub hl [2, 3, 4, 5, 6, 7, 8, 9, 10, 11, 0, 12, 13, 1] rfl) hW h
def rX7_bits_b33_s (q10 : Int32 → Int32 → Int32 → Int32 → Int32 → Int32 → Mm → Option Mm) (q33 : Int32 → Int32 → Int32 → Int32 → Int32 → Int32 → Int32 → Int32 → Int32 → Int32 → Mm → Option Mm) (x1 : Int32) (x2 : Int32) (x3 : Int32) (x5 : Int32) (x6 : Int32) (x7 : Int32) (x8 : Int32) (x9 : Int32) (x10 : Int32) (x11 : Int32) (M : Mm) : Option Mm :=
    (if x11 = 0 then (bd2 (rX7_has (x6 / (8 : Int32)) (1 : Int32) M) fun r23 M22 => if r23 = 0 then (some M22) else (if (x6 / (8 : Int32)) < 0 ∨ 1200 ≤ ((x6 / (8 : Int32))).toNatClampNeg then none else lt_ (((2 : Int32) * x8) + (((M22.1 32 ((x6 / (8 : Int32))).toNatClampNeg) >>> (((7 : Int32) - (x6 - x6 / (8 : Int32) * (8 : Int32))) &&& 31)) &&& (1 : Int32))) fun y28 => lt_ (x9 + 1) fun y29 => lt_ (x6 + 1) fun y30 => rX7_bits_b92 q33 FU x1 x2 x3 x5 y30 x7 y28 y29 x10 x11 (0 : Int32) (0 : Int32) M22)) else (lt_ (x7 + 1) fun y19 => q10 x1 x2 x3 x5 x6 y19 M))
def rX7_bits_b33 (q10 : Int32 → Int32 → Int32 → Int32 → Int32 → Int32 → Mm → Option Mm) : Nat → Int32 → Int32 → Int32 → Int32 → Int32 → Int32 → Int32 → Int32 → Int32 → Int32 → Mm → Option Mm
  | 0 => fun _ _ _ _ _ _ _ _ _ _ _ => none
  | n + 1 => rX7_bits_b33_s q10 (rX7_bits_b33 q10 n)
set_option maxRecDepth 100000 in
set_option maxHeartbeats 4000000 in
theorem sX7_bits_b33 {p : Program} {l : Launch} {e : Env} {s : State} {m : MethodId} {args : Array Value} {below : List Frame} {meth : Method} {c : Code} {G : Gg} {M' : Mm} (X : Cx p m c meth cX7_bits 15 s args RX7 none G) {q10 : Int32 → Int32 → Int32 → Int32 → Int32 → Int32 → Mm → Option Mm} (hq10 : ∀ (x1 : Int32) (x2 : Int32) (x3 : Int32) (x5 : Int32) (x6 : Int32) (x7 : Int32) (M : Mm) (ls : Array Slot) (H : Heap) (locs : List Loc), lv_has ls 15 [(0, .ref (G.2.2.2 31)), (1, .int x1), (2, .int x2), (3, .int x3), (5, .int x5), (6, .int x6), (7, .int x7)] → Wo G s M H locs → q10 x1 x2 x3 x5 x6 x7 M = some M' → W p l e (rm 2) s m args below meth c H locs 0 0 (Qv below args s G M') (F0 m 10 ls [])) : ∀ (n : Nat), ∀ (x1 : Int32) (x2 : Int32) (x3 : Int32) (x5 : Int32) (x6 : Int32) (x7 : Int32) (x8 : Int32) (x9 : Int32) (x10 : Int32) (x11 : Int32) (M : Mm) (ls : Array Slot) (H : Heap) (locs : List Loc), lv_has ls 15 [(0, .ref (G.2.2.2 31)), (1, .int x1), (2, .int x2), (3, .int x3), (5, .int x5), (6, .int x6), (7, .int x7), (8, .int x8), (9, .int x9), (10, .int x10), (11, .int x11)] → Wo G s M H locs → rX7_bits_b33 q10 n x1 x2 x3 x5 x6 x7 x8 x9 x10 x11 M = some M' → W p l e (rm 2) s m args below meth c H locs 0 0 (Qv below args s G M') (F0 m 33 ls []) := by
  intro n
  induction n with
  | zero =>
    intro x1 x2 x3 x5 x6 x7 x8 x9 x10 x11 M ls H locs hl hW h
    cases (show (none : Option Mm) = some M' from h)
  | succ n hq330 =>
    have hq33 : ∀ (x1 : Int32) (x2 : Int32) (x3 : Int32) (x5 : Int32) (x6 : Int32) (x7 : Int32) (x8 : Int32) (x9 : Int32) (x10 : Int32) (x11 : Int32) (M : Mm) (ls : Array Slot) (H : Heap) (locs : List Loc), lv_has ls 15 [(0, .ref (G.2.2.2 31)), (1, .int x1), (2, .int x2), (3, .int x3), (5, .int x5), (6, .int x6), (7, .int x7), (8, .int x8), (9, .int x9), (10, .int x10), (11, .int x11)] → Wo G s M H locs → (rX7_bits_b33 q10 n) x1 x2 x3 x5 x6 x7 x8 x9 x10 x11 M = some M' → W p l e (rm 2) s m args below meth c H locs 0 0 (Qv below args s G M') (F0 m 33 ls []) := hq330
    intro x1 x2 x3 x5 x6 x7 x8 x9 x10 x11 M ls H locs hl hW h
    have h : rX7_bits_b33_s q10 (rX7_bits_b33 q10 n) x1 x2 x3 x5 x6 x7 x8 x9 x10 x11 M = some M' := h
    unfold rX7_bits_b33_s at h
    have hx := X.1.1
    have hb := X.1.2.1
    refine lv_iload hx hb dX7_bits_33 (lv_at hl 10 rfl) ?_
    refine lv_if_ne (tgt := 216) hx hb dX7_bits_35 (by decide) (fun c18 => ?_) (fun c18 => ?_)
    · have h := ob_neg c18 h
      obtain ⟨y19, ey19⟩ : ∃ y : Int32, y = (x7 + 1) := ⟨_, rfl⟩
      have h := ob_lt ey19 h
      refine lv_iinc (v := y19) (lv' := [(7, .int y19), (0, .ref (G.2.2.2 31)), (1, .int x1), (2, .int x2), (3, .int x3), (5, .int x5), (6, .int x6), (8, .int x8), (9, .int x9), (10, .int x10), (11, .int x11)]) hx hb dX7_bits_216 hl (k := 6) rfl (by rw [ey19]; rfl) (by decide) rfl (fun ls hl => ?_)
      refine lv_goto (tgt := 10) hx hb dX7_bits_219 (by decide) ?_
      exact hq10 x1 x2 x3 x5 x6 y19 M _ _ _ (lv_sub hl [1, 2, 3, 4, 5, 6, 0] rfl) hW h
    · have h := ob_pos c18 h
      refine lv_aload_n hx hb dX7_bits_38 rfl (lv_at hl 0 rfl) ?_
      refine lv_iload hx hb dX7_bits_39 (lv_at hl 5 rfl) ?_
      refine lv_bipush (v := 8) hx hb dX7_bits_41 (by decide) ?_
      have g20 : ¬ (8 : Int32) = 0 := by decide
      refine lv_idiv hx hb dX7_bits_43 g20 ?_
      refine lv_iconst (v := 1) hx hb dX7_bits_44 (by decide) ?_
      obtain ⟨r23, M22, e21, h⟩ := ob_bd2 h
      refine bg_calli X hW (cX7_has_k e21) rfl rfl kw7_149 kd_X7_has rfl rfl ⟨Nat.le_of_ble_eq_true rfl, Nat.le_of_ble_eq_true rfl⟩ ⟨Nat.le_refl _, Nat.le_refl _⟩ hl.1 (Nat.le_of_ble_eq_true rfl) dX7_bits_45 (fun H locs hW => ?_)
      refine lv_if_ne (tgt := 52) hx hb dX7_bits_48 (by decide) (fun c24 => ?_) (fun c24 => ?_)
      · have h := ob_neg c24 h
        refine lv_iconst (v := 2) hx hb dX7_bits_52 (by decide) ?_
        refine lv_iload hx hb dX7_bits_53 (lv_at hl 7 rfl) ?_
        refine lv_imul hx hb dX7_bits_55 ?_
        refine lv_aload_n hx hb dX7_bits_56 rfl (lv_at hl 0 rfl) ?_
        refine gf7_7 (cN := 31) X hW rfl dX7_bits_57 ?_
        refine lv_iload hx hb dX7_bits_60 (lv_at hl 5 rfl) ?_
        refine lv_bipush (v := 8) hx hb dX7_bits_62 (by decide) ?_
        have g25 : ¬ (8 : Int32) = 0 := by decide
        refine lv_idiv hx hb dX7_bits_64 g25 ?_
        obtain ⟨g26, h⟩ := ob_gd h
        refine bg_ald (cN := 32) X hW (n := 1200) rfl g26 dX7_bits_65 ?_
        refine lv_bipush (v := 7) hx hb dX7_bits_66 (by decide) ?_
        refine lv_iload hx hb dX7_bits_68 (lv_at hl 5 rfl) ?_
        refine lv_bipush (v := 8) hx hb dX7_bits_70 (by decide) ?_
        have g27 : ¬ (8 : Int32) = 0 := by decide
        refine lv_irem hx hb dX7_bits_72 g27 ?_
        refine lv_isub hx hb dX7_bits_73 ?_
        refine lv_ishr hx hb dX7_bits_74 ?_
        refine lv_iconst (v := 1) hx hb dX7_bits_75 (by decide) ?_
        refine lv_iand hx hb dX7_bits_76 ?_
        refine lv_iadd hx hb dX7_bits_77 ?_
        refine lv_topi (fun y28 ey28 => ?_)
        have h := ob_lt ey28 h
        refine lv_istore (lv' := [(8, .int y28), (0, .ref (G.2.2.2 31)), (1, .int x1), (2, .int x2), (3, .int x3), (5, .int x5), (6, .int x6), (7, .int x7), (9, .int x9), (10, .int x10), (11, .int x11)]) hx hb dX7_bits_78 hl (by decide) rfl (fun ls hl => ?_)
        obtain ⟨y29, ey29⟩ : ∃ y : Int32, y = (x9 + 1) := ⟨_, rfl⟩
        have h := ob_lt ey29 h
        refine lv_iinc (v := y29) (lv' := [(9, .int y29), (8, .int y28), (0, .ref (G.2.2.2 31)), (1, .int x1), (2, .int x2), (3, .int x3), (5, .int x5), (6, .int x6), (7, .int x7), (10, .int x10), (11, .int x11)]) hx hb dX7_bits_80 hl (k := 8) rfl (by rw [ey29]; rfl) (by decide) rfl (fun ls hl => ?_)
        obtain ⟨y30, ey30⟩ : ∃ y : Int32, y = (x6 + 1) := ⟨_, rfl⟩
        have h := ob_lt ey30 h
        refine lv_iinc (v := y30) (lv' := [(6, .int y30), (9, .int y29), (8, .int y28), (0, .ref (G.2.2.2 31)), (1, .int x1), (2, .int x2), (3, .int x3), (5, .int x5), (7, .int x7), (10, .int x10), (11, .int x11)]) hx hb dX7_bits_83 hl (k := 7) rfl (by rw [ey30]; rfl) (by decide) rfl (fun ls hl => ?_)
        refine lv_iconst (v := 0) hx hb dX7_bits_86 (by decide) ?_
        refine lv_istore (lv' := [(12, .int (0 : Int32)), (6, .int y30), (9, .int y29), (8, .int y28), (0, .ref (G.2.2.2 31)), (1, .int x1), (2, .int x2), (3, .int x3), (5, .int x5), (7, .int x7), (10, .int x10), (11, .int x11)]) hx hb dX7_bits_87 hl (by decide) rfl (fun ls hl => ?_)
        refine lv_iconst (v := 0) hx hb dX7_bits_89 (by decide) ?_
        refine lv_istore (lv' := [(13, .int (0 : Int32)), (12, .int (0 : Int32)), (6, .int y30), (9, .int y29), (8, .int y28), (0, .ref (G.2.2.2 31)), (1, .int x1), (2, .int x2), (3, .int x3), (5, .int x5), (7, .int x7), (10, .int x10), (11, .int x11)]) hx hb dX7_bits_90 hl (by decide) rfl (fun ls hl => ?_)
        exact sX7_bits_b92 X hq33 FU x1 x2 x3 x5 y30 x7 y28 y29 x10 x11 (0 : Int32) (0 : Int32) M22 _ _ _ (lv_sub hl [5, 6, 7, 8, 9, 2, 10, 4, 3, 11, 12, 1, 0] rfl) hW h
      · have h := ob_pos c24 h
        exact rt_v X hW h dX7_bits_51
def rX7_bits_b10_s (q10 : Int32 → Int32 → Int32 → Int32 → Int32 → Int32 → Mm → Option Mm) (x1 : Int32) (x2 : Int32) (x3 : Int32) (x5 : Int32) (x6 : Int32) (x7 : Int32) (M : Mm) : Option Mm :=
    (if x5 ≤ x7 then (lt_ ((x6 + (7 : Int32)) / (8 : Int32)) fun y4 => rX7_bits_b232 FU x1 x6 y4 M) else (lt_ (x6 / (8 : Int32)) fun y17 => rX7_bits_b33 q10 FU x1 x2 x3 x5 x6 x7 (0 : Int32) (0 : Int32) y17 (0 : Int32) M))
def rX7_bits_b10 : Nat → Int32 → Int32 → Int32 → Int32 → Int32 → Int32 → Mm → Option Mm
  | 0 => fun _ _ _ _ _ _ _ => none
  | n + 1 => rX7_bits_b10_s (rX7_bits_b10 n)
set_option maxRecDepth 100000 in
set_option maxHeartbeats 4000000 in
theorem sX7_bits_b10 {p : Program} {l : Launch} {e : Env} {s : State} {m : MethodId} {args : Array Value} {below : List Frame} {meth : Method} {c : Code} {G : Gg} {M' : Mm} (X : Cx p m c meth cX7_bits 15 s args RX7 none G) : ∀ (n : Nat), ∀ (x1 : Int32) (x2 : Int32) (x3 : Int32) (x5 : Int32) (x6 : Int32) (x7 : Int32) (M : Mm) (ls : Array Slot) (H : Heap) (locs : List Loc), lv_has ls 15 [(0, .ref (G.2.2.2 31)), (1, .int x1), (2, .int x2), (3, .int x3), (5, .int x5), (6, .int x6), (7, .int x7)] → Wo G s M H locs → rX7_bits_b10 n x1 x2 x3 x5 x6 x7 M = some M' → W p l e (rm 2) s m args below meth c H locs 0 0 (Qv below args s G M') (F0 m 10 ls []) := by
  intro n
  induction n with
  | zero =>
    intro x1 x2 x3 x5 x6 x7 M ls H locs hl hW h
    cases (show (none : Option Mm) = some M' from h)
  | succ n hq100 =>
    have hq10 : ∀ (x1 : Int32) (x2 : Int32) (x3 : Int32) (x5 : Int32) (x6 : Int32) (x7 : Int32) (M : Mm) (ls : Array Slot) (H : Heap) (locs : List Loc), lv_has ls 15 [(0, .ref (G.2.2.2 31)), (1, .int x1), (2, .int x2), (3, .int x3), (5, .int x5), (6, .int x6), (7, .int x7)] → Wo G s M H locs → (rX7_bits_b10 n) x1 x2 x3 x5 x6 x7 M = some M' → W p l e (rm 2) s m args below meth c H locs 0 0 (Qv below args s G M') (F0 m 10 ls []) := hq100
    intro x1 x2 x3 x5 x6 x7 M ls H locs hl hW h
    have h : rX7_bits_b10_s (rX7_bits_b10 n) x1 x2 x3 x5 x6 x7 M = some M' := h
    unfold rX7_bits_b10_s at h
    have hx := X.1.1
    have hb := X.1.2.1
    refine lv_iload hx hb dX7_bits_10 (lv_at hl 6 rfl) ?_
    refine lv_iload hx hb dX7_bits_12 (lv_at hl 4 rfl) ?_
    refine lv_icmp_ge (tgt := 222) hx hb dX7_bits_14 (by decide) (fun c2 => ?_) (fun c2 => ?_)
    · have h := ob_pos c2 h
      refine lv_iload hx hb dX7_bits_222 (lv_at hl 5 rfl) ?_
      refine lv_bipush (v := 7) hx hb dX7_bits_224 (by decide) ?_
      refine lv_iadd hx hb dX7_bits_226 ?_
      refine lv_bipush (v := 8) hx hb dX7_bits_227 (by decide) ?_
      have g3 : ¬ (8 : Int32) = 0 := by decide
      refine lv_idiv hx hb dX7_bits_229 g3 ?_
      refine lv_topi (fun y4 ey4 => ?_)
      have h := ob_lt ey4 h
      refine lv_istore (lv' := [(7, .int y4), (0, .ref (G.2.2.2 31)), (1, .int x1), (2, .int x2), (3, .int x3), (5, .int x5), (6, .int x6)]) hx hb dX7_bits_230 hl (by decide) rfl (fun ls hl => ?_)
      exact sX7_bits_b232 X FU x1 x6 y4 M _ _ _ (lv_sub hl [1, 2, 6, 0] rfl) hW h
    · have h := ob_neg c2 h
      refine lv_iconst (v := 0) hx hb dX7_bits_17 (by decide) ?_
      refine lv_istore (lv' := [(8, .int (0 : Int32)), (0, .ref (G.2.2.2 31)), (1, .int x1), (2, .int x2), (3, .int x3), (5, .int x5), (6, .int x6), (7, .int x7)]) hx hb dX7_bits_18 hl (by decide) rfl (fun ls hl => ?_)
      refine lv_iconst (v := 0) hx hb dX7_bits_20 (by decide) ?_
      refine lv_istore (lv' := [(9, .int (0 : Int32)), (8, .int (0 : Int32)), (0, .ref (G.2.2.2 31)), (1, .int x1), (2, .int x2), (3, .int x3), (5, .int x5), (6, .int x6), (7, .int x7)]) hx hb dX7_bits_21 hl (by decide) rfl (fun ls hl => ?_)
      refine lv_iload hx hb dX7_bits_23 (lv_at hl 7 rfl) ?_
      refine lv_bipush (v := 8) hx hb dX7_bits_25 (by decide) ?_
      have g16 : ¬ (8 : Int32) = 0 := by decide
      refine lv_idiv hx hb dX7_bits_27 g16 ?_
      refine lv_topi (fun y17 ey17 => ?_)
      have h := ob_lt ey17 h
      refine lv_istore (lv' := [(10, .int y17), (9, .int (0 : Int32)), (8, .int (0 : Int32)), (0, .ref (G.2.2.2 31)), (1, .int x1), (2, .int x2), (3, .int x3), (5, .int x5), (6, .int x6), (7, .int x7)]) hx hb dX7_bits_28 hl (by decide) rfl (fun ls hl => ?_)
      refine lv_iconst (v := 0) hx hb dX7_bits_30 (by decide) ?_
      refine lv_istore (lv' := [(11, .int (0 : Int32)), (10, .int y17), (9, .int (0 : Int32)), (8, .int (0 : Int32)), (0, .ref (G.2.2.2 31)), (1, .int x1), (2, .int x2), (3, .int x3), (5, .int x5), (6, .int x6), (7, .int x7)]) hx hb dX7_bits_31 hl (by decide) rfl (fun ls hl => ?_)
      exact sX7_bits_b33 X hq10 FU x1 x2 x3 x5 x6 x7 (0 : Int32) (0 : Int32) y17 (0 : Int32) M _ _ _ (lv_sub hl [4, 5, 6, 7, 8, 9, 10, 3, 2, 1, 0] rfl) hW h
def rX7_bits (a1 : Int32) (a2 : Int32) (a3 : Int32) (a4 : Int32) (a5 : Int32) (M : Mm) : Option Mm :=
    (lt_ ((8 : Int32) * a4) fun y1 => rX7_bits_b10 FU a1 a2 a3 a5 y1 (0 : Int32) M)
set_option maxRecDepth 100000 in
set_option maxHeartbeats 4000000 in
theorem cX7_bits_k {l : Launch} {G : Gg} {a1 : Int32} {a2 : Int32} {a3 : Int32} {a4 : Int32} {a5 : Int32} {M M' : Mm} (h : rX7_bits a1 a2 a3 a4 a5 M = some M') : CTv l yX7_bits cX7_bits 15 2 G [.ref (G.2.2.2 31), .int a1, .int a2, .int a3, .int a4, .int a5] M M' := by
  unfold rX7_bits at h
  refine ct_v (by decide) (Nat.le_of_ble_eq_true rfl) (fun p e s m below meth c ls X hl hW => ?_)
  have hx := X.1.1
  have hb := X.1.2.1
  refine lv_bipush (v := 8) hx hb dX7_bits_0 (by decide) ?_
  refine lv_iload hx hb dX7_bits_2 (lv_at hl 4 rfl) ?_
  refine lv_imul hx hb dX7_bits_4 ?_
  refine lv_topi (fun y1 ey1 => ?_)
  have h := ob_lt ey1 h
  refine lv_istore (lv' := [(6, .int y1), (0, .ref (G.2.2.2 31)), (1, .int a1), (2, .int a2), (3, .int a3), (4, .int a4), (5, .int a5)]) hx hb dX7_bits_5 hl (by decide) rfl (fun ls hl => ?_)
  refine lv_iconst (v := 0) hx hb dX7_bits_7 (by decide) ?_
  refine lv_istore (lv' := [(7, .int (0 : Int32)), (6, .int y1), (0, .ref (G.2.2.2 31)), (1, .int a1), (2, .int a2), (3, .int a3), (4, .int a4), (5, .int a5)]) hx hb dX7_bits_8 hl (by decide) rfl (fun ls hl => ?_)
  exact sX7_bits_b10 X FU a1 a2 a3 a5 y1 (0 : Int32) M _ _ _ (lv_sub hl [2, 3, 4, 5, 7, 1, 0] rfl) hW h
def rX7_coded_b63_s (q63 : Int32 → Int32 → Int32 → Int32 → Int32 → Mm → Option Mm) (x1 : Int32) (x2 : Int32) (x3 : Int32) (x4 : Int32) (x5 : Int32) (M : Mm) : Option Mm :=
    (if x3 ≤ x5 then (bd2 (rX7_codesOf x4 x3 M) fun r19 M18 => if r19 = 0 then (Option.bind (rX7_fails (6 : Int32) x4 M18) fun M35 => some M35) else (bd2 (rX7_has (x4 + x3) (1 : Int32) M18) fun r23 M22 => if r23 = 0 then (some M22) else (if (x4 + x3) < 0 ∨ 1200 ≤ ((x4 + x3)).toNatClampNeg then none else if (x4 + x3) < 0 ∨ 1200 ≤ ((x4 + x3)).toNatClampNeg then none else bd2 (rX7_pays x2 (((3 : Int32) + ((2 : Int32) * x3)) + ((2 : Int32) * (M22.1 32 ((x4 + x3)).toNatClampNeg))) (M22.1 32 ((x4 + x3)).toNatClampNeg) M22) fun r29 M28 => if r29 = 0 then (some M28) else (if (x4 + x3) < 0 ∨ 1200 ≤ ((x4 + x3)).toNatClampNeg then none else Option.bind (rX7_bits x1 (x2 + (2 : Int32)) x3 ((x4 + x3) + (1 : Int32)) (M28.1 32 ((x4 + x3)).toNatClampNeg) M28) fun M33 => some M33)))) else (bd2 (rX7_has (x4 + x5) (1 : Int32) M) fun r38 M37 => if r38 = 0 then (some M37) else (if (x4 + x5) < 0 ∨ 1200 ≤ ((x4 + x5)).toNatClampNeg then none else if (M37.1 32 ((x4 + x5)).toNatClampNeg) ≤ (7 : Int32) then (lt_ (x5 + 1) fun y42 => q63 x1 x2 x3 x4 y42 M37) else (Option.bind (rX7_fails (6 : Int32) (x4 + x5) M37) fun M44 => some M44))))
def rX7_coded_b63 : Nat → Int32 → Int32 → Int32 → Int32 → Int32 → Mm → Option Mm
  | 0 => fun _ _ _ _ _ _ => none
  | n + 1 => rX7_coded_b63_s (rX7_coded_b63 n)
set_option maxRecDepth 100000 in
set_option maxHeartbeats 4000000 in
theorem sX7_coded_b63 {p : Program} {l : Launch} {e : Env} {s : State} {m : MethodId} {args : Array Value} {below : List Frame} {meth : Method} {c : Code} {G : Gg} {M' : Mm} (X : Cx p m c meth cX7_coded 6 s args RX7 none G) : ∀ (n : Nat), ∀ (x1 : Int32) (x2 : Int32) (x3 : Int32) (x4 : Int32) (x5 : Int32) (M : Mm) (ls : Array Slot) (H : Heap) (locs : List Loc), lv_has ls 6 [(0, .ref (G.2.2.2 31)), (1, .int x1), (2, .int x2), (3, .int x3), (4, .int x4), (5, .int x5)] → Wo G s M H locs → rX7_coded_b63 n x1 x2 x3 x4 x5 M = some M' → W p l e (rm 3) s m args below meth c H locs 0 0 (Qv below args s G M') (F0 m 63 ls []) := by
  intro n
  induction n with
  | zero =>
    intro x1 x2 x3 x4 x5 M ls H locs hl hW h
    cases (show (none : Option Mm) = some M' from h)
  | succ n hq630 =>
    have hq63 : ∀ (x1 : Int32) (x2 : Int32) (x3 : Int32) (x4 : Int32) (x5 : Int32) (M : Mm) (ls : Array Slot) (H : Heap) (locs : List Loc), lv_has ls 6 [(0, .ref (G.2.2.2 31)), (1, .int x1), (2, .int x2), (3, .int x3), (4, .int x4), (5, .int x5)] → Wo G s M H locs → (rX7_coded_b63 n) x1 x2 x3 x4 x5 M = some M' → W p l e (rm 3) s m args below meth c H locs 0 0 (Qv below args s G M') (F0 m 63 ls []) := hq630
    intro x1 x2 x3 x4 x5 M ls H locs hl hW h
    have h : rX7_coded_b63_s (rX7_coded_b63 n) x1 x2 x3 x4 x5 M = some M' := h
    unfold rX7_coded_b63_s at h
    have hx := X.1.1
    have hb := X.1.2.1
    refine lv_iload hx hb dX7_coded_63 (lv_at hl 5 rfl) ?_
    refine lv_iload_n hx hb dX7_coded_65 rfl (lv_at hl 3 rfl) ?_
    refine lv_icmp_ge (tgt := 116) hx hb dX7_coded_66 (by decide) (fun c16 => ?_) (fun c16 => ?_)
    · have h := ob_pos c16 h
      refine lv_aload_n hx hb dX7_coded_116 rfl (lv_at hl 0 rfl) ?_
      refine lv_iload hx hb dX7_coded_117 (lv_at hl 4 rfl) ?_
      refine lv_iload_n hx hb dX7_coded_119 rfl (lv_at hl 3 rfl) ?_
      obtain ⟨r19, M18, e17, h⟩ := ob_bd2 h
      refine bg_calli X hW (cX7_codesOf_k e17) rfl rfl kw7_184 kd_X7_codesOf rfl rfl ⟨Nat.le_of_ble_eq_true rfl, Nat.le_of_ble_eq_true rfl⟩ ⟨Nat.le_refl _, Nat.le_refl _⟩ hl.1 (Nat.le_of_ble_eq_true rfl) dX7_coded_120 (fun H locs hW => ?_)
      refine lv_if_ne (tgt := 137) hx hb dX7_coded_123 (by decide) (fun c20 => ?_) (fun c20 => ?_)
      · have h := ob_neg c20 h
        refine lv_aload_n hx hb dX7_coded_137 rfl (lv_at hl 0 rfl) ?_
        refine lv_iload hx hb dX7_coded_138 (lv_at hl 4 rfl) ?_
        refine lv_iload_n hx hb dX7_coded_140 rfl (lv_at hl 3 rfl) ?_
        refine lv_iadd hx hb dX7_coded_141 ?_
        refine lv_iconst (v := 1) hx hb dX7_coded_142 (by decide) ?_
        obtain ⟨r23, M22, e21, h⟩ := ob_bd2 h
        refine bg_calli X hW (cX7_has_k e21) rfl rfl kw7_149 kd_X7_has rfl rfl ⟨Nat.le_of_ble_eq_true rfl, Nat.le_of_ble_eq_true rfl⟩ ⟨Nat.le_refl _, Nat.le_refl _⟩ hl.1 (Nat.le_of_ble_eq_true rfl) dX7_coded_143 (fun H locs hW => ?_)
        refine lv_if_eq (tgt := 207) hx hb dX7_coded_146 (by decide) (fun c24 => ?_) (fun c24 => ?_)
        · have h := ob_pos c24 h
          exact rt_v X hW h dX7_coded_207
        · have h := ob_neg c24 h
          refine lv_aload_n hx hb dX7_coded_149 rfl (lv_at hl 0 rfl) ?_
          refine lv_iload_n hx hb dX7_coded_150 rfl (lv_at hl 2 rfl) ?_
          refine lv_iconst (v := 3) hx hb dX7_coded_151 (by decide) ?_
          refine lv_iconst (v := 2) hx hb dX7_coded_152 (by decide) ?_
          refine lv_iload_n hx hb dX7_coded_153 rfl (lv_at hl 3 rfl) ?_
          refine lv_imul hx hb dX7_coded_154 ?_
          refine lv_iadd hx hb dX7_coded_155 ?_
          refine lv_iconst (v := 2) hx hb dX7_coded_156 (by decide) ?_
          refine lv_aload_n hx hb dX7_coded_157 rfl (lv_at hl 0 rfl) ?_
          refine gf7_7 (cN := 31) X hW rfl dX7_coded_158 ?_
          refine lv_iload hx hb dX7_coded_161 (lv_at hl 4 rfl) ?_
          refine lv_iload_n hx hb dX7_coded_163 rfl (lv_at hl 3 rfl) ?_
          refine lv_iadd hx hb dX7_coded_164 ?_
          obtain ⟨g25, h⟩ := ob_gd h
          refine bg_ald (cN := 32) X hW (n := 1200) rfl g25 dX7_coded_165 ?_
          refine lv_imul hx hb dX7_coded_166 ?_
          refine lv_iadd hx hb dX7_coded_167 ?_
          refine lv_aload_n hx hb dX7_coded_168 rfl (lv_at hl 0 rfl) ?_
          refine gf7_7 (cN := 31) X hW rfl dX7_coded_169 ?_
          refine lv_iload hx hb dX7_coded_172 (lv_at hl 4 rfl) ?_
          refine lv_iload_n hx hb dX7_coded_174 rfl (lv_at hl 3 rfl) ?_
          refine lv_iadd hx hb dX7_coded_175 ?_
          obtain ⟨g26, h⟩ := ob_gd h
          refine bg_ald (cN := 32) X hW (n := 1200) rfl g26 dX7_coded_176 ?_
          obtain ⟨r29, M28, e27, h⟩ := ob_bd2 h
          refine bg_calli X hW (cX7_pays_k e27) rfl rfl kw7_156 kd_X7_pays rfl rfl ⟨Nat.le_of_ble_eq_true rfl, Nat.le_of_ble_eq_true rfl⟩ ⟨Nat.le_refl _, Nat.le_refl _⟩ hl.1 (Nat.le_of_ble_eq_true rfl) dX7_coded_177 (fun H locs hW => ?_)
          refine lv_if_eq (tgt := 207) hx hb dX7_coded_180 (by decide) (fun c30 => ?_) (fun c30 => ?_)
          · have h := ob_pos c30 h
            exact rt_v X hW h dX7_coded_207
          · have h := ob_neg c30 h
            refine lv_aload_n hx hb dX7_coded_183 rfl (lv_at hl 0 rfl) ?_
            refine lv_iload_n hx hb dX7_coded_184 rfl (lv_at hl 1 rfl) ?_
            refine lv_iload_n hx hb dX7_coded_185 rfl (lv_at hl 2 rfl) ?_
            refine lv_iconst (v := 2) hx hb dX7_coded_186 (by decide) ?_
            refine lv_iadd hx hb dX7_coded_187 ?_
            refine lv_iload_n hx hb dX7_coded_188 rfl (lv_at hl 3 rfl) ?_
            refine lv_iload hx hb dX7_coded_189 (lv_at hl 4 rfl) ?_
            refine lv_iload_n hx hb dX7_coded_191 rfl (lv_at hl 3 rfl) ?_
            refine lv_iadd hx hb dX7_coded_192 ?_
            refine lv_iconst (v := 1) hx hb dX7_coded_193 (by decide) ?_
            refine lv_iadd hx hb dX7_coded_194 ?_
            refine lv_aload_n hx hb dX7_coded_195 rfl (lv_at hl 0 rfl) ?_
            refine gf7_7 (cN := 31) X hW rfl dX7_coded_196 ?_
            refine lv_iload hx hb dX7_coded_199 (lv_at hl 4 rfl) ?_
            refine lv_iload_n hx hb dX7_coded_201 rfl (lv_at hl 3 rfl) ?_
            refine lv_iadd hx hb dX7_coded_202 ?_
            obtain ⟨g31, h⟩ := ob_gd h
            refine bg_ald (cN := 32) X hW (n := 1200) rfl g31 dX7_coded_203 ?_
            obtain ⟨M33, e32, h⟩ := ob_bind h
            refine bg_callv X hW (cX7_bits_k e32) rfl rfl kw7_187 kd_X7_bits rfl rfl ⟨Nat.le_of_ble_eq_true rfl, Nat.le_of_ble_eq_true rfl⟩ ⟨Nat.le_refl _, Nat.le_refl _⟩ hl.1 (Nat.le_of_ble_eq_true rfl) dX7_coded_204 (fun H locs hW => ?_)
            exact rt_v X hW h dX7_coded_207
      · have h := ob_pos c20 h
        refine lv_aload_n hx hb dX7_coded_126 rfl (lv_at hl 0 rfl) ?_
        refine lv_bipush (v := 6) hx hb dX7_coded_127 (by decide) ?_
        refine lv_iload hx hb dX7_coded_129 (lv_at hl 4 rfl) ?_
        obtain ⟨M35, e34, h⟩ := ob_bind h
        refine bg_callv X hW (cX7_fails_k e34) rfl rfl kw7_131 kd_X7_fails rfl rfl ⟨Nat.le_of_ble_eq_true rfl, Nat.le_of_ble_eq_true rfl⟩ ⟨Nat.le_refl _, Nat.le_refl _⟩ hl.1 (Nat.le_of_ble_eq_true rfl) dX7_coded_131 (fun H locs hW => ?_)
        refine lv_goto (tgt := 207) hx hb dX7_coded_134 (by decide) ?_
        exact rt_v X hW h dX7_coded_207
    · have h := ob_neg c16 h
      refine lv_aload_n hx hb dX7_coded_69 rfl (lv_at hl 0 rfl) ?_
      refine lv_iload hx hb dX7_coded_70 (lv_at hl 4 rfl) ?_
      refine lv_iload hx hb dX7_coded_72 (lv_at hl 5 rfl) ?_
      refine lv_iadd hx hb dX7_coded_74 ?_
      refine lv_iconst (v := 1) hx hb dX7_coded_75 (by decide) ?_
      obtain ⟨r38, M37, e36, h⟩ := ob_bd2 h
      refine bg_calli X hW (cX7_has_k e36) rfl rfl kw7_149 kd_X7_has rfl rfl ⟨Nat.le_of_ble_eq_true rfl, Nat.le_of_ble_eq_true rfl⟩ ⟨Nat.le_refl _, Nat.le_refl _⟩ hl.1 (Nat.le_of_ble_eq_true rfl) dX7_coded_76 (fun H locs hW => ?_)
      refine lv_if_ne (tgt := 83) hx hb dX7_coded_79 (by decide) (fun c39 => ?_) (fun c39 => ?_)
      · have h := ob_neg c39 h
        refine lv_aload_n hx hb dX7_coded_83 rfl (lv_at hl 0 rfl) ?_
        refine gf7_7 (cN := 31) X hW rfl dX7_coded_84 ?_
        refine lv_iload hx hb dX7_coded_87 (lv_at hl 4 rfl) ?_
        refine lv_iload hx hb dX7_coded_89 (lv_at hl 5 rfl) ?_
        refine lv_iadd hx hb dX7_coded_91 ?_
        obtain ⟨g40, h⟩ := ob_gd h
        refine bg_ald (cN := 32) X hW (n := 1200) rfl g40 dX7_coded_92 ?_
        refine lv_bipush (v := 7) hx hb dX7_coded_93 (by decide) ?_
        refine lv_icmp_le (tgt := 110) hx hb dX7_coded_95 (by decide) (fun c41 => ?_) (fun c41 => ?_)
        · have h := ob_pos c41 h
          obtain ⟨y42, ey42⟩ : ∃ y : Int32, y = (x5 + 1) := ⟨_, rfl⟩
          have h := ob_lt ey42 h
          refine lv_iinc (v := y42) (lv' := [(5, .int y42), (0, .ref (G.2.2.2 31)), (1, .int x1), (2, .int x2), (3, .int x3), (4, .int x4)]) hx hb dX7_coded_110 hl (k := 5) rfl (by rw [ey42]; rfl) (by decide) rfl (fun ls hl => ?_)
          refine lv_goto (tgt := 63) hx hb dX7_coded_113 (by decide) ?_
          exact hq63 x1 x2 x3 x4 y42 M37 _ _ _ (lv_sub hl [1, 2, 3, 4, 5, 0] rfl) hW h
        · have h := ob_neg c41 h
          refine lv_aload_n hx hb dX7_coded_98 rfl (lv_at hl 0 rfl) ?_
          refine lv_bipush (v := 6) hx hb dX7_coded_99 (by decide) ?_
          refine lv_iload hx hb dX7_coded_101 (lv_at hl 4 rfl) ?_
          refine lv_iload hx hb dX7_coded_103 (lv_at hl 5 rfl) ?_
          refine lv_iadd hx hb dX7_coded_105 ?_
          obtain ⟨M44, e43, h⟩ := ob_bind h
          refine bg_callv X hW (cX7_fails_k e43) rfl rfl kw7_131 kd_X7_fails rfl rfl ⟨Nat.le_of_ble_eq_true rfl, Nat.le_of_ble_eq_true rfl⟩ ⟨Nat.le_refl _, Nat.le_refl _⟩ hl.1 (Nat.le_of_ble_eq_true rfl) dX7_coded_106 (fun H locs hW => ?_)
          exact rt_v X hW h dX7_coded_109
      · have h := ob_pos c39 h
        exact rt_v X hW h dX7_coded_82
def rX7_coded (a1 : Int32) (a2 : Int32) (M : Mm) : Option Mm :=
    (bd2 (rX7_has a2 (2 : Int32) M) fun r3 M2 => if r3 = 0 then (some M2) else (if (a2 + (1 : Int32)) < 0 ∨ 1200 ≤ ((a2 + (1 : Int32))).toNatClampNeg then none else lt_ (M2.1 32 ((a2 + (1 : Int32))).toNatClampNeg) fun y6 => bd2 (rX7_in (y6).toInt64 (1 : Int64) (8 : Int64) M2) fun r9 M8 => if r9 = 0 then (Option.bind (rX7_fails (6 : Int32) (a2 + (1 : Int32)) M8) fun M46 => some M46) else (bd2 (rX7_has a2 ((2 : Int32) + y6) M8) fun r13 M12 => if r13 = 0 then (some M12) else (lt_ ((a2 + (2 : Int32)) + y6) fun y15 => rX7_coded_b63 FU a1 a2 y6 y15 (0 : Int32) M12))))
set_option maxRecDepth 100000 in
set_option maxHeartbeats 4000000 in
theorem cX7_coded_k {l : Launch} {G : Gg} {a1 : Int32} {a2 : Int32} {M M' : Mm} (h : rX7_coded a1 a2 M = some M') : CTv l yX7_coded cX7_coded 6 3 G [.ref (G.2.2.2 31), .int a1, .int a2] M M' := by
  unfold rX7_coded at h
  refine ct_v (by decide) (Nat.le_of_ble_eq_true rfl) (fun p e s m below meth c ls X hl hW => ?_)
  have hx := X.1.1
  have hb := X.1.2.1
  refine lv_aload_n hx hb dX7_coded_0 rfl (lv_at hl 0 rfl) ?_
  refine lv_iload_n hx hb dX7_coded_1 rfl (lv_at hl 2 rfl) ?_
  refine lv_iconst (v := 2) hx hb dX7_coded_2 (by decide) ?_
  obtain ⟨r3, M2, e1, h⟩ := ob_bd2 h
  refine bg_calli X hW (cX7_has_k e1) rfl rfl kw7_149 kd_X7_has rfl rfl ⟨Nat.le_of_ble_eq_true rfl, Nat.le_of_ble_eq_true rfl⟩ ⟨Nat.le_refl _, Nat.le_refl _⟩ hl.1 (Nat.le_of_ble_eq_true rfl) dX7_coded_3 (fun H locs hW => ?_)
  refine lv_if_ne (tgt := 10) hx hb dX7_coded_6 (by decide) (fun c4 => ?_) (fun c4 => ?_)
  · have h := ob_neg c4 h
    refine lv_aload_n hx hb dX7_coded_10 rfl (lv_at hl 0 rfl) ?_
    refine gf7_7 (cN := 31) X hW rfl dX7_coded_11 ?_
    refine lv_iload_n hx hb dX7_coded_14 rfl (lv_at hl 2 rfl) ?_
    refine lv_iconst (v := 1) hx hb dX7_coded_15 (by decide) ?_
    refine lv_iadd hx hb dX7_coded_16 ?_
    obtain ⟨g5, h⟩ := ob_gd h
    refine bg_ald (cN := 32) X hW (n := 1200) rfl g5 dX7_coded_17 ?_
    refine lv_topi (fun y6 ey6 => ?_)
    have h := ob_lt ey6 h
    refine lv_istore_n (lv' := [(3, .int y6), (0, .ref (G.2.2.2 31)), (1, .int a1), (2, .int a2)]) hx hb dX7_coded_18 rfl hl (by decide) rfl (fun ls hl => ?_)
    refine lv_iload_n hx hb dX7_coded_19 rfl (lv_at hl 0 rfl) ?_
    refine lv_i2l hx hb dX7_coded_20 rfl ?_
    refine lv_lconst (v := 1) hx hb dX7_coded_21 (by decide) ?_
    refine lv_ldc2 (v := 8) hx hb X.1.2.2.2.1 (X.1.2.2.2.2 _ mw628) dX7_coded_22 ?_
    obtain ⟨r9, M8, e7, h⟩ := ob_bd2 h
    refine bg_calls X hW (cX7_in_k e7) kw7_74 kd_X7_in rfl rfl ⟨Nat.le_of_ble_eq_true rfl, Nat.le_of_ble_eq_true rfl⟩ ⟨Nat.le_refl _, Nat.le_refl _⟩ hl.1 (Nat.le_of_ble_eq_true rfl) dX7_coded_25 (fun H locs hW => ?_)
    refine lv_if_ne (tgt := 41) hx hb dX7_coded_28 (by decide) (fun c10 => ?_) (fun c10 => ?_)
    · have h := ob_neg c10 h
      refine lv_aload_n hx hb dX7_coded_41 rfl (lv_at hl 1 rfl) ?_
      refine lv_iload_n hx hb dX7_coded_42 rfl (lv_at hl 3 rfl) ?_
      refine lv_iconst (v := 2) hx hb dX7_coded_43 (by decide) ?_
      refine lv_iload_n hx hb dX7_coded_44 rfl (lv_at hl 0 rfl) ?_
      refine lv_iadd hx hb dX7_coded_45 ?_
      obtain ⟨r13, M12, e11, h⟩ := ob_bd2 h
      refine bg_calli X hW (cX7_has_k e11) rfl rfl kw7_149 kd_X7_has rfl rfl ⟨Nat.le_of_ble_eq_true rfl, Nat.le_of_ble_eq_true rfl⟩ ⟨Nat.le_refl _, Nat.le_refl _⟩ hl.1 (Nat.le_of_ble_eq_true rfl) dX7_coded_46 (fun H locs hW => ?_)
      refine lv_if_ne (tgt := 53) hx hb dX7_coded_49 (by decide) (fun c14 => ?_) (fun c14 => ?_)
      · have h := ob_neg c14 h
        refine lv_iload_n hx hb dX7_coded_53 rfl (lv_at hl 3 rfl) ?_
        refine lv_iconst (v := 2) hx hb dX7_coded_54 (by decide) ?_
        refine lv_iadd hx hb dX7_coded_55 ?_
        refine lv_iload_n hx hb dX7_coded_56 rfl (lv_at hl 0 rfl) ?_
        refine lv_iadd hx hb dX7_coded_57 ?_
        refine lv_topi (fun y15 ey15 => ?_)
        have h := ob_lt ey15 h
        refine lv_istore (lv' := [(4, .int y15), (3, .int y6), (0, .ref (G.2.2.2 31)), (1, .int a1), (2, .int a2)]) hx hb dX7_coded_58 hl (by decide) rfl (fun ls hl => ?_)
        refine lv_iconst (v := 0) hx hb dX7_coded_60 (by decide) ?_
        refine lv_istore (lv' := [(5, .int (0 : Int32)), (4, .int y15), (3, .int y6), (0, .ref (G.2.2.2 31)), (1, .int a1), (2, .int a2)]) hx hb dX7_coded_61 hl (by decide) rfl (fun ls hl => ?_)
        exact sX7_coded_b63 X FU a1 a2 y6 y15 (0 : Int32) M12 _ _ _ (lv_sub hl [3, 4, 5, 2, 1, 0] rfl) hW h
      · have h := ob_pos c14 h
        exact rt_v X hW h dX7_coded_52
    · have h := ob_pos c10 h
      refine lv_aload_n hx hb dX7_coded_31 rfl (lv_at hl 1 rfl) ?_
      refine lv_bipush (v := 6) hx hb dX7_coded_32 (by decide) ?_
      refine lv_iload_n hx hb dX7_coded_34 rfl (lv_at hl 3 rfl) ?_
      refine lv_iconst (v := 1) hx hb dX7_coded_35 (by decide) ?_
      refine lv_iadd hx hb dX7_coded_36 ?_
      obtain ⟨M46, e45, h⟩ := ob_bind h
      refine bg_callv X hW (cX7_fails_k e45) rfl rfl kw7_131 kd_X7_fails rfl rfl ⟨Nat.le_of_ble_eq_true rfl, Nat.le_of_ble_eq_true rfl⟩ ⟨Nat.le_refl _, Nat.le_refl _⟩ hl.1 (Nat.le_of_ble_eq_true rfl) dX7_coded_37 (fun H locs hW => ?_)
      exact rt_v X hW h dX7_coded_40
  · have h := ob_pos c4 h
    exact rt_v X hW h dX7_coded_9
def rX7_item_b240 (x1 : Int32) (x2 : Int32) (M : Mm) : Option Mm :=
    (if (x2 + (1 : Int32)) < 0 ∨ 1200 ≤ ((x2 + (1 : Int32))).toNatClampNeg then none else Option.bind (rX7_ends x1 ((x2 + (2 : Int32)) + (M.1 32 ((x2 + (1 : Int32))).toNatClampNeg)) M) fun M41 => some M41)
set_option maxRecDepth 100000 in
set_option maxHeartbeats 4000000 in
theorem sX7_item_b240 {p : Program} {l : Launch} {e : Env} {s : State} {m : MethodId} {args : Array Value} {below : List Frame} {meth : Method} {c : Code} {G : Gg} {M' : Mm} (X : Cx p m c meth cX7_item 4 s args RX7 none G) : ∀ (x1 : Int32) (x2 : Int32) (M : Mm) (ls : Array Slot) (H : Heap) (locs : List Loc), lv_has ls 4 [(0, .ref (G.2.2.2 31)), (1, .int x1), (2, .int x2)] → Wo G s M H locs → rX7_item_b240 x1 x2 M = some M' → W p l e (rm 4) s m args below meth c H locs 0 0 (Qv below args s G M') (F0 m 240 ls []) := by
    intro x1 x2 M ls H locs hl hW h
    unfold rX7_item_b240 at h
    have hx := X.1.1
    have hb := X.1.2.1
    refine lv_aload_n hx hb dX7_item_240 rfl (lv_at hl 0 rfl) ?_
    refine lv_iload_n hx hb dX7_item_241 rfl (lv_at hl 1 rfl) ?_
    refine lv_iload_n hx hb dX7_item_242 rfl (lv_at hl 2 rfl) ?_
    refine lv_iconst (v := 2) hx hb dX7_item_243 (by decide) ?_
    refine lv_iadd hx hb dX7_item_244 ?_
    refine lv_aload_n hx hb dX7_item_245 rfl (lv_at hl 0 rfl) ?_
    refine gf7_7 (cN := 31) X hW rfl dX7_item_246 ?_
    refine lv_iload_n hx hb dX7_item_249 rfl (lv_at hl 2 rfl) ?_
    refine lv_iconst (v := 1) hx hb dX7_item_250 (by decide) ?_
    refine lv_iadd hx hb dX7_item_251 ?_
    obtain ⟨g39, h⟩ := ob_gd h
    refine bg_ald (cN := 32) X hW (n := 1200) rfl g39 dX7_item_252 ?_
    refine lv_iadd hx hb dX7_item_253 ?_
    obtain ⟨M41, e40, h⟩ := ob_bind h
    refine bg_callv X hW (cX7_ends_k e40) rfl rfl kw7_163 kd_X7_ends rfl rfl ⟨Nat.le_of_ble_eq_true rfl, Nat.le_of_ble_eq_true rfl⟩ ⟨Nat.le_refl _, Nat.le_refl _⟩ hl.1 (Nat.le_of_ble_eq_true rfl) dX7_item_254 (fun H locs hW => ?_)
    refine lv_goto (tgt := 379) hx hb dX7_item_257 (by decide) ?_
    exact rt_v X hW h dX7_item_379
def rX7_item_b198_s (q198 : Int32 → Int32 → Int32 → Mm → Option Mm) (x1 : Int32) (x2 : Int32) (x3 : Int32) (M : Mm) : Option Mm :=
    (if (x2 + (1 : Int32)) < 0 ∨ 1200 ≤ ((x2 + (1 : Int32))).toNatClampNeg then none else if (M.1 32 ((x2 + (1 : Int32))).toNatClampNeg) ≤ x3 then (rX7_item_b240 x1 x2 M) else (if x2 < 0 ∨ 1200 ≤ (x2).toNatClampNeg then none else if (M.1 32 (x2).toNatClampNeg) = (1 : Int32) then (if ((x2 + (2 : Int32)) + x3) < 0 ∨ 1200 ≤ (((x2 + (2 : Int32)) + x3)).toNatClampNeg then none else Option.bind (rX7_comes (M.1 32 (((x2 + (2 : Int32)) + x3)).toNatClampNeg) M) fun M46 => lt_ (x3 + 1) fun y47 => q198 x1 x2 y47 M46) else (rX7_item_b240 x1 x2 M)))
def rX7_item_b198 : Nat → Int32 → Int32 → Int32 → Mm → Option Mm
  | 0 => fun _ _ _ _ => none
  | n + 1 => rX7_item_b198_s (rX7_item_b198 n)
set_option maxRecDepth 100000 in
set_option maxHeartbeats 4000000 in
theorem sX7_item_b198 {p : Program} {l : Launch} {e : Env} {s : State} {m : MethodId} {args : Array Value} {below : List Frame} {meth : Method} {c : Code} {G : Gg} {M' : Mm} (X : Cx p m c meth cX7_item 4 s args RX7 none G) : ∀ (n : Nat), ∀ (x1 : Int32) (x2 : Int32) (x3 : Int32) (M : Mm) (ls : Array Slot) (H : Heap) (locs : List Loc), lv_has ls 4 [(0, .ref (G.2.2.2 31)), (1, .int x1), (2, .int x2), (3, .int x3)] → Wo G s M H locs → rX7_item_b198 n x1 x2 x3 M = some M' → W p l e (rm 4) s m args below meth c H locs 0 0 (Qv below args s G M') (F0 m 198 ls []) := by
  intro n
  induction n with
  | zero =>
    intro x1 x2 x3 M ls H locs hl hW h
    cases (show (none : Option Mm) = some M' from h)
  | succ n hq1980 =>
    have hq198 : ∀ (x1 : Int32) (x2 : Int32) (x3 : Int32) (M : Mm) (ls : Array Slot) (H : Heap) (locs : List Loc), lv_has ls 4 [(0, .ref (G.2.2.2 31)), (1, .int x1), (2, .int x2), (3, .int x3)] → Wo G s M H locs → (rX7_item_b198 n) x1 x2 x3 M = some M' → W p l e (rm 4) s m args below meth c H locs 0 0 (Qv below args s G M') (F0 m 198 ls []) := hq1980
    intro x1 x2 x3 M ls H locs hl hW h
    have h : rX7_item_b198_s (rX7_item_b198 n) x1 x2 x3 M = some M' := h
    unfold rX7_item_b198_s at h
    have hx := X.1.1
    have hb := X.1.2.1
    refine lv_iload_n hx hb dX7_item_198 rfl (lv_at hl 3 rfl) ?_
    refine lv_aload_n hx hb dX7_item_199 rfl (lv_at hl 0 rfl) ?_
    refine gf7_7 (cN := 31) X hW rfl dX7_item_200 ?_
    refine lv_iload_n hx hb dX7_item_203 rfl (lv_at hl 2 rfl) ?_
    refine lv_iconst (v := 1) hx hb dX7_item_204 (by decide) ?_
    refine lv_iadd hx hb dX7_item_205 ?_
    obtain ⟨g37, h⟩ := ob_gd h
    refine bg_ald (cN := 32) X hW (n := 1200) rfl g37 dX7_item_206 ?_
    refine lv_icmp_ge (tgt := 240) hx hb dX7_item_207 (by decide) (fun c38 => ?_) (fun c38 => ?_)
    · have h := ob_pos c38 h
      exact sX7_item_b240 X x1 x2 M _ _ _ (lv_sub hl [0, 1, 2] rfl) hW h
    · have h := ob_neg c38 h
      refine lv_aload_n hx hb dX7_item_210 rfl (lv_at hl 0 rfl) ?_
      refine gf7_7 (cN := 31) X hW rfl dX7_item_211 ?_
      refine lv_iload_n hx hb dX7_item_214 rfl (lv_at hl 2 rfl) ?_
      obtain ⟨g42, h⟩ := ob_gd h
      refine bg_ald (cN := 32) X hW (n := 1200) rfl g42 dX7_item_215 ?_
      refine lv_iconst (v := 1) hx hb dX7_item_216 (by decide) ?_
      refine lv_icmp_ne (tgt := 240) hx hb dX7_item_217 (by decide) (fun c43 => ?_) (fun c43 => ?_)
      · have h := ob_neg c43 h
        exact sX7_item_b240 X x1 x2 M _ _ _ (lv_sub hl [0, 1, 2] rfl) hW h
      · have h := ob_pos c43 h
        refine lv_aload_n hx hb dX7_item_220 rfl (lv_at hl 0 rfl) ?_
        refine lv_aload_n hx hb dX7_item_221 rfl (lv_at hl 0 rfl) ?_
        refine gf7_7 (cN := 31) X hW rfl dX7_item_222 ?_
        refine lv_iload_n hx hb dX7_item_225 rfl (lv_at hl 2 rfl) ?_
        refine lv_iconst (v := 2) hx hb dX7_item_226 (by decide) ?_
        refine lv_iadd hx hb dX7_item_227 ?_
        refine lv_iload_n hx hb dX7_item_228 rfl (lv_at hl 3 rfl) ?_
        refine lv_iadd hx hb dX7_item_229 ?_
        obtain ⟨g44, h⟩ := ob_gd h
        refine bg_ald (cN := 32) X hW (n := 1200) rfl g44 dX7_item_230 ?_
        obtain ⟨M46, e45, h⟩ := ob_bind h
        refine bg_callv X hW (cX7_comes_k e45) rfl rfl kw7_160 kd_X7_comes rfl rfl ⟨Nat.le_of_ble_eq_true rfl, Nat.le_of_ble_eq_true rfl⟩ ⟨Nat.le_refl _, Nat.le_refl _⟩ hl.1 (Nat.le_of_ble_eq_true rfl) dX7_item_231 (fun H locs hW => ?_)
        obtain ⟨y47, ey47⟩ : ∃ y : Int32, y = (x3 + 1) := ⟨_, rfl⟩
        have h := ob_lt ey47 h
        refine lv_iinc (v := y47) (lv' := [(3, .int y47), (0, .ref (G.2.2.2 31)), (1, .int x1), (2, .int x2)]) hx hb dX7_item_234 hl (k := 3) rfl (by rw [ey47]; rfl) (by decide) rfl (fun ls hl => ?_)
        refine lv_goto (tgt := 198) hx hb dX7_item_237 (by decide) ?_
        exact hq198 x1 x2 y47 M46 _ _ _ (lv_sub hl [1, 2, 3, 0] rfl) hW h
def rX7_item_b190 (x1 : Int32) (x2 : Int32) (s0 : Int32) (s1 : Int32) (s2 : Int32) (M : Mm) : Option Mm :=
    (bd2 (rX7_pays s2 s1 s0 M) fun r35 M34 => if r35 = 0 then (some M34) else (rX7_item_b198 FU x1 x2 (0 : Int32) M34))
set_option maxRecDepth 100000 in
set_option maxHeartbeats 4000000 in
theorem sX7_item_b190 {p : Program} {l : Launch} {e : Env} {s : State} {m : MethodId} {args : Array Value} {below : List Frame} {meth : Method} {c : Code} {G : Gg} {M' : Mm} (X : Cx p m c meth cX7_item 4 s args RX7 none G) : ∀ (x1 : Int32) (x2 : Int32) (s0 : Int32) (s1 : Int32) (s2 : Int32) (M : Mm) (ls : Array Slot) (H : Heap) (locs : List Loc), lv_has ls 4 [(0, .ref (G.2.2.2 31)), (1, .int x1), (2, .int x2)] → Wo G s M H locs → rX7_item_b190 x1 x2 s0 s1 s2 M = some M' → W p l e (rm 4) s m args below meth c H locs 0 0 (Qv below args s G M') (F0 m 190 ls [.int s0, .int s1, .int s2, .ref (G.2.2.2 31)]) := by
    intro x1 x2 s0 s1 s2 M ls H locs hl hW h
    unfold rX7_item_b190 at h
    have hx := X.1.1
    have hb := X.1.2.1
    obtain ⟨r35, M34, e33, h⟩ := ob_bd2 h
    refine bg_calli X hW (cX7_pays_k e33) rfl rfl kw7_156 kd_X7_pays rfl rfl ⟨Nat.le_of_ble_eq_true rfl, Nat.le_of_ble_eq_true rfl⟩ ⟨Nat.le_refl _, Nat.le_refl _⟩ hl.1 (Nat.le_of_ble_eq_true rfl) dX7_item_190 (fun H locs hW => ?_)
    refine lv_if_eq (tgt := 379) hx hb dX7_item_193 (by decide) (fun c36 => ?_) (fun c36 => ?_)
    · have h := ob_pos c36 h
      exact rt_v X hW h dX7_item_379
    · have h := ob_neg c36 h
      refine lv_iconst (v := 0) hx hb dX7_item_196 (by decide) ?_
      refine lv_istore_n (lv' := [(3, .int (0 : Int32)), (0, .ref (G.2.2.2 31)), (1, .int x1), (2, .int x2)]) hx hb dX7_item_197 rfl hl (by decide) rfl (fun ls hl => ?_)
      exact sX7_item_b198 X FU x1 x2 (0 : Int32) M34 _ _ _ (lv_sub hl [1, 2, 3, 0] rfl) hW h
def rX7_item_b166 (x1 : Int32) (x2 : Int32) (s0 : Int32) (s1 : Int32) (s2 : Int32) (s3 : Int32) (M : Mm) : Option Mm :=
    (if x2 < 0 ∨ 1200 ≤ (x2).toNatClampNeg then none else if (M.1 32 (x2).toNatClampNeg) = (1 : Int32) then (if (x2 + (1 : Int32)) < 0 ∨ 1200 ≤ ((x2 + (1 : Int32))).toNatClampNeg then none else rX7_item_b190 x1 x2 (M.1 32 ((x2 + (1 : Int32))).toNatClampNeg) (s2 + (s1 * s0)) s3 M) else (rX7_item_b190 x1 x2 (0 : Int32) (s2 + (s1 * s0)) s3 M))
set_option maxRecDepth 100000 in
set_option maxHeartbeats 4000000 in
theorem sX7_item_b166 {p : Program} {l : Launch} {e : Env} {s : State} {m : MethodId} {args : Array Value} {below : List Frame} {meth : Method} {c : Code} {G : Gg} {M' : Mm} (X : Cx p m c meth cX7_item 4 s args RX7 none G) : ∀ (x1 : Int32) (x2 : Int32) (s0 : Int32) (s1 : Int32) (s2 : Int32) (s3 : Int32) (M : Mm) (ls : Array Slot) (H : Heap) (locs : List Loc), lv_has ls 4 [(0, .ref (G.2.2.2 31)), (1, .int x1), (2, .int x2)] → Wo G s M H locs → rX7_item_b166 x1 x2 s0 s1 s2 s3 M = some M' → W p l e (rm 4) s m args below meth c H locs 0 0 (Qv below args s G M') (F0 m 166 ls [.int s0, .int s1, .int s2, .int s3, .ref (G.2.2.2 31)]) := by
    intro x1 x2 s0 s1 s2 s3 M ls H locs hl hW h
    unfold rX7_item_b166 at h
    have hx := X.1.1
    have hb := X.1.2.1
    refine lv_imul hx hb dX7_item_166 ?_
    refine lv_iadd hx hb dX7_item_167 ?_
    refine lv_aload_n hx hb dX7_item_168 rfl (lv_at hl 0 rfl) ?_
    refine gf7_7 (cN := 31) X hW rfl dX7_item_169 ?_
    refine lv_iload_n hx hb dX7_item_172 rfl (lv_at hl 2 rfl) ?_
    obtain ⟨g31, h⟩ := ob_gd h
    refine bg_ald (cN := 32) X hW (n := 1200) rfl g31 dX7_item_173 ?_
    refine lv_iconst (v := 1) hx hb dX7_item_174 (by decide) ?_
    refine lv_icmp_ne (tgt := 189) hx hb dX7_item_175 (by decide) (fun c32 => ?_) (fun c32 => ?_)
    · have h := ob_neg c32 h
      refine lv_iconst (v := 0) hx hb dX7_item_189 (by decide) ?_
      exact sX7_item_b190 X x1 x2 (0 : Int32) (s2 + (s1 * s0)) s3 M _ _ _ (lv_sub hl [0, 1, 2] rfl) hW h
    · have h := ob_pos c32 h
      refine lv_aload_n hx hb dX7_item_178 rfl (lv_at hl 0 rfl) ?_
      refine gf7_7 (cN := 31) X hW rfl dX7_item_179 ?_
      refine lv_iload_n hx hb dX7_item_182 rfl (lv_at hl 2 rfl) ?_
      refine lv_iconst (v := 1) hx hb dX7_item_183 (by decide) ?_
      refine lv_iadd hx hb dX7_item_184 ?_
      obtain ⟨g48, h⟩ := ob_gd h
      refine bg_ald (cN := 32) X hW (n := 1200) rfl g48 dX7_item_185 ?_
      refine lv_goto (tgt := 190) hx hb dX7_item_186 (by decide) ?_
      exact sX7_item_b190 X x1 x2 (M.1 32 ((x2 + (1 : Int32))).toNatClampNeg) (s2 + (s1 * s0)) s3 M _ _ _ (lv_sub hl [0, 1, 2] rfl) hW h
def rX7_item_b297_s (q297 : Int32 → Int32 → Int32 → Mm → Option Mm) (x1 : Int32) (x2 : Int32) (x3 : Int32) (M : Mm) : Option Mm :=
    (if (x2 + (1 : Int32)) < 0 ∨ 1200 ≤ ((x2 + (1 : Int32))).toNatClampNeg then none else if (M.1 32 ((x2 + (1 : Int32))).toNatClampNeg) ≤ x3 then (Option.bind (rX7_ends x1 (x2 + (3 : Int32)) M) fun M63 => some M63) else (if (x2 + (2 : Int32)) < 0 ∨ 1200 ≤ ((x2 + (2 : Int32))).toNatClampNeg then none else Option.bind (rX7_comes (M.1 32 ((x2 + (2 : Int32))).toNatClampNeg) M) fun M66 => lt_ (x3 + 1) fun y67 => q297 x1 x2 y67 M66))
def rX7_item_b297 : Nat → Int32 → Int32 → Int32 → Mm → Option Mm
  | 0 => fun _ _ _ _ => none
  | n + 1 => rX7_item_b297_s (rX7_item_b297 n)
set_option maxRecDepth 100000 in
set_option maxHeartbeats 4000000 in
theorem sX7_item_b297 {p : Program} {l : Launch} {e : Env} {s : State} {m : MethodId} {args : Array Value} {below : List Frame} {meth : Method} {c : Code} {G : Gg} {M' : Mm} (X : Cx p m c meth cX7_item 4 s args RX7 none G) : ∀ (n : Nat), ∀ (x1 : Int32) (x2 : Int32) (x3 : Int32) (M : Mm) (ls : Array Slot) (H : Heap) (locs : List Loc), lv_has ls 4 [(0, .ref (G.2.2.2 31)), (1, .int x1), (2, .int x2), (3, .int x3)] → Wo G s M H locs → rX7_item_b297 n x1 x2 x3 M = some M' → W p l e (rm 4) s m args below meth c H locs 0 0 (Qv below args s G M') (F0 m 297 ls []) := by
  intro n
  induction n with
  | zero =>
    intro x1 x2 x3 M ls H locs hl hW h
    cases (show (none : Option Mm) = some M' from h)
  | succ n hq2970 =>
    have hq297 : ∀ (x1 : Int32) (x2 : Int32) (x3 : Int32) (M : Mm) (ls : Array Slot) (H : Heap) (locs : List Loc), lv_has ls 4 [(0, .ref (G.2.2.2 31)), (1, .int x1), (2, .int x2), (3, .int x3)] → Wo G s M H locs → (rX7_item_b297 n) x1 x2 x3 M = some M' → W p l e (rm 4) s m args below meth c H locs 0 0 (Qv below args s G M') (F0 m 297 ls []) := hq2970
    intro x1 x2 x3 M ls H locs hl hW h
    have h : rX7_item_b297_s (rX7_item_b297 n) x1 x2 x3 M = some M' := h
    unfold rX7_item_b297_s at h
    have hx := X.1.1
    have hb := X.1.2.1
    refine lv_iload_n hx hb dX7_item_297 rfl (lv_at hl 3 rfl) ?_
    refine lv_aload_n hx hb dX7_item_298 rfl (lv_at hl 0 rfl) ?_
    refine gf7_7 (cN := 31) X hW rfl dX7_item_299 ?_
    refine lv_iload_n hx hb dX7_item_302 rfl (lv_at hl 2 rfl) ?_
    refine lv_iconst (v := 1) hx hb dX7_item_303 (by decide) ?_
    refine lv_iadd hx hb dX7_item_304 ?_
    obtain ⟨g60, h⟩ := ob_gd h
    refine bg_ald (cN := 32) X hW (n := 1200) rfl g60 dX7_item_305 ?_
    refine lv_icmp_ge (tgt := 327) hx hb dX7_item_306 (by decide) (fun c61 => ?_) (fun c61 => ?_)
    · have h := ob_pos c61 h
      refine lv_aload_n hx hb dX7_item_327 rfl (lv_at hl 0 rfl) ?_
      refine lv_iload_n hx hb dX7_item_328 rfl (lv_at hl 1 rfl) ?_
      refine lv_iload_n hx hb dX7_item_329 rfl (lv_at hl 2 rfl) ?_
      refine lv_iconst (v := 3) hx hb dX7_item_330 (by decide) ?_
      refine lv_iadd hx hb dX7_item_331 ?_
      obtain ⟨M63, e62, h⟩ := ob_bind h
      refine bg_callv X hW (cX7_ends_k e62) rfl rfl kw7_163 kd_X7_ends rfl rfl ⟨Nat.le_of_ble_eq_true rfl, Nat.le_of_ble_eq_true rfl⟩ ⟨Nat.le_refl _, Nat.le_refl _⟩ hl.1 (Nat.le_of_ble_eq_true rfl) dX7_item_332 (fun H locs hW => ?_)
      refine lv_goto (tgt := 379) hx hb dX7_item_335 (by decide) ?_
      exact rt_v X hW h dX7_item_379
    · have h := ob_neg c61 h
      refine lv_aload_n hx hb dX7_item_309 rfl (lv_at hl 0 rfl) ?_
      refine lv_aload_n hx hb dX7_item_310 rfl (lv_at hl 0 rfl) ?_
      refine gf7_7 (cN := 31) X hW rfl dX7_item_311 ?_
      refine lv_iload_n hx hb dX7_item_314 rfl (lv_at hl 2 rfl) ?_
      refine lv_iconst (v := 2) hx hb dX7_item_315 (by decide) ?_
      refine lv_iadd hx hb dX7_item_316 ?_
      obtain ⟨g64, h⟩ := ob_gd h
      refine bg_ald (cN := 32) X hW (n := 1200) rfl g64 dX7_item_317 ?_
      obtain ⟨M66, e65, h⟩ := ob_bind h
      refine bg_callv X hW (cX7_comes_k e65) rfl rfl kw7_160 kd_X7_comes rfl rfl ⟨Nat.le_of_ble_eq_true rfl, Nat.le_of_ble_eq_true rfl⟩ ⟨Nat.le_refl _, Nat.le_refl _⟩ hl.1 (Nat.le_of_ble_eq_true rfl) dX7_item_318 (fun H locs hW => ?_)
      obtain ⟨y67, ey67⟩ : ∃ y : Int32, y = (x3 + 1) := ⟨_, rfl⟩
      have h := ob_lt ey67 h
      refine lv_iinc (v := y67) (lv' := [(3, .int y67), (0, .ref (G.2.2.2 31)), (1, .int x1), (2, .int x2)]) hx hb dX7_item_321 hl (k := 3) rfl (by rw [ey67]; rfl) (by decide) rfl (fun ls hl => ?_)
      refine lv_goto (tgt := 297) hx hb dX7_item_324 (by decide) ?_
      exact hq297 x1 x2 y67 M66 _ _ _ (lv_sub hl [1, 2, 3, 0] rfl) hW h
def rX7_item (M : Mm) : Option Mm :=
    (lt_ ((M.1 31 14) - (1 : Int32)) fun y1 => if y1 < 0 ∨ 10 ≤ (y1).toNatClampNeg then none else lt_ (M.1 36 (y1).toNatClampNeg) fun y3 => bd2 (rX7_has y3 (1 : Int32) M) fun r6 M5 => if r6 = 0 then (some M5) else (if y1 < 0 ∨ 10 ≤ (y1).toNatClampNeg then none else lt_ (st M5 40 (y1).toNatClampNeg y3) fun M9 => if y1 < 0 ∨ 10 ≤ (y1).toNatClampNeg then none else lt_ (st M9 41 (y1).toNatClampNeg (M9.1 31 4)) fun M11 => if y1 < 0 ∨ 10 ≤ (y1).toNatClampNeg then none else lt_ (st M11 42 (y1).toNatClampNeg (M11.1 31 10)) fun M13 => if y3 < 0 ∨ 1200 ≤ (y3).toNatClampNeg then none else if (M13.1 32 (y3).toNatClampNeg) = 0 then (Option.bind (rX7_closes y1 y3 M13) fun M17 => some M17) else if (M13.1 32 (y3).toNatClampNeg) = 1 then (bd2 (rX7_has y3 (2 : Int32) M13) fun r21 M20 => if r21 = 0 then (some M20) else (if (y3 + (1 : Int32)) < 0 ∨ 1200 ≤ ((y3 + (1 : Int32))).toNatClampNeg then none else bd2 (rX7_has y3 ((2 : Int32) + (M20.1 32 ((y3 + (1 : Int32))).toNatClampNeg)) M20) fun r26 M25 => if r26 = 0 then (some M25) else (if (y3 + (1 : Int32)) < 0 ∨ 1200 ≤ ((y3 + (1 : Int32))).toNatClampNeg then none else if y3 < 0 ∨ 1200 ≤ (y3).toNatClampNeg then none else if (M25.1 32 (y3).toNatClampNeg) = (1 : Int32) then (rX7_item_b166 y1 y3 (2 : Int32) (M25.1 32 ((y3 + (1 : Int32))).toNatClampNeg) (2 : Int32) y3 M25) else (rX7_item_b166 y1 y3 (1 : Int32) (M25.1 32 ((y3 + (1 : Int32))).toNatClampNeg) (2 : Int32) y3 M25)))) else if (M13.1 32 (y3).toNatClampNeg) = 2 then (bd2 (rX7_has y3 (3 : Int32) M13) fun r52 M51 => if r52 = 0 then (some M51) else (if (y3 + (1 : Int32)) < 0 ∨ 1200 ≤ ((y3 + (1 : Int32))).toNatClampNeg then none else if (y3 + (1 : Int32)) < 0 ∨ 1200 ≤ ((y3 + (1 : Int32))).toNatClampNeg then none else bd2 (rX7_pays y3 ((3 : Int32) + (M51.1 32 ((y3 + (1 : Int32))).toNatClampNeg)) (M51.1 32 ((y3 + (1 : Int32))).toNatClampNeg) M51) fun r58 M57 => if r58 = 0 then (some M57) else (rX7_item_b297 FU y1 y3 (0 : Int32) M57))) else if (M13.1 32 (y3).toNatClampNeg) = 3 then (Option.bind (rX7_copy y1 y3 M13) fun M70 => some M70) else if (M13.1 32 (y3).toNatClampNeg) = 4 then (Option.bind (rX7_nest y3 M13) fun M73 => some M73) else if (M13.1 32 (y3).toNatClampNeg) = 5 then (bd2 (rX7_has y3 (2 : Int32) M13) fun r77 M76 => if r77 = 0 then (some M76) else (if (y3 + (1 : Int32)) < 0 ∨ 1200 ≤ ((y3 + (1 : Int32))).toNatClampNeg then none else bd2 (rX7_has y3 ((2 : Int32) + (M76.1 32 ((y3 + (1 : Int32))).toNatClampNeg)) M76) fun r82 M81 => if r82 = 0 then (some M81) else (if (y3 + (1 : Int32)) < 0 ∨ 1200 ≤ ((y3 + (1 : Int32))).toNatClampNeg then none else if y3 < 0 ∨ 1200 ≤ (y3).toNatClampNeg then none else if (M81.1 32 (y3).toNatClampNeg) = (1 : Int32) then (rX7_item_b166 y1 y3 (2 : Int32) (M81.1 32 ((y3 + (1 : Int32))).toNatClampNeg) (2 : Int32) y3 M81) else (rX7_item_b166 y1 y3 (1 : Int32) (M81.1 32 ((y3 + (1 : Int32))).toNatClampNeg) (2 : Int32) y3 M81)))) else if (M13.1 32 (y3).toNatClampNeg) = 6 then (Option.bind (rX7_again y1 y3 M13) fun M89 => some M89) else if (M13.1 32 (y3).toNatClampNeg) = 7 then (Option.bind (rX7_coded y1 y3 M13) fun M92 => some M92) else (Option.bind (rX7_fails (2 : Int32) y3 M13) fun M94 => some M94)))
set_option maxRecDepth 100000 in
set_option maxHeartbeats 4000000 in
theorem cX7_item_k {l : Launch} {G : Gg} {M M' : Mm} (h : rX7_item M = some M') : CTv l yX7_item cX7_item 4 4 G [.ref (G.2.2.2 31)] M M' := by
  unfold rX7_item at h
  refine ct_v (by decide) (Nat.le_of_ble_eq_true rfl) (fun p e s m below meth c ls X hl hW => ?_)
  have hx := X.1.1
  have hb := X.1.2.1
  refine lv_aload_n hx hb dX7_item_0 rfl (lv_at hl 0 rfl) ?_
  refine gf7_137 (cN := 31) X hW rfl dX7_item_1 ?_
  refine lv_iconst (v := 1) hx hb dX7_item_4 (by decide) ?_
  refine lv_isub hx hb dX7_item_5 ?_
  refine lv_topi (fun y1 ey1 => ?_)
  have h := ob_lt ey1 h
  refine lv_istore_n (lv' := [(1, .int y1), (0, .ref (G.2.2.2 31))]) hx hb dX7_item_6 rfl hl (by decide) rfl (fun ls hl => ?_)
  refine lv_aload_n hx hb dX7_item_7 rfl (lv_at hl 1 rfl) ?_
  refine gf7_26 (cN := 31) X hW rfl dX7_item_8 ?_
  refine lv_iload_n hx hb dX7_item_11 rfl (lv_at hl 0 rfl) ?_
  obtain ⟨g2, h⟩ := ob_gd h
  refine bg_ald (cN := 36) X hW (n := 10) rfl g2 dX7_item_12 ?_
  refine lv_topi (fun y3 ey3 => ?_)
  have h := ob_lt ey3 h
  refine lv_istore_n (lv' := [(2, .int y3), (1, .int y1), (0, .ref (G.2.2.2 31))]) hx hb dX7_item_13 rfl hl (by decide) rfl (fun ls hl => ?_)
  refine lv_aload_n hx hb dX7_item_14 rfl (lv_at hl 2 rfl) ?_
  refine lv_iload_n hx hb dX7_item_15 rfl (lv_at hl 0 rfl) ?_
  refine lv_iconst (v := 1) hx hb dX7_item_16 (by decide) ?_
  obtain ⟨r6, M5, e4, h⟩ := ob_bd2 h
  refine bg_calli X hW (cX7_has_k e4) rfl rfl kw7_149 kd_X7_has rfl rfl ⟨Nat.le_of_ble_eq_true rfl, Nat.le_of_ble_eq_true rfl⟩ ⟨Nat.le_refl _, Nat.le_refl _⟩ hl.1 (Nat.le_of_ble_eq_true rfl) dX7_item_17 (fun H locs hW => ?_)
  refine lv_if_ne (tgt := 24) hx hb dX7_item_20 (by decide) (fun c7 => ?_) (fun c7 => ?_)
  · have h := ob_neg c7 h
    refine lv_aload_n hx hb dX7_item_24 rfl (lv_at hl 2 rfl) ?_
    refine gf7_38 (cN := 31) X hW rfl dX7_item_25 ?_
    refine lv_iload_n hx hb dX7_item_28 rfl (lv_at hl 1 rfl) ?_
    refine lv_iload_n hx hb dX7_item_29 rfl (lv_at hl 0 rfl) ?_
    obtain ⟨g8, h⟩ := ob_gd h
    refine bg_ast (cN := 40) X hW (n := 10) rfl g8 dX7_item_30 (fun M9 eM9 H locs hW => ?_)
    have h := ob_lt eM9 h
    refine lv_aload_n hx hb dX7_item_31 rfl (lv_at hl 2 rfl) ?_
    refine gf7_41 (cN := 31) X hW rfl dX7_item_32 ?_
    refine lv_iload_n hx hb dX7_item_35 rfl (lv_at hl 1 rfl) ?_
    refine lv_aload_n hx hb dX7_item_36 rfl (lv_at hl 2 rfl) ?_
    refine gf7_140 (cN := 31) X hW rfl dX7_item_37 ?_
    obtain ⟨g10, h⟩ := ob_gd h
    refine bg_ast (cN := 41) X hW (n := 10) rfl g10 dX7_item_40 (fun M11 eM11 H locs hW => ?_)
    have h := ob_lt eM11 h
    refine lv_aload_n hx hb dX7_item_41 rfl (lv_at hl 2 rfl) ?_
    refine gf7_44 (cN := 31) X hW rfl dX7_item_42 ?_
    refine lv_iload_n hx hb dX7_item_45 rfl (lv_at hl 1 rfl) ?_
    refine lv_aload_n hx hb dX7_item_46 rfl (lv_at hl 2 rfl) ?_
    refine gf7_125 (cN := 31) X hW rfl dX7_item_47 ?_
    obtain ⟨g12, h⟩ := ob_gd h
    refine bg_ast (cN := 42) X hW (n := 10) rfl g12 dX7_item_50 (fun M13 eM13 H locs hW => ?_)
    have h := ob_lt eM13 h
    refine lv_aload_n hx hb dX7_item_51 rfl (lv_at hl 2 rfl) ?_
    refine gf7_7 (cN := 31) X hW rfl dX7_item_52 ?_
    refine lv_iload_n hx hb dX7_item_55 rfl (lv_at hl 0 rfl) ?_
    obtain ⟨g14, h⟩ := ob_gd h
    refine bg_ald (cN := 32) X hW (n := 1200) rfl g14 dX7_item_56 ?_
    by_cases c15 : (M13.1 32 (y3).toNatClampNeg) = 0
    · have h := ob_pos c15 h
      refine lv_tableIn (off := 47) (tgt := 104) hx hb dX7_item_57 (by rw [c15]; decide) (by rw [c15]; decide) (by rw [c15]; decide) (by decide) ?_
      refine lv_aload_n hx hb dX7_item_104 rfl (lv_at hl 2 rfl) ?_
      refine lv_iload_n hx hb dX7_item_105 rfl (lv_at hl 1 rfl) ?_
      refine lv_iload_n hx hb dX7_item_106 rfl (lv_at hl 0 rfl) ?_
      obtain ⟨M17, e16, h⟩ := ob_bind h
      refine bg_callv X hW (cX7_closes_k e16) rfl rfl kw7_153 kd_X7_closes rfl rfl ⟨Nat.le_of_ble_eq_true rfl, Nat.le_of_ble_eq_true rfl⟩ ⟨Nat.le_refl _, Nat.le_refl _⟩ hl.1 (Nat.le_of_ble_eq_true rfl) dX7_item_107 (fun H locs hW => ?_)
      refine lv_goto (tgt := 379) hx hb dX7_item_110 (by decide) ?_
      exact rt_v X hW h dX7_item_379
    · have h := ob_neg c15 h
      by_cases c18 : (M13.1 32 (y3).toNatClampNeg) = 1
      · have h := ob_pos c18 h
        refine lv_tableIn (off := 56) (tgt := 113) hx hb dX7_item_57 (by rw [c18]; decide) (by rw [c18]; decide) (by rw [c18]; decide) (by decide) ?_
        refine lv_aload_n hx hb dX7_item_113 rfl (lv_at hl 2 rfl) ?_
        refine lv_iload_n hx hb dX7_item_114 rfl (lv_at hl 0 rfl) ?_
        refine lv_iconst (v := 2) hx hb dX7_item_115 (by decide) ?_
        obtain ⟨r21, M20, e19, h⟩ := ob_bd2 h
        refine bg_calli X hW (cX7_has_k e19) rfl rfl kw7_149 kd_X7_has rfl rfl ⟨Nat.le_of_ble_eq_true rfl, Nat.le_of_ble_eq_true rfl⟩ ⟨Nat.le_refl _, Nat.le_refl _⟩ hl.1 (Nat.le_of_ble_eq_true rfl) dX7_item_116 (fun H locs hW => ?_)
        refine lv_if_eq (tgt := 379) hx hb dX7_item_119 (by decide) (fun c22 => ?_) (fun c22 => ?_)
        · have h := ob_pos c22 h
          exact rt_v X hW h dX7_item_379
        · have h := ob_neg c22 h
          refine lv_aload_n hx hb dX7_item_122 rfl (lv_at hl 2 rfl) ?_
          refine lv_iload_n hx hb dX7_item_123 rfl (lv_at hl 0 rfl) ?_
          refine lv_iconst (v := 2) hx hb dX7_item_124 (by decide) ?_
          refine lv_aload_n hx hb dX7_item_125 rfl (lv_at hl 2 rfl) ?_
          refine gf7_7 (cN := 31) X hW rfl dX7_item_126 ?_
          refine lv_iload_n hx hb dX7_item_129 rfl (lv_at hl 0 rfl) ?_
          refine lv_iconst (v := 1) hx hb dX7_item_130 (by decide) ?_
          refine lv_iadd hx hb dX7_item_131 ?_
          obtain ⟨g23, h⟩ := ob_gd h
          refine bg_ald (cN := 32) X hW (n := 1200) rfl g23 dX7_item_132 ?_
          refine lv_iadd hx hb dX7_item_133 ?_
          obtain ⟨r26, M25, e24, h⟩ := ob_bd2 h
          refine bg_calli X hW (cX7_has_k e24) rfl rfl kw7_149 kd_X7_has rfl rfl ⟨Nat.le_of_ble_eq_true rfl, Nat.le_of_ble_eq_true rfl⟩ ⟨Nat.le_refl _, Nat.le_refl _⟩ hl.1 (Nat.le_of_ble_eq_true rfl) dX7_item_134 (fun H locs hW => ?_)
          refine lv_if_eq (tgt := 379) hx hb dX7_item_137 (by decide) (fun c27 => ?_) (fun c27 => ?_)
          · have h := ob_pos c27 h
            exact rt_v X hW h dX7_item_379
          · have h := ob_neg c27 h
            refine lv_aload_n hx hb dX7_item_140 rfl (lv_at hl 2 rfl) ?_
            refine lv_iload_n hx hb dX7_item_141 rfl (lv_at hl 0 rfl) ?_
            refine lv_iconst (v := 2) hx hb dX7_item_142 (by decide) ?_
            refine lv_aload_n hx hb dX7_item_143 rfl (lv_at hl 2 rfl) ?_
            refine gf7_7 (cN := 31) X hW rfl dX7_item_144 ?_
            refine lv_iload_n hx hb dX7_item_147 rfl (lv_at hl 0 rfl) ?_
            refine lv_iconst (v := 1) hx hb dX7_item_148 (by decide) ?_
            refine lv_iadd hx hb dX7_item_149 ?_
            obtain ⟨g28, h⟩ := ob_gd h
            refine bg_ald (cN := 32) X hW (n := 1200) rfl g28 dX7_item_150 ?_
            refine lv_aload_n hx hb dX7_item_151 rfl (lv_at hl 2 rfl) ?_
            refine gf7_7 (cN := 31) X hW rfl dX7_item_152 ?_
            refine lv_iload_n hx hb dX7_item_155 rfl (lv_at hl 0 rfl) ?_
            obtain ⟨g29, h⟩ := ob_gd h
            refine bg_ald (cN := 32) X hW (n := 1200) rfl g29 dX7_item_156 ?_
            refine lv_iconst (v := 1) hx hb dX7_item_157 (by decide) ?_
            refine lv_icmp_ne (tgt := 165) hx hb dX7_item_158 (by decide) (fun c30 => ?_) (fun c30 => ?_)
            · have h := ob_neg c30 h
              refine lv_iconst (v := 1) hx hb dX7_item_165 (by decide) ?_
              exact sX7_item_b166 X y1 y3 (1 : Int32) (M25.1 32 ((y3 + (1 : Int32))).toNatClampNeg) (2 : Int32) y3 M25 _ _ _ (lv_sub hl [2, 1, 0] rfl) hW h
            · have h := ob_pos c30 h
              refine lv_iconst (v := 2) hx hb dX7_item_161 (by decide) ?_
              refine lv_goto (tgt := 166) hx hb dX7_item_162 (by decide) ?_
              exact sX7_item_b166 X y1 y3 (2 : Int32) (M25.1 32 ((y3 + (1 : Int32))).toNatClampNeg) (2 : Int32) y3 M25 _ _ _ (lv_sub hl [2, 1, 0] rfl) hW h
      · have h := ob_neg c18 h
        by_cases c49 : (M13.1 32 (y3).toNatClampNeg) = 2
        · have h := ob_pos c49 h
          refine lv_tableIn (off := 203) (tgt := 260) hx hb dX7_item_57 (by rw [c49]; decide) (by rw [c49]; decide) (by rw [c49]; decide) (by decide) ?_
          refine lv_aload_n hx hb dX7_item_260 rfl (lv_at hl 2 rfl) ?_
          refine lv_iload_n hx hb dX7_item_261 rfl (lv_at hl 0 rfl) ?_
          refine lv_iconst (v := 3) hx hb dX7_item_262 (by decide) ?_
          obtain ⟨r52, M51, e50, h⟩ := ob_bd2 h
          refine bg_calli X hW (cX7_has_k e50) rfl rfl kw7_149 kd_X7_has rfl rfl ⟨Nat.le_of_ble_eq_true rfl, Nat.le_of_ble_eq_true rfl⟩ ⟨Nat.le_refl _, Nat.le_refl _⟩ hl.1 (Nat.le_of_ble_eq_true rfl) dX7_item_263 (fun H locs hW => ?_)
          refine lv_if_eq (tgt := 379) hx hb dX7_item_266 (by decide) (fun c53 => ?_) (fun c53 => ?_)
          · have h := ob_pos c53 h
            exact rt_v X hW h dX7_item_379
          · have h := ob_neg c53 h
            refine lv_aload_n hx hb dX7_item_269 rfl (lv_at hl 2 rfl) ?_
            refine lv_iload_n hx hb dX7_item_270 rfl (lv_at hl 0 rfl) ?_
            refine lv_iconst (v := 3) hx hb dX7_item_271 (by decide) ?_
            refine lv_aload_n hx hb dX7_item_272 rfl (lv_at hl 2 rfl) ?_
            refine gf7_7 (cN := 31) X hW rfl dX7_item_273 ?_
            refine lv_iload_n hx hb dX7_item_276 rfl (lv_at hl 0 rfl) ?_
            refine lv_iconst (v := 1) hx hb dX7_item_277 (by decide) ?_
            refine lv_iadd hx hb dX7_item_278 ?_
            obtain ⟨g54, h⟩ := ob_gd h
            refine bg_ald (cN := 32) X hW (n := 1200) rfl g54 dX7_item_279 ?_
            refine lv_iadd hx hb dX7_item_280 ?_
            refine lv_aload_n hx hb dX7_item_281 rfl (lv_at hl 2 rfl) ?_
            refine gf7_7 (cN := 31) X hW rfl dX7_item_282 ?_
            refine lv_iload_n hx hb dX7_item_285 rfl (lv_at hl 0 rfl) ?_
            refine lv_iconst (v := 1) hx hb dX7_item_286 (by decide) ?_
            refine lv_iadd hx hb dX7_item_287 ?_
            obtain ⟨g55, h⟩ := ob_gd h
            refine bg_ald (cN := 32) X hW (n := 1200) rfl g55 dX7_item_288 ?_
            obtain ⟨r58, M57, e56, h⟩ := ob_bd2 h
            refine bg_calli X hW (cX7_pays_k e56) rfl rfl kw7_156 kd_X7_pays rfl rfl ⟨Nat.le_of_ble_eq_true rfl, Nat.le_of_ble_eq_true rfl⟩ ⟨Nat.le_refl _, Nat.le_refl _⟩ hl.1 (Nat.le_of_ble_eq_true rfl) dX7_item_289 (fun H locs hW => ?_)
            refine lv_if_eq (tgt := 379) hx hb dX7_item_292 (by decide) (fun c59 => ?_) (fun c59 => ?_)
            · have h := ob_pos c59 h
              exact rt_v X hW h dX7_item_379
            · have h := ob_neg c59 h
              refine lv_iconst (v := 0) hx hb dX7_item_295 (by decide) ?_
              refine lv_istore_n (lv' := [(3, .int (0 : Int32)), (2, .int y3), (1, .int y1), (0, .ref (G.2.2.2 31))]) hx hb dX7_item_296 rfl hl (by decide) rfl (fun ls hl => ?_)
              exact sX7_item_b297 X FU y1 y3 (0 : Int32) M57 _ _ _ (lv_sub hl [3, 2, 1, 0] rfl) hW h
        · have h := ob_neg c49 h
          by_cases c68 : (M13.1 32 (y3).toNatClampNeg) = 3
          · have h := ob_pos c68 h
            refine lv_tableIn (off := 281) (tgt := 338) hx hb dX7_item_57 (by rw [c68]; decide) (by rw [c68]; decide) (by rw [c68]; decide) (by decide) ?_
            refine lv_aload_n hx hb dX7_item_338 rfl (lv_at hl 2 rfl) ?_
            refine lv_iload_n hx hb dX7_item_339 rfl (lv_at hl 1 rfl) ?_
            refine lv_iload_n hx hb dX7_item_340 rfl (lv_at hl 0 rfl) ?_
            obtain ⟨M70, e69, h⟩ := ob_bind h
            refine bg_callv X hW (cX7_copy_k e69) rfl rfl kw7_166 kd_X7_copy rfl rfl ⟨Nat.le_of_ble_eq_true rfl, Nat.le_of_ble_eq_true rfl⟩ ⟨Nat.le_refl _, Nat.le_refl _⟩ hl.1 (Nat.le_of_ble_eq_true rfl) dX7_item_341 (fun H locs hW => ?_)
            refine lv_goto (tgt := 379) hx hb dX7_item_344 (by decide) ?_
            exact rt_v X hW h dX7_item_379
          · have h := ob_neg c68 h
            by_cases c71 : (M13.1 32 (y3).toNatClampNeg) = 4
            · have h := ob_pos c71 h
              refine lv_tableIn (off := 290) (tgt := 347) hx hb dX7_item_57 (by rw [c71]; decide) (by rw [c71]; decide) (by rw [c71]; decide) (by decide) ?_
              refine lv_aload_n hx hb dX7_item_347 rfl (lv_at hl 2 rfl) ?_
              refine lv_iload_n hx hb dX7_item_348 rfl (lv_at hl 0 rfl) ?_
              obtain ⟨M73, e72, h⟩ := ob_bind h
              refine bg_callv X hW (cX7_nest_k e72) rfl rfl kw7_169 kd_X7_nest rfl rfl ⟨Nat.le_of_ble_eq_true rfl, Nat.le_of_ble_eq_true rfl⟩ ⟨Nat.le_refl _, Nat.le_refl _⟩ hl.1 (Nat.le_of_ble_eq_true rfl) dX7_item_349 (fun H locs hW => ?_)
              refine lv_goto (tgt := 379) hx hb dX7_item_352 (by decide) ?_
              exact rt_v X hW h dX7_item_379
            · have h := ob_neg c71 h
              by_cases c74 : (M13.1 32 (y3).toNatClampNeg) = 5
              · have h := ob_pos c74 h
                refine lv_tableIn (off := 56) (tgt := 113) hx hb dX7_item_57 (by rw [c74]; decide) (by rw [c74]; decide) (by rw [c74]; decide) (by decide) ?_
                refine lv_aload_n hx hb dX7_item_113 rfl (lv_at hl 2 rfl) ?_
                refine lv_iload_n hx hb dX7_item_114 rfl (lv_at hl 0 rfl) ?_
                refine lv_iconst (v := 2) hx hb dX7_item_115 (by decide) ?_
                obtain ⟨r77, M76, e75, h⟩ := ob_bd2 h
                refine bg_calli X hW (cX7_has_k e75) rfl rfl kw7_149 kd_X7_has rfl rfl ⟨Nat.le_of_ble_eq_true rfl, Nat.le_of_ble_eq_true rfl⟩ ⟨Nat.le_refl _, Nat.le_refl _⟩ hl.1 (Nat.le_of_ble_eq_true rfl) dX7_item_116 (fun H locs hW => ?_)
                refine lv_if_eq (tgt := 379) hx hb dX7_item_119 (by decide) (fun c78 => ?_) (fun c78 => ?_)
                · have h := ob_pos c78 h
                  exact rt_v X hW h dX7_item_379
                · have h := ob_neg c78 h
                  refine lv_aload_n hx hb dX7_item_122 rfl (lv_at hl 2 rfl) ?_
                  refine lv_iload_n hx hb dX7_item_123 rfl (lv_at hl 0 rfl) ?_
                  refine lv_iconst (v := 2) hx hb dX7_item_124 (by decide) ?_
                  refine lv_aload_n hx hb dX7_item_125 rfl (lv_at hl 2 rfl) ?_
                  refine gf7_7 (cN := 31) X hW rfl dX7_item_126 ?_
                  refine lv_iload_n hx hb dX7_item_129 rfl (lv_at hl 0 rfl) ?_
                  refine lv_iconst (v := 1) hx hb dX7_item_130 (by decide) ?_
                  refine lv_iadd hx hb dX7_item_131 ?_
                  obtain ⟨g79, h⟩ := ob_gd h
                  refine bg_ald (cN := 32) X hW (n := 1200) rfl g79 dX7_item_132 ?_
                  refine lv_iadd hx hb dX7_item_133 ?_
                  obtain ⟨r82, M81, e80, h⟩ := ob_bd2 h
                  refine bg_calli X hW (cX7_has_k e80) rfl rfl kw7_149 kd_X7_has rfl rfl ⟨Nat.le_of_ble_eq_true rfl, Nat.le_of_ble_eq_true rfl⟩ ⟨Nat.le_refl _, Nat.le_refl _⟩ hl.1 (Nat.le_of_ble_eq_true rfl) dX7_item_134 (fun H locs hW => ?_)
                  refine lv_if_eq (tgt := 379) hx hb dX7_item_137 (by decide) (fun c83 => ?_) (fun c83 => ?_)
                  · have h := ob_pos c83 h
                    exact rt_v X hW h dX7_item_379
                  · have h := ob_neg c83 h
                    refine lv_aload_n hx hb dX7_item_140 rfl (lv_at hl 2 rfl) ?_
                    refine lv_iload_n hx hb dX7_item_141 rfl (lv_at hl 0 rfl) ?_
                    refine lv_iconst (v := 2) hx hb dX7_item_142 (by decide) ?_
                    refine lv_aload_n hx hb dX7_item_143 rfl (lv_at hl 2 rfl) ?_
                    refine gf7_7 (cN := 31) X hW rfl dX7_item_144 ?_
                    refine lv_iload_n hx hb dX7_item_147 rfl (lv_at hl 0 rfl) ?_
                    refine lv_iconst (v := 1) hx hb dX7_item_148 (by decide) ?_
                    refine lv_iadd hx hb dX7_item_149 ?_
                    obtain ⟨g84, h⟩ := ob_gd h
                    refine bg_ald (cN := 32) X hW (n := 1200) rfl g84 dX7_item_150 ?_
                    refine lv_aload_n hx hb dX7_item_151 rfl (lv_at hl 2 rfl) ?_
                    refine gf7_7 (cN := 31) X hW rfl dX7_item_152 ?_
                    refine lv_iload_n hx hb dX7_item_155 rfl (lv_at hl 0 rfl) ?_
                    obtain ⟨g85, h⟩ := ob_gd h
                    refine bg_ald (cN := 32) X hW (n := 1200) rfl g85 dX7_item_156 ?_
                    refine lv_iconst (v := 1) hx hb dX7_item_157 (by decide) ?_
                    refine lv_icmp_ne (tgt := 165) hx hb dX7_item_158 (by decide) (fun c86 => ?_) (fun c86 => ?_)
                    · have h := ob_neg c86 h
                      refine lv_iconst (v := 1) hx hb dX7_item_165 (by decide) ?_
                      exact sX7_item_b166 X y1 y3 (1 : Int32) (M81.1 32 ((y3 + (1 : Int32))).toNatClampNeg) (2 : Int32) y3 M81 _ _ _ (lv_sub hl [2, 1, 0] rfl) hW h
                    · have h := ob_pos c86 h
                      refine lv_iconst (v := 2) hx hb dX7_item_161 (by decide) ?_
                      refine lv_goto (tgt := 166) hx hb dX7_item_162 (by decide) ?_
                      exact sX7_item_b166 X y1 y3 (2 : Int32) (M81.1 32 ((y3 + (1 : Int32))).toNatClampNeg) (2 : Int32) y3 M81 _ _ _ (lv_sub hl [2, 1, 0] rfl) hW h
              · have h := ob_neg c74 h
                by_cases c87 : (M13.1 32 (y3).toNatClampNeg) = 6
                · have h := ob_pos c87 h
                  refine lv_tableIn (off := 298) (tgt := 355) hx hb dX7_item_57 (by rw [c87]; decide) (by rw [c87]; decide) (by rw [c87]; decide) (by decide) ?_
                  refine lv_aload_n hx hb dX7_item_355 rfl (lv_at hl 2 rfl) ?_
                  refine lv_iload_n hx hb dX7_item_356 rfl (lv_at hl 1 rfl) ?_
                  refine lv_iload_n hx hb dX7_item_357 rfl (lv_at hl 0 rfl) ?_
                  obtain ⟨M89, e88, h⟩ := ob_bind h
                  refine bg_callv X hW (cX7_again_k e88) rfl rfl kw7_172 kd_X7_again rfl rfl ⟨Nat.le_of_ble_eq_true rfl, Nat.le_of_ble_eq_true rfl⟩ ⟨Nat.le_refl _, Nat.le_refl _⟩ hl.1 (Nat.le_of_ble_eq_true rfl) dX7_item_358 (fun H locs hW => ?_)
                  refine lv_goto (tgt := 379) hx hb dX7_item_361 (by decide) ?_
                  exact rt_v X hW h dX7_item_379
                · have h := ob_neg c87 h
                  by_cases c90 : (M13.1 32 (y3).toNatClampNeg) = 7
                  · have h := ob_pos c90 h
                    refine lv_tableIn (off := 307) (tgt := 364) hx hb dX7_item_57 (by rw [c90]; decide) (by rw [c90]; decide) (by rw [c90]; decide) (by decide) ?_
                    refine lv_aload_n hx hb dX7_item_364 rfl (lv_at hl 2 rfl) ?_
                    refine lv_iload_n hx hb dX7_item_365 rfl (lv_at hl 1 rfl) ?_
                    refine lv_iload_n hx hb dX7_item_366 rfl (lv_at hl 0 rfl) ?_
                    obtain ⟨M92, e91, h⟩ := ob_bind h
                    refine bg_callv X hW (cX7_coded_k e91) rfl rfl kw7_175 kd_X7_coded rfl rfl ⟨Nat.le_of_ble_eq_true rfl, Nat.le_of_ble_eq_true rfl⟩ ⟨Nat.le_refl _, Nat.le_refl _⟩ hl.1 (Nat.le_of_ble_eq_true rfl) dX7_item_367 (fun H locs hW => ?_)
                    refine lv_goto (tgt := 379) hx hb dX7_item_370 (by decide) ?_
                    exact rt_v X hW h dX7_item_379
                  · have h := ob_neg c90 h
                    refine lv_tableOut (tgt := 373) hx hb dX7_item_57 (by have nc15 := lv_neT (a := 0) c15 rfl; have nc18 := lv_neT (a := 1) c18 rfl; have nc49 := lv_neT (a := 2) c49 rfl; have nc68 := lv_neT (a := 3) c68 rfl; have nc71 := lv_neT (a := 4) c71 rfl; have nc74 := lv_neT (a := 5) c74 rfl; have nc87 := lv_neT (a := 6) c87 rfl; have nc90 := lv_neT (a := 7) c90 rfl; omega) (by decide) ?_
                    refine lv_aload_n hx hb dX7_item_373 rfl (lv_at hl 2 rfl) ?_
                    refine lv_iconst (v := 2) hx hb dX7_item_374 (by decide) ?_
                    refine lv_iload_n hx hb dX7_item_375 rfl (lv_at hl 0 rfl) ?_
                    obtain ⟨M94, e93, h⟩ := ob_bind h
                    refine bg_callv X hW (cX7_fails_k e93) rfl rfl kw7_131 kd_X7_fails rfl rfl ⟨Nat.le_of_ble_eq_true rfl, Nat.le_of_ble_eq_true rfl⟩ ⟨Nat.le_refl _, Nat.le_refl _⟩ hl.1 (Nat.le_of_ble_eq_true rfl) dX7_item_376 (fun H locs hW => ?_)
                    exact rt_v X hW h dX7_item_379
  · have h := ob_pos c7 h
    exact rt_v X hW h dX7_item_23
