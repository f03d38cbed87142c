def rX0_get (o : Nat) (n1 : Nat) (n2 : Nat) (a1 : Int32) (M : Mm) : Option (Int32 × Mm) :=
    (if a1 < 0 then (some ((-1 : Int32), M)) else (if (M.1 o 1) ≤ a1 then (some ((-1 : Int32), M)) else (if a1 < 0 ∨ n1 ≤ (a1).toNatClampNeg then none else some ((M.1 (o + 1) (a1).toNatClampNeg), M))))
set_option maxRecDepth 100000 in
set_option maxHeartbeats 4000000 in
theorem cX0_get_k {l : Launch} {G : Gg} {o : Nat} {n1 : Nat} {n2 : Nat} (ho : sh[o]? = some (skX0 o)) (ho1 : sh[o + 1]? = some (.inl n1)) (ho2 : sh[o + 2]? = some (.inl n2)) {a1 : Int32} {M M' : Mm} {r : Int32} (h : rX0_get o n1 n2 a1 M = some (r, M')) : CTi l yX0_get cX0_get 2 (some .int) 0 G [.ref (G.2.2.2 o), .int a1] M r M' := by
  unfold rX0_get at h
  refine ct_i (by decide) (Nat.le_of_ble_eq_true rfl) (fun p e s m below meth c ls X hl hW => ?_)
  have hx := X.1.1
  have hb := X.1.2.1
  refine lv_iload_n hx hb dX0_get_0 rfl (lv_at hl 1 rfl) ?_
  refine lv_if_lt (tgt := 21) hx hb dX0_get_1 (by decide) (fun c1 => ?_) (fun c1 => ?_)
  · have h := ob_pos c1 h
    refine lv_iconst (v := (-1)) hx hb dX0_get_21 (by decide) ?_
    exact rt_i X hW h dX0_get_22
  · have h := ob_neg c1 h
    refine lv_iload_n hx hb dX0_get_4 rfl (lv_at hl 1 rfl) ?_
    refine lv_aload_n hx hb dX0_get_5 rfl (lv_at hl 0 rfl) ?_
    refine gf0_24 (cN := o) X hW ho dX0_get_6 ?_
    refine lv_icmp_ge (tgt := 21) hx hb dX0_get_9 (by decide) (fun c2 => ?_) (fun c2 => ?_)
    · have h := ob_pos c2 h
      refine lv_iconst (v := (-1)) hx hb dX0_get_21 (by decide) ?_
      exact rt_i X hW h dX0_get_22
    · have h := ob_neg c2 h
      refine lv_aload_n hx hb dX0_get_12 rfl (lv_at hl 0 rfl) ?_
      refine gf0_15 (cN := o) X hW ho dX0_get_13 ?_
      refine lv_iload_n hx hb dX0_get_16 rfl (lv_at hl 1 rfl) ?_
      obtain ⟨g3, h⟩ := ob_gd h
      refine bg_ald (cN := (o + 1)) X hW (n := n1) ho1 g3 dX0_get_17 ?_
      refine lv_goto (tgt := 22) hx hb dX0_get_18 (by decide) ?_
      exact rt_i X hW h dX0_get_22
def rX0_put (o : Nat) (n1 : Nat) (n2 : Nat) (a1 : Int32) (a2 : Int32) (M : Mm) : Option Mm :=
    (if a1 < 0 then (some M) else (if (M.1 o 1) ≤ a1 then (some M) else (if a1 < 0 ∨ n1 ≤ (a1).toNatClampNeg then none else lt_ (st M (o + 1) (a1).toNatClampNeg a2) fun M4 => some M4)))
set_option maxRecDepth 100000 in
set_option maxHeartbeats 4000000 in
theorem cX0_put_k {l : Launch} {G : Gg} {o : Nat} {n1 : Nat} {n2 : Nat} (ho : sh[o]? = some (skX0 o)) (ho1 : sh[o + 1]? = some (.inl n1)) (ho2 : sh[o + 2]? = some (.inl n2)) {a1 : Int32} {a2 : Int32} {M M' : Mm} (h : rX0_put o n1 n2 a1 a2 M = some M') : CTv l yX0_put cX0_put 3 0 G [.ref (G.2.2.2 o), .int a1, .int a2] M M' := by
  unfold rX0_put at h
  refine ct_v (by decide) (Nat.le_of_ble_eq_true rfl) (fun p e s m below meth c ls X hl hW => ?_)
  have hx := X.1.1
  have hb := X.1.2.1
  refine lv_iload_n hx hb dX0_put_0 rfl (lv_at hl 1 rfl) ?_
  refine lv_if_lt (tgt := 19) hx hb dX0_put_1 (by decide) (fun c1 => ?_) (fun c1 => ?_)
  · have h := ob_pos c1 h
    exact rt_v X hW h dX0_put_19
  · have h := ob_neg c1 h
    refine lv_iload_n hx hb dX0_put_4 rfl (lv_at hl 1 rfl) ?_
    refine lv_aload_n hx hb dX0_put_5 rfl (lv_at hl 0 rfl) ?_
    refine gf0_24 (cN := o) X hW ho dX0_put_6 ?_
    refine lv_icmp_ge (tgt := 19) hx hb dX0_put_9 (by decide) (fun c2 => ?_) (fun c2 => ?_)
    · have h := ob_pos c2 h
      exact rt_v X hW h dX0_put_19
    · have h := ob_neg c2 h
      refine lv_aload_n hx hb dX0_put_12 rfl (lv_at hl 0 rfl) ?_
      refine gf0_15 (cN := o) X hW ho dX0_put_13 ?_
      refine lv_iload_n hx hb dX0_put_16 rfl (lv_at hl 1 rfl) ?_
      refine lv_iload_n hx hb dX0_put_17 rfl (lv_at hl 2 rfl) ?_
      obtain ⟨g3, h⟩ := ob_gd h
      refine bg_ast (cN := (o + 1)) X hW (n := n1) ho1 g3 dX0_put_18 (fun M4 eM4 H locs hW => ?_)
      have h := ob_lt eM4 h
      exact rt_v X hW h dX0_put_19
def rX0_append (o : Nat) (n1 : Nat) (n2 : Nat) (a1 : Int32) (M : Mm) : Option Mm :=
    (if (nI n1) ≤ (M.1 o 1) then (some M) else (if (M.1 o 1) < 0 ∨ n1 ≤ ((M.1 o 1)).toNatClampNeg then none else lt_ (st M (o + 1) ((M.1 o 1)).toNatClampNeg a1) fun M3 => lt_ (st M3 o 1 ((M3.1 o 1) + (1 : Int32))) fun M4 => some M4))
set_option maxRecDepth 100000 in
set_option maxHeartbeats 4000000 in
theorem cX0_append_k {l : Launch} {G : Gg} {o : Nat} {n1 : Nat} {n2 : Nat} (ho : sh[o]? = some (skX0 o)) (ho1 : sh[o + 1]? = some (.inl n1)) (ho2 : sh[o + 2]? = some (.inl n2)) {a1 : Int32} {M M' : Mm} (h : rX0_append o n1 n2 a1 M = some M') : CTv l yX0_append cX0_append 2 0 G [.ref (G.2.2.2 o), .int a1] M M' := by
  unfold rX0_append at h
  refine ct_v (by decide) (Nat.le_of_ble_eq_true rfl) (fun p e s m below meth c ls X hl hW => ?_)
  have hx := X.1.1
  have hb := X.1.2.1
  refine lv_aload_n hx hb dX0_append_0 rfl (lv_at hl 0 rfl) ?_
  refine gf0_24 (cN := o) X hW ho dX0_append_1 ?_
  refine lv_aload_n hx hb dX0_append_4 rfl (lv_at hl 0 rfl) ?_
  refine gf0_15 (cN := o) X hW ho dX0_append_5 ?_
  refine bg_len (cN := (o + 1)) X hW (n := n1) ho1 dX0_append_8 ?_
  refine lv_icmp_ge (tgt := 32) hx hb dX0_append_9 (by decide) (fun c1 => ?_) (fun c1 => ?_)
  · have h := ob_pos c1 h
    exact rt_v X hW h dX0_append_32
  · have h := ob_neg c1 h
    refine lv_aload_n hx hb dX0_append_12 rfl (lv_at hl 0 rfl) ?_
    refine gf0_15 (cN := o) X hW ho dX0_append_13 ?_
    refine lv_aload_n hx hb dX0_append_16 rfl (lv_at hl 0 rfl) ?_
    refine gf0_24 (cN := o) X hW ho dX0_append_17 ?_
    refine lv_iload_n hx hb dX0_append_20 rfl (lv_at hl 1 rfl) ?_
    obtain ⟨g2, h⟩ := ob_gd h
    refine bg_ast (cN := (o + 1)) X hW (n := n1) ho1 g2 dX0_append_21 (fun M3 eM3 H locs hW => ?_)
    have h := ob_lt eM3 h
    refine lv_aload_n hx hb dX0_append_22 rfl (lv_at hl 0 rfl) ?_
    refine lv_dup hx hb dX0_append_23 rfl ?_
    refine gf0_24 (cN := o) X hW ho dX0_append_24 ?_
    refine lv_iconst (v := 1) hx hb dX0_append_27 (by decide) ?_
    refine lv_iadd hx hb dX0_append_28 ?_
    refine pf0_24 (cN := o) X hW ho dX0_append_29 (fun M4 eM4 H locs hW => ?_)
    have h := ob_lt eM4 h
    exact rt_v X hW h dX0_append_32
def rX0_keepFirst (o : Nat) (n1 : Nat) (n2 : Nat) (a1 : Int32) (M : Mm) : Option Mm :=
    (lt_ (st M o 1 (if (0 : Int32) < (if (M.1 o 1) < a1 then (M.1 o 1) else a1) then (if (M.1 o 1) < a1 then (M.1 o 1) else a1) else (0 : Int32))) fun M1 => some M1)
set_option maxRecDepth 100000 in
set_option maxHeartbeats 4000000 in
theorem cX0_keepFirst_k {l : Launch} {G : Gg} {o : Nat} {n1 : Nat} {n2 : Nat} (ho : sh[o]? = some (skX0 o)) (ho1 : sh[o + 1]? = some (.inl n1)) (ho2 : sh[o + 2]? = some (.inl n2)) {a1 : Int32} {M M' : Mm} (h : rX0_keepFirst o n1 n2 a1 M = some M') : CTv l yX0_keepFirst cX0_keepFirst 2 1 G [.ref (G.2.2.2 o), .int a1] M M' := by
  unfold rX0_keepFirst at h
  refine ct_v (by decide) (Nat.le_of_ble_eq_true rfl) (fun p e s m below meth c ls X hl hW => ?_)
  have hx := X.1.1
  have hb := X.1.2.1
  refine lv_aload_n hx hb dX0_keepFirst_0 rfl (lv_at hl 0 rfl) ?_
  refine lv_iconst (v := 0) hx hb dX0_keepFirst_1 (by decide) ?_
  refine lv_iload_n hx hb dX0_keepFirst_2 rfl (lv_at hl 1 rfl) ?_
  refine lv_aload_n hx hb dX0_keepFirst_3 rfl (lv_at hl 0 rfl) ?_
  refine gf0_24 (cN := o) X hW ho dX0_keepFirst_4 ?_
  refine bg_min X mw236 mw237 mw3 mw238 hl.1 (Nat.le_of_ble_eq_true rfl) (Nat.le_of_ble_eq_true rfl) ⟨Nat.le_refl _, Nat.le_refl _⟩ dX0_keepFirst_7 ?_
  refine bg_max X mw25 mw26 mw3 mw27 hl.1 (Nat.le_of_ble_eq_true rfl) (Nat.le_of_ble_eq_true rfl) ⟨Nat.le_refl _, Nat.le_refl _⟩ dX0_keepFirst_10 ?_
  refine pf0_24 (cN := o) X hW ho dX0_keepFirst_13 (fun M1 eM1 H locs hW => ?_)
  have h := ob_lt eM1 h
  exact rt_v X hW h dX0_keepFirst_16
def rX0_checkOf_b9_s (o : Nat) (n1 : Nat) (n2 : Nat) (q9 : Int32 → Int32 → Int32 → Mm → Option (Int32 × Mm)) (x2 : Int32) (x3 : Int32) (x4 : Int32) (M : Mm) : Option (Int32 × Mm) :=
    (if x2 ≤ x4 then (some ((x3 &&& (255 : Int32)), M)) else (if (M.1 o 1) ≤ x4 then (some ((x3 &&& (255 : Int32)), M)) else (if x4 < 0 ∨ n1 ≤ (x4).toNatClampNeg then none else lt_ (x3 + (M.1 (o + 1) (x4).toNatClampNeg)) fun y5 => lt_ (x4 + 1) fun y6 => q9 x2 y5 y6 M)))
def rX0_checkOf_b9 (o : Nat) (n1 : Nat) (n2 : Nat) : Nat → Int32 → Int32 → Int32 → Mm → Option (Int32 × Mm)
  | 0 => fun _ _ _ _ => none
  | n + 1 => rX0_checkOf_b9_s o n1 n2 (rX0_checkOf_b9 o n1 n2 n)
set_option maxRecDepth 100000 in
set_option maxHeartbeats 4000000 in
theorem sX0_checkOf_b9 {p : Program} {l : Launch} {e : Env} {s : State} {m : MethodId} {args : Array Value} {below : List Frame} {meth : Method} {c : Code} {G : Gg} {r : Int32} {M' : Mm} {o : Nat} {n1 : Nat} {n2 : Nat} (ho : sh[o]? = some (skX0 o)) (ho1 : sh[o + 1]? = some (.inl n1)) (ho2 : sh[o + 2]? = some (.inl n2)) (X : Cx p m c meth cX0_checkOf 5 s args RX0 (some .int) G) : ∀ (n : Nat), ∀ (x2 : Int32) (x3 : Int32) (x4 : Int32) (M : Mm) (ls : Array Slot) (H : Heap) (locs : List Loc), lv_has ls 5 [(0, .ref (G.2.2.2 o)), (2, .int x2), (3, .int x3), (4, .int x4)] → Wo G s M H locs → rX0_checkOf_b9 o n1 n2 n x2 x3 x4 M = some (r, M') → W p l e (rm 1) s m args below meth c H locs 0 0 (Qi below args s G r M') (F0 m 9 ls []) := by
  intro n
  induction n with
  | zero =>
    intro x2 x3 x4 M ls H locs hl hW h
    cases (show (none : Option (Int32 × Mm)) = some (r, M') from h)
  | succ n hq90 =>
    have hq9 : ∀ (x2 : Int32) (x3 : Int32) (x4 : Int32) (M : Mm) (ls : Array Slot) (H : Heap) (locs : List Loc), lv_has ls 5 [(0, .ref (G.2.2.2 o)), (2, .int x2), (3, .int x3), (4, .int x4)] → Wo G s M H locs → (rX0_checkOf_b9 o n1 n2 n) x2 x3 x4 M = some (r, M') → W p l e (rm 1) s m args below meth c H locs 0 0 (Qi below args s G r M') (F0 m 9 ls []) := hq90
    intro x2 x3 x4 M ls H locs hl hW h
    have h : rX0_checkOf_b9_s o n1 n2 (rX0_checkOf_b9 o n1 n2 n) x2 x3 x4 M = some (r, M') := h
    unfold rX0_checkOf_b9_s at h
    have hx := X.1.1
    have hb := X.1.2.1
    refine lv_iload hx hb dX0_checkOf_9 (lv_at hl 3 rfl) ?_
    refine lv_iload_n hx hb dX0_checkOf_11 rfl (lv_at hl 1 rfl) ?_
    refine lv_icmp_ge (tgt := 40) hx hb dX0_checkOf_12 (by decide) (fun c2 => ?_) (fun c2 => ?_)
    · have h := ob_pos c2 h
      refine lv_iload_n hx hb dX0_checkOf_40 rfl (lv_at hl 2 rfl) ?_
      refine lv_sipush (v := 255) hx hb dX0_checkOf_41 (by decide) ?_
      refine lv_iand hx hb dX0_checkOf_44 ?_
      exact rt_i X hW h dX0_checkOf_45
    · have h := ob_neg c2 h
      refine lv_iload hx hb dX0_checkOf_15 (lv_at hl 3 rfl) ?_
      refine lv_aload_n hx hb dX0_checkOf_17 rfl (lv_at hl 0 rfl) ?_
      refine gf0_24 (cN := o) X hW ho dX0_checkOf_18 ?_
      refine lv_icmp_ge (tgt := 40) hx hb dX0_checkOf_21 (by decide) (fun c3 => ?_) (fun c3 => ?_)
      · have h := ob_pos c3 h
        refine lv_iload_n hx hb dX0_checkOf_40 rfl (lv_at hl 2 rfl) ?_
        refine lv_sipush (v := 255) hx hb dX0_checkOf_41 (by decide) ?_
        refine lv_iand hx hb dX0_checkOf_44 ?_
        exact rt_i X hW h dX0_checkOf_45
      · have h := ob_neg c3 h
        refine lv_iload_n hx hb dX0_checkOf_24 rfl (lv_at hl 2 rfl) ?_
        refine lv_aload_n hx hb dX0_checkOf_25 rfl (lv_at hl 0 rfl) ?_
        refine gf0_15 (cN := o) X hW ho dX0_checkOf_26 ?_
        refine lv_iload hx hb dX0_checkOf_29 (lv_at hl 3 rfl) ?_
        obtain ⟨g4, h⟩ := ob_gd h
        refine bg_ald (cN := (o + 1)) X hW (n := n1) ho1 g4 dX0_checkOf_31 ?_
        refine lv_iadd hx hb dX0_checkOf_32 ?_
        refine lv_topi (fun y5 ey5 => ?_)
        have h := ob_lt ey5 h
        refine lv_istore_n (lv' := [(3, .int y5), (0, .ref (G.2.2.2 o)), (2, .int x2), (4, .int x4)]) hx hb dX0_checkOf_33 rfl hl (by decide) rfl (fun ls hl => ?_)
        obtain ⟨y6, ey6⟩ : ∃ y : Int32, y = (x4 + 1) := ⟨_, rfl⟩
        have h := ob_lt ey6 h
        refine lv_iinc (v := y6) (lv' := [(4, .int y6), (3, .int y5), (0, .ref (G.2.2.2 o)), (2, .int x2)]) hx hb dX0_checkOf_34 hl (k := 3) rfl (by rw [ey6]; rfl) (by decide) rfl (fun ls hl => ?_)
        refine lv_goto (tgt := 9) hx hb dX0_checkOf_37 (by decide) ?_
        exact hq9 x2 y5 y6 M _ _ _ (lv_sub hl [2, 3, 1, 0] rfl) hW h
def rX0_checkOf (o : Nat) (n1 : Nat) (n2 : Nat) (a1 : Int32) (a2 : Int32) (M : Mm) : Option (Int32 × Mm) :=
    (lt_ (if (0 : Int32) < a1 then a1 else (0 : Int32)) fun y1 => rX0_checkOf_b9 o n1 n2 FU a2 (0 : Int32) y1 M)
set_option maxRecDepth 100000 in
set_option maxHeartbeats 4000000 in
theorem cX0_checkOf_k {l : Launch} {G : Gg} {o : Nat} {n1 : Nat} {n2 : Nat} (ho : sh[o]? = some (skX0 o)) (ho1 : sh[o + 1]? = some (.inl n1)) (ho2 : sh[o + 2]? = some (.inl n2)) {a1 : Int32} {a2 : Int32} {M M' : Mm} {r : Int32} (h : rX0_checkOf o n1 n2 a1 a2 M = some (r, M')) : CTi l yX0_checkOf cX0_checkOf 5 (some .int) 1 G [.ref (G.2.2.2 o), .int a1, .int a2] M r M' := by
  unfold rX0_checkOf at h
  refine ct_i (by decide) (Nat.le_of_ble_eq_true rfl) (fun p e s m below meth c ls X hl hW => ?_)
  have hx := X.1.1
  have hb := X.1.2.1
  refine lv_iconst (v := 0) hx hb dX0_checkOf_0 (by decide) ?_
  refine lv_istore_n (lv' := [(3, .int (0 : Int32)), (0, .ref (G.2.2.2 o)), (1, .int a1), (2, .int a2)]) hx hb dX0_checkOf_1 rfl hl (by decide) rfl (fun ls hl => ?_)
  refine lv_iconst (v := 0) hx hb dX0_checkOf_2 (by decide) ?_
  refine lv_iload_n hx hb dX0_checkOf_3 rfl (lv_at hl 2 rfl) ?_
  refine bg_max X mw25 mw26 mw3 mw27 hl.1 (Nat.le_of_ble_eq_true rfl) (Nat.le_of_ble_eq_true rfl) ⟨Nat.le_refl _, Nat.le_refl _⟩ dX0_checkOf_4 ?_
  refine lv_topi (fun y1 ey1 => ?_)
  have h := ob_lt ey1 h
  refine lv_istore (lv' := [(4, .int y1), (3, .int (0 : Int32)), (0, .ref (G.2.2.2 o)), (1, .int a1), (2, .int a2)]) hx hb dX0_checkOf_7 hl (by decide) rfl (fun ls hl => ?_)
  exact sX0_checkOf_b9 ho ho1 ho2 X FU a2 (0 : Int32) y1 M _ _ _ (lv_sub hl [2, 4, 1, 0] rfl) hW h
def rX0_takeOut (o : Nat) (n1 : Nat) (n2 : Nat) (a1 : Int32) (a2 : Int32) (M : Mm) : Option Mm :=
    (lt_ (st M o 3 (0 : Int32)) fun M1 => if a1 < 0 then (some M1) else (if a2 < 0 then (some M1) else (if (nI n2) < a2 then (some M1) else (if a2 ≤ ((M1.1 o 1) - a1) then (if a1 < 0 ∨ (0 : Int32) < 0 ∨ a2 < 0 ∨ n1 < (a1).toNatClampNeg + (a2).toNatClampNeg ∨ n2 < ((0 : Int32)).toNatClampNeg + (a2).toNatClampNeg then none else lt_ (sa M1 (o + 2) (va_cpy (M1.1 (o + 1)) (M1.1 (o + 2)) (a1).toNatClampNeg ((0 : Int32)).toNatClampNeg (a2).toNatClampNeg)) fun M7 => if (a1 + a2) < 0 ∨ a1 < 0 ∨ (((M7.1 o 1) - a1) - a2) < 0 ∨ n1 < ((a1 + a2)).toNatClampNeg + ((((M7.1 o 1) - a1) - a2)).toNatClampNeg ∨ n1 < (a1).toNatClampNeg + ((((M7.1 o 1) - a1) - a2)).toNatClampNeg then none else lt_ (sa M7 (o + 1) (va_cpy (M7.1 (o + 1)) (M7.1 (o + 1)) ((a1 + a2)).toNatClampNeg (a1).toNatClampNeg ((((M7.1 o 1) - a1) - a2)).toNatClampNeg)) fun M9 => lt_ (st M9 o 3 a2) fun M10 => lt_ (st M10 o 1 ((M10.1 o 1) - a2)) fun M11 => some M11) else (some M1)))))
set_option maxRecDepth 100000 in
set_option maxHeartbeats 4000000 in
theorem cX0_takeOut_k {l : Launch} {G : Gg} {o : Nat} {n1 : Nat} {n2 : Nat} (ho : sh[o]? = some (skX0 o)) (ho1 : sh[o + 1]? = some (.inl n1)) (ho2 : sh[o + 2]? = some (.inl n2)) {a1 : Int32} {a2 : Int32} {M M' : Mm} (h : rX0_takeOut o n1 n2 a1 a2 M = some M') : CTv l yX0_takeOut cX0_takeOut 3 3 G [.ref (G.2.2.2 o), .int a1, .int a2] M M' := by
  unfold rX0_takeOut at h
  refine ct_v (by decide) (Nat.le_of_ble_eq_true rfl) (fun p e s m below meth c ls X hl hW => ?_)
  have hx := X.1.1
  have hb := X.1.2.1
  refine lv_aload_n hx hb dX0_takeOut_0 rfl (lv_at hl 0 rfl) ?_
  refine lv_iconst (v := 0) hx hb dX0_takeOut_1 (by decide) ?_
  refine pf0_31 (cN := o) X hW ho dX0_takeOut_2 (fun M1 eM1 H locs hW => ?_)
  have h := ob_lt eM1 h
  refine lv_iload_n hx hb dX0_takeOut_5 rfl (lv_at hl 1 rfl) ?_
  refine lv_if_lt (tgt := 32) hx hb dX0_takeOut_6 (by decide) (fun c2 => ?_) (fun c2 => ?_)
  · have h := ob_pos c2 h
    exact rt_v X hW h dX0_takeOut_32
  · have h := ob_neg c2 h
    refine lv_iload_n hx hb dX0_takeOut_9 rfl (lv_at hl 2 rfl) ?_
    refine lv_if_lt (tgt := 32) hx hb dX0_takeOut_10 (by decide) (fun c3 => ?_) (fun c3 => ?_)
    · have h := ob_pos c3 h
      exact rt_v X hW h dX0_takeOut_32
    · have h := ob_neg c3 h
      refine lv_iload_n hx hb dX0_takeOut_13 rfl (lv_at hl 2 rfl) ?_
      refine lv_aload_n hx hb dX0_takeOut_14 rfl (lv_at hl 0 rfl) ?_
      refine gf0_21 (cN := o) X hW ho dX0_takeOut_15 ?_
      refine bg_len (cN := (o + 2)) X hW (n := n2) ho2 dX0_takeOut_18 ?_
      refine lv_icmp_gt (tgt := 32) hx hb dX0_takeOut_19 (by decide) (fun c4 => ?_) (fun c4 => ?_)
      · have h := ob_pos c4 h
        exact rt_v X hW h dX0_takeOut_32
      · have h := ob_neg c4 h
        refine lv_iload_n hx hb dX0_takeOut_22 rfl (lv_at hl 2 rfl) ?_
        refine lv_aload_n hx hb dX0_takeOut_23 rfl (lv_at hl 0 rfl) ?_
        refine gf0_24 (cN := o) X hW ho dX0_takeOut_24 ?_
        refine lv_iload_n hx hb dX0_takeOut_27 rfl (lv_at hl 1 rfl) ?_
        refine lv_isub hx hb dX0_takeOut_28 ?_
        refine lv_icmp_le (tgt := 33) hx hb dX0_takeOut_29 (by decide) (fun c5 => ?_) (fun c5 => ?_)
        · have h := ob_pos c5 h
          refine lv_aload_n hx hb dX0_takeOut_33 rfl (lv_at hl 0 rfl) ?_
          refine gf0_15 (cN := o) X hW ho dX0_takeOut_34 ?_
          refine lv_iload_n hx hb dX0_takeOut_37 rfl (lv_at hl 1 rfl) ?_
          refine lv_aload_n hx hb dX0_takeOut_38 rfl (lv_at hl 0 rfl) ?_
          refine gf0_21 (cN := o) X hW ho dX0_takeOut_39 ?_
          refine lv_iconst (v := 0) hx hb dX0_takeOut_42 (by decide) ?_
          refine lv_iload_n hx hb dX0_takeOut_43 rfl (lv_at hl 2 rfl) ?_
          obtain ⟨g6, h⟩ := ob_gd h
          refine bg_copy (c0 := (o + 1)) (c1 := (o + 2)) X hW (n0 := n1) (n1 := n2) mw512 mw507 mw506 mw10 ho1 ho2 g6 hl.1 (Nat.le_of_ble_eq_true rfl) (Nat.le_of_ble_eq_true rfl) dX0_takeOut_44 (fun M7 eM7 H locs hW => ?_)
          have h := ob_lt eM7 h
          refine lv_aload_n hx hb dX0_takeOut_47 rfl (lv_at hl 0 rfl) ?_
          refine gf0_15 (cN := o) X hW ho dX0_takeOut_48 ?_
          refine lv_iload_n hx hb dX0_takeOut_51 rfl (lv_at hl 1 rfl) ?_
          refine lv_iload_n hx hb dX0_takeOut_52 rfl (lv_at hl 2 rfl) ?_
          refine lv_iadd hx hb dX0_takeOut_53 ?_
          refine lv_aload_n hx hb dX0_takeOut_54 rfl (lv_at hl 0 rfl) ?_
          refine gf0_15 (cN := o) X hW ho dX0_takeOut_55 ?_
          refine lv_iload_n hx hb dX0_takeOut_58 rfl (lv_at hl 1 rfl) ?_
          refine lv_aload_n hx hb dX0_takeOut_59 rfl (lv_at hl 0 rfl) ?_
          refine gf0_24 (cN := o) X hW ho dX0_takeOut_60 ?_
          refine lv_iload_n hx hb dX0_takeOut_63 rfl (lv_at hl 1 rfl) ?_
          refine lv_isub hx hb dX0_takeOut_64 ?_
          refine lv_iload_n hx hb dX0_takeOut_65 rfl (lv_at hl 2 rfl) ?_
          refine lv_isub hx hb dX0_takeOut_66 ?_
          obtain ⟨g8, h⟩ := ob_gd h
          refine bg_copy (c0 := (o + 1)) (c1 := (o + 1)) X hW (n0 := n1) (n1 := n1) mw512 mw507 mw506 mw10 ho1 ho1 g8 hl.1 (Nat.le_of_ble_eq_true rfl) (Nat.le_of_ble_eq_true rfl) dX0_takeOut_67 (fun M9 eM9 H locs hW => ?_)
          have h := ob_lt eM9 h
          refine lv_aload_n hx hb dX0_takeOut_70 rfl (lv_at hl 0 rfl) ?_
          refine lv_iload_n hx hb dX0_takeOut_71 rfl (lv_at hl 2 rfl) ?_
          refine pf0_31 (cN := o) X hW ho dX0_takeOut_72 (fun M10 eM10 H locs hW => ?_)
          have h := ob_lt eM10 h
          refine lv_aload_n hx hb dX0_takeOut_75 rfl (lv_at hl 0 rfl) ?_
          refine lv_dup hx hb dX0_takeOut_76 rfl ?_
          refine gf0_24 (cN := o) X hW ho dX0_takeOut_77 ?_
          refine lv_iload_n hx hb dX0_takeOut_80 rfl (lv_at hl 2 rfl) ?_
          refine lv_isub hx hb dX0_takeOut_81 ?_
          refine pf0_24 (cN := o) X hW ho dX0_takeOut_82 (fun M11 eM11 H locs hW => ?_)
          have h := ob_lt eM11 h
          exact rt_v X hW h dX0_takeOut_85
        · have h := ob_neg c5 h
          exact rt_v X hW h dX0_takeOut_32
def rX0_putBack (o : Nat) (n1 : Nat) (n2 : Nat) (a1 : Int32) (M : Mm) : Option Mm :=
    (if a1 < 0 then (some M) else (if (M.1 o 1) < a1 then (some M) else (if (M.1 o 3) ≤ ((nI n1) - (M.1 o 1)) then (if a1 < 0 ∨ (a1 + (M.1 o 3)) < 0 ∨ ((M.1 o 1) - a1) < 0 ∨ n1 < (a1).toNatClampNeg + (((M.1 o 1) - a1)).toNatClampNeg ∨ n1 < ((a1 + (M.1 o 3))).toNatClampNeg + (((M.1 o 1) - a1)).toNatClampNeg then none else lt_ (sa M (o + 1) (va_cpy (M.1 (o + 1)) (M.1 (o + 1)) (a1).toNatClampNeg ((a1 + (M.1 o 3))).toNatClampNeg (((M.1 o 1) - a1)).toNatClampNeg)) fun M5 => if (0 : Int32) < 0 ∨ a1 < 0 ∨ (M5.1 o 3) < 0 ∨ n2 < ((0 : Int32)).toNatClampNeg + ((M5.1 o 3)).toNatClampNeg ∨ n1 < (a1).toNatClampNeg + ((M5.1 o 3)).toNatClampNeg then none else lt_ (sa M5 (o + 1) (va_cpy (M5.1 (o + 2)) (M5.1 (o + 1)) ((0 : Int32)).toNatClampNeg (a1).toNatClampNeg ((M5.1 o 3)).toNatClampNeg)) fun M7 => lt_ (st M7 o 1 ((M7.1 o 1) + (M7.1 o 3))) fun M8 => lt_ (st M8 o 3 (0 : Int32)) fun M9 => some M9) else (some M))))
set_option maxRecDepth 100000 in
set_option maxHeartbeats 4000000 in
theorem cX0_putBack_k {l : Launch} {G : Gg} {o : Nat} {n1 : Nat} {n2 : Nat} (ho : sh[o]? = some (skX0 o)) (ho1 : sh[o + 1]? = some (.inl n1)) (ho2 : sh[o + 2]? = some (.inl n2)) {a1 : Int32} {M M' : Mm} (h : rX0_putBack o n1 n2 a1 M = some M') : CTv l yX0_putBack cX0_putBack 2 3 G [.ref (G.2.2.2 o), .int a1] M M' := by
  unfold rX0_putBack at h
  refine ct_v (by decide) (Nat.le_of_ble_eq_true rfl) (fun p e s m below meth c ls X hl hW => ?_)
  have hx := X.1.1
  have hb := X.1.2.1
  refine lv_iload_n hx hb dX0_putBack_0 rfl (lv_at hl 1 rfl) ?_
  refine lv_if_lt (tgt := 29) hx hb dX0_putBack_1 (by decide) (fun c1 => ?_) (fun c1 => ?_)
  · have h := ob_pos c1 h
    exact rt_v X hW h dX0_putBack_29
  · have h := ob_neg c1 h
    refine lv_iload_n hx hb dX0_putBack_4 rfl (lv_at hl 1 rfl) ?_
    refine lv_aload_n hx hb dX0_putBack_5 rfl (lv_at hl 0 rfl) ?_
    refine gf0_24 (cN := o) X hW ho dX0_putBack_6 ?_
    refine lv_icmp_gt (tgt := 29) hx hb dX0_putBack_9 (by decide) (fun c2 => ?_) (fun c2 => ?_)
    · have h := ob_pos c2 h
      exact rt_v X hW h dX0_putBack_29
    · have h := ob_neg c2 h
      refine lv_aload_n hx hb dX0_putBack_12 rfl (lv_at hl 0 rfl) ?_
      refine gf0_31 (cN := o) X hW ho dX0_putBack_13 ?_
      refine lv_aload_n hx hb dX0_putBack_16 rfl (lv_at hl 0 rfl) ?_
      refine gf0_15 (cN := o) X hW ho dX0_putBack_17 ?_
      refine bg_len (cN := (o + 1)) X hW (n := n1) ho1 dX0_putBack_20 ?_
      refine lv_aload_n hx hb dX0_putBack_21 rfl (lv_at hl 0 rfl) ?_
      refine gf0_24 (cN := o) X hW ho dX0_putBack_22 ?_
      refine lv_isub hx hb dX0_putBack_25 ?_
      refine lv_icmp_le (tgt := 30) hx hb dX0_putBack_26 (by decide) (fun c3 => ?_) (fun c3 => ?_)
      · have h := ob_pos c3 h
        refine lv_aload_n hx hb dX0_putBack_30 rfl (lv_at hl 0 rfl) ?_
        refine gf0_15 (cN := o) X hW ho dX0_putBack_31 ?_
        refine lv_iload_n hx hb dX0_putBack_34 rfl (lv_at hl 1 rfl) ?_
        refine lv_aload_n hx hb dX0_putBack_35 rfl (lv_at hl 0 rfl) ?_
        refine gf0_15 (cN := o) X hW ho dX0_putBack_36 ?_
        refine lv_iload_n hx hb dX0_putBack_39 rfl (lv_at hl 1 rfl) ?_
        refine lv_aload_n hx hb dX0_putBack_40 rfl (lv_at hl 0 rfl) ?_
        refine gf0_31 (cN := o) X hW ho dX0_putBack_41 ?_
        refine lv_iadd hx hb dX0_putBack_44 ?_
        refine lv_aload_n hx hb dX0_putBack_45 rfl (lv_at hl 0 rfl) ?_
        refine gf0_24 (cN := o) X hW ho dX0_putBack_46 ?_
        refine lv_iload_n hx hb dX0_putBack_49 rfl (lv_at hl 1 rfl) ?_
        refine lv_isub hx hb dX0_putBack_50 ?_
        obtain ⟨g4, h⟩ := ob_gd h
        refine bg_copy (c0 := (o + 1)) (c1 := (o + 1)) X hW (n0 := n1) (n1 := n1) mw512 mw507 mw506 mw10 ho1 ho1 g4 hl.1 (Nat.le_of_ble_eq_true rfl) (Nat.le_of_ble_eq_true rfl) dX0_putBack_51 (fun M5 eM5 H locs hW => ?_)
        have h := ob_lt eM5 h
        refine lv_aload_n hx hb dX0_putBack_54 rfl (lv_at hl 0 rfl) ?_
        refine gf0_21 (cN := o) X hW ho dX0_putBack_55 ?_
        refine lv_iconst (v := 0) hx hb dX0_putBack_58 (by decide) ?_
        refine lv_aload_n hx hb dX0_putBack_59 rfl (lv_at hl 0 rfl) ?_
        refine gf0_15 (cN := o) X hW ho dX0_putBack_60 ?_
        refine lv_iload_n hx hb dX0_putBack_63 rfl (lv_at hl 1 rfl) ?_
        refine lv_aload_n hx hb dX0_putBack_64 rfl (lv_at hl 0 rfl) ?_
        refine gf0_31 (cN := o) X hW ho dX0_putBack_65 ?_
        obtain ⟨g6, h⟩ := ob_gd h
        refine bg_copy (c0 := (o + 2)) (c1 := (o + 1)) X hW (n0 := n2) (n1 := n1) mw512 mw507 mw506 mw10 ho2 ho1 g6 hl.1 (Nat.le_of_ble_eq_true rfl) (Nat.le_of_ble_eq_true rfl) dX0_putBack_68 (fun M7 eM7 H locs hW => ?_)
        have h := ob_lt eM7 h
        refine lv_aload_n hx hb dX0_putBack_71 rfl (lv_at hl 0 rfl) ?_
        refine lv_dup hx hb dX0_putBack_72 rfl ?_
        refine gf0_24 (cN := o) X hW ho dX0_putBack_73 ?_
        refine lv_aload_n hx hb dX0_putBack_76 rfl (lv_at hl 0 rfl) ?_
        refine gf0_31 (cN := o) X hW ho dX0_putBack_77 ?_
        refine lv_iadd hx hb dX0_putBack_80 ?_
        refine pf0_24 (cN := o) X hW ho dX0_putBack_81 (fun M8 eM8 H locs hW => ?_)
        have h := ob_lt eM8 h
        refine lv_aload_n hx hb dX0_putBack_84 rfl (lv_at hl 0 rfl) ?_
        refine lv_iconst (v := 0) hx hb dX0_putBack_85 (by decide) ?_
        refine pf0_31 (cN := o) X hW ho dX0_putBack_86 (fun M9 eM9 H locs hW => ?_)
        have h := ob_lt eM9 h
        exact rt_v X hW h dX0_putBack_89
      · have h := ob_neg c3 h
        exact rt_v X hW h dX0_putBack_29
